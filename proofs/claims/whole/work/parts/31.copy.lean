set_option maxHeartbeats 4000000 in
set_option maxRecDepth 100000 in
theorem c_pcopy1_15 {X : jX} {d n : Nat} {I : HI} {J : HJ} {i0 i1 : Option Nat} {Q : jPost}  (hQ : ∀ I', (∀ q, q < 104 → I' 11 q = I 25 q) → I' 10 1 = I 24 1 → I' 10 2 = I 24 2 → (∀ a, a ≠ 10 → a ≠ 11 → I' a = I a) → Q none n I' J (Pg i0 i1)) : Cj X (d + 1) 0 0 mX5_copy [.ref 10, .ref 24] n I J (Pg i0 i1) Q := by
  refine Cj.intro rfl (Nat.le_of_ble_eq_true rfl) (L := [.ref 10, .ref 24]) rfl ?_
  refine j_aload_n dX5_copy_0 rfl rfl rfl ?_
  refine j_getP (b := 25) dX5_copy_1 rfl fX5_11 rfl (by decide) rfl rfl ?_
  refine j_iconst (v := nI 0) dX5_copy_4 rfl rfl ?_
  refine j_aload_n dX5_copy_5 rfl rfl rfl ?_
  refine j_getP (b := 11) dX5_copy_6 rfl fX5_11 rfl (by decide) rfl rfl ?_
  refine j_iconst (v := nI 0) dX5_copy_9 rfl rfl ?_
  refine j_bipush (v := nI 104) dX5_copy_10 rfl rfl ?_
  refine j_copy (sp := 0) (dp := 0) (cn := 104) dX5_copy_12 rfl cX5_22 jvw_an jvw_as jvw_ai rfl rfl (by decide) (by decide) rfl rfl rfl (by decide) (by decide) (by decide) (by decide) (by decide) ?_
  refine j_aload_n dX5_copy_15 rfl rfl rfl ?_
  refine j_aload_n dX5_copy_16 rfl rfl rfl ?_
  refine j_getIv (v := I 24 1) dX5_copy_17 rfl fX5_15 rfl (by decide) rfl rfl ?_
  refine j_putI dX5_copy_20 rfl fX5_15 rfl (by decide) rfl rfl ?_
  refine j_aload_n dX5_copy_23 rfl rfl rfl ?_
  refine j_aload_n dX5_copy_24 rfl rfl rfl ?_
  refine j_getIv (v := I 24 2) dX5_copy_25 rfl fX5_19 rfl (by decide) rfl rfl ?_
  refine j_putI dX5_copy_28 rfl fX5_19 rfl (by decide) rfl rfl ?_
  refine j_vret dX5_copy_31 rfl ?_
  refine hQ _ (fun q hq => ?_) ?_ ?_ (fun a h1 h2 => ?_)
  · rw [u2_ne _ _ _ (by omega), u2_ne _ _ _ (by omega), ur_row, pk_cpy_in (by omega) (by omega)]
    congr 1; omega
  · rw [u2_ne2 _ _ _ (by omega), u2_self]
  · rw [u2_self]
  · rw [u2_ne _ _ _ h1, u2_ne _ _ _ h1, ur_ne _ _ h2]
set_option maxHeartbeats 4000000 in
set_option maxRecDepth 100000 in
theorem c_copy1_15 {X : jX} {d n : Nat} {I : HI} {J : HJ} {i0 i1 : Option Nat} {Q : jPost} {v : VT} (hV : VC 15 I v) (h6 : v 0 3 ≤ 6) (h4 : v 0 4 ≤ 8) (h5 : v 0 5 ≤ 8) (hQ : ∀ I', VC 1 I' v → Ot 1 I I' → Q none n I' J (Pg i0 i1)) : Cj X (d + 2) 0 0 mX8_copy [.ref 1, .ref 15] n I J (Pg i0 i1) Q := by
  refine Cj.intro rfl (Nat.le_of_ble_eq_true rfl) (L := [.ref 1, .ref 15]) rfl ?_
  refine j_aload_n dX8_copy_0 rfl rfl rfl ?_
  refine j_aload_n dX8_copy_1 rfl rfl rfl ?_
  refine j_getIv (v := I 15 0) dX8_copy_2 rfl fX8_9 rfl (by decide) rfl rfl ?_
  refine j_putI dX8_copy_5 rfl fX8_9 rfl (by decide) rfl rfl ?_
  refine j_aload_n dX8_copy_8 rfl rfl rfl ?_
  refine j_aload_n dX8_copy_9 rfl rfl rfl ?_
  refine j_getIv (v := I 15 1) dX8_copy_10 rfl fX8_15 rfl (by decide) rfl rfl ?_
  refine j_putI dX8_copy_13 rfl fX8_15 rfl (by decide) rfl rfl ?_
  refine j_aload_n dX8_copy_16 rfl rfl rfl ?_
  refine j_aload_n dX8_copy_17 rfl rfl rfl ?_
  refine j_getIv (v := I 15 2) dX8_copy_18 rfl fX8_18 rfl (by decide) rfl rfl ?_
  refine j_putI dX8_copy_21 rfl fX8_18 rfl (by decide) rfl rfl ?_
  refine j_aload_n dX8_copy_24 rfl rfl rfl ?_
  refine j_aload_n dX8_copy_25 rfl rfl rfl ?_
  refine j_getIv (v := I 15 3) dX8_copy_26 rfl fX8_21 rfl (by decide) rfl rfl ?_
  refine j_putI dX8_copy_29 rfl fX8_21 rfl (by decide) rfl rfl ?_
  refine j_aload_n dX8_copy_32 rfl rfl rfl ?_
  refine j_aload_n dX8_copy_33 rfl rfl rfl ?_
  refine j_getIv (v := I 15 4) dX8_copy_34 rfl fX8_24 rfl (by decide) rfl rfl ?_
  refine j_putI dX8_copy_37 rfl fX8_24 rfl (by decide) rfl rfl ?_
  refine j_aload_n dX8_copy_40 rfl rfl rfl ?_
  refine j_aload_n dX8_copy_41 rfl rfl rfl ?_
  refine j_getIv (v := I 15 5) dX8_copy_42 rfl fX8_27 rfl (by decide) rfl rfl ?_
  refine j_putI dX8_copy_45 rfl fX8_27 rfl (by decide) rfl rfl ?_
  obtain ⟨Ia, hIa⟩ : ∃ H, H = u2 (u2 (u2 (u2 (u2 (u2 I 1 0 (I 15 0)) 1 1 (I 15 1)) 1 2 (I 15 2)) 1 3 (I 15 3)) 1 4 (I 15 4)) 1 5 (I 15 5) := ⟨_, rfl⟩
  rw [← hIa]
  refine j_aload_n dX8_copy_48 rfl rfl rfl ?_
  refine j_getP (b := 16) dX8_copy_49 rfl fX8_30 rfl (by decide) rfl rfl ?_
  refine j_iconst (v := nI 0) dX8_copy_52 rfl rfl ?_
  refine j_aload_n dX8_copy_53 rfl rfl rfl ?_
  refine j_getP (b := 2) dX8_copy_54 rfl fX8_30 rfl (by decide) rfl rfl ?_
  refine j_iconst (v := nI 0) dX8_copy_57 rfl rfl ?_
  refine j_bipush (v := nI 6) dX8_copy_58 rfl rfl ?_
  refine j_copy (sp := 0) (dp := 0) (cn := 6) dX8_copy_60 rfl cX8_65 jvw_an jvw_as jvw_ai rfl rfl (by decide) (by decide) rfl rfl rfl (by decide) (by decide) (by decide) (by decide) (by decide) ?_
  obtain ⟨I1, hI1⟩ : ∃ H, H = ur Ia 2 (va_cpy (Ia 16) (Ia 2) 0 0 6) := ⟨_, rfl⟩
  rw [← hI1]
  refine j_aload_n dX8_copy_63 rfl rfl rfl ?_
  refine j_getP (b := 17) dX8_copy_64 rfl fX8_34 rfl (by decide) rfl rfl ?_
  refine j_iconst (v := nI 0) dX8_copy_67 rfl rfl ?_
  refine j_aload_n dX8_copy_68 rfl rfl rfl ?_
  refine j_getP (b := 3) dX8_copy_69 rfl fX8_34 rfl (by decide) rfl rfl ?_
  refine j_iconst (v := nI 0) dX8_copy_72 rfl rfl ?_
  refine j_bipush (v := nI 6) dX8_copy_73 rfl rfl ?_
  refine j_copy (sp := 0) (dp := 0) (cn := 6) dX8_copy_75 rfl cX8_65 jvw_an jvw_as jvw_ai rfl rfl (by decide) (by decide) rfl rfl rfl (by decide) (by decide) (by decide) (by decide) (by decide) ?_
  obtain ⟨I2, hI2⟩ : ∃ H, H = ur I1 3 (va_cpy (I1 17) (I1 3) 0 0 6) := ⟨_, rfl⟩
  rw [← hI2]
  refine j_aload_n dX8_copy_78 rfl rfl rfl ?_
  refine j_getP (b := 18) dX8_copy_79 rfl fX8_37 rfl (by decide) rfl rfl ?_
  refine j_iconst (v := nI 0) dX8_copy_82 rfl rfl ?_
  refine j_aload_n dX8_copy_83 rfl rfl rfl ?_
  refine j_getP (b := 4) dX8_copy_84 rfl fX8_37 rfl (by decide) rfl rfl ?_
  refine j_iconst (v := nI 0) dX8_copy_87 rfl rfl ?_
  refine j_bipush (v := nI 6) dX8_copy_88 rfl rfl ?_
  refine j_copy (sp := 0) (dp := 0) (cn := 6) dX8_copy_90 rfl cX8_65 jvw_an jvw_as jvw_ai rfl rfl (by decide) (by decide) rfl rfl rfl (by decide) (by decide) (by decide) (by decide) (by decide) ?_
  obtain ⟨I3, hI3⟩ : ∃ H, H = ur I2 4 (va_cpy (I2 18) (I2 4) 0 0 6) := ⟨_, rfl⟩
  rw [← hI3]
  refine j_aload_n dX8_copy_93 rfl rfl rfl ?_
  refine j_getP (b := 19) dX8_copy_94 rfl fX8_40 rfl (by decide) rfl rfl ?_
  refine j_iconst (v := nI 0) dX8_copy_97 rfl rfl ?_
  refine j_aload_n dX8_copy_98 rfl rfl rfl ?_
  refine j_getP (b := 5) dX8_copy_99 rfl fX8_40 rfl (by decide) rfl rfl ?_
  refine j_iconst (v := nI 0) dX8_copy_102 rfl rfl ?_
  refine j_bipush (v := nI 6) dX8_copy_103 rfl rfl ?_
  refine j_copy (sp := 0) (dp := 0) (cn := 6) dX8_copy_105 rfl cX8_65 jvw_an jvw_as jvw_ai rfl rfl (by decide) (by decide) rfl rfl rfl (by decide) (by decide) (by decide) (by decide) (by decide) ?_
  obtain ⟨I4, hI4⟩ : ∃ H, H = ur I3 5 (va_cpy (I3 19) (I3 5) 0 0 6) := ⟨_, rfl⟩
  rw [← hI4]
  refine j_aload_n dX8_copy_108 rfl rfl rfl ?_
  refine j_getP (b := 20) dX8_copy_109 rfl fX8_43 rfl (by decide) rfl rfl ?_
  refine j_iconst (v := nI 0) dX8_copy_112 rfl rfl ?_
  refine j_aload_n dX8_copy_113 rfl rfl rfl ?_
  refine j_getP (b := 6) dX8_copy_114 rfl fX8_43 rfl (by decide) rfl rfl ?_
  refine j_iconst (v := nI 0) dX8_copy_117 rfl rfl ?_
  refine j_bipush (v := nI 8) dX8_copy_118 rfl rfl ?_
  refine j_copy (sp := 0) (dp := 0) (cn := 8) dX8_copy_120 rfl cX8_65 jvw_an jvw_as jvw_ai rfl rfl (by decide) (by decide) rfl rfl rfl (by decide) (by decide) (by decide) (by decide) (by decide) ?_
  obtain ⟨I5, hI5⟩ : ∃ H, H = ur I4 6 (va_cpy (I4 20) (I4 6) 0 0 8) := ⟨_, rfl⟩
  rw [← hI5]
  refine j_aload_n dX8_copy_123 rfl rfl rfl ?_
  refine j_getP (b := 21) dX8_copy_124 rfl fX8_46 rfl (by decide) rfl rfl ?_
  refine j_iconst (v := nI 0) dX8_copy_127 rfl rfl ?_
  refine j_aload_n dX8_copy_128 rfl rfl rfl ?_
  refine j_getP (b := 7) dX8_copy_129 rfl fX8_46 rfl (by decide) rfl rfl ?_
  refine j_iconst (v := nI 0) dX8_copy_132 rfl rfl ?_
  refine j_bipush (v := nI 8) dX8_copy_133 rfl rfl ?_
  refine j_copy (sp := 0) (dp := 0) (cn := 8) dX8_copy_135 rfl cX8_65 jvw_an jvw_as jvw_ai rfl rfl (by decide) (by decide) rfl rfl rfl (by decide) (by decide) (by decide) (by decide) (by decide) ?_
  obtain ⟨I6, hI6⟩ : ∃ H, H = ur I5 7 (va_cpy (I5 21) (I5 7) 0 0 8) := ⟨_, rfl⟩
  rw [← hI6]
  refine j_aload_n dX8_copy_138 rfl rfl rfl ?_
  refine j_getP (b := 22) dX8_copy_139 rfl fX8_49 rfl (by decide) rfl rfl ?_
  refine j_iconst (v := nI 0) dX8_copy_142 rfl rfl ?_
  refine j_aload_n dX8_copy_143 rfl rfl rfl ?_
  refine j_getP (b := 8) dX8_copy_144 rfl fX8_49 rfl (by decide) rfl rfl ?_
  refine j_iconst (v := nI 0) dX8_copy_147 rfl rfl ?_
  refine j_bipush (v := nI 8) dX8_copy_148 rfl rfl ?_
  refine j_copy (sp := 0) (dp := 0) (cn := 8) dX8_copy_150 rfl cX8_65 jvw_an jvw_as jvw_ai rfl rfl (by decide) (by decide) rfl rfl rfl (by decide) (by decide) (by decide) (by decide) (by decide) ?_
  obtain ⟨I7, hI7⟩ : ∃ H, H = ur I6 8 (va_cpy (I6 22) (I6 8) 0 0 8) := ⟨_, rfl⟩
  rw [← hI7]
  refine j_aload_n dX8_copy_153 rfl rfl rfl ?_
  refine j_getP (b := 23) dX8_copy_154 rfl fX8_52 rfl (by decide) rfl rfl ?_
  refine j_iconst (v := nI 0) dX8_copy_157 rfl rfl ?_
  refine j_aload_n dX8_copy_158 rfl rfl rfl ?_
  refine j_getP (b := 9) dX8_copy_159 rfl fX8_52 rfl (by decide) rfl rfl ?_
  refine j_iconst (v := nI 0) dX8_copy_162 rfl rfl ?_
  refine j_bipush (v := nI 8) dX8_copy_163 rfl rfl ?_
  refine j_copy (sp := 0) (dp := 0) (cn := 8) dX8_copy_165 rfl cX8_65 jvw_an jvw_as jvw_ai rfl rfl (by decide) (by decide) rfl rfl rfl (by decide) (by decide) (by decide) (by decide) (by decide) ?_
  obtain ⟨I8, hI8⟩ : ∃ H, H = ur I7 9 (va_cpy (I7 23) (I7 9) 0 0 8) := ⟨_, rfl⟩
  rw [← hI8]
  refine j_aload_n dX8_copy_168 rfl rfl rfl ?_
  refine j_getP (b := 10) dX8_copy_169 rfl fX8_58 rfl (by decide) rfl rfl ?_
  refine j_aload_n dX8_copy_172 rfl rfl rfl ?_
  refine j_getP (b := 24) dX8_copy_173 rfl fX8_58 rfl (by decide) rfl rfl ?_
  refine j_callVw (As := [.ref 24]) dX8_copy_176 rfl cX8_71 (by decide) rfl rfl (by decide) rfl (by decide) rfl rfl (c_pcopy1_15 (fun I9 e1 e2 e3 e4 => ?_))
  show Rj _ _ _ _ _ _ 179 [.ref 1, .ref 15] [] n I9 J (Pg i0 i1)
  refine j_vret dX8_copy_179 rfl ?_
  have r0 : ∀ q, q < 6 → I9 2 q = I 16 q := fun q hq => by
    rw [e4 2 (by omega) (by omega), hI8, ur_ne _ _ (by omega), hI7, ur_ne _ _ (by omega), hI6, ur_ne _ _ (by omega), hI5, ur_ne _ _ (by omega), hI4, ur_ne _ _ (by omega), hI3, ur_ne _ _ (by omega), hI2, ur_ne _ _ (by omega), hI1, ur_row, pk_cpy_in (Nat.zero_le _) (by omega), hIa, u2_ne _ _ _ (by omega), u2_ne _ _ _ (by omega), u2_ne _ _ _ (by omega), u2_ne _ _ _ (by omega), u2_ne _ _ _ (by omega), u2_ne _ _ _ (by omega)]
    congr 1; omega
  have r1 : ∀ q, q < 6 → I9 3 q = I 17 q := fun q hq => by
    rw [e4 3 (by omega) (by omega), hI8, ur_ne _ _ (by omega), hI7, ur_ne _ _ (by omega), hI6, ur_ne _ _ (by omega), hI5, ur_ne _ _ (by omega), hI4, ur_ne _ _ (by omega), hI3, ur_ne _ _ (by omega), hI2, ur_row, pk_cpy_in (Nat.zero_le _) (by omega), hI1, ur_ne _ _ (by omega), hIa, u2_ne _ _ _ (by omega), u2_ne _ _ _ (by omega), u2_ne _ _ _ (by omega), u2_ne _ _ _ (by omega), u2_ne _ _ _ (by omega), u2_ne _ _ _ (by omega)]
    congr 1; omega
  have r2 : ∀ q, q < 6 → I9 4 q = I 18 q := fun q hq => by
    rw [e4 4 (by omega) (by omega), hI8, ur_ne _ _ (by omega), hI7, ur_ne _ _ (by omega), hI6, ur_ne _ _ (by omega), hI5, ur_ne _ _ (by omega), hI4, ur_ne _ _ (by omega), hI3, ur_row, pk_cpy_in (Nat.zero_le _) (by omega), hI2, ur_ne _ _ (by omega), hI1, ur_ne _ _ (by omega), hIa, u2_ne _ _ _ (by omega), u2_ne _ _ _ (by omega), u2_ne _ _ _ (by omega), u2_ne _ _ _ (by omega), u2_ne _ _ _ (by omega), u2_ne _ _ _ (by omega)]
    congr 1; omega
  have r3 : ∀ q, q < 6 → I9 5 q = I 19 q := fun q hq => by
    rw [e4 5 (by omega) (by omega), hI8, ur_ne _ _ (by omega), hI7, ur_ne _ _ (by omega), hI6, ur_ne _ _ (by omega), hI5, ur_ne _ _ (by omega), hI4, ur_row, pk_cpy_in (Nat.zero_le _) (by omega), hI3, ur_ne _ _ (by omega), hI2, ur_ne _ _ (by omega), hI1, ur_ne _ _ (by omega), hIa, u2_ne _ _ _ (by omega), u2_ne _ _ _ (by omega), u2_ne _ _ _ (by omega), u2_ne _ _ _ (by omega), u2_ne _ _ _ (by omega), u2_ne _ _ _ (by omega)]
    congr 1; omega
  have r4 : ∀ q, q < 8 → I9 6 q = I 20 q := fun q hq => by
    rw [e4 6 (by omega) (by omega), hI8, ur_ne _ _ (by omega), hI7, ur_ne _ _ (by omega), hI6, ur_ne _ _ (by omega), hI5, ur_row, pk_cpy_in (Nat.zero_le _) (by omega), hI4, ur_ne _ _ (by omega), hI3, ur_ne _ _ (by omega), hI2, ur_ne _ _ (by omega), hI1, ur_ne _ _ (by omega), hIa, u2_ne _ _ _ (by omega), u2_ne _ _ _ (by omega), u2_ne _ _ _ (by omega), u2_ne _ _ _ (by omega), u2_ne _ _ _ (by omega), u2_ne _ _ _ (by omega)]
    congr 1; omega
  have r5 : ∀ q, q < 8 → I9 7 q = I 21 q := fun q hq => by
    rw [e4 7 (by omega) (by omega), hI8, ur_ne _ _ (by omega), hI7, ur_ne _ _ (by omega), hI6, ur_row, pk_cpy_in (Nat.zero_le _) (by omega), hI5, ur_ne _ _ (by omega), hI4, ur_ne _ _ (by omega), hI3, ur_ne _ _ (by omega), hI2, ur_ne _ _ (by omega), hI1, ur_ne _ _ (by omega), hIa, u2_ne _ _ _ (by omega), u2_ne _ _ _ (by omega), u2_ne _ _ _ (by omega), u2_ne _ _ _ (by omega), u2_ne _ _ _ (by omega), u2_ne _ _ _ (by omega)]
    congr 1; omega
  have r6 : ∀ q, q < 8 → I9 8 q = I 22 q := fun q hq => by
    rw [e4 8 (by omega) (by omega), hI8, ur_ne _ _ (by omega), hI7, ur_row, pk_cpy_in (Nat.zero_le _) (by omega), hI6, ur_ne _ _ (by omega), hI5, ur_ne _ _ (by omega), hI4, ur_ne _ _ (by omega), hI3, ur_ne _ _ (by omega), hI2, ur_ne _ _ (by omega), hI1, ur_ne _ _ (by omega), hIa, u2_ne _ _ _ (by omega), u2_ne _ _ _ (by omega), u2_ne _ _ _ (by omega), u2_ne _ _ _ (by omega), u2_ne _ _ _ (by omega), u2_ne _ _ _ (by omega)]
    congr 1; omega
  have r7 : ∀ q, q < 8 → I9 9 q = I 23 q := fun q hq => by
    rw [e4 9 (by omega) (by omega), hI8, ur_row, pk_cpy_in (Nat.zero_le _) (by omega), hI7, ur_ne _ _ (by omega), hI6, ur_ne _ _ (by omega), hI5, ur_ne _ _ (by omega), hI4, ur_ne _ _ (by omega), hI3, ur_ne _ _ (by omega), hI2, ur_ne _ _ (by omega), hI1, ur_ne _ _ (by omega), hIa, u2_ne _ _ _ (by omega), u2_ne _ _ _ (by omega), u2_ne _ _ _ (by omega), u2_ne _ _ _ (by omega), u2_ne _ _ _ (by omega), u2_ne _ _ _ (by omega)]
    congr 1; omega
  have rs : I9 1 = Ia 1 := by rw [e4 1 (by omega) (by omega), hI8, ur_ne _ _ (by omega), hI7, ur_ne _ _ (by omega), hI6, ur_ne _ _ (by omega), hI5, ur_ne _ _ (by omega), hI4, ur_ne _ _ (by omega), hI3, ur_ne _ _ (by omega), hI2, ur_ne _ _ (by omega), hI1, ur_ne _ _ (by omega)]
  have ro : ∀ a, (a < 1 ∨ 11 < a) → I9 a = I a := fun a ha => by rw [e4 a (by omega) (by omega), hI8, ur_ne _ _ (by omega), hI7, ur_ne _ _ (by omega), hI6, ur_ne _ _ (by omega), hI5, ur_ne _ _ (by omega), hI4, ur_ne _ _ (by omega), hI3, ur_ne _ _ (by omega), hI2, ur_ne _ _ (by omega), hI1, ur_ne _ _ (by omega), hIa, u2_ne _ _ _ (by omega), u2_ne _ _ _ (by omega), u2_ne _ _ _ (by omega), u2_ne _ _ _ (by omega), u2_ne _ _ _ (by omega), u2_ne _ _ _ (by omega)]
  have p10 : I8 25 = I 25 := by rw [hI8, ur_ne _ _ (by omega), hI7, ur_ne _ _ (by omega), hI6, ur_ne _ _ (by omega), hI5, ur_ne _ _ (by omega), hI4, ur_ne _ _ (by omega), hI3, ur_ne _ _ (by omega), hI2, ur_ne _ _ (by omega), hI1, ur_ne _ _ (by omega), hIa, u2_ne _ _ _ (by omega), u2_ne _ _ _ (by omega), u2_ne _ _ _ (by omega), u2_ne _ _ _ (by omega), u2_ne _ _ _ (by omega), u2_ne _ _ _ (by omega)]
  have p9 : I8 24 = I 24 := by rw [hI8, ur_ne _ _ (by omega), hI7, ur_ne _ _ (by omega), hI6, ur_ne _ _ (by omega), hI5, ur_ne _ _ (by omega), hI4, ur_ne _ _ (by omega), hI3, ur_ne _ _ (by omega), hI2, ur_ne _ _ (by omega), hI1, ur_ne _ _ (by omega), hIa, u2_ne _ _ _ (by omega), u2_ne _ _ _ (by omega), u2_ne _ _ _ (by omega), u2_ne _ _ _ (by omega), u2_ne _ _ _ (by omega), u2_ne _ _ _ (by omega)]
  obtain ⟨⟨s0, s1, s2, s3, s4, s5⟩, hp1, hk1, hc1, fr, hfr, hf1, hf2, hj⟩ := id hV
  refine hQ _ ⟨⟨?_, ?_, ?_, ?_, ?_, ?_⟩, fun p hp => ?_, fun k hk => ?_, fun c hc => ?_, fr, hfr, ?_, ?_, fun j hjj => ?_⟩ ro
  · rw [rs, hIa]; exact s0
  · rw [rs, hIa]; exact s1
  · rw [rs, hIa]; exact s2
  · rw [rs, hIa]; exact s3
  · rw [rs, hIa]; exact s4
  · rw [rs, hIa]; exact s5
  · obtain ⟨g1, g2, g3, g4⟩ := hp1 p hp
    exact ⟨(r0 p (by omega)).trans g1, (r1 p (by omega)).trans g2, (r2 p (by omega)).trans g3, (r3 p (by omega)).trans g4⟩
  · exact (r4 k (by omega)).trans (hk1 k hk)
  · obtain ⟨g1, g2, g3⟩ := hc1 c hc
    exact ⟨(r5 c (by omega)).trans g1, (r6 c (by omega)).trans g2, (r7 c (by omega)).trans g3⟩
  · exact e2.trans (by rw [p9]; exact hf1)
  · exact e3.trans (by rw [p9]; exact hf2)
  · have hm : (fr + 7 - j) % 8 < 8 := Nat.mod_lt _ (by omega)
    obtain ⟨g0, g⟩ := hj j hjj
    generalize (fr + 7 - j) % 8 = r at hm g0 g ⊢
    refine ⟨(e1 _ (by omega)).trans (by rw [p10]; exact g0), fun p hp => ?_⟩
    obtain ⟨g1, g2⟩ := g p hp
    exact ⟨(e1 _ (by omega)).trans (by rw [p10]; exact g1), (e1 _ (by omega)).trans (by rw [p10]; exact g2)⟩
set_option maxHeartbeats 4000000 in
set_option maxRecDepth 100000 in
theorem c_pcopy1_44 {X : jX} {d n : Nat} {I : HI} {J : HJ} {i0 i1 : Option Nat} {Q : jPost}  (hQ : ∀ I', (∀ q, q < 104 → I' 11 q = I 54 q) → I' 10 1 = I 53 1 → I' 10 2 = I 53 2 → (∀ a, a ≠ 10 → a ≠ 11 → I' a = I a) → Q none n I' J (Pg i0 i1)) : Cj X (d + 1) 0 0 mX5_copy [.ref 10, .ref 53] n I J (Pg i0 i1) Q := by
  refine Cj.intro rfl (Nat.le_of_ble_eq_true rfl) (L := [.ref 10, .ref 53]) rfl ?_
  refine j_aload_n dX5_copy_0 rfl rfl rfl ?_
  refine j_getP (b := 54) dX5_copy_1 rfl fX5_11 rfl (by decide) rfl rfl ?_
  refine j_iconst (v := nI 0) dX5_copy_4 rfl rfl ?_
  refine j_aload_n dX5_copy_5 rfl rfl rfl ?_
  refine j_getP (b := 11) dX5_copy_6 rfl fX5_11 rfl (by decide) rfl rfl ?_
  refine j_iconst (v := nI 0) dX5_copy_9 rfl rfl ?_
  refine j_bipush (v := nI 104) dX5_copy_10 rfl rfl ?_
  refine j_copy (sp := 0) (dp := 0) (cn := 104) dX5_copy_12 rfl cX5_22 jvw_an jvw_as jvw_ai rfl rfl (by decide) (by decide) rfl rfl rfl (by decide) (by decide) (by decide) (by decide) (by decide) ?_
  refine j_aload_n dX5_copy_15 rfl rfl rfl ?_
  refine j_aload_n dX5_copy_16 rfl rfl rfl ?_
  refine j_getIv (v := I 53 1) dX5_copy_17 rfl fX5_15 rfl (by decide) rfl rfl ?_
  refine j_putI dX5_copy_20 rfl fX5_15 rfl (by decide) rfl rfl ?_
  refine j_aload_n dX5_copy_23 rfl rfl rfl ?_
  refine j_aload_n dX5_copy_24 rfl rfl rfl ?_
  refine j_getIv (v := I 53 2) dX5_copy_25 rfl fX5_19 rfl (by decide) rfl rfl ?_
  refine j_putI dX5_copy_28 rfl fX5_19 rfl (by decide) rfl rfl ?_
  refine j_vret dX5_copy_31 rfl ?_
  refine hQ _ (fun q hq => ?_) ?_ ?_ (fun a h1 h2 => ?_)
  · rw [u2_ne _ _ _ (by omega), u2_ne _ _ _ (by omega), ur_row, pk_cpy_in (by omega) (by omega)]
    congr 1; omega
  · rw [u2_ne2 _ _ _ (by omega), u2_self]
  · rw [u2_self]
  · rw [u2_ne _ _ _ h1, u2_ne _ _ _ h1, ur_ne _ _ h2]
set_option maxHeartbeats 4000000 in
set_option maxRecDepth 100000 in
theorem c_copy1_44 {X : jX} {d n : Nat} {I : HI} {J : HJ} {i0 i1 : Option Nat} {Q : jPost} {v : VT} (hV : VC 44 I v) (h6 : v 0 3 ≤ 6) (h4 : v 0 4 ≤ 8) (h5 : v 0 5 ≤ 8) (hQ : ∀ I', VC 1 I' v → Ot 1 I I' → Q none n I' J (Pg i0 i1)) : Cj X (d + 2) 0 0 mX8_copy [.ref 1, .ref 44] n I J (Pg i0 i1) Q := by
  refine Cj.intro rfl (Nat.le_of_ble_eq_true rfl) (L := [.ref 1, .ref 44]) rfl ?_
  refine j_aload_n dX8_copy_0 rfl rfl rfl ?_
  refine j_aload_n dX8_copy_1 rfl rfl rfl ?_
  refine j_getIv (v := I 44 0) dX8_copy_2 rfl fX8_9 rfl (by decide) rfl rfl ?_
  refine j_putI dX8_copy_5 rfl fX8_9 rfl (by decide) rfl rfl ?_
  refine j_aload_n dX8_copy_8 rfl rfl rfl ?_
  refine j_aload_n dX8_copy_9 rfl rfl rfl ?_
  refine j_getIv (v := I 44 1) dX8_copy_10 rfl fX8_15 rfl (by decide) rfl rfl ?_
  refine j_putI dX8_copy_13 rfl fX8_15 rfl (by decide) rfl rfl ?_
  refine j_aload_n dX8_copy_16 rfl rfl rfl ?_
  refine j_aload_n dX8_copy_17 rfl rfl rfl ?_
  refine j_getIv (v := I 44 2) dX8_copy_18 rfl fX8_18 rfl (by decide) rfl rfl ?_
  refine j_putI dX8_copy_21 rfl fX8_18 rfl (by decide) rfl rfl ?_
  refine j_aload_n dX8_copy_24 rfl rfl rfl ?_
  refine j_aload_n dX8_copy_25 rfl rfl rfl ?_
  refine j_getIv (v := I 44 3) dX8_copy_26 rfl fX8_21 rfl (by decide) rfl rfl ?_
  refine j_putI dX8_copy_29 rfl fX8_21 rfl (by decide) rfl rfl ?_
  refine j_aload_n dX8_copy_32 rfl rfl rfl ?_
  refine j_aload_n dX8_copy_33 rfl rfl rfl ?_
  refine j_getIv (v := I 44 4) dX8_copy_34 rfl fX8_24 rfl (by decide) rfl rfl ?_
  refine j_putI dX8_copy_37 rfl fX8_24 rfl (by decide) rfl rfl ?_
  refine j_aload_n dX8_copy_40 rfl rfl rfl ?_
  refine j_aload_n dX8_copy_41 rfl rfl rfl ?_
  refine j_getIv (v := I 44 5) dX8_copy_42 rfl fX8_27 rfl (by decide) rfl rfl ?_
  refine j_putI dX8_copy_45 rfl fX8_27 rfl (by decide) rfl rfl ?_
  obtain ⟨Ia, hIa⟩ : ∃ H, H = u2 (u2 (u2 (u2 (u2 (u2 I 1 0 (I 44 0)) 1 1 (I 44 1)) 1 2 (I 44 2)) 1 3 (I 44 3)) 1 4 (I 44 4)) 1 5 (I 44 5) := ⟨_, rfl⟩
  rw [← hIa]
  refine j_aload_n dX8_copy_48 rfl rfl rfl ?_
  refine j_getP (b := 45) dX8_copy_49 rfl fX8_30 rfl (by decide) rfl rfl ?_
  refine j_iconst (v := nI 0) dX8_copy_52 rfl rfl ?_
  refine j_aload_n dX8_copy_53 rfl rfl rfl ?_
  refine j_getP (b := 2) dX8_copy_54 rfl fX8_30 rfl (by decide) rfl rfl ?_
  refine j_iconst (v := nI 0) dX8_copy_57 rfl rfl ?_
  refine j_bipush (v := nI 6) dX8_copy_58 rfl rfl ?_
  refine j_copy (sp := 0) (dp := 0) (cn := 6) dX8_copy_60 rfl cX8_65 jvw_an jvw_as jvw_ai rfl rfl (by decide) (by decide) rfl rfl rfl (by decide) (by decide) (by decide) (by decide) (by decide) ?_
  obtain ⟨I1, hI1⟩ : ∃ H, H = ur Ia 2 (va_cpy (Ia 45) (Ia 2) 0 0 6) := ⟨_, rfl⟩
  rw [← hI1]
  refine j_aload_n dX8_copy_63 rfl rfl rfl ?_
  refine j_getP (b := 46) dX8_copy_64 rfl fX8_34 rfl (by decide) rfl rfl ?_
  refine j_iconst (v := nI 0) dX8_copy_67 rfl rfl ?_
  refine j_aload_n dX8_copy_68 rfl rfl rfl ?_
  refine j_getP (b := 3) dX8_copy_69 rfl fX8_34 rfl (by decide) rfl rfl ?_
  refine j_iconst (v := nI 0) dX8_copy_72 rfl rfl ?_
  refine j_bipush (v := nI 6) dX8_copy_73 rfl rfl ?_
  refine j_copy (sp := 0) (dp := 0) (cn := 6) dX8_copy_75 rfl cX8_65 jvw_an jvw_as jvw_ai rfl rfl (by decide) (by decide) rfl rfl rfl (by decide) (by decide) (by decide) (by decide) (by decide) ?_
  obtain ⟨I2, hI2⟩ : ∃ H, H = ur I1 3 (va_cpy (I1 46) (I1 3) 0 0 6) := ⟨_, rfl⟩
  rw [← hI2]
  refine j_aload_n dX8_copy_78 rfl rfl rfl ?_
  refine j_getP (b := 47) dX8_copy_79 rfl fX8_37 rfl (by decide) rfl rfl ?_
  refine j_iconst (v := nI 0) dX8_copy_82 rfl rfl ?_
  refine j_aload_n dX8_copy_83 rfl rfl rfl ?_
  refine j_getP (b := 4) dX8_copy_84 rfl fX8_37 rfl (by decide) rfl rfl ?_
  refine j_iconst (v := nI 0) dX8_copy_87 rfl rfl ?_
  refine j_bipush (v := nI 6) dX8_copy_88 rfl rfl ?_
  refine j_copy (sp := 0) (dp := 0) (cn := 6) dX8_copy_90 rfl cX8_65 jvw_an jvw_as jvw_ai rfl rfl (by decide) (by decide) rfl rfl rfl (by decide) (by decide) (by decide) (by decide) (by decide) ?_
  obtain ⟨I3, hI3⟩ : ∃ H, H = ur I2 4 (va_cpy (I2 47) (I2 4) 0 0 6) := ⟨_, rfl⟩
  rw [← hI3]
  refine j_aload_n dX8_copy_93 rfl rfl rfl ?_
  refine j_getP (b := 48) dX8_copy_94 rfl fX8_40 rfl (by decide) rfl rfl ?_
  refine j_iconst (v := nI 0) dX8_copy_97 rfl rfl ?_
  refine j_aload_n dX8_copy_98 rfl rfl rfl ?_
  refine j_getP (b := 5) dX8_copy_99 rfl fX8_40 rfl (by decide) rfl rfl ?_
  refine j_iconst (v := nI 0) dX8_copy_102 rfl rfl ?_
  refine j_bipush (v := nI 6) dX8_copy_103 rfl rfl ?_
  refine j_copy (sp := 0) (dp := 0) (cn := 6) dX8_copy_105 rfl cX8_65 jvw_an jvw_as jvw_ai rfl rfl (by decide) (by decide) rfl rfl rfl (by decide) (by decide) (by decide) (by decide) (by decide) ?_
  obtain ⟨I4, hI4⟩ : ∃ H, H = ur I3 5 (va_cpy (I3 48) (I3 5) 0 0 6) := ⟨_, rfl⟩
  rw [← hI4]
  refine j_aload_n dX8_copy_108 rfl rfl rfl ?_
  refine j_getP (b := 49) dX8_copy_109 rfl fX8_43 rfl (by decide) rfl rfl ?_
  refine j_iconst (v := nI 0) dX8_copy_112 rfl rfl ?_
  refine j_aload_n dX8_copy_113 rfl rfl rfl ?_
  refine j_getP (b := 6) dX8_copy_114 rfl fX8_43 rfl (by decide) rfl rfl ?_
  refine j_iconst (v := nI 0) dX8_copy_117 rfl rfl ?_
  refine j_bipush (v := nI 8) dX8_copy_118 rfl rfl ?_
  refine j_copy (sp := 0) (dp := 0) (cn := 8) dX8_copy_120 rfl cX8_65 jvw_an jvw_as jvw_ai rfl rfl (by decide) (by decide) rfl rfl rfl (by decide) (by decide) (by decide) (by decide) (by decide) ?_
  obtain ⟨I5, hI5⟩ : ∃ H, H = ur I4 6 (va_cpy (I4 49) (I4 6) 0 0 8) := ⟨_, rfl⟩
  rw [← hI5]
  refine j_aload_n dX8_copy_123 rfl rfl rfl ?_
  refine j_getP (b := 50) dX8_copy_124 rfl fX8_46 rfl (by decide) rfl rfl ?_
  refine j_iconst (v := nI 0) dX8_copy_127 rfl rfl ?_
  refine j_aload_n dX8_copy_128 rfl rfl rfl ?_
  refine j_getP (b := 7) dX8_copy_129 rfl fX8_46 rfl (by decide) rfl rfl ?_
  refine j_iconst (v := nI 0) dX8_copy_132 rfl rfl ?_
  refine j_bipush (v := nI 8) dX8_copy_133 rfl rfl ?_
  refine j_copy (sp := 0) (dp := 0) (cn := 8) dX8_copy_135 rfl cX8_65 jvw_an jvw_as jvw_ai rfl rfl (by decide) (by decide) rfl rfl rfl (by decide) (by decide) (by decide) (by decide) (by decide) ?_
  obtain ⟨I6, hI6⟩ : ∃ H, H = ur I5 7 (va_cpy (I5 50) (I5 7) 0 0 8) := ⟨_, rfl⟩
  rw [← hI6]
  refine j_aload_n dX8_copy_138 rfl rfl rfl ?_
  refine j_getP (b := 51) dX8_copy_139 rfl fX8_49 rfl (by decide) rfl rfl ?_
  refine j_iconst (v := nI 0) dX8_copy_142 rfl rfl ?_
  refine j_aload_n dX8_copy_143 rfl rfl rfl ?_
  refine j_getP (b := 8) dX8_copy_144 rfl fX8_49 rfl (by decide) rfl rfl ?_
  refine j_iconst (v := nI 0) dX8_copy_147 rfl rfl ?_
  refine j_bipush (v := nI 8) dX8_copy_148 rfl rfl ?_
  refine j_copy (sp := 0) (dp := 0) (cn := 8) dX8_copy_150 rfl cX8_65 jvw_an jvw_as jvw_ai rfl rfl (by decide) (by decide) rfl rfl rfl (by decide) (by decide) (by decide) (by decide) (by decide) ?_
  obtain ⟨I7, hI7⟩ : ∃ H, H = ur I6 8 (va_cpy (I6 51) (I6 8) 0 0 8) := ⟨_, rfl⟩
  rw [← hI7]
  refine j_aload_n dX8_copy_153 rfl rfl rfl ?_
  refine j_getP (b := 52) dX8_copy_154 rfl fX8_52 rfl (by decide) rfl rfl ?_
  refine j_iconst (v := nI 0) dX8_copy_157 rfl rfl ?_
  refine j_aload_n dX8_copy_158 rfl rfl rfl ?_
  refine j_getP (b := 9) dX8_copy_159 rfl fX8_52 rfl (by decide) rfl rfl ?_
  refine j_iconst (v := nI 0) dX8_copy_162 rfl rfl ?_
  refine j_bipush (v := nI 8) dX8_copy_163 rfl rfl ?_
  refine j_copy (sp := 0) (dp := 0) (cn := 8) dX8_copy_165 rfl cX8_65 jvw_an jvw_as jvw_ai rfl rfl (by decide) (by decide) rfl rfl rfl (by decide) (by decide) (by decide) (by decide) (by decide) ?_
  obtain ⟨I8, hI8⟩ : ∃ H, H = ur I7 9 (va_cpy (I7 52) (I7 9) 0 0 8) := ⟨_, rfl⟩
  rw [← hI8]
  refine j_aload_n dX8_copy_168 rfl rfl rfl ?_
  refine j_getP (b := 10) dX8_copy_169 rfl fX8_58 rfl (by decide) rfl rfl ?_
  refine j_aload_n dX8_copy_172 rfl rfl rfl ?_
  refine j_getP (b := 53) dX8_copy_173 rfl fX8_58 rfl (by decide) rfl rfl ?_
  refine j_callVw (As := [.ref 53]) dX8_copy_176 rfl cX8_71 (by decide) rfl rfl (by decide) rfl (by decide) rfl rfl (c_pcopy1_44 (fun I9 e1 e2 e3 e4 => ?_))
  show Rj _ _ _ _ _ _ 179 [.ref 1, .ref 44] [] n I9 J (Pg i0 i1)
  refine j_vret dX8_copy_179 rfl ?_
  have r0 : ∀ q, q < 6 → I9 2 q = I 45 q := fun q hq => by
    rw [e4 2 (by omega) (by omega), hI8, ur_ne _ _ (by omega), hI7, ur_ne _ _ (by omega), hI6, ur_ne _ _ (by omega), hI5, ur_ne _ _ (by omega), hI4, ur_ne _ _ (by omega), hI3, ur_ne _ _ (by omega), hI2, ur_ne _ _ (by omega), hI1, ur_row, pk_cpy_in (Nat.zero_le _) (by omega), hIa, u2_ne _ _ _ (by omega), u2_ne _ _ _ (by omega), u2_ne _ _ _ (by omega), u2_ne _ _ _ (by omega), u2_ne _ _ _ (by omega), u2_ne _ _ _ (by omega)]
    congr 1; omega
  have r1 : ∀ q, q < 6 → I9 3 q = I 46 q := fun q hq => by
    rw [e4 3 (by omega) (by omega), hI8, ur_ne _ _ (by omega), hI7, ur_ne _ _ (by omega), hI6, ur_ne _ _ (by omega), hI5, ur_ne _ _ (by omega), hI4, ur_ne _ _ (by omega), hI3, ur_ne _ _ (by omega), hI2, ur_row, pk_cpy_in (Nat.zero_le _) (by omega), hI1, ur_ne _ _ (by omega), hIa, u2_ne _ _ _ (by omega), u2_ne _ _ _ (by omega), u2_ne _ _ _ (by omega), u2_ne _ _ _ (by omega), u2_ne _ _ _ (by omega), u2_ne _ _ _ (by omega)]
    congr 1; omega
  have r2 : ∀ q, q < 6 → I9 4 q = I 47 q := fun q hq => by
    rw [e4 4 (by omega) (by omega), hI8, ur_ne _ _ (by omega), hI7, ur_ne _ _ (by omega), hI6, ur_ne _ _ (by omega), hI5, ur_ne _ _ (by omega), hI4, ur_ne _ _ (by omega), hI3, ur_row, pk_cpy_in (Nat.zero_le _) (by omega), hI2, ur_ne _ _ (by omega), hI1, ur_ne _ _ (by omega), hIa, u2_ne _ _ _ (by omega), u2_ne _ _ _ (by omega), u2_ne _ _ _ (by omega), u2_ne _ _ _ (by omega), u2_ne _ _ _ (by omega), u2_ne _ _ _ (by omega)]
    congr 1; omega
  have r3 : ∀ q, q < 6 → I9 5 q = I 48 q := fun q hq => by
    rw [e4 5 (by omega) (by omega), hI8, ur_ne _ _ (by omega), hI7, ur_ne _ _ (by omega), hI6, ur_ne _ _ (by omega), hI5, ur_ne _ _ (by omega), hI4, ur_row, pk_cpy_in (Nat.zero_le _) (by omega), hI3, ur_ne _ _ (by omega), hI2, ur_ne _ _ (by omega), hI1, ur_ne _ _ (by omega), hIa, u2_ne _ _ _ (by omega), u2_ne _ _ _ (by omega), u2_ne _ _ _ (by omega), u2_ne _ _ _ (by omega), u2_ne _ _ _ (by omega), u2_ne _ _ _ (by omega)]
    congr 1; omega
  have r4 : ∀ q, q < 8 → I9 6 q = I 49 q := fun q hq => by
    rw [e4 6 (by omega) (by omega), hI8, ur_ne _ _ (by omega), hI7, ur_ne _ _ (by omega), hI6, ur_ne _ _ (by omega), hI5, ur_row, pk_cpy_in (Nat.zero_le _) (by omega), hI4, ur_ne _ _ (by omega), hI3, ur_ne _ _ (by omega), hI2, ur_ne _ _ (by omega), hI1, ur_ne _ _ (by omega), hIa, u2_ne _ _ _ (by omega), u2_ne _ _ _ (by omega), u2_ne _ _ _ (by omega), u2_ne _ _ _ (by omega), u2_ne _ _ _ (by omega), u2_ne _ _ _ (by omega)]
    congr 1; omega
  have r5 : ∀ q, q < 8 → I9 7 q = I 50 q := fun q hq => by
    rw [e4 7 (by omega) (by omega), hI8, ur_ne _ _ (by omega), hI7, ur_ne _ _ (by omega), hI6, ur_row, pk_cpy_in (Nat.zero_le _) (by omega), hI5, ur_ne _ _ (by omega), hI4, ur_ne _ _ (by omega), hI3, ur_ne _ _ (by omega), hI2, ur_ne _ _ (by omega), hI1, ur_ne _ _ (by omega), hIa, u2_ne _ _ _ (by omega), u2_ne _ _ _ (by omega), u2_ne _ _ _ (by omega), u2_ne _ _ _ (by omega), u2_ne _ _ _ (by omega), u2_ne _ _ _ (by omega)]
    congr 1; omega
  have r6 : ∀ q, q < 8 → I9 8 q = I 51 q := fun q hq => by
    rw [e4 8 (by omega) (by omega), hI8, ur_ne _ _ (by omega), hI7, ur_row, pk_cpy_in (Nat.zero_le _) (by omega), hI6, ur_ne _ _ (by omega), hI5, ur_ne _ _ (by omega), hI4, ur_ne _ _ (by omega), hI3, ur_ne _ _ (by omega), hI2, ur_ne _ _ (by omega), hI1, ur_ne _ _ (by omega), hIa, u2_ne _ _ _ (by omega), u2_ne _ _ _ (by omega), u2_ne _ _ _ (by omega), u2_ne _ _ _ (by omega), u2_ne _ _ _ (by omega), u2_ne _ _ _ (by omega)]
    congr 1; omega
  have r7 : ∀ q, q < 8 → I9 9 q = I 52 q := fun q hq => by
    rw [e4 9 (by omega) (by omega), hI8, ur_row, pk_cpy_in (Nat.zero_le _) (by omega), hI7, ur_ne _ _ (by omega), hI6, ur_ne _ _ (by omega), hI5, ur_ne _ _ (by omega), hI4, ur_ne _ _ (by omega), hI3, ur_ne _ _ (by omega), hI2, ur_ne _ _ (by omega), hI1, ur_ne _ _ (by omega), hIa, u2_ne _ _ _ (by omega), u2_ne _ _ _ (by omega), u2_ne _ _ _ (by omega), u2_ne _ _ _ (by omega), u2_ne _ _ _ (by omega), u2_ne _ _ _ (by omega)]
    congr 1; omega
  have rs : I9 1 = Ia 1 := by rw [e4 1 (by omega) (by omega), hI8, ur_ne _ _ (by omega), hI7, ur_ne _ _ (by omega), hI6, ur_ne _ _ (by omega), hI5, ur_ne _ _ (by omega), hI4, ur_ne _ _ (by omega), hI3, ur_ne _ _ (by omega), hI2, ur_ne _ _ (by omega), hI1, ur_ne _ _ (by omega)]
  have ro : ∀ a, (a < 1 ∨ 11 < a) → I9 a = I a := fun a ha => by rw [e4 a (by omega) (by omega), hI8, ur_ne _ _ (by omega), hI7, ur_ne _ _ (by omega), hI6, ur_ne _ _ (by omega), hI5, ur_ne _ _ (by omega), hI4, ur_ne _ _ (by omega), hI3, ur_ne _ _ (by omega), hI2, ur_ne _ _ (by omega), hI1, ur_ne _ _ (by omega), hIa, u2_ne _ _ _ (by omega), u2_ne _ _ _ (by omega), u2_ne _ _ _ (by omega), u2_ne _ _ _ (by omega), u2_ne _ _ _ (by omega), u2_ne _ _ _ (by omega)]
  have p10 : I8 54 = I 54 := by rw [hI8, ur_ne _ _ (by omega), hI7, ur_ne _ _ (by omega), hI6, ur_ne _ _ (by omega), hI5, ur_ne _ _ (by omega), hI4, ur_ne _ _ (by omega), hI3, ur_ne _ _ (by omega), hI2, ur_ne _ _ (by omega), hI1, ur_ne _ _ (by omega), hIa, u2_ne _ _ _ (by omega), u2_ne _ _ _ (by omega), u2_ne _ _ _ (by omega), u2_ne _ _ _ (by omega), u2_ne _ _ _ (by omega), u2_ne _ _ _ (by omega)]
  have p9 : I8 53 = I 53 := by rw [hI8, ur_ne _ _ (by omega), hI7, ur_ne _ _ (by omega), hI6, ur_ne _ _ (by omega), hI5, ur_ne _ _ (by omega), hI4, ur_ne _ _ (by omega), hI3, ur_ne _ _ (by omega), hI2, ur_ne _ _ (by omega), hI1, ur_ne _ _ (by omega), hIa, u2_ne _ _ _ (by omega), u2_ne _ _ _ (by omega), u2_ne _ _ _ (by omega), u2_ne _ _ _ (by omega), u2_ne _ _ _ (by omega), u2_ne _ _ _ (by omega)]
  obtain ⟨⟨s0, s1, s2, s3, s4, s5⟩, hp1, hk1, hc1, fr, hfr, hf1, hf2, hj⟩ := id hV
  refine hQ _ ⟨⟨?_, ?_, ?_, ?_, ?_, ?_⟩, fun p hp => ?_, fun k hk => ?_, fun c hc => ?_, fr, hfr, ?_, ?_, fun j hjj => ?_⟩ ro
  · rw [rs, hIa]; exact s0
  · rw [rs, hIa]; exact s1
  · rw [rs, hIa]; exact s2
  · rw [rs, hIa]; exact s3
  · rw [rs, hIa]; exact s4
  · rw [rs, hIa]; exact s5
  · obtain ⟨g1, g2, g3, g4⟩ := hp1 p hp
    exact ⟨(r0 p (by omega)).trans g1, (r1 p (by omega)).trans g2, (r2 p (by omega)).trans g3, (r3 p (by omega)).trans g4⟩
  · exact (r4 k (by omega)).trans (hk1 k hk)
  · obtain ⟨g1, g2, g3⟩ := hc1 c hc
    exact ⟨(r5 c (by omega)).trans g1, (r6 c (by omega)).trans g2, (r7 c (by omega)).trans g3⟩
  · exact e2.trans (by rw [p9]; exact hf1)
  · exact e3.trans (by rw [p9]; exact hf2)
  · have hm : (fr + 7 - j) % 8 < 8 := Nat.mod_lt _ (by omega)
    obtain ⟨g0, g⟩ := hj j hjj
    generalize (fr + 7 - j) % 8 = r at hm g0 g ⊢
    refine ⟨(e1 _ (by omega)).trans (by rw [p10]; exact g0), fun p hp => ?_⟩
    obtain ⟨g1, g2⟩ := g p hp
    exact ⟨(e1 _ (by omega)).trans (by rw [p10]; exact g1), (e1 _ (by omega)).trans (by rw [p10]; exact g2)⟩
set_option maxHeartbeats 4000000 in
set_option maxRecDepth 100000 in
theorem c_pcopy1_55 {X : jX} {d n : Nat} {I : HI} {J : HJ} {i0 i1 : Option Nat} {Q : jPost}  (hQ : ∀ I', (∀ q, q < 104 → I' 11 q = I 65 q) → I' 10 1 = I 64 1 → I' 10 2 = I 64 2 → (∀ a, a ≠ 10 → a ≠ 11 → I' a = I a) → Q none n I' J (Pg i0 i1)) : Cj X (d + 1) 0 0 mX5_copy [.ref 10, .ref 64] n I J (Pg i0 i1) Q := by
  refine Cj.intro rfl (Nat.le_of_ble_eq_true rfl) (L := [.ref 10, .ref 64]) rfl ?_
  refine j_aload_n dX5_copy_0 rfl rfl rfl ?_
  refine j_getP (b := 65) dX5_copy_1 rfl fX5_11 rfl (by decide) rfl rfl ?_
  refine j_iconst (v := nI 0) dX5_copy_4 rfl rfl ?_
  refine j_aload_n dX5_copy_5 rfl rfl rfl ?_
  refine j_getP (b := 11) dX5_copy_6 rfl fX5_11 rfl (by decide) rfl rfl ?_
  refine j_iconst (v := nI 0) dX5_copy_9 rfl rfl ?_
  refine j_bipush (v := nI 104) dX5_copy_10 rfl rfl ?_
  refine j_copy (sp := 0) (dp := 0) (cn := 104) dX5_copy_12 rfl cX5_22 jvw_an jvw_as jvw_ai rfl rfl (by decide) (by decide) rfl rfl rfl (by decide) (by decide) (by decide) (by decide) (by decide) ?_
  refine j_aload_n dX5_copy_15 rfl rfl rfl ?_
  refine j_aload_n dX5_copy_16 rfl rfl rfl ?_
  refine j_getIv (v := I 64 1) dX5_copy_17 rfl fX5_15 rfl (by decide) rfl rfl ?_
  refine j_putI dX5_copy_20 rfl fX5_15 rfl (by decide) rfl rfl ?_
  refine j_aload_n dX5_copy_23 rfl rfl rfl ?_
  refine j_aload_n dX5_copy_24 rfl rfl rfl ?_
  refine j_getIv (v := I 64 2) dX5_copy_25 rfl fX5_19 rfl (by decide) rfl rfl ?_
  refine j_putI dX5_copy_28 rfl fX5_19 rfl (by decide) rfl rfl ?_
  refine j_vret dX5_copy_31 rfl ?_
  refine hQ _ (fun q hq => ?_) ?_ ?_ (fun a h1 h2 => ?_)
  · rw [u2_ne _ _ _ (by omega), u2_ne _ _ _ (by omega), ur_row, pk_cpy_in (by omega) (by omega)]
    congr 1; omega
  · rw [u2_ne2 _ _ _ (by omega), u2_self]
  · rw [u2_self]
  · rw [u2_ne _ _ _ h1, u2_ne _ _ _ h1, ur_ne _ _ h2]
set_option maxHeartbeats 4000000 in
set_option maxRecDepth 100000 in
theorem c_copy1_55 {X : jX} {d n : Nat} {I : HI} {J : HJ} {i0 i1 : Option Nat} {Q : jPost} {v : VT} (hV : VC 55 I v) (h6 : v 0 3 ≤ 6) (h4 : v 0 4 ≤ 8) (h5 : v 0 5 ≤ 8) (hQ : ∀ I', VC 1 I' v → Ot 1 I I' → Q none n I' J (Pg i0 i1)) : Cj X (d + 2) 0 0 mX8_copy [.ref 1, .ref 55] n I J (Pg i0 i1) Q := by
  refine Cj.intro rfl (Nat.le_of_ble_eq_true rfl) (L := [.ref 1, .ref 55]) rfl ?_
  refine j_aload_n dX8_copy_0 rfl rfl rfl ?_
  refine j_aload_n dX8_copy_1 rfl rfl rfl ?_
  refine j_getIv (v := I 55 0) dX8_copy_2 rfl fX8_9 rfl (by decide) rfl rfl ?_
  refine j_putI dX8_copy_5 rfl fX8_9 rfl (by decide) rfl rfl ?_
  refine j_aload_n dX8_copy_8 rfl rfl rfl ?_
  refine j_aload_n dX8_copy_9 rfl rfl rfl ?_
  refine j_getIv (v := I 55 1) dX8_copy_10 rfl fX8_15 rfl (by decide) rfl rfl ?_
  refine j_putI dX8_copy_13 rfl fX8_15 rfl (by decide) rfl rfl ?_
  refine j_aload_n dX8_copy_16 rfl rfl rfl ?_
  refine j_aload_n dX8_copy_17 rfl rfl rfl ?_
  refine j_getIv (v := I 55 2) dX8_copy_18 rfl fX8_18 rfl (by decide) rfl rfl ?_
  refine j_putI dX8_copy_21 rfl fX8_18 rfl (by decide) rfl rfl ?_
  refine j_aload_n dX8_copy_24 rfl rfl rfl ?_
  refine j_aload_n dX8_copy_25 rfl rfl rfl ?_
  refine j_getIv (v := I 55 3) dX8_copy_26 rfl fX8_21 rfl (by decide) rfl rfl ?_
  refine j_putI dX8_copy_29 rfl fX8_21 rfl (by decide) rfl rfl ?_
  refine j_aload_n dX8_copy_32 rfl rfl rfl ?_
  refine j_aload_n dX8_copy_33 rfl rfl rfl ?_
  refine j_getIv (v := I 55 4) dX8_copy_34 rfl fX8_24 rfl (by decide) rfl rfl ?_
  refine j_putI dX8_copy_37 rfl fX8_24 rfl (by decide) rfl rfl ?_
  refine j_aload_n dX8_copy_40 rfl rfl rfl ?_
  refine j_aload_n dX8_copy_41 rfl rfl rfl ?_
  refine j_getIv (v := I 55 5) dX8_copy_42 rfl fX8_27 rfl (by decide) rfl rfl ?_
  refine j_putI dX8_copy_45 rfl fX8_27 rfl (by decide) rfl rfl ?_
  obtain ⟨Ia, hIa⟩ : ∃ H, H = u2 (u2 (u2 (u2 (u2 (u2 I 1 0 (I 55 0)) 1 1 (I 55 1)) 1 2 (I 55 2)) 1 3 (I 55 3)) 1 4 (I 55 4)) 1 5 (I 55 5) := ⟨_, rfl⟩
  rw [← hIa]
  refine j_aload_n dX8_copy_48 rfl rfl rfl ?_
  refine j_getP (b := 56) dX8_copy_49 rfl fX8_30 rfl (by decide) rfl rfl ?_
  refine j_iconst (v := nI 0) dX8_copy_52 rfl rfl ?_
  refine j_aload_n dX8_copy_53 rfl rfl rfl ?_
  refine j_getP (b := 2) dX8_copy_54 rfl fX8_30 rfl (by decide) rfl rfl ?_
  refine j_iconst (v := nI 0) dX8_copy_57 rfl rfl ?_
  refine j_bipush (v := nI 6) dX8_copy_58 rfl rfl ?_
  refine j_copy (sp := 0) (dp := 0) (cn := 6) dX8_copy_60 rfl cX8_65 jvw_an jvw_as jvw_ai rfl rfl (by decide) (by decide) rfl rfl rfl (by decide) (by decide) (by decide) (by decide) (by decide) ?_
  obtain ⟨I1, hI1⟩ : ∃ H, H = ur Ia 2 (va_cpy (Ia 56) (Ia 2) 0 0 6) := ⟨_, rfl⟩
  rw [← hI1]
  refine j_aload_n dX8_copy_63 rfl rfl rfl ?_
  refine j_getP (b := 57) dX8_copy_64 rfl fX8_34 rfl (by decide) rfl rfl ?_
  refine j_iconst (v := nI 0) dX8_copy_67 rfl rfl ?_
  refine j_aload_n dX8_copy_68 rfl rfl rfl ?_
  refine j_getP (b := 3) dX8_copy_69 rfl fX8_34 rfl (by decide) rfl rfl ?_
  refine j_iconst (v := nI 0) dX8_copy_72 rfl rfl ?_
  refine j_bipush (v := nI 6) dX8_copy_73 rfl rfl ?_
  refine j_copy (sp := 0) (dp := 0) (cn := 6) dX8_copy_75 rfl cX8_65 jvw_an jvw_as jvw_ai rfl rfl (by decide) (by decide) rfl rfl rfl (by decide) (by decide) (by decide) (by decide) (by decide) ?_
  obtain ⟨I2, hI2⟩ : ∃ H, H = ur I1 3 (va_cpy (I1 57) (I1 3) 0 0 6) := ⟨_, rfl⟩
  rw [← hI2]
  refine j_aload_n dX8_copy_78 rfl rfl rfl ?_
  refine j_getP (b := 58) dX8_copy_79 rfl fX8_37 rfl (by decide) rfl rfl ?_
  refine j_iconst (v := nI 0) dX8_copy_82 rfl rfl ?_
  refine j_aload_n dX8_copy_83 rfl rfl rfl ?_
  refine j_getP (b := 4) dX8_copy_84 rfl fX8_37 rfl (by decide) rfl rfl ?_
  refine j_iconst (v := nI 0) dX8_copy_87 rfl rfl ?_
  refine j_bipush (v := nI 6) dX8_copy_88 rfl rfl ?_
  refine j_copy (sp := 0) (dp := 0) (cn := 6) dX8_copy_90 rfl cX8_65 jvw_an jvw_as jvw_ai rfl rfl (by decide) (by decide) rfl rfl rfl (by decide) (by decide) (by decide) (by decide) (by decide) ?_
  obtain ⟨I3, hI3⟩ : ∃ H, H = ur I2 4 (va_cpy (I2 58) (I2 4) 0 0 6) := ⟨_, rfl⟩
  rw [← hI3]
  refine j_aload_n dX8_copy_93 rfl rfl rfl ?_
  refine j_getP (b := 59) dX8_copy_94 rfl fX8_40 rfl (by decide) rfl rfl ?_
  refine j_iconst (v := nI 0) dX8_copy_97 rfl rfl ?_
  refine j_aload_n dX8_copy_98 rfl rfl rfl ?_
  refine j_getP (b := 5) dX8_copy_99 rfl fX8_40 rfl (by decide) rfl rfl ?_
  refine j_iconst (v := nI 0) dX8_copy_102 rfl rfl ?_
  refine j_bipush (v := nI 6) dX8_copy_103 rfl rfl ?_
  refine j_copy (sp := 0) (dp := 0) (cn := 6) dX8_copy_105 rfl cX8_65 jvw_an jvw_as jvw_ai rfl rfl (by decide) (by decide) rfl rfl rfl (by decide) (by decide) (by decide) (by decide) (by decide) ?_
  obtain ⟨I4, hI4⟩ : ∃ H, H = ur I3 5 (va_cpy (I3 59) (I3 5) 0 0 6) := ⟨_, rfl⟩
  rw [← hI4]
  refine j_aload_n dX8_copy_108 rfl rfl rfl ?_
  refine j_getP (b := 60) dX8_copy_109 rfl fX8_43 rfl (by decide) rfl rfl ?_
  refine j_iconst (v := nI 0) dX8_copy_112 rfl rfl ?_
  refine j_aload_n dX8_copy_113 rfl rfl rfl ?_
  refine j_getP (b := 6) dX8_copy_114 rfl fX8_43 rfl (by decide) rfl rfl ?_
  refine j_iconst (v := nI 0) dX8_copy_117 rfl rfl ?_
  refine j_bipush (v := nI 8) dX8_copy_118 rfl rfl ?_
  refine j_copy (sp := 0) (dp := 0) (cn := 8) dX8_copy_120 rfl cX8_65 jvw_an jvw_as jvw_ai rfl rfl (by decide) (by decide) rfl rfl rfl (by decide) (by decide) (by decide) (by decide) (by decide) ?_
  obtain ⟨I5, hI5⟩ : ∃ H, H = ur I4 6 (va_cpy (I4 60) (I4 6) 0 0 8) := ⟨_, rfl⟩
  rw [← hI5]
  refine j_aload_n dX8_copy_123 rfl rfl rfl ?_
  refine j_getP (b := 61) dX8_copy_124 rfl fX8_46 rfl (by decide) rfl rfl ?_
  refine j_iconst (v := nI 0) dX8_copy_127 rfl rfl ?_
  refine j_aload_n dX8_copy_128 rfl rfl rfl ?_
  refine j_getP (b := 7) dX8_copy_129 rfl fX8_46 rfl (by decide) rfl rfl ?_
  refine j_iconst (v := nI 0) dX8_copy_132 rfl rfl ?_
  refine j_bipush (v := nI 8) dX8_copy_133 rfl rfl ?_
  refine j_copy (sp := 0) (dp := 0) (cn := 8) dX8_copy_135 rfl cX8_65 jvw_an jvw_as jvw_ai rfl rfl (by decide) (by decide) rfl rfl rfl (by decide) (by decide) (by decide) (by decide) (by decide) ?_
  obtain ⟨I6, hI6⟩ : ∃ H, H = ur I5 7 (va_cpy (I5 61) (I5 7) 0 0 8) := ⟨_, rfl⟩
  rw [← hI6]
  refine j_aload_n dX8_copy_138 rfl rfl rfl ?_
  refine j_getP (b := 62) dX8_copy_139 rfl fX8_49 rfl (by decide) rfl rfl ?_
  refine j_iconst (v := nI 0) dX8_copy_142 rfl rfl ?_
  refine j_aload_n dX8_copy_143 rfl rfl rfl ?_
  refine j_getP (b := 8) dX8_copy_144 rfl fX8_49 rfl (by decide) rfl rfl ?_
  refine j_iconst (v := nI 0) dX8_copy_147 rfl rfl ?_
  refine j_bipush (v := nI 8) dX8_copy_148 rfl rfl ?_
  refine j_copy (sp := 0) (dp := 0) (cn := 8) dX8_copy_150 rfl cX8_65 jvw_an jvw_as jvw_ai rfl rfl (by decide) (by decide) rfl rfl rfl (by decide) (by decide) (by decide) (by decide) (by decide) ?_
  obtain ⟨I7, hI7⟩ : ∃ H, H = ur I6 8 (va_cpy (I6 62) (I6 8) 0 0 8) := ⟨_, rfl⟩
  rw [← hI7]
  refine j_aload_n dX8_copy_153 rfl rfl rfl ?_
  refine j_getP (b := 63) dX8_copy_154 rfl fX8_52 rfl (by decide) rfl rfl ?_
  refine j_iconst (v := nI 0) dX8_copy_157 rfl rfl ?_
  refine j_aload_n dX8_copy_158 rfl rfl rfl ?_
  refine j_getP (b := 9) dX8_copy_159 rfl fX8_52 rfl (by decide) rfl rfl ?_
  refine j_iconst (v := nI 0) dX8_copy_162 rfl rfl ?_
  refine j_bipush (v := nI 8) dX8_copy_163 rfl rfl ?_
  refine j_copy (sp := 0) (dp := 0) (cn := 8) dX8_copy_165 rfl cX8_65 jvw_an jvw_as jvw_ai rfl rfl (by decide) (by decide) rfl rfl rfl (by decide) (by decide) (by decide) (by decide) (by decide) ?_
  obtain ⟨I8, hI8⟩ : ∃ H, H = ur I7 9 (va_cpy (I7 63) (I7 9) 0 0 8) := ⟨_, rfl⟩
  rw [← hI8]
  refine j_aload_n dX8_copy_168 rfl rfl rfl ?_
  refine j_getP (b := 10) dX8_copy_169 rfl fX8_58 rfl (by decide) rfl rfl ?_
  refine j_aload_n dX8_copy_172 rfl rfl rfl ?_
  refine j_getP (b := 64) dX8_copy_173 rfl fX8_58 rfl (by decide) rfl rfl ?_
  refine j_callVw (As := [.ref 64]) dX8_copy_176 rfl cX8_71 (by decide) rfl rfl (by decide) rfl (by decide) rfl rfl (c_pcopy1_55 (fun I9 e1 e2 e3 e4 => ?_))
  show Rj _ _ _ _ _ _ 179 [.ref 1, .ref 55] [] n I9 J (Pg i0 i1)
  refine j_vret dX8_copy_179 rfl ?_
  have r0 : ∀ q, q < 6 → I9 2 q = I 56 q := fun q hq => by
    rw [e4 2 (by omega) (by omega), hI8, ur_ne _ _ (by omega), hI7, ur_ne _ _ (by omega), hI6, ur_ne _ _ (by omega), hI5, ur_ne _ _ (by omega), hI4, ur_ne _ _ (by omega), hI3, ur_ne _ _ (by omega), hI2, ur_ne _ _ (by omega), hI1, ur_row, pk_cpy_in (Nat.zero_le _) (by omega), hIa, u2_ne _ _ _ (by omega), u2_ne _ _ _ (by omega), u2_ne _ _ _ (by omega), u2_ne _ _ _ (by omega), u2_ne _ _ _ (by omega), u2_ne _ _ _ (by omega)]
    congr 1; omega
  have r1 : ∀ q, q < 6 → I9 3 q = I 57 q := fun q hq => by
    rw [e4 3 (by omega) (by omega), hI8, ur_ne _ _ (by omega), hI7, ur_ne _ _ (by omega), hI6, ur_ne _ _ (by omega), hI5, ur_ne _ _ (by omega), hI4, ur_ne _ _ (by omega), hI3, ur_ne _ _ (by omega), hI2, ur_row, pk_cpy_in (Nat.zero_le _) (by omega), hI1, ur_ne _ _ (by omega), hIa, u2_ne _ _ _ (by omega), u2_ne _ _ _ (by omega), u2_ne _ _ _ (by omega), u2_ne _ _ _ (by omega), u2_ne _ _ _ (by omega), u2_ne _ _ _ (by omega)]
    congr 1; omega
  have r2 : ∀ q, q < 6 → I9 4 q = I 58 q := fun q hq => by
    rw [e4 4 (by omega) (by omega), hI8, ur_ne _ _ (by omega), hI7, ur_ne _ _ (by omega), hI6, ur_ne _ _ (by omega), hI5, ur_ne _ _ (by omega), hI4, ur_ne _ _ (by omega), hI3, ur_row, pk_cpy_in (Nat.zero_le _) (by omega), hI2, ur_ne _ _ (by omega), hI1, ur_ne _ _ (by omega), hIa, u2_ne _ _ _ (by omega), u2_ne _ _ _ (by omega), u2_ne _ _ _ (by omega), u2_ne _ _ _ (by omega), u2_ne _ _ _ (by omega), u2_ne _ _ _ (by omega)]
    congr 1; omega
  have r3 : ∀ q, q < 6 → I9 5 q = I 59 q := fun q hq => by
    rw [e4 5 (by omega) (by omega), hI8, ur_ne _ _ (by omega), hI7, ur_ne _ _ (by omega), hI6, ur_ne _ _ (by omega), hI5, ur_ne _ _ (by omega), hI4, ur_row, pk_cpy_in (Nat.zero_le _) (by omega), hI3, ur_ne _ _ (by omega), hI2, ur_ne _ _ (by omega), hI1, ur_ne _ _ (by omega), hIa, u2_ne _ _ _ (by omega), u2_ne _ _ _ (by omega), u2_ne _ _ _ (by omega), u2_ne _ _ _ (by omega), u2_ne _ _ _ (by omega), u2_ne _ _ _ (by omega)]
    congr 1; omega
  have r4 : ∀ q, q < 8 → I9 6 q = I 60 q := fun q hq => by
    rw [e4 6 (by omega) (by omega), hI8, ur_ne _ _ (by omega), hI7, ur_ne _ _ (by omega), hI6, ur_ne _ _ (by omega), hI5, ur_row, pk_cpy_in (Nat.zero_le _) (by omega), hI4, ur_ne _ _ (by omega), hI3, ur_ne _ _ (by omega), hI2, ur_ne _ _ (by omega), hI1, ur_ne _ _ (by omega), hIa, u2_ne _ _ _ (by omega), u2_ne _ _ _ (by omega), u2_ne _ _ _ (by omega), u2_ne _ _ _ (by omega), u2_ne _ _ _ (by omega), u2_ne _ _ _ (by omega)]
    congr 1; omega
  have r5 : ∀ q, q < 8 → I9 7 q = I 61 q := fun q hq => by
    rw [e4 7 (by omega) (by omega), hI8, ur_ne _ _ (by omega), hI7, ur_ne _ _ (by omega), hI6, ur_row, pk_cpy_in (Nat.zero_le _) (by omega), hI5, ur_ne _ _ (by omega), hI4, ur_ne _ _ (by omega), hI3, ur_ne _ _ (by omega), hI2, ur_ne _ _ (by omega), hI1, ur_ne _ _ (by omega), hIa, u2_ne _ _ _ (by omega), u2_ne _ _ _ (by omega), u2_ne _ _ _ (by omega), u2_ne _ _ _ (by omega), u2_ne _ _ _ (by omega), u2_ne _ _ _ (by omega)]
    congr 1; omega
  have r6 : ∀ q, q < 8 → I9 8 q = I 62 q := fun q hq => by
    rw [e4 8 (by omega) (by omega), hI8, ur_ne _ _ (by omega), hI7, ur_row, pk_cpy_in (Nat.zero_le _) (by omega), hI6, ur_ne _ _ (by omega), hI5, ur_ne _ _ (by omega), hI4, ur_ne _ _ (by omega), hI3, ur_ne _ _ (by omega), hI2, ur_ne _ _ (by omega), hI1, ur_ne _ _ (by omega), hIa, u2_ne _ _ _ (by omega), u2_ne _ _ _ (by omega), u2_ne _ _ _ (by omega), u2_ne _ _ _ (by omega), u2_ne _ _ _ (by omega), u2_ne _ _ _ (by omega)]
    congr 1; omega
  have r7 : ∀ q, q < 8 → I9 9 q = I 63 q := fun q hq => by
    rw [e4 9 (by omega) (by omega), hI8, ur_row, pk_cpy_in (Nat.zero_le _) (by omega), hI7, ur_ne _ _ (by omega), hI6, ur_ne _ _ (by omega), hI5, ur_ne _ _ (by omega), hI4, ur_ne _ _ (by omega), hI3, ur_ne _ _ (by omega), hI2, ur_ne _ _ (by omega), hI1, ur_ne _ _ (by omega), hIa, u2_ne _ _ _ (by omega), u2_ne _ _ _ (by omega), u2_ne _ _ _ (by omega), u2_ne _ _ _ (by omega), u2_ne _ _ _ (by omega), u2_ne _ _ _ (by omega)]
    congr 1; omega
  have rs : I9 1 = Ia 1 := by rw [e4 1 (by omega) (by omega), hI8, ur_ne _ _ (by omega), hI7, ur_ne _ _ (by omega), hI6, ur_ne _ _ (by omega), hI5, ur_ne _ _ (by omega), hI4, ur_ne _ _ (by omega), hI3, ur_ne _ _ (by omega), hI2, ur_ne _ _ (by omega), hI1, ur_ne _ _ (by omega)]
  have ro : ∀ a, (a < 1 ∨ 11 < a) → I9 a = I a := fun a ha => by rw [e4 a (by omega) (by omega), hI8, ur_ne _ _ (by omega), hI7, ur_ne _ _ (by omega), hI6, ur_ne _ _ (by omega), hI5, ur_ne _ _ (by omega), hI4, ur_ne _ _ (by omega), hI3, ur_ne _ _ (by omega), hI2, ur_ne _ _ (by omega), hI1, ur_ne _ _ (by omega), hIa, u2_ne _ _ _ (by omega), u2_ne _ _ _ (by omega), u2_ne _ _ _ (by omega), u2_ne _ _ _ (by omega), u2_ne _ _ _ (by omega), u2_ne _ _ _ (by omega)]
  have p10 : I8 65 = I 65 := by rw [hI8, ur_ne _ _ (by omega), hI7, ur_ne _ _ (by omega), hI6, ur_ne _ _ (by omega), hI5, ur_ne _ _ (by omega), hI4, ur_ne _ _ (by omega), hI3, ur_ne _ _ (by omega), hI2, ur_ne _ _ (by omega), hI1, ur_ne _ _ (by omega), hIa, u2_ne _ _ _ (by omega), u2_ne _ _ _ (by omega), u2_ne _ _ _ (by omega), u2_ne _ _ _ (by omega), u2_ne _ _ _ (by omega), u2_ne _ _ _ (by omega)]
  have p9 : I8 64 = I 64 := by rw [hI8, ur_ne _ _ (by omega), hI7, ur_ne _ _ (by omega), hI6, ur_ne _ _ (by omega), hI5, ur_ne _ _ (by omega), hI4, ur_ne _ _ (by omega), hI3, ur_ne _ _ (by omega), hI2, ur_ne _ _ (by omega), hI1, ur_ne _ _ (by omega), hIa, u2_ne _ _ _ (by omega), u2_ne _ _ _ (by omega), u2_ne _ _ _ (by omega), u2_ne _ _ _ (by omega), u2_ne _ _ _ (by omega), u2_ne _ _ _ (by omega)]
  obtain ⟨⟨s0, s1, s2, s3, s4, s5⟩, hp1, hk1, hc1, fr, hfr, hf1, hf2, hj⟩ := id hV
  refine hQ _ ⟨⟨?_, ?_, ?_, ?_, ?_, ?_⟩, fun p hp => ?_, fun k hk => ?_, fun c hc => ?_, fr, hfr, ?_, ?_, fun j hjj => ?_⟩ ro
  · rw [rs, hIa]; exact s0
  · rw [rs, hIa]; exact s1
  · rw [rs, hIa]; exact s2
  · rw [rs, hIa]; exact s3
  · rw [rs, hIa]; exact s4
  · rw [rs, hIa]; exact s5
  · obtain ⟨g1, g2, g3, g4⟩ := hp1 p hp
    exact ⟨(r0 p (by omega)).trans g1, (r1 p (by omega)).trans g2, (r2 p (by omega)).trans g3, (r3 p (by omega)).trans g4⟩
  · exact (r4 k (by omega)).trans (hk1 k hk)
  · obtain ⟨g1, g2, g3⟩ := hc1 c hc
    exact ⟨(r5 c (by omega)).trans g1, (r6 c (by omega)).trans g2, (r7 c (by omega)).trans g3⟩
  · exact e2.trans (by rw [p9]; exact hf1)
  · exact e3.trans (by rw [p9]; exact hf2)
  · have hm : (fr + 7 - j) % 8 < 8 := Nat.mod_lt _ (by omega)
    obtain ⟨g0, g⟩ := hj j hjj
    generalize (fr + 7 - j) % 8 = r at hm g0 g ⊢
    refine ⟨(e1 _ (by omega)).trans (by rw [p10]; exact g0), fun p hp => ?_⟩
    obtain ⟨g1, g2⟩ := g p hp
    exact ⟨(e1 _ (by omega)).trans (by rw [p10]; exact g1), (e1 _ (by omega)).trans (by rw [p10]; exact g2)⟩
set_option maxHeartbeats 4000000 in
set_option maxRecDepth 100000 in
theorem c_pcopy44_1 {X : jX} {d n : Nat} {I : HI} {J : HJ} {i0 i1 : Option Nat} {Q : jPost}  (hQ : ∀ I', (∀ q, q < 104 → I' 54 q = I 11 q) → I' 53 1 = I 10 1 → I' 53 2 = I 10 2 → (∀ a, a ≠ 53 → a ≠ 54 → I' a = I a) → Q none n I' J (Pg i0 i1)) : Cj X (d + 1) 0 0 mX5_copy [.ref 53, .ref 10] n I J (Pg i0 i1) Q := by
  refine Cj.intro rfl (Nat.le_of_ble_eq_true rfl) (L := [.ref 53, .ref 10]) rfl ?_
  refine j_aload_n dX5_copy_0 rfl rfl rfl ?_
  refine j_getP (b := 11) dX5_copy_1 rfl fX5_11 rfl (by decide) rfl rfl ?_
  refine j_iconst (v := nI 0) dX5_copy_4 rfl rfl ?_
  refine j_aload_n dX5_copy_5 rfl rfl rfl ?_
  refine j_getP (b := 54) dX5_copy_6 rfl fX5_11 rfl (by decide) rfl rfl ?_
  refine j_iconst (v := nI 0) dX5_copy_9 rfl rfl ?_
  refine j_bipush (v := nI 104) dX5_copy_10 rfl rfl ?_
  refine j_copy (sp := 0) (dp := 0) (cn := 104) dX5_copy_12 rfl cX5_22 jvw_an jvw_as jvw_ai rfl rfl (by decide) (by decide) rfl rfl rfl (by decide) (by decide) (by decide) (by decide) (by decide) ?_
  refine j_aload_n dX5_copy_15 rfl rfl rfl ?_
  refine j_aload_n dX5_copy_16 rfl rfl rfl ?_
  refine j_getIv (v := I 10 1) dX5_copy_17 rfl fX5_15 rfl (by decide) rfl rfl ?_
  refine j_putI dX5_copy_20 rfl fX5_15 rfl (by decide) rfl rfl ?_
  refine j_aload_n dX5_copy_23 rfl rfl rfl ?_
  refine j_aload_n dX5_copy_24 rfl rfl rfl ?_
  refine j_getIv (v := I 10 2) dX5_copy_25 rfl fX5_19 rfl (by decide) rfl rfl ?_
  refine j_putI dX5_copy_28 rfl fX5_19 rfl (by decide) rfl rfl ?_
  refine j_vret dX5_copy_31 rfl ?_
  refine hQ _ (fun q hq => ?_) ?_ ?_ (fun a h1 h2 => ?_)
  · rw [u2_ne _ _ _ (by omega), u2_ne _ _ _ (by omega), ur_row, pk_cpy_in (by omega) (by omega)]
    congr 1; omega
  · rw [u2_ne2 _ _ _ (by omega), u2_self]
  · rw [u2_self]
  · rw [u2_ne _ _ _ h1, u2_ne _ _ _ h1, ur_ne _ _ h2]
set_option maxHeartbeats 4000000 in
set_option maxRecDepth 100000 in
theorem c_copy44_1 {X : jX} {d n : Nat} {I : HI} {J : HJ} {i0 i1 : Option Nat} {Q : jPost} {v : VT} (hV : VC 1 I v) (h6 : v 0 3 ≤ 6) (h4 : v 0 4 ≤ 8) (h5 : v 0 5 ≤ 8) (hQ : ∀ I', VC 44 I' v → Ot 44 I I' → Q none n I' J (Pg i0 i1)) : Cj X (d + 2) 0 0 mX8_copy [.ref 44, .ref 1] n I J (Pg i0 i1) Q := by
  refine Cj.intro rfl (Nat.le_of_ble_eq_true rfl) (L := [.ref 44, .ref 1]) rfl ?_
  refine j_aload_n dX8_copy_0 rfl rfl rfl ?_
  refine j_aload_n dX8_copy_1 rfl rfl rfl ?_
  refine j_getIv (v := I 1 0) dX8_copy_2 rfl fX8_9 rfl (by decide) rfl rfl ?_
  refine j_putI dX8_copy_5 rfl fX8_9 rfl (by decide) rfl rfl ?_
  refine j_aload_n dX8_copy_8 rfl rfl rfl ?_
  refine j_aload_n dX8_copy_9 rfl rfl rfl ?_
  refine j_getIv (v := I 1 1) dX8_copy_10 rfl fX8_15 rfl (by decide) rfl rfl ?_
  refine j_putI dX8_copy_13 rfl fX8_15 rfl (by decide) rfl rfl ?_
  refine j_aload_n dX8_copy_16 rfl rfl rfl ?_
  refine j_aload_n dX8_copy_17 rfl rfl rfl ?_
  refine j_getIv (v := I 1 2) dX8_copy_18 rfl fX8_18 rfl (by decide) rfl rfl ?_
  refine j_putI dX8_copy_21 rfl fX8_18 rfl (by decide) rfl rfl ?_
  refine j_aload_n dX8_copy_24 rfl rfl rfl ?_
  refine j_aload_n dX8_copy_25 rfl rfl rfl ?_
  refine j_getIv (v := I 1 3) dX8_copy_26 rfl fX8_21 rfl (by decide) rfl rfl ?_
  refine j_putI dX8_copy_29 rfl fX8_21 rfl (by decide) rfl rfl ?_
  refine j_aload_n dX8_copy_32 rfl rfl rfl ?_
  refine j_aload_n dX8_copy_33 rfl rfl rfl ?_
  refine j_getIv (v := I 1 4) dX8_copy_34 rfl fX8_24 rfl (by decide) rfl rfl ?_
  refine j_putI dX8_copy_37 rfl fX8_24 rfl (by decide) rfl rfl ?_
  refine j_aload_n dX8_copy_40 rfl rfl rfl ?_
  refine j_aload_n dX8_copy_41 rfl rfl rfl ?_
  refine j_getIv (v := I 1 5) dX8_copy_42 rfl fX8_27 rfl (by decide) rfl rfl ?_
  refine j_putI dX8_copy_45 rfl fX8_27 rfl (by decide) rfl rfl ?_
  obtain ⟨Ia, hIa⟩ : ∃ H, H = u2 (u2 (u2 (u2 (u2 (u2 I 44 0 (I 1 0)) 44 1 (I 1 1)) 44 2 (I 1 2)) 44 3 (I 1 3)) 44 4 (I 1 4)) 44 5 (I 1 5) := ⟨_, rfl⟩
  rw [← hIa]
  refine j_aload_n dX8_copy_48 rfl rfl rfl ?_
  refine j_getP (b := 2) dX8_copy_49 rfl fX8_30 rfl (by decide) rfl rfl ?_
  refine j_iconst (v := nI 0) dX8_copy_52 rfl rfl ?_
  refine j_aload_n dX8_copy_53 rfl rfl rfl ?_
  refine j_getP (b := 45) dX8_copy_54 rfl fX8_30 rfl (by decide) rfl rfl ?_
  refine j_iconst (v := nI 0) dX8_copy_57 rfl rfl ?_
  refine j_bipush (v := nI 6) dX8_copy_58 rfl rfl ?_
  refine j_copy (sp := 0) (dp := 0) (cn := 6) dX8_copy_60 rfl cX8_65 jvw_an jvw_as jvw_ai rfl rfl (by decide) (by decide) rfl rfl rfl (by decide) (by decide) (by decide) (by decide) (by decide) ?_
  obtain ⟨I1, hI1⟩ : ∃ H, H = ur Ia 45 (va_cpy (Ia 2) (Ia 45) 0 0 6) := ⟨_, rfl⟩
  rw [← hI1]
  refine j_aload_n dX8_copy_63 rfl rfl rfl ?_
  refine j_getP (b := 3) dX8_copy_64 rfl fX8_34 rfl (by decide) rfl rfl ?_
  refine j_iconst (v := nI 0) dX8_copy_67 rfl rfl ?_
  refine j_aload_n dX8_copy_68 rfl rfl rfl ?_
  refine j_getP (b := 46) dX8_copy_69 rfl fX8_34 rfl (by decide) rfl rfl ?_
  refine j_iconst (v := nI 0) dX8_copy_72 rfl rfl ?_
  refine j_bipush (v := nI 6) dX8_copy_73 rfl rfl ?_
  refine j_copy (sp := 0) (dp := 0) (cn := 6) dX8_copy_75 rfl cX8_65 jvw_an jvw_as jvw_ai rfl rfl (by decide) (by decide) rfl rfl rfl (by decide) (by decide) (by decide) (by decide) (by decide) ?_
  obtain ⟨I2, hI2⟩ : ∃ H, H = ur I1 46 (va_cpy (I1 3) (I1 46) 0 0 6) := ⟨_, rfl⟩
  rw [← hI2]
  refine j_aload_n dX8_copy_78 rfl rfl rfl ?_
  refine j_getP (b := 4) dX8_copy_79 rfl fX8_37 rfl (by decide) rfl rfl ?_
  refine j_iconst (v := nI 0) dX8_copy_82 rfl rfl ?_
  refine j_aload_n dX8_copy_83 rfl rfl rfl ?_
  refine j_getP (b := 47) dX8_copy_84 rfl fX8_37 rfl (by decide) rfl rfl ?_
  refine j_iconst (v := nI 0) dX8_copy_87 rfl rfl ?_
  refine j_bipush (v := nI 6) dX8_copy_88 rfl rfl ?_
  refine j_copy (sp := 0) (dp := 0) (cn := 6) dX8_copy_90 rfl cX8_65 jvw_an jvw_as jvw_ai rfl rfl (by decide) (by decide) rfl rfl rfl (by decide) (by decide) (by decide) (by decide) (by decide) ?_
  obtain ⟨I3, hI3⟩ : ∃ H, H = ur I2 47 (va_cpy (I2 4) (I2 47) 0 0 6) := ⟨_, rfl⟩
  rw [← hI3]
  refine j_aload_n dX8_copy_93 rfl rfl rfl ?_
  refine j_getP (b := 5) dX8_copy_94 rfl fX8_40 rfl (by decide) rfl rfl ?_
  refine j_iconst (v := nI 0) dX8_copy_97 rfl rfl ?_
  refine j_aload_n dX8_copy_98 rfl rfl rfl ?_
  refine j_getP (b := 48) dX8_copy_99 rfl fX8_40 rfl (by decide) rfl rfl ?_
  refine j_iconst (v := nI 0) dX8_copy_102 rfl rfl ?_
  refine j_bipush (v := nI 6) dX8_copy_103 rfl rfl ?_
  refine j_copy (sp := 0) (dp := 0) (cn := 6) dX8_copy_105 rfl cX8_65 jvw_an jvw_as jvw_ai rfl rfl (by decide) (by decide) rfl rfl rfl (by decide) (by decide) (by decide) (by decide) (by decide) ?_
  obtain ⟨I4, hI4⟩ : ∃ H, H = ur I3 48 (va_cpy (I3 5) (I3 48) 0 0 6) := ⟨_, rfl⟩
  rw [← hI4]
  refine j_aload_n dX8_copy_108 rfl rfl rfl ?_
  refine j_getP (b := 6) dX8_copy_109 rfl fX8_43 rfl (by decide) rfl rfl ?_
  refine j_iconst (v := nI 0) dX8_copy_112 rfl rfl ?_
  refine j_aload_n dX8_copy_113 rfl rfl rfl ?_
  refine j_getP (b := 49) dX8_copy_114 rfl fX8_43 rfl (by decide) rfl rfl ?_
  refine j_iconst (v := nI 0) dX8_copy_117 rfl rfl ?_
  refine j_bipush (v := nI 8) dX8_copy_118 rfl rfl ?_
  refine j_copy (sp := 0) (dp := 0) (cn := 8) dX8_copy_120 rfl cX8_65 jvw_an jvw_as jvw_ai rfl rfl (by decide) (by decide) rfl rfl rfl (by decide) (by decide) (by decide) (by decide) (by decide) ?_
  obtain ⟨I5, hI5⟩ : ∃ H, H = ur I4 49 (va_cpy (I4 6) (I4 49) 0 0 8) := ⟨_, rfl⟩
  rw [← hI5]
  refine j_aload_n dX8_copy_123 rfl rfl rfl ?_
  refine j_getP (b := 7) dX8_copy_124 rfl fX8_46 rfl (by decide) rfl rfl ?_
  refine j_iconst (v := nI 0) dX8_copy_127 rfl rfl ?_
  refine j_aload_n dX8_copy_128 rfl rfl rfl ?_
  refine j_getP (b := 50) dX8_copy_129 rfl fX8_46 rfl (by decide) rfl rfl ?_
  refine j_iconst (v := nI 0) dX8_copy_132 rfl rfl ?_
  refine j_bipush (v := nI 8) dX8_copy_133 rfl rfl ?_
  refine j_copy (sp := 0) (dp := 0) (cn := 8) dX8_copy_135 rfl cX8_65 jvw_an jvw_as jvw_ai rfl rfl (by decide) (by decide) rfl rfl rfl (by decide) (by decide) (by decide) (by decide) (by decide) ?_
  obtain ⟨I6, hI6⟩ : ∃ H, H = ur I5 50 (va_cpy (I5 7) (I5 50) 0 0 8) := ⟨_, rfl⟩
  rw [← hI6]
  refine j_aload_n dX8_copy_138 rfl rfl rfl ?_
  refine j_getP (b := 8) dX8_copy_139 rfl fX8_49 rfl (by decide) rfl rfl ?_
  refine j_iconst (v := nI 0) dX8_copy_142 rfl rfl ?_
  refine j_aload_n dX8_copy_143 rfl rfl rfl ?_
  refine j_getP (b := 51) dX8_copy_144 rfl fX8_49 rfl (by decide) rfl rfl ?_
  refine j_iconst (v := nI 0) dX8_copy_147 rfl rfl ?_
  refine j_bipush (v := nI 8) dX8_copy_148 rfl rfl ?_
  refine j_copy (sp := 0) (dp := 0) (cn := 8) dX8_copy_150 rfl cX8_65 jvw_an jvw_as jvw_ai rfl rfl (by decide) (by decide) rfl rfl rfl (by decide) (by decide) (by decide) (by decide) (by decide) ?_
  obtain ⟨I7, hI7⟩ : ∃ H, H = ur I6 51 (va_cpy (I6 8) (I6 51) 0 0 8) := ⟨_, rfl⟩
  rw [← hI7]
  refine j_aload_n dX8_copy_153 rfl rfl rfl ?_
  refine j_getP (b := 9) dX8_copy_154 rfl fX8_52 rfl (by decide) rfl rfl ?_
  refine j_iconst (v := nI 0) dX8_copy_157 rfl rfl ?_
  refine j_aload_n dX8_copy_158 rfl rfl rfl ?_
  refine j_getP (b := 52) dX8_copy_159 rfl fX8_52 rfl (by decide) rfl rfl ?_
  refine j_iconst (v := nI 0) dX8_copy_162 rfl rfl ?_
  refine j_bipush (v := nI 8) dX8_copy_163 rfl rfl ?_
  refine j_copy (sp := 0) (dp := 0) (cn := 8) dX8_copy_165 rfl cX8_65 jvw_an jvw_as jvw_ai rfl rfl (by decide) (by decide) rfl rfl rfl (by decide) (by decide) (by decide) (by decide) (by decide) ?_
  obtain ⟨I8, hI8⟩ : ∃ H, H = ur I7 52 (va_cpy (I7 9) (I7 52) 0 0 8) := ⟨_, rfl⟩
  rw [← hI8]
  refine j_aload_n dX8_copy_168 rfl rfl rfl ?_
  refine j_getP (b := 53) dX8_copy_169 rfl fX8_58 rfl (by decide) rfl rfl ?_
  refine j_aload_n dX8_copy_172 rfl rfl rfl ?_
  refine j_getP (b := 10) dX8_copy_173 rfl fX8_58 rfl (by decide) rfl rfl ?_
  refine j_callVw (As := [.ref 10]) dX8_copy_176 rfl cX8_71 (by decide) rfl rfl (by decide) rfl (by decide) rfl rfl (c_pcopy44_1 (fun I9 e1 e2 e3 e4 => ?_))
  show Rj _ _ _ _ _ _ 179 [.ref 44, .ref 1] [] n I9 J (Pg i0 i1)
  refine j_vret dX8_copy_179 rfl ?_
  have r0 : ∀ q, q < 6 → I9 45 q = I 2 q := fun q hq => by
    rw [e4 45 (by omega) (by omega), hI8, ur_ne _ _ (by omega), hI7, ur_ne _ _ (by omega), hI6, ur_ne _ _ (by omega), hI5, ur_ne _ _ (by omega), hI4, ur_ne _ _ (by omega), hI3, ur_ne _ _ (by omega), hI2, ur_ne _ _ (by omega), hI1, ur_row, pk_cpy_in (Nat.zero_le _) (by omega), hIa, u2_ne _ _ _ (by omega), u2_ne _ _ _ (by omega), u2_ne _ _ _ (by omega), u2_ne _ _ _ (by omega), u2_ne _ _ _ (by omega), u2_ne _ _ _ (by omega)]
    congr 1; omega
  have r1 : ∀ q, q < 6 → I9 46 q = I 3 q := fun q hq => by
    rw [e4 46 (by omega) (by omega), hI8, ur_ne _ _ (by omega), hI7, ur_ne _ _ (by omega), hI6, ur_ne _ _ (by omega), hI5, ur_ne _ _ (by omega), hI4, ur_ne _ _ (by omega), hI3, ur_ne _ _ (by omega), hI2, ur_row, pk_cpy_in (Nat.zero_le _) (by omega), hI1, ur_ne _ _ (by omega), hIa, u2_ne _ _ _ (by omega), u2_ne _ _ _ (by omega), u2_ne _ _ _ (by omega), u2_ne _ _ _ (by omega), u2_ne _ _ _ (by omega), u2_ne _ _ _ (by omega)]
    congr 1; omega
  have r2 : ∀ q, q < 6 → I9 47 q = I 4 q := fun q hq => by
    rw [e4 47 (by omega) (by omega), hI8, ur_ne _ _ (by omega), hI7, ur_ne _ _ (by omega), hI6, ur_ne _ _ (by omega), hI5, ur_ne _ _ (by omega), hI4, ur_ne _ _ (by omega), hI3, ur_row, pk_cpy_in (Nat.zero_le _) (by omega), hI2, ur_ne _ _ (by omega), hI1, ur_ne _ _ (by omega), hIa, u2_ne _ _ _ (by omega), u2_ne _ _ _ (by omega), u2_ne _ _ _ (by omega), u2_ne _ _ _ (by omega), u2_ne _ _ _ (by omega), u2_ne _ _ _ (by omega)]
    congr 1; omega
  have r3 : ∀ q, q < 6 → I9 48 q = I 5 q := fun q hq => by
    rw [e4 48 (by omega) (by omega), hI8, ur_ne _ _ (by omega), hI7, ur_ne _ _ (by omega), hI6, ur_ne _ _ (by omega), hI5, ur_ne _ _ (by omega), hI4, ur_row, pk_cpy_in (Nat.zero_le _) (by omega), hI3, ur_ne _ _ (by omega), hI2, ur_ne _ _ (by omega), hI1, ur_ne _ _ (by omega), hIa, u2_ne _ _ _ (by omega), u2_ne _ _ _ (by omega), u2_ne _ _ _ (by omega), u2_ne _ _ _ (by omega), u2_ne _ _ _ (by omega), u2_ne _ _ _ (by omega)]
    congr 1; omega
  have r4 : ∀ q, q < 8 → I9 49 q = I 6 q := fun q hq => by
    rw [e4 49 (by omega) (by omega), hI8, ur_ne _ _ (by omega), hI7, ur_ne _ _ (by omega), hI6, ur_ne _ _ (by omega), hI5, ur_row, pk_cpy_in (Nat.zero_le _) (by omega), hI4, ur_ne _ _ (by omega), hI3, ur_ne _ _ (by omega), hI2, ur_ne _ _ (by omega), hI1, ur_ne _ _ (by omega), hIa, u2_ne _ _ _ (by omega), u2_ne _ _ _ (by omega), u2_ne _ _ _ (by omega), u2_ne _ _ _ (by omega), u2_ne _ _ _ (by omega), u2_ne _ _ _ (by omega)]
    congr 1; omega
  have r5 : ∀ q, q < 8 → I9 50 q = I 7 q := fun q hq => by
    rw [e4 50 (by omega) (by omega), hI8, ur_ne _ _ (by omega), hI7, ur_ne _ _ (by omega), hI6, ur_row, pk_cpy_in (Nat.zero_le _) (by omega), hI5, ur_ne _ _ (by omega), hI4, ur_ne _ _ (by omega), hI3, ur_ne _ _ (by omega), hI2, ur_ne _ _ (by omega), hI1, ur_ne _ _ (by omega), hIa, u2_ne _ _ _ (by omega), u2_ne _ _ _ (by omega), u2_ne _ _ _ (by omega), u2_ne _ _ _ (by omega), u2_ne _ _ _ (by omega), u2_ne _ _ _ (by omega)]
    congr 1; omega
  have r6 : ∀ q, q < 8 → I9 51 q = I 8 q := fun q hq => by
    rw [e4 51 (by omega) (by omega), hI8, ur_ne _ _ (by omega), hI7, ur_row, pk_cpy_in (Nat.zero_le _) (by omega), hI6, ur_ne _ _ (by omega), hI5, ur_ne _ _ (by omega), hI4, ur_ne _ _ (by omega), hI3, ur_ne _ _ (by omega), hI2, ur_ne _ _ (by omega), hI1, ur_ne _ _ (by omega), hIa, u2_ne _ _ _ (by omega), u2_ne _ _ _ (by omega), u2_ne _ _ _ (by omega), u2_ne _ _ _ (by omega), u2_ne _ _ _ (by omega), u2_ne _ _ _ (by omega)]
    congr 1; omega
  have r7 : ∀ q, q < 8 → I9 52 q = I 9 q := fun q hq => by
    rw [e4 52 (by omega) (by omega), hI8, ur_row, pk_cpy_in (Nat.zero_le _) (by omega), hI7, ur_ne _ _ (by omega), hI6, ur_ne _ _ (by omega), hI5, ur_ne _ _ (by omega), hI4, ur_ne _ _ (by omega), hI3, ur_ne _ _ (by omega), hI2, ur_ne _ _ (by omega), hI1, ur_ne _ _ (by omega), hIa, u2_ne _ _ _ (by omega), u2_ne _ _ _ (by omega), u2_ne _ _ _ (by omega), u2_ne _ _ _ (by omega), u2_ne _ _ _ (by omega), u2_ne _ _ _ (by omega)]
    congr 1; omega
  have rs : I9 44 = Ia 44 := by rw [e4 44 (by omega) (by omega), hI8, ur_ne _ _ (by omega), hI7, ur_ne _ _ (by omega), hI6, ur_ne _ _ (by omega), hI5, ur_ne _ _ (by omega), hI4, ur_ne _ _ (by omega), hI3, ur_ne _ _ (by omega), hI2, ur_ne _ _ (by omega), hI1, ur_ne _ _ (by omega)]
  have ro : ∀ a, (a < 44 ∨ 54 < a) → I9 a = I a := fun a ha => by rw [e4 a (by omega) (by omega), hI8, ur_ne _ _ (by omega), hI7, ur_ne _ _ (by omega), hI6, ur_ne _ _ (by omega), hI5, ur_ne _ _ (by omega), hI4, ur_ne _ _ (by omega), hI3, ur_ne _ _ (by omega), hI2, ur_ne _ _ (by omega), hI1, ur_ne _ _ (by omega), hIa, u2_ne _ _ _ (by omega), u2_ne _ _ _ (by omega), u2_ne _ _ _ (by omega), u2_ne _ _ _ (by omega), u2_ne _ _ _ (by omega), u2_ne _ _ _ (by omega)]
  have p10 : I8 11 = I 11 := by rw [hI8, ur_ne _ _ (by omega), hI7, ur_ne _ _ (by omega), hI6, ur_ne _ _ (by omega), hI5, ur_ne _ _ (by omega), hI4, ur_ne _ _ (by omega), hI3, ur_ne _ _ (by omega), hI2, ur_ne _ _ (by omega), hI1, ur_ne _ _ (by omega), hIa, u2_ne _ _ _ (by omega), u2_ne _ _ _ (by omega), u2_ne _ _ _ (by omega), u2_ne _ _ _ (by omega), u2_ne _ _ _ (by omega), u2_ne _ _ _ (by omega)]
  have p9 : I8 10 = I 10 := by rw [hI8, ur_ne _ _ (by omega), hI7, ur_ne _ _ (by omega), hI6, ur_ne _ _ (by omega), hI5, ur_ne _ _ (by omega), hI4, ur_ne _ _ (by omega), hI3, ur_ne _ _ (by omega), hI2, ur_ne _ _ (by omega), hI1, ur_ne _ _ (by omega), hIa, u2_ne _ _ _ (by omega), u2_ne _ _ _ (by omega), u2_ne _ _ _ (by omega), u2_ne _ _ _ (by omega), u2_ne _ _ _ (by omega), u2_ne _ _ _ (by omega)]
  obtain ⟨⟨s0, s1, s2, s3, s4, s5⟩, hp1, hk1, hc1, fr, hfr, hf1, hf2, hj⟩ := id hV
  refine hQ _ ⟨⟨?_, ?_, ?_, ?_, ?_, ?_⟩, fun p hp => ?_, fun k hk => ?_, fun c hc => ?_, fr, hfr, ?_, ?_, fun j hjj => ?_⟩ ro
  · rw [rs, hIa]; exact s0
  · rw [rs, hIa]; exact s1
  · rw [rs, hIa]; exact s2
  · rw [rs, hIa]; exact s3
  · rw [rs, hIa]; exact s4
  · rw [rs, hIa]; exact s5
  · obtain ⟨g1, g2, g3, g4⟩ := hp1 p hp
    exact ⟨(r0 p (by omega)).trans g1, (r1 p (by omega)).trans g2, (r2 p (by omega)).trans g3, (r3 p (by omega)).trans g4⟩
  · exact (r4 k (by omega)).trans (hk1 k hk)
  · obtain ⟨g1, g2, g3⟩ := hc1 c hc
    exact ⟨(r5 c (by omega)).trans g1, (r6 c (by omega)).trans g2, (r7 c (by omega)).trans g3⟩
  · exact e2.trans (by rw [p9]; exact hf1)
  · exact e3.trans (by rw [p9]; exact hf2)
  · have hm : (fr + 7 - j) % 8 < 8 := Nat.mod_lt _ (by omega)
    obtain ⟨g0, g⟩ := hj j hjj
    generalize (fr + 7 - j) % 8 = r at hm g0 g ⊢
    refine ⟨(e1 _ (by omega)).trans (by rw [p10]; exact g0), fun p hp => ?_⟩
    obtain ⟨g1, g2⟩ := g p hp
    exact ⟨(e1 _ (by omega)).trans (by rw [p10]; exact g1), (e1 _ (by omega)).trans (by rw [p10]; exact g2)⟩
set_option maxHeartbeats 4000000 in
set_option maxRecDepth 100000 in
theorem c_pcopy55_1 {X : jX} {d n : Nat} {I : HI} {J : HJ} {i0 i1 : Option Nat} {Q : jPost}  (hQ : ∀ I', (∀ q, q < 104 → I' 65 q = I 11 q) → I' 64 1 = I 10 1 → I' 64 2 = I 10 2 → (∀ a, a ≠ 64 → a ≠ 65 → I' a = I a) → Q none n I' J (Pg i0 i1)) : Cj X (d + 1) 0 0 mX5_copy [.ref 64, .ref 10] n I J (Pg i0 i1) Q := by
  refine Cj.intro rfl (Nat.le_of_ble_eq_true rfl) (L := [.ref 64, .ref 10]) rfl ?_
  refine j_aload_n dX5_copy_0 rfl rfl rfl ?_
  refine j_getP (b := 11) dX5_copy_1 rfl fX5_11 rfl (by decide) rfl rfl ?_
  refine j_iconst (v := nI 0) dX5_copy_4 rfl rfl ?_
  refine j_aload_n dX5_copy_5 rfl rfl rfl ?_
  refine j_getP (b := 65) dX5_copy_6 rfl fX5_11 rfl (by decide) rfl rfl ?_
  refine j_iconst (v := nI 0) dX5_copy_9 rfl rfl ?_
  refine j_bipush (v := nI 104) dX5_copy_10 rfl rfl ?_
  refine j_copy (sp := 0) (dp := 0) (cn := 104) dX5_copy_12 rfl cX5_22 jvw_an jvw_as jvw_ai rfl rfl (by decide) (by decide) rfl rfl rfl (by decide) (by decide) (by decide) (by decide) (by decide) ?_
  refine j_aload_n dX5_copy_15 rfl rfl rfl ?_
  refine j_aload_n dX5_copy_16 rfl rfl rfl ?_
  refine j_getIv (v := I 10 1) dX5_copy_17 rfl fX5_15 rfl (by decide) rfl rfl ?_
  refine j_putI dX5_copy_20 rfl fX5_15 rfl (by decide) rfl rfl ?_
  refine j_aload_n dX5_copy_23 rfl rfl rfl ?_
  refine j_aload_n dX5_copy_24 rfl rfl rfl ?_
  refine j_getIv (v := I 10 2) dX5_copy_25 rfl fX5_19 rfl (by decide) rfl rfl ?_
  refine j_putI dX5_copy_28 rfl fX5_19 rfl (by decide) rfl rfl ?_
  refine j_vret dX5_copy_31 rfl ?_
  refine hQ _ (fun q hq => ?_) ?_ ?_ (fun a h1 h2 => ?_)
  · rw [u2_ne _ _ _ (by omega), u2_ne _ _ _ (by omega), ur_row, pk_cpy_in (by omega) (by omega)]
    congr 1; omega
  · rw [u2_ne2 _ _ _ (by omega), u2_self]
  · rw [u2_self]
  · rw [u2_ne _ _ _ h1, u2_ne _ _ _ h1, ur_ne _ _ h2]
set_option maxHeartbeats 4000000 in
set_option maxRecDepth 100000 in
theorem c_copy55_1 {X : jX} {d n : Nat} {I : HI} {J : HJ} {i0 i1 : Option Nat} {Q : jPost} {v : VT} (hV : VC 1 I v) (h6 : v 0 3 ≤ 6) (h4 : v 0 4 ≤ 8) (h5 : v 0 5 ≤ 8) (hQ : ∀ I', VC 55 I' v → Ot 55 I I' → Q none n I' J (Pg i0 i1)) : Cj X (d + 2) 0 0 mX8_copy [.ref 55, .ref 1] n I J (Pg i0 i1) Q := by
  refine Cj.intro rfl (Nat.le_of_ble_eq_true rfl) (L := [.ref 55, .ref 1]) rfl ?_
  refine j_aload_n dX8_copy_0 rfl rfl rfl ?_
  refine j_aload_n dX8_copy_1 rfl rfl rfl ?_
  refine j_getIv (v := I 1 0) dX8_copy_2 rfl fX8_9 rfl (by decide) rfl rfl ?_
  refine j_putI dX8_copy_5 rfl fX8_9 rfl (by decide) rfl rfl ?_
  refine j_aload_n dX8_copy_8 rfl rfl rfl ?_
  refine j_aload_n dX8_copy_9 rfl rfl rfl ?_
  refine j_getIv (v := I 1 1) dX8_copy_10 rfl fX8_15 rfl (by decide) rfl rfl ?_
  refine j_putI dX8_copy_13 rfl fX8_15 rfl (by decide) rfl rfl ?_
  refine j_aload_n dX8_copy_16 rfl rfl rfl ?_
  refine j_aload_n dX8_copy_17 rfl rfl rfl ?_
  refine j_getIv (v := I 1 2) dX8_copy_18 rfl fX8_18 rfl (by decide) rfl rfl ?_
  refine j_putI dX8_copy_21 rfl fX8_18 rfl (by decide) rfl rfl ?_
  refine j_aload_n dX8_copy_24 rfl rfl rfl ?_
  refine j_aload_n dX8_copy_25 rfl rfl rfl ?_
  refine j_getIv (v := I 1 3) dX8_copy_26 rfl fX8_21 rfl (by decide) rfl rfl ?_
  refine j_putI dX8_copy_29 rfl fX8_21 rfl (by decide) rfl rfl ?_
  refine j_aload_n dX8_copy_32 rfl rfl rfl ?_
  refine j_aload_n dX8_copy_33 rfl rfl rfl ?_
  refine j_getIv (v := I 1 4) dX8_copy_34 rfl fX8_24 rfl (by decide) rfl rfl ?_
  refine j_putI dX8_copy_37 rfl fX8_24 rfl (by decide) rfl rfl ?_
  refine j_aload_n dX8_copy_40 rfl rfl rfl ?_
  refine j_aload_n dX8_copy_41 rfl rfl rfl ?_
  refine j_getIv (v := I 1 5) dX8_copy_42 rfl fX8_27 rfl (by decide) rfl rfl ?_
  refine j_putI dX8_copy_45 rfl fX8_27 rfl (by decide) rfl rfl ?_
  obtain ⟨Ia, hIa⟩ : ∃ H, H = u2 (u2 (u2 (u2 (u2 (u2 I 55 0 (I 1 0)) 55 1 (I 1 1)) 55 2 (I 1 2)) 55 3 (I 1 3)) 55 4 (I 1 4)) 55 5 (I 1 5) := ⟨_, rfl⟩
  rw [← hIa]
  refine j_aload_n dX8_copy_48 rfl rfl rfl ?_
  refine j_getP (b := 2) dX8_copy_49 rfl fX8_30 rfl (by decide) rfl rfl ?_
  refine j_iconst (v := nI 0) dX8_copy_52 rfl rfl ?_
  refine j_aload_n dX8_copy_53 rfl rfl rfl ?_
  refine j_getP (b := 56) dX8_copy_54 rfl fX8_30 rfl (by decide) rfl rfl ?_
  refine j_iconst (v := nI 0) dX8_copy_57 rfl rfl ?_
  refine j_bipush (v := nI 6) dX8_copy_58 rfl rfl ?_
  refine j_copy (sp := 0) (dp := 0) (cn := 6) dX8_copy_60 rfl cX8_65 jvw_an jvw_as jvw_ai rfl rfl (by decide) (by decide) rfl rfl rfl (by decide) (by decide) (by decide) (by decide) (by decide) ?_
  obtain ⟨I1, hI1⟩ : ∃ H, H = ur Ia 56 (va_cpy (Ia 2) (Ia 56) 0 0 6) := ⟨_, rfl⟩
  rw [← hI1]
  refine j_aload_n dX8_copy_63 rfl rfl rfl ?_
  refine j_getP (b := 3) dX8_copy_64 rfl fX8_34 rfl (by decide) rfl rfl ?_
  refine j_iconst (v := nI 0) dX8_copy_67 rfl rfl ?_
  refine j_aload_n dX8_copy_68 rfl rfl rfl ?_
  refine j_getP (b := 57) dX8_copy_69 rfl fX8_34 rfl (by decide) rfl rfl ?_
  refine j_iconst (v := nI 0) dX8_copy_72 rfl rfl ?_
  refine j_bipush (v := nI 6) dX8_copy_73 rfl rfl ?_
  refine j_copy (sp := 0) (dp := 0) (cn := 6) dX8_copy_75 rfl cX8_65 jvw_an jvw_as jvw_ai rfl rfl (by decide) (by decide) rfl rfl rfl (by decide) (by decide) (by decide) (by decide) (by decide) ?_
  obtain ⟨I2, hI2⟩ : ∃ H, H = ur I1 57 (va_cpy (I1 3) (I1 57) 0 0 6) := ⟨_, rfl⟩
  rw [← hI2]
  refine j_aload_n dX8_copy_78 rfl rfl rfl ?_
  refine j_getP (b := 4) dX8_copy_79 rfl fX8_37 rfl (by decide) rfl rfl ?_
  refine j_iconst (v := nI 0) dX8_copy_82 rfl rfl ?_
  refine j_aload_n dX8_copy_83 rfl rfl rfl ?_
  refine j_getP (b := 58) dX8_copy_84 rfl fX8_37 rfl (by decide) rfl rfl ?_
  refine j_iconst (v := nI 0) dX8_copy_87 rfl rfl ?_
  refine j_bipush (v := nI 6) dX8_copy_88 rfl rfl ?_
  refine j_copy (sp := 0) (dp := 0) (cn := 6) dX8_copy_90 rfl cX8_65 jvw_an jvw_as jvw_ai rfl rfl (by decide) (by decide) rfl rfl rfl (by decide) (by decide) (by decide) (by decide) (by decide) ?_
  obtain ⟨I3, hI3⟩ : ∃ H, H = ur I2 58 (va_cpy (I2 4) (I2 58) 0 0 6) := ⟨_, rfl⟩
  rw [← hI3]
  refine j_aload_n dX8_copy_93 rfl rfl rfl ?_
  refine j_getP (b := 5) dX8_copy_94 rfl fX8_40 rfl (by decide) rfl rfl ?_
  refine j_iconst (v := nI 0) dX8_copy_97 rfl rfl ?_
  refine j_aload_n dX8_copy_98 rfl rfl rfl ?_
  refine j_getP (b := 59) dX8_copy_99 rfl fX8_40 rfl (by decide) rfl rfl ?_
  refine j_iconst (v := nI 0) dX8_copy_102 rfl rfl ?_
  refine j_bipush (v := nI 6) dX8_copy_103 rfl rfl ?_
  refine j_copy (sp := 0) (dp := 0) (cn := 6) dX8_copy_105 rfl cX8_65 jvw_an jvw_as jvw_ai rfl rfl (by decide) (by decide) rfl rfl rfl (by decide) (by decide) (by decide) (by decide) (by decide) ?_
  obtain ⟨I4, hI4⟩ : ∃ H, H = ur I3 59 (va_cpy (I3 5) (I3 59) 0 0 6) := ⟨_, rfl⟩
  rw [← hI4]
  refine j_aload_n dX8_copy_108 rfl rfl rfl ?_
  refine j_getP (b := 6) dX8_copy_109 rfl fX8_43 rfl (by decide) rfl rfl ?_
  refine j_iconst (v := nI 0) dX8_copy_112 rfl rfl ?_
  refine j_aload_n dX8_copy_113 rfl rfl rfl ?_
  refine j_getP (b := 60) dX8_copy_114 rfl fX8_43 rfl (by decide) rfl rfl ?_
  refine j_iconst (v := nI 0) dX8_copy_117 rfl rfl ?_
  refine j_bipush (v := nI 8) dX8_copy_118 rfl rfl ?_
  refine j_copy (sp := 0) (dp := 0) (cn := 8) dX8_copy_120 rfl cX8_65 jvw_an jvw_as jvw_ai rfl rfl (by decide) (by decide) rfl rfl rfl (by decide) (by decide) (by decide) (by decide) (by decide) ?_
  obtain ⟨I5, hI5⟩ : ∃ H, H = ur I4 60 (va_cpy (I4 6) (I4 60) 0 0 8) := ⟨_, rfl⟩
  rw [← hI5]
  refine j_aload_n dX8_copy_123 rfl rfl rfl ?_
  refine j_getP (b := 7) dX8_copy_124 rfl fX8_46 rfl (by decide) rfl rfl ?_
  refine j_iconst (v := nI 0) dX8_copy_127 rfl rfl ?_
  refine j_aload_n dX8_copy_128 rfl rfl rfl ?_
  refine j_getP (b := 61) dX8_copy_129 rfl fX8_46 rfl (by decide) rfl rfl ?_
  refine j_iconst (v := nI 0) dX8_copy_132 rfl rfl ?_
  refine j_bipush (v := nI 8) dX8_copy_133 rfl rfl ?_
  refine j_copy (sp := 0) (dp := 0) (cn := 8) dX8_copy_135 rfl cX8_65 jvw_an jvw_as jvw_ai rfl rfl (by decide) (by decide) rfl rfl rfl (by decide) (by decide) (by decide) (by decide) (by decide) ?_
  obtain ⟨I6, hI6⟩ : ∃ H, H = ur I5 61 (va_cpy (I5 7) (I5 61) 0 0 8) := ⟨_, rfl⟩
  rw [← hI6]
  refine j_aload_n dX8_copy_138 rfl rfl rfl ?_
  refine j_getP (b := 8) dX8_copy_139 rfl fX8_49 rfl (by decide) rfl rfl ?_
  refine j_iconst (v := nI 0) dX8_copy_142 rfl rfl ?_
  refine j_aload_n dX8_copy_143 rfl rfl rfl ?_
  refine j_getP (b := 62) dX8_copy_144 rfl fX8_49 rfl (by decide) rfl rfl ?_
  refine j_iconst (v := nI 0) dX8_copy_147 rfl rfl ?_
  refine j_bipush (v := nI 8) dX8_copy_148 rfl rfl ?_
  refine j_copy (sp := 0) (dp := 0) (cn := 8) dX8_copy_150 rfl cX8_65 jvw_an jvw_as jvw_ai rfl rfl (by decide) (by decide) rfl rfl rfl (by decide) (by decide) (by decide) (by decide) (by decide) ?_
  obtain ⟨I7, hI7⟩ : ∃ H, H = ur I6 62 (va_cpy (I6 8) (I6 62) 0 0 8) := ⟨_, rfl⟩
  rw [← hI7]
  refine j_aload_n dX8_copy_153 rfl rfl rfl ?_
  refine j_getP (b := 9) dX8_copy_154 rfl fX8_52 rfl (by decide) rfl rfl ?_
  refine j_iconst (v := nI 0) dX8_copy_157 rfl rfl ?_
  refine j_aload_n dX8_copy_158 rfl rfl rfl ?_
  refine j_getP (b := 63) dX8_copy_159 rfl fX8_52 rfl (by decide) rfl rfl ?_
  refine j_iconst (v := nI 0) dX8_copy_162 rfl rfl ?_
  refine j_bipush (v := nI 8) dX8_copy_163 rfl rfl ?_
  refine j_copy (sp := 0) (dp := 0) (cn := 8) dX8_copy_165 rfl cX8_65 jvw_an jvw_as jvw_ai rfl rfl (by decide) (by decide) rfl rfl rfl (by decide) (by decide) (by decide) (by decide) (by decide) ?_
  obtain ⟨I8, hI8⟩ : ∃ H, H = ur I7 63 (va_cpy (I7 9) (I7 63) 0 0 8) := ⟨_, rfl⟩
  rw [← hI8]
  refine j_aload_n dX8_copy_168 rfl rfl rfl ?_
  refine j_getP (b := 64) dX8_copy_169 rfl fX8_58 rfl (by decide) rfl rfl ?_
  refine j_aload_n dX8_copy_172 rfl rfl rfl ?_
  refine j_getP (b := 10) dX8_copy_173 rfl fX8_58 rfl (by decide) rfl rfl ?_
  refine j_callVw (As := [.ref 10]) dX8_copy_176 rfl cX8_71 (by decide) rfl rfl (by decide) rfl (by decide) rfl rfl (c_pcopy55_1 (fun I9 e1 e2 e3 e4 => ?_))
  show Rj _ _ _ _ _ _ 179 [.ref 55, .ref 1] [] n I9 J (Pg i0 i1)
  refine j_vret dX8_copy_179 rfl ?_
  have r0 : ∀ q, q < 6 → I9 56 q = I 2 q := fun q hq => by
    rw [e4 56 (by omega) (by omega), hI8, ur_ne _ _ (by omega), hI7, ur_ne _ _ (by omega), hI6, ur_ne _ _ (by omega), hI5, ur_ne _ _ (by omega), hI4, ur_ne _ _ (by omega), hI3, ur_ne _ _ (by omega), hI2, ur_ne _ _ (by omega), hI1, ur_row, pk_cpy_in (Nat.zero_le _) (by omega), hIa, u2_ne _ _ _ (by omega), u2_ne _ _ _ (by omega), u2_ne _ _ _ (by omega), u2_ne _ _ _ (by omega), u2_ne _ _ _ (by omega), u2_ne _ _ _ (by omega)]
    congr 1; omega
  have r1 : ∀ q, q < 6 → I9 57 q = I 3 q := fun q hq => by
    rw [e4 57 (by omega) (by omega), hI8, ur_ne _ _ (by omega), hI7, ur_ne _ _ (by omega), hI6, ur_ne _ _ (by omega), hI5, ur_ne _ _ (by omega), hI4, ur_ne _ _ (by omega), hI3, ur_ne _ _ (by omega), hI2, ur_row, pk_cpy_in (Nat.zero_le _) (by omega), hI1, ur_ne _ _ (by omega), hIa, u2_ne _ _ _ (by omega), u2_ne _ _ _ (by omega), u2_ne _ _ _ (by omega), u2_ne _ _ _ (by omega), u2_ne _ _ _ (by omega), u2_ne _ _ _ (by omega)]
    congr 1; omega
  have r2 : ∀ q, q < 6 → I9 58 q = I 4 q := fun q hq => by
    rw [e4 58 (by omega) (by omega), hI8, ur_ne _ _ (by omega), hI7, ur_ne _ _ (by omega), hI6, ur_ne _ _ (by omega), hI5, ur_ne _ _ (by omega), hI4, ur_ne _ _ (by omega), hI3, ur_row, pk_cpy_in (Nat.zero_le _) (by omega), hI2, ur_ne _ _ (by omega), hI1, ur_ne _ _ (by omega), hIa, u2_ne _ _ _ (by omega), u2_ne _ _ _ (by omega), u2_ne _ _ _ (by omega), u2_ne _ _ _ (by omega), u2_ne _ _ _ (by omega), u2_ne _ _ _ (by omega)]
    congr 1; omega
  have r3 : ∀ q, q < 6 → I9 59 q = I 5 q := fun q hq => by
    rw [e4 59 (by omega) (by omega), hI8, ur_ne _ _ (by omega), hI7, ur_ne _ _ (by omega), hI6, ur_ne _ _ (by omega), hI5, ur_ne _ _ (by omega), hI4, ur_row, pk_cpy_in (Nat.zero_le _) (by omega), hI3, ur_ne _ _ (by omega), hI2, ur_ne _ _ (by omega), hI1, ur_ne _ _ (by omega), hIa, u2_ne _ _ _ (by omega), u2_ne _ _ _ (by omega), u2_ne _ _ _ (by omega), u2_ne _ _ _ (by omega), u2_ne _ _ _ (by omega), u2_ne _ _ _ (by omega)]
    congr 1; omega
  have r4 : ∀ q, q < 8 → I9 60 q = I 6 q := fun q hq => by
    rw [e4 60 (by omega) (by omega), hI8, ur_ne _ _ (by omega), hI7, ur_ne _ _ (by omega), hI6, ur_ne _ _ (by omega), hI5, ur_row, pk_cpy_in (Nat.zero_le _) (by omega), hI4, ur_ne _ _ (by omega), hI3, ur_ne _ _ (by omega), hI2, ur_ne _ _ (by omega), hI1, ur_ne _ _ (by omega), hIa, u2_ne _ _ _ (by omega), u2_ne _ _ _ (by omega), u2_ne _ _ _ (by omega), u2_ne _ _ _ (by omega), u2_ne _ _ _ (by omega), u2_ne _ _ _ (by omega)]
    congr 1; omega
  have r5 : ∀ q, q < 8 → I9 61 q = I 7 q := fun q hq => by
    rw [e4 61 (by omega) (by omega), hI8, ur_ne _ _ (by omega), hI7, ur_ne _ _ (by omega), hI6, ur_row, pk_cpy_in (Nat.zero_le _) (by omega), hI5, ur_ne _ _ (by omega), hI4, ur_ne _ _ (by omega), hI3, ur_ne _ _ (by omega), hI2, ur_ne _ _ (by omega), hI1, ur_ne _ _ (by omega), hIa, u2_ne _ _ _ (by omega), u2_ne _ _ _ (by omega), u2_ne _ _ _ (by omega), u2_ne _ _ _ (by omega), u2_ne _ _ _ (by omega), u2_ne _ _ _ (by omega)]
    congr 1; omega
  have r6 : ∀ q, q < 8 → I9 62 q = I 8 q := fun q hq => by
    rw [e4 62 (by omega) (by omega), hI8, ur_ne _ _ (by omega), hI7, ur_row, pk_cpy_in (Nat.zero_le _) (by omega), hI6, ur_ne _ _ (by omega), hI5, ur_ne _ _ (by omega), hI4, ur_ne _ _ (by omega), hI3, ur_ne _ _ (by omega), hI2, ur_ne _ _ (by omega), hI1, ur_ne _ _ (by omega), hIa, u2_ne _ _ _ (by omega), u2_ne _ _ _ (by omega), u2_ne _ _ _ (by omega), u2_ne _ _ _ (by omega), u2_ne _ _ _ (by omega), u2_ne _ _ _ (by omega)]
    congr 1; omega
  have r7 : ∀ q, q < 8 → I9 63 q = I 9 q := fun q hq => by
    rw [e4 63 (by omega) (by omega), hI8, ur_row, pk_cpy_in (Nat.zero_le _) (by omega), hI7, ur_ne _ _ (by omega), hI6, ur_ne _ _ (by omega), hI5, ur_ne _ _ (by omega), hI4, ur_ne _ _ (by omega), hI3, ur_ne _ _ (by omega), hI2, ur_ne _ _ (by omega), hI1, ur_ne _ _ (by omega), hIa, u2_ne _ _ _ (by omega), u2_ne _ _ _ (by omega), u2_ne _ _ _ (by omega), u2_ne _ _ _ (by omega), u2_ne _ _ _ (by omega), u2_ne _ _ _ (by omega)]
    congr 1; omega
  have rs : I9 55 = Ia 55 := by rw [e4 55 (by omega) (by omega), hI8, ur_ne _ _ (by omega), hI7, ur_ne _ _ (by omega), hI6, ur_ne _ _ (by omega), hI5, ur_ne _ _ (by omega), hI4, ur_ne _ _ (by omega), hI3, ur_ne _ _ (by omega), hI2, ur_ne _ _ (by omega), hI1, ur_ne _ _ (by omega)]
  have ro : ∀ a, (a < 55 ∨ 65 < a) → I9 a = I a := fun a ha => by rw [e4 a (by omega) (by omega), hI8, ur_ne _ _ (by omega), hI7, ur_ne _ _ (by omega), hI6, ur_ne _ _ (by omega), hI5, ur_ne _ _ (by omega), hI4, ur_ne _ _ (by omega), hI3, ur_ne _ _ (by omega), hI2, ur_ne _ _ (by omega), hI1, ur_ne _ _ (by omega), hIa, u2_ne _ _ _ (by omega), u2_ne _ _ _ (by omega), u2_ne _ _ _ (by omega), u2_ne _ _ _ (by omega), u2_ne _ _ _ (by omega), u2_ne _ _ _ (by omega)]
  have p10 : I8 11 = I 11 := by rw [hI8, ur_ne _ _ (by omega), hI7, ur_ne _ _ (by omega), hI6, ur_ne _ _ (by omega), hI5, ur_ne _ _ (by omega), hI4, ur_ne _ _ (by omega), hI3, ur_ne _ _ (by omega), hI2, ur_ne _ _ (by omega), hI1, ur_ne _ _ (by omega), hIa, u2_ne _ _ _ (by omega), u2_ne _ _ _ (by omega), u2_ne _ _ _ (by omega), u2_ne _ _ _ (by omega), u2_ne _ _ _ (by omega), u2_ne _ _ _ (by omega)]
  have p9 : I8 10 = I 10 := by rw [hI8, ur_ne _ _ (by omega), hI7, ur_ne _ _ (by omega), hI6, ur_ne _ _ (by omega), hI5, ur_ne _ _ (by omega), hI4, ur_ne _ _ (by omega), hI3, ur_ne _ _ (by omega), hI2, ur_ne _ _ (by omega), hI1, ur_ne _ _ (by omega), hIa, u2_ne _ _ _ (by omega), u2_ne _ _ _ (by omega), u2_ne _ _ _ (by omega), u2_ne _ _ _ (by omega), u2_ne _ _ _ (by omega), u2_ne _ _ _ (by omega)]
  obtain ⟨⟨s0, s1, s2, s3, s4, s5⟩, hp1, hk1, hc1, fr, hfr, hf1, hf2, hj⟩ := id hV
  refine hQ _ ⟨⟨?_, ?_, ?_, ?_, ?_, ?_⟩, fun p hp => ?_, fun k hk => ?_, fun c hc => ?_, fr, hfr, ?_, ?_, fun j hjj => ?_⟩ ro
  · rw [rs, hIa]; exact s0
  · rw [rs, hIa]; exact s1
  · rw [rs, hIa]; exact s2
  · rw [rs, hIa]; exact s3
  · rw [rs, hIa]; exact s4
  · rw [rs, hIa]; exact s5
  · obtain ⟨g1, g2, g3, g4⟩ := hp1 p hp
    exact ⟨(r0 p (by omega)).trans g1, (r1 p (by omega)).trans g2, (r2 p (by omega)).trans g3, (r3 p (by omega)).trans g4⟩
  · exact (r4 k (by omega)).trans (hk1 k hk)
  · obtain ⟨g1, g2, g3⟩ := hc1 c hc
    exact ⟨(r5 c (by omega)).trans g1, (r6 c (by omega)).trans g2, (r7 c (by omega)).trans g3⟩
  · exact e2.trans (by rw [p9]; exact hf1)
  · exact e3.trans (by rw [p9]; exact hf2)
  · have hm : (fr + 7 - j) % 8 < 8 := Nat.mod_lt _ (by omega)
    obtain ⟨g0, g⟩ := hj j hjj
    generalize (fr + 7 - j) % 8 = r at hm g0 g ⊢
    refine ⟨(e1 _ (by omega)).trans (by rw [p10]; exact g0), fun p hp => ?_⟩
    obtain ⟨g1, g2⟩ := g p hp
    exact ⟨(e1 _ (by omega)).trans (by rw [p10]; exact g1), (e1 _ (by omega)).trans (by rw [p10]; exact g2)⟩
