/-- the sign k of the i-th text constant -/
def chS (i k : Nat) : Nat := ((([[118, 97, 108, 108, 101, 121], [100, 97, 109, 112], [100, 114, 121], [112, 97, 105, 114], [107, 105, 110]] : List (List Nat)).getD i []).getD k 0)
theorem chS_ok : ∀ i, i < 5 → ∀ k, k < jv_len.getD i 0 → ((((jv_byt.getD i []).getD k 0 &&& nI 255).toUInt32 % 65536).toInt32 = nI (chS i k) ∧ chS i k < 128) := by decide +kernel
set_option maxHeartbeats 4000000 in
set_option maxRecDepth 100000 in
theorem c_preN {X : jX} {d n : Nat} {I : HI} {J : HJ} {P : HP} {Q : jPost} {k l : Nat} (hk : k < l) (hl : l < 2 ^ 31) (hQ : Q (some (.int (nI k))) n I J P) : Cj X d 0 0 mJ3_checkIndex_8e157 [.int (nI k), .int (nI l), .null] n I J P Q := by
  refine Cj.intro rfl (Nat.le_of_ble_eq_true rfl) (L := [.int (nI k), .int (nI l), .null]) rfl ?_
  refine j_iload_n dJ3_checkIndex_8e157_0 rfl rfl rfl ?_
  refine j_iflt (tgt := 9) dJ3_checkIndex_8e157_1 rfl rfl (fun q => absurd q (nI_pos (by omega))) (fun _ => ?_)
  refine j_iload_n dJ3_checkIndex_8e157_4 rfl rfl rfl ?_
  refine j_iload_n dJ3_checkIndex_8e157_5 rfl rfl rfl ?_
  refine j_icmpltN (tgt := 16) dJ3_checkIndex_8e157_6 rfl rfl (by omega) (by omega) (fun h1 => ?_) (fun h1 => by exfalso; omega)
  refine j_iload_n dJ3_checkIndex_8e157_16 rfl rfl rfl ?_
  refine j_iret dJ3_checkIndex_8e157_17 rfl rfl ?_
  exact hQ
set_option maxHeartbeats 4000000 in
set_option maxRecDepth 100000 in
theorem c_preR {X : jX} {d n : Nat} {I : HI} {J : HJ} {P : HP} {Q : jPost} {k l : Nat} (hk : k < l) (hl : l < 2 ^ 31) (hQ : Q (some (.int (nI k))) n I J P) : Cj X d 0 0 mJ3_checkIndex_8e157 [.int (nI k), .int (nI l), .ref 1300] n I J P Q := by
  refine Cj.intro rfl (Nat.le_of_ble_eq_true rfl) (L := [.int (nI k), .int (nI l), .ref 1300]) rfl ?_
  refine j_iload_n dJ3_checkIndex_8e157_0 rfl rfl rfl ?_
  refine j_iflt (tgt := 9) dJ3_checkIndex_8e157_1 rfl rfl (fun q => absurd q (nI_pos (by omega))) (fun _ => ?_)
  refine j_iload_n dJ3_checkIndex_8e157_4 rfl rfl rfl ?_
  refine j_iload_n dJ3_checkIndex_8e157_5 rfl rfl rfl ?_
  refine j_icmpltN (tgt := 16) dJ3_checkIndex_8e157_6 rfl rfl (by omega) (by omega) (fun h1 => ?_) (fun h1 => by exfalso; omega)
  refine j_iload_n dJ3_checkIndex_8e157_16 rfl rfl rfl ?_
  refine j_iret dJ3_checkIndex_8e157_17 rfl rfl ?_
  exact hQ
set_option maxHeartbeats 4000000 in
set_option maxRecDepth 100000 in
theorem c_sci {X : jX} {d n : Nat} {I : HI} {J : HJ} {P : HP} {Q : jPost} {k l : Nat} (hk : k < l) (hl : l < 2 ^ 31) (hQ : Q none n I J P) : Cj X (d + 1) 0 0 mJ0_checkIndex_df160 [.int (nI k), .int (nI l)] n I J P Q := by
  refine Cj.intro rfl (Nat.le_of_ble_eq_true rfl) (L := [.int (nI k), .int (nI l)]) rfl ?_
  refine j_iload_n dJ0_checkIndex_df160_0 rfl rfl rfl ?_
  refine j_iload_n dJ0_checkIndex_df160_1 rfl rfl rfl ?_
  refine j_getsF dJ0_checkIndex_df160_2 rfl fJ0_1053 ?_ ?_
  · refine j_callSw (As := [.int (nI k), .int (nI l), .null]) dJ0_checkIndex_df160_5 rfl cJ0_1059 rfl (by decide) rfl rfl (c_preN (by omega) (by omega) ?_)
    show Rj _ _ _ _ _ _ 8 [.int (nI k), .int (nI l)] [.int (nI k)] n I J P
    refine j_pop dJ0_checkIndex_df160_8 rfl rfl ?_
    refine j_vret dJ0_checkIndex_df160_9 rfl ?_
    exact hQ
  · refine j_callSw (As := [.int (nI k), .int (nI l), .ref 1300]) dJ0_checkIndex_df160_5 rfl cJ0_1059 rfl (by decide) rfl rfl (c_preR (by omega) (by omega) ?_)
    show Rj _ _ _ _ _ _ 8 [.int (nI k), .int (nI l)] [.int (nI k)] n I J P
    refine j_pop dJ0_checkIndex_df160_8 rfl rfl ?_
    refine j_vret dJ0_checkIndex_df160_9 rfl ?_
    exact hQ
set_option maxHeartbeats 4000000 in
set_option maxRecDepth 100000 in
theorem c_coder0 {X : jX} {d n : Nat} {I : HI} {J : HJ} {P : HP} {Q : jPost}  (hQ : Q (some (.int (nI 0))) n I J P) : Cj X d 0 0 mJ0_coder_7d493 [.ref 1000] n I J P Q := by
  refine Cj.intro rfl (Nat.le_of_ble_eq_true rfl) (L := [.ref 1000]) rfl ?_
  refine j_getsC dJ0_coder_7d493_0 rfl fJ0_38 ?_
  show Rj _ _ _ _ _ _ 3 [.ref 1000] [.int (nI 1)] n I J P
  refine j_ifeqN (tgt := 13) dJ0_coder_7d493_3 rfl rfl (by decide) (fun h1 => by exfalso; omega) (fun h1 => ?_)
  refine j_aload_n dJ0_coder_7d493_6 rfl rfl rfl ?_
  refine j_getSC (i := 0) (by decide) dJ0_coder_7d493_7 rfl fJ0_15 ?_
  show Rj _ _ _ _ _ _ 10 [.ref 1000] [.int (nI 0)] n I J P
  refine j_goto (tgt := 14) dJ0_coder_7d493_10 rfl ?_
  refine j_iret dJ0_coder_7d493_14 rfl rfl ?_
  exact hQ
set_option maxHeartbeats 4000000 in
set_option maxRecDepth 100000 in
theorem c_latin0 {X : jX} {d n : Nat} {I : HI} {J : HJ} {P : HP} {Q : jPost}  (hQ : Q (some (.int (nI 1))) n I J P) : Cj X d 0 0 mJ0_isLatin1_aae02 [.ref 1000] n I J P Q := by
  refine Cj.intro rfl (Nat.le_of_ble_eq_true rfl) (L := [.ref 1000]) rfl ?_
  refine j_getsC dJ0_isLatin1_aae02_0 rfl fJ0_38 ?_
  show Rj _ _ _ _ _ _ 3 [.ref 1000] [.int (nI 1)] n I J P
  refine j_ifeqN (tgt := 17) dJ0_isLatin1_aae02_3 rfl rfl (by decide) (fun h1 => by exfalso; omega) (fun h1 => ?_)
  refine j_aload_n dJ0_isLatin1_aae02_6 rfl rfl rfl ?_
  refine j_getSC (i := 0) (by decide) dJ0_isLatin1_aae02_7 rfl fJ0_15 ?_
  show Rj _ _ _ _ _ _ 10 [.ref 1000] [.int (nI 0)] n I J P
  refine j_ifneN (tgt := 17) dJ0_isLatin1_aae02_10 rfl rfl (by decide) (fun h2 => by exfalso; omega) (fun h2 => ?_)
  refine j_iconst (v := nI 1) dJ0_isLatin1_aae02_13 rfl rfl ?_
  refine j_goto (tgt := 18) dJ0_isLatin1_aae02_14 rfl ?_
  refine j_iret dJ0_isLatin1_aae02_18 rfl rfl ?_
  exact hQ
set_option maxHeartbeats 4000000 in
set_option maxRecDepth 100000 in
theorem c_lch0 {X : jX} {d n : Nat} {I : HI} {J : HJ} {P : HP} {Q : jPost} {k : Nat} (hk : k < 6) (hQ : Q (some (.int (nI (chS 0 k)))) n I J P) : Cj X (d + 2) 0 0 mJ1_charAt_3b067 [.ref 1100, .int (nI k)] n I J P Q := by
  refine Cj.intro rfl (Nat.le_of_ble_eq_true rfl) (L := [.ref 1100, .int (nI k)]) rfl ?_
  obtain ⟨hc1, hc2⟩ := chS_ok 0 (by decide) k hk
  refine j_iload_n dJ1_charAt_3b067_0 rfl rfl rfl ?_
  refine j_aload_n dJ1_charAt_3b067_1 rfl rfl rfl ?_
  refine j_blen (i := 0) (by decide) dJ1_charAt_3b067_2 rfl ?_
  show Rj _ _ _ _ _ _ 3 [.ref 1100, .int (nI k)] [.int (nI 6), .int (nI k)] n I J P
  refine j_callSw (As := [.int (nI k), .int (nI 6)]) dJ1_charAt_3b067_3 rfl cJ1_9 rfl (by decide) rfl rfl (c_sci (by omega) (by omega) ?_)
  show Rj _ _ _ _ _ _ 6 [.ref 1100, .int (nI k)] [] n I J P
  refine j_aload_n dJ1_charAt_3b067_6 rfl rfl rfl ?_
  refine j_iload_n dJ1_charAt_3b067_7 rfl rfl rfl ?_
  refine j_bld (i := 0) (by decide) dJ1_charAt_3b067_8 rfl (jin (j := k) rfl hk (by decide)).1 ?_
  rw [(jin (j := k) rfl hk (show 6 < 2 ^ 31 by decide)).2]
  refine j_sipush (v := nI 255) dJ1_charAt_3b067_9 rfl rfl ?_
  refine j_iand dJ1_charAt_3b067_12 rfl ?_
  refine j_i2c (v := nI (chS 0 k)) dJ1_charAt_3b067_13 rfl hc1 ?_
  refine j_iret dJ1_charAt_3b067_14 rfl (pk_charN (by omega)).1 ?_
  exact hQ
set_option maxHeartbeats 4000000 in
set_option maxRecDepth 100000 in
theorem c_len0 {X : jX} {d n : Nat} {I : HI} {J : HJ} {P : HP} {Q : jPost}  (hQ : Q (some (.int (nI 6))) n I J P) : Cj X (d + 1) 0 0 mJ0_length_8abf5 [.ref 1000] n I J P Q := by
  refine Cj.intro rfl (Nat.le_of_ble_eq_true rfl) (L := [.ref 1000]) rfl ?_
  refine j_aload_n dJ0_length_8abf5_0 rfl rfl rfl ?_
  refine j_getSV (i := 0) (by decide) dJ0_length_8abf5_1 rfl fJ0_9 ?_
  refine j_blen (i := 0) (by decide) dJ0_length_8abf5_4 rfl ?_
  show Rj _ _ _ _ _ _ 5 [.ref 1000] [.int (nI 6)] n I J P
  refine j_aload_n dJ0_length_8abf5_5 rfl rfl rfl ?_
  refine j_callVSw (i := 0) (As := []) (by decide) dJ0_length_8abf5_6 rfl cJ0_335 rfl rfl (Nat.le_of_ble_eq_true rfl) rfl rfl (c_coder0 ?_)
  show Rj _ _ _ _ _ _ 9 [.ref 1000] [.int (nI 0), .int (nI 6)] n I J P
  refine j_ishrN (c := 6 / 2 ^ 0) dJ0_length_8abf5_9 rfl (by omega) (by omega) rfl ?_
  show Rj _ _ _ _ _ _ 10 [.ref 1000] [.int (nI 6)] n I J P
  refine j_iret dJ0_length_8abf5_10 rfl rfl ?_
  exact hQ
set_option maxHeartbeats 4000000 in
set_option maxRecDepth 100000 in
theorem c_chr0 {X : jX} {d n : Nat} {I : HI} {J : HJ} {P : HP} {Q : jPost} {k : Nat} (hk : k < 6) (hQ : Q (some (.int (nI (chS 0 k)))) n I J P) : Cj X (d + 3) 0 0 mJ0_charAt_5068e [.ref 1000, .int (nI k)] n I J P Q := by
  refine Cj.intro rfl (Nat.le_of_ble_eq_true rfl) (L := [.ref 1000, .int (nI k)]) rfl ?_
  obtain ⟨hc1, hc2⟩ := chS_ok 0 (by decide) k hk
  refine j_aload_n dJ0_charAt_5068e_0 rfl rfl rfl ?_
  refine j_callVSw (i := 0) (As := []) (by decide) dJ0_charAt_5068e_1 rfl cJ0_492 rfl rfl (by decide) rfl rfl (c_latin0 ?_)
  show Rj _ _ _ _ _ _ 4 [.ref 1000, .int (nI k)] [.int (nI 1)] n I J P
  refine j_ifeqN (tgt := 16) dJ0_charAt_5068e_4 rfl rfl (by decide) (fun h1 => by exfalso; omega) (fun h1 => ?_)
  refine j_aload_n dJ0_charAt_5068e_7 rfl rfl rfl ?_
  refine j_getSV (i := 0) (by decide) dJ0_charAt_5068e_8 rfl fJ0_9 ?_
  refine j_iload_n dJ0_charAt_5068e_11 rfl rfl rfl ?_
  refine j_callSw (As := [.ref 1100, .int (nI k)]) dJ0_charAt_5068e_12 rfl cJ0_495 rfl (by decide) rfl rfl (c_lch0 (by omega) ?_)
  show Rj _ _ _ _ _ _ 15 [.ref 1000, .int (nI k)] [.int (nI (chS 0 k))] n I J P
  refine j_iret dJ0_charAt_5068e_15 rfl (pk_charN (by omega)).1 ?_
  exact hQ
set_option maxHeartbeats 4000000 in
set_option maxRecDepth 100000 in
theorem c_coder1 {X : jX} {d n : Nat} {I : HI} {J : HJ} {P : HP} {Q : jPost}  (hQ : Q (some (.int (nI 0))) n I J P) : Cj X d 0 0 mJ0_coder_7d493 [.ref 1001] n I J P Q := by
  refine Cj.intro rfl (Nat.le_of_ble_eq_true rfl) (L := [.ref 1001]) rfl ?_
  refine j_getsC dJ0_coder_7d493_0 rfl fJ0_38 ?_
  show Rj _ _ _ _ _ _ 3 [.ref 1001] [.int (nI 1)] n I J P
  refine j_ifeqN (tgt := 13) dJ0_coder_7d493_3 rfl rfl (by decide) (fun h1 => by exfalso; omega) (fun h1 => ?_)
  refine j_aload_n dJ0_coder_7d493_6 rfl rfl rfl ?_
  refine j_getSC (i := 1) (by decide) dJ0_coder_7d493_7 rfl fJ0_15 ?_
  show Rj _ _ _ _ _ _ 10 [.ref 1001] [.int (nI 0)] n I J P
  refine j_goto (tgt := 14) dJ0_coder_7d493_10 rfl ?_
  refine j_iret dJ0_coder_7d493_14 rfl rfl ?_
  exact hQ
set_option maxHeartbeats 4000000 in
set_option maxRecDepth 100000 in
theorem c_latin1 {X : jX} {d n : Nat} {I : HI} {J : HJ} {P : HP} {Q : jPost}  (hQ : Q (some (.int (nI 1))) n I J P) : Cj X d 0 0 mJ0_isLatin1_aae02 [.ref 1001] n I J P Q := by
  refine Cj.intro rfl (Nat.le_of_ble_eq_true rfl) (L := [.ref 1001]) rfl ?_
  refine j_getsC dJ0_isLatin1_aae02_0 rfl fJ0_38 ?_
  show Rj _ _ _ _ _ _ 3 [.ref 1001] [.int (nI 1)] n I J P
  refine j_ifeqN (tgt := 17) dJ0_isLatin1_aae02_3 rfl rfl (by decide) (fun h1 => by exfalso; omega) (fun h1 => ?_)
  refine j_aload_n dJ0_isLatin1_aae02_6 rfl rfl rfl ?_
  refine j_getSC (i := 1) (by decide) dJ0_isLatin1_aae02_7 rfl fJ0_15 ?_
  show Rj _ _ _ _ _ _ 10 [.ref 1001] [.int (nI 0)] n I J P
  refine j_ifneN (tgt := 17) dJ0_isLatin1_aae02_10 rfl rfl (by decide) (fun h2 => by exfalso; omega) (fun h2 => ?_)
  refine j_iconst (v := nI 1) dJ0_isLatin1_aae02_13 rfl rfl ?_
  refine j_goto (tgt := 18) dJ0_isLatin1_aae02_14 rfl ?_
  refine j_iret dJ0_isLatin1_aae02_18 rfl rfl ?_
  exact hQ
set_option maxHeartbeats 4000000 in
set_option maxRecDepth 100000 in
theorem c_lch1 {X : jX} {d n : Nat} {I : HI} {J : HJ} {P : HP} {Q : jPost} {k : Nat} (hk : k < 4) (hQ : Q (some (.int (nI (chS 1 k)))) n I J P) : Cj X (d + 2) 0 0 mJ1_charAt_3b067 [.ref 1101, .int (nI k)] n I J P Q := by
  refine Cj.intro rfl (Nat.le_of_ble_eq_true rfl) (L := [.ref 1101, .int (nI k)]) rfl ?_
  obtain ⟨hc1, hc2⟩ := chS_ok 1 (by decide) k hk
  refine j_iload_n dJ1_charAt_3b067_0 rfl rfl rfl ?_
  refine j_aload_n dJ1_charAt_3b067_1 rfl rfl rfl ?_
  refine j_blen (i := 1) (by decide) dJ1_charAt_3b067_2 rfl ?_
  show Rj _ _ _ _ _ _ 3 [.ref 1101, .int (nI k)] [.int (nI 4), .int (nI k)] n I J P
  refine j_callSw (As := [.int (nI k), .int (nI 4)]) dJ1_charAt_3b067_3 rfl cJ1_9 rfl (by decide) rfl rfl (c_sci (by omega) (by omega) ?_)
  show Rj _ _ _ _ _ _ 6 [.ref 1101, .int (nI k)] [] n I J P
  refine j_aload_n dJ1_charAt_3b067_6 rfl rfl rfl ?_
  refine j_iload_n dJ1_charAt_3b067_7 rfl rfl rfl ?_
  refine j_bld (i := 1) (by decide) dJ1_charAt_3b067_8 rfl (jin (j := k) rfl hk (by decide)).1 ?_
  rw [(jin (j := k) rfl hk (show 4 < 2 ^ 31 by decide)).2]
  refine j_sipush (v := nI 255) dJ1_charAt_3b067_9 rfl rfl ?_
  refine j_iand dJ1_charAt_3b067_12 rfl ?_
  refine j_i2c (v := nI (chS 1 k)) dJ1_charAt_3b067_13 rfl hc1 ?_
  refine j_iret dJ1_charAt_3b067_14 rfl (pk_charN (by omega)).1 ?_
  exact hQ
set_option maxHeartbeats 4000000 in
set_option maxRecDepth 100000 in
theorem c_len1 {X : jX} {d n : Nat} {I : HI} {J : HJ} {P : HP} {Q : jPost}  (hQ : Q (some (.int (nI 4))) n I J P) : Cj X (d + 1) 0 0 mJ0_length_8abf5 [.ref 1001] n I J P Q := by
  refine Cj.intro rfl (Nat.le_of_ble_eq_true rfl) (L := [.ref 1001]) rfl ?_
  refine j_aload_n dJ0_length_8abf5_0 rfl rfl rfl ?_
  refine j_getSV (i := 1) (by decide) dJ0_length_8abf5_1 rfl fJ0_9 ?_
  refine j_blen (i := 1) (by decide) dJ0_length_8abf5_4 rfl ?_
  show Rj _ _ _ _ _ _ 5 [.ref 1001] [.int (nI 4)] n I J P
  refine j_aload_n dJ0_length_8abf5_5 rfl rfl rfl ?_
  refine j_callVSw (i := 1) (As := []) (by decide) dJ0_length_8abf5_6 rfl cJ0_335 rfl rfl (Nat.le_of_ble_eq_true rfl) rfl rfl (c_coder1 ?_)
  show Rj _ _ _ _ _ _ 9 [.ref 1001] [.int (nI 0), .int (nI 4)] n I J P
  refine j_ishrN (c := 4 / 2 ^ 0) dJ0_length_8abf5_9 rfl (by omega) (by omega) rfl ?_
  show Rj _ _ _ _ _ _ 10 [.ref 1001] [.int (nI 4)] n I J P
  refine j_iret dJ0_length_8abf5_10 rfl rfl ?_
  exact hQ
set_option maxHeartbeats 4000000 in
set_option maxRecDepth 100000 in
theorem c_chr1 {X : jX} {d n : Nat} {I : HI} {J : HJ} {P : HP} {Q : jPost} {k : Nat} (hk : k < 4) (hQ : Q (some (.int (nI (chS 1 k)))) n I J P) : Cj X (d + 3) 0 0 mJ0_charAt_5068e [.ref 1001, .int (nI k)] n I J P Q := by
  refine Cj.intro rfl (Nat.le_of_ble_eq_true rfl) (L := [.ref 1001, .int (nI k)]) rfl ?_
  obtain ⟨hc1, hc2⟩ := chS_ok 1 (by decide) k hk
  refine j_aload_n dJ0_charAt_5068e_0 rfl rfl rfl ?_
  refine j_callVSw (i := 1) (As := []) (by decide) dJ0_charAt_5068e_1 rfl cJ0_492 rfl rfl (by decide) rfl rfl (c_latin1 ?_)
  show Rj _ _ _ _ _ _ 4 [.ref 1001, .int (nI k)] [.int (nI 1)] n I J P
  refine j_ifeqN (tgt := 16) dJ0_charAt_5068e_4 rfl rfl (by decide) (fun h1 => by exfalso; omega) (fun h1 => ?_)
  refine j_aload_n dJ0_charAt_5068e_7 rfl rfl rfl ?_
  refine j_getSV (i := 1) (by decide) dJ0_charAt_5068e_8 rfl fJ0_9 ?_
  refine j_iload_n dJ0_charAt_5068e_11 rfl rfl rfl ?_
  refine j_callSw (As := [.ref 1101, .int (nI k)]) dJ0_charAt_5068e_12 rfl cJ0_495 rfl (by decide) rfl rfl (c_lch1 (by omega) ?_)
  show Rj _ _ _ _ _ _ 15 [.ref 1001, .int (nI k)] [.int (nI (chS 1 k))] n I J P
  refine j_iret dJ0_charAt_5068e_15 rfl (pk_charN (by omega)).1 ?_
  exact hQ
set_option maxHeartbeats 4000000 in
set_option maxRecDepth 100000 in
theorem c_coder2 {X : jX} {d n : Nat} {I : HI} {J : HJ} {P : HP} {Q : jPost}  (hQ : Q (some (.int (nI 0))) n I J P) : Cj X d 0 0 mJ0_coder_7d493 [.ref 1002] n I J P Q := by
  refine Cj.intro rfl (Nat.le_of_ble_eq_true rfl) (L := [.ref 1002]) rfl ?_
  refine j_getsC dJ0_coder_7d493_0 rfl fJ0_38 ?_
  show Rj _ _ _ _ _ _ 3 [.ref 1002] [.int (nI 1)] n I J P
  refine j_ifeqN (tgt := 13) dJ0_coder_7d493_3 rfl rfl (by decide) (fun h1 => by exfalso; omega) (fun h1 => ?_)
  refine j_aload_n dJ0_coder_7d493_6 rfl rfl rfl ?_
  refine j_getSC (i := 2) (by decide) dJ0_coder_7d493_7 rfl fJ0_15 ?_
  show Rj _ _ _ _ _ _ 10 [.ref 1002] [.int (nI 0)] n I J P
  refine j_goto (tgt := 14) dJ0_coder_7d493_10 rfl ?_
  refine j_iret dJ0_coder_7d493_14 rfl rfl ?_
  exact hQ
set_option maxHeartbeats 4000000 in
set_option maxRecDepth 100000 in
theorem c_latin2 {X : jX} {d n : Nat} {I : HI} {J : HJ} {P : HP} {Q : jPost}  (hQ : Q (some (.int (nI 1))) n I J P) : Cj X d 0 0 mJ0_isLatin1_aae02 [.ref 1002] n I J P Q := by
  refine Cj.intro rfl (Nat.le_of_ble_eq_true rfl) (L := [.ref 1002]) rfl ?_
  refine j_getsC dJ0_isLatin1_aae02_0 rfl fJ0_38 ?_
  show Rj _ _ _ _ _ _ 3 [.ref 1002] [.int (nI 1)] n I J P
  refine j_ifeqN (tgt := 17) dJ0_isLatin1_aae02_3 rfl rfl (by decide) (fun h1 => by exfalso; omega) (fun h1 => ?_)
  refine j_aload_n dJ0_isLatin1_aae02_6 rfl rfl rfl ?_
  refine j_getSC (i := 2) (by decide) dJ0_isLatin1_aae02_7 rfl fJ0_15 ?_
  show Rj _ _ _ _ _ _ 10 [.ref 1002] [.int (nI 0)] n I J P
  refine j_ifneN (tgt := 17) dJ0_isLatin1_aae02_10 rfl rfl (by decide) (fun h2 => by exfalso; omega) (fun h2 => ?_)
  refine j_iconst (v := nI 1) dJ0_isLatin1_aae02_13 rfl rfl ?_
  refine j_goto (tgt := 18) dJ0_isLatin1_aae02_14 rfl ?_
  refine j_iret dJ0_isLatin1_aae02_18 rfl rfl ?_
  exact hQ
set_option maxHeartbeats 4000000 in
set_option maxRecDepth 100000 in
theorem c_lch2 {X : jX} {d n : Nat} {I : HI} {J : HJ} {P : HP} {Q : jPost} {k : Nat} (hk : k < 3) (hQ : Q (some (.int (nI (chS 2 k)))) n I J P) : Cj X (d + 2) 0 0 mJ1_charAt_3b067 [.ref 1102, .int (nI k)] n I J P Q := by
  refine Cj.intro rfl (Nat.le_of_ble_eq_true rfl) (L := [.ref 1102, .int (nI k)]) rfl ?_
  obtain ⟨hc1, hc2⟩ := chS_ok 2 (by decide) k hk
  refine j_iload_n dJ1_charAt_3b067_0 rfl rfl rfl ?_
  refine j_aload_n dJ1_charAt_3b067_1 rfl rfl rfl ?_
  refine j_blen (i := 2) (by decide) dJ1_charAt_3b067_2 rfl ?_
  show Rj _ _ _ _ _ _ 3 [.ref 1102, .int (nI k)] [.int (nI 3), .int (nI k)] n I J P
  refine j_callSw (As := [.int (nI k), .int (nI 3)]) dJ1_charAt_3b067_3 rfl cJ1_9 rfl (by decide) rfl rfl (c_sci (by omega) (by omega) ?_)
  show Rj _ _ _ _ _ _ 6 [.ref 1102, .int (nI k)] [] n I J P
  refine j_aload_n dJ1_charAt_3b067_6 rfl rfl rfl ?_
  refine j_iload_n dJ1_charAt_3b067_7 rfl rfl rfl ?_
  refine j_bld (i := 2) (by decide) dJ1_charAt_3b067_8 rfl (jin (j := k) rfl hk (by decide)).1 ?_
  rw [(jin (j := k) rfl hk (show 3 < 2 ^ 31 by decide)).2]
  refine j_sipush (v := nI 255) dJ1_charAt_3b067_9 rfl rfl ?_
  refine j_iand dJ1_charAt_3b067_12 rfl ?_
  refine j_i2c (v := nI (chS 2 k)) dJ1_charAt_3b067_13 rfl hc1 ?_
  refine j_iret dJ1_charAt_3b067_14 rfl (pk_charN (by omega)).1 ?_
  exact hQ
set_option maxHeartbeats 4000000 in
set_option maxRecDepth 100000 in
theorem c_len2 {X : jX} {d n : Nat} {I : HI} {J : HJ} {P : HP} {Q : jPost}  (hQ : Q (some (.int (nI 3))) n I J P) : Cj X (d + 1) 0 0 mJ0_length_8abf5 [.ref 1002] n I J P Q := by
  refine Cj.intro rfl (Nat.le_of_ble_eq_true rfl) (L := [.ref 1002]) rfl ?_
  refine j_aload_n dJ0_length_8abf5_0 rfl rfl rfl ?_
  refine j_getSV (i := 2) (by decide) dJ0_length_8abf5_1 rfl fJ0_9 ?_
  refine j_blen (i := 2) (by decide) dJ0_length_8abf5_4 rfl ?_
  show Rj _ _ _ _ _ _ 5 [.ref 1002] [.int (nI 3)] n I J P
  refine j_aload_n dJ0_length_8abf5_5 rfl rfl rfl ?_
  refine j_callVSw (i := 2) (As := []) (by decide) dJ0_length_8abf5_6 rfl cJ0_335 rfl rfl (Nat.le_of_ble_eq_true rfl) rfl rfl (c_coder2 ?_)
  show Rj _ _ _ _ _ _ 9 [.ref 1002] [.int (nI 0), .int (nI 3)] n I J P
  refine j_ishrN (c := 3 / 2 ^ 0) dJ0_length_8abf5_9 rfl (by omega) (by omega) rfl ?_
  show Rj _ _ _ _ _ _ 10 [.ref 1002] [.int (nI 3)] n I J P
  refine j_iret dJ0_length_8abf5_10 rfl rfl ?_
  exact hQ
set_option maxHeartbeats 4000000 in
set_option maxRecDepth 100000 in
theorem c_chr2 {X : jX} {d n : Nat} {I : HI} {J : HJ} {P : HP} {Q : jPost} {k : Nat} (hk : k < 3) (hQ : Q (some (.int (nI (chS 2 k)))) n I J P) : Cj X (d + 3) 0 0 mJ0_charAt_5068e [.ref 1002, .int (nI k)] n I J P Q := by
  refine Cj.intro rfl (Nat.le_of_ble_eq_true rfl) (L := [.ref 1002, .int (nI k)]) rfl ?_
  obtain ⟨hc1, hc2⟩ := chS_ok 2 (by decide) k hk
  refine j_aload_n dJ0_charAt_5068e_0 rfl rfl rfl ?_
  refine j_callVSw (i := 2) (As := []) (by decide) dJ0_charAt_5068e_1 rfl cJ0_492 rfl rfl (by decide) rfl rfl (c_latin2 ?_)
  show Rj _ _ _ _ _ _ 4 [.ref 1002, .int (nI k)] [.int (nI 1)] n I J P
  refine j_ifeqN (tgt := 16) dJ0_charAt_5068e_4 rfl rfl (by decide) (fun h1 => by exfalso; omega) (fun h1 => ?_)
  refine j_aload_n dJ0_charAt_5068e_7 rfl rfl rfl ?_
  refine j_getSV (i := 2) (by decide) dJ0_charAt_5068e_8 rfl fJ0_9 ?_
  refine j_iload_n dJ0_charAt_5068e_11 rfl rfl rfl ?_
  refine j_callSw (As := [.ref 1102, .int (nI k)]) dJ0_charAt_5068e_12 rfl cJ0_495 rfl (by decide) rfl rfl (c_lch2 (by omega) ?_)
  show Rj _ _ _ _ _ _ 15 [.ref 1002, .int (nI k)] [.int (nI (chS 2 k))] n I J P
  refine j_iret dJ0_charAt_5068e_15 rfl (pk_charN (by omega)).1 ?_
  exact hQ
set_option maxHeartbeats 4000000 in
set_option maxRecDepth 100000 in
theorem c_coder3 {X : jX} {d n : Nat} {I : HI} {J : HJ} {P : HP} {Q : jPost}  (hQ : Q (some (.int (nI 0))) n I J P) : Cj X d 0 0 mJ0_coder_7d493 [.ref 1003] n I J P Q := by
  refine Cj.intro rfl (Nat.le_of_ble_eq_true rfl) (L := [.ref 1003]) rfl ?_
  refine j_getsC dJ0_coder_7d493_0 rfl fJ0_38 ?_
  show Rj _ _ _ _ _ _ 3 [.ref 1003] [.int (nI 1)] n I J P
  refine j_ifeqN (tgt := 13) dJ0_coder_7d493_3 rfl rfl (by decide) (fun h1 => by exfalso; omega) (fun h1 => ?_)
  refine j_aload_n dJ0_coder_7d493_6 rfl rfl rfl ?_
  refine j_getSC (i := 3) (by decide) dJ0_coder_7d493_7 rfl fJ0_15 ?_
  show Rj _ _ _ _ _ _ 10 [.ref 1003] [.int (nI 0)] n I J P
  refine j_goto (tgt := 14) dJ0_coder_7d493_10 rfl ?_
  refine j_iret dJ0_coder_7d493_14 rfl rfl ?_
  exact hQ
set_option maxHeartbeats 4000000 in
set_option maxRecDepth 100000 in
theorem c_latin3 {X : jX} {d n : Nat} {I : HI} {J : HJ} {P : HP} {Q : jPost}  (hQ : Q (some (.int (nI 1))) n I J P) : Cj X d 0 0 mJ0_isLatin1_aae02 [.ref 1003] n I J P Q := by
  refine Cj.intro rfl (Nat.le_of_ble_eq_true rfl) (L := [.ref 1003]) rfl ?_
  refine j_getsC dJ0_isLatin1_aae02_0 rfl fJ0_38 ?_
  show Rj _ _ _ _ _ _ 3 [.ref 1003] [.int (nI 1)] n I J P
  refine j_ifeqN (tgt := 17) dJ0_isLatin1_aae02_3 rfl rfl (by decide) (fun h1 => by exfalso; omega) (fun h1 => ?_)
  refine j_aload_n dJ0_isLatin1_aae02_6 rfl rfl rfl ?_
  refine j_getSC (i := 3) (by decide) dJ0_isLatin1_aae02_7 rfl fJ0_15 ?_
  show Rj _ _ _ _ _ _ 10 [.ref 1003] [.int (nI 0)] n I J P
  refine j_ifneN (tgt := 17) dJ0_isLatin1_aae02_10 rfl rfl (by decide) (fun h2 => by exfalso; omega) (fun h2 => ?_)
  refine j_iconst (v := nI 1) dJ0_isLatin1_aae02_13 rfl rfl ?_
  refine j_goto (tgt := 18) dJ0_isLatin1_aae02_14 rfl ?_
  refine j_iret dJ0_isLatin1_aae02_18 rfl rfl ?_
  exact hQ
set_option maxHeartbeats 4000000 in
set_option maxRecDepth 100000 in
theorem c_lch3 {X : jX} {d n : Nat} {I : HI} {J : HJ} {P : HP} {Q : jPost} {k : Nat} (hk : k < 4) (hQ : Q (some (.int (nI (chS 3 k)))) n I J P) : Cj X (d + 2) 0 0 mJ1_charAt_3b067 [.ref 1103, .int (nI k)] n I J P Q := by
  refine Cj.intro rfl (Nat.le_of_ble_eq_true rfl) (L := [.ref 1103, .int (nI k)]) rfl ?_
  obtain ⟨hc1, hc2⟩ := chS_ok 3 (by decide) k hk
  refine j_iload_n dJ1_charAt_3b067_0 rfl rfl rfl ?_
  refine j_aload_n dJ1_charAt_3b067_1 rfl rfl rfl ?_
  refine j_blen (i := 3) (by decide) dJ1_charAt_3b067_2 rfl ?_
  show Rj _ _ _ _ _ _ 3 [.ref 1103, .int (nI k)] [.int (nI 4), .int (nI k)] n I J P
  refine j_callSw (As := [.int (nI k), .int (nI 4)]) dJ1_charAt_3b067_3 rfl cJ1_9 rfl (by decide) rfl rfl (c_sci (by omega) (by omega) ?_)
  show Rj _ _ _ _ _ _ 6 [.ref 1103, .int (nI k)] [] n I J P
  refine j_aload_n dJ1_charAt_3b067_6 rfl rfl rfl ?_
  refine j_iload_n dJ1_charAt_3b067_7 rfl rfl rfl ?_
  refine j_bld (i := 3) (by decide) dJ1_charAt_3b067_8 rfl (jin (j := k) rfl hk (by decide)).1 ?_
  rw [(jin (j := k) rfl hk (show 4 < 2 ^ 31 by decide)).2]
  refine j_sipush (v := nI 255) dJ1_charAt_3b067_9 rfl rfl ?_
  refine j_iand dJ1_charAt_3b067_12 rfl ?_
  refine j_i2c (v := nI (chS 3 k)) dJ1_charAt_3b067_13 rfl hc1 ?_
  refine j_iret dJ1_charAt_3b067_14 rfl (pk_charN (by omega)).1 ?_
  exact hQ
set_option maxHeartbeats 4000000 in
set_option maxRecDepth 100000 in
theorem c_len3 {X : jX} {d n : Nat} {I : HI} {J : HJ} {P : HP} {Q : jPost}  (hQ : Q (some (.int (nI 4))) n I J P) : Cj X (d + 1) 0 0 mJ0_length_8abf5 [.ref 1003] n I J P Q := by
  refine Cj.intro rfl (Nat.le_of_ble_eq_true rfl) (L := [.ref 1003]) rfl ?_
  refine j_aload_n dJ0_length_8abf5_0 rfl rfl rfl ?_
  refine j_getSV (i := 3) (by decide) dJ0_length_8abf5_1 rfl fJ0_9 ?_
  refine j_blen (i := 3) (by decide) dJ0_length_8abf5_4 rfl ?_
  show Rj _ _ _ _ _ _ 5 [.ref 1003] [.int (nI 4)] n I J P
  refine j_aload_n dJ0_length_8abf5_5 rfl rfl rfl ?_
  refine j_callVSw (i := 3) (As := []) (by decide) dJ0_length_8abf5_6 rfl cJ0_335 rfl rfl (Nat.le_of_ble_eq_true rfl) rfl rfl (c_coder3 ?_)
  show Rj _ _ _ _ _ _ 9 [.ref 1003] [.int (nI 0), .int (nI 4)] n I J P
  refine j_ishrN (c := 4 / 2 ^ 0) dJ0_length_8abf5_9 rfl (by omega) (by omega) rfl ?_
  show Rj _ _ _ _ _ _ 10 [.ref 1003] [.int (nI 4)] n I J P
  refine j_iret dJ0_length_8abf5_10 rfl rfl ?_
  exact hQ
set_option maxHeartbeats 4000000 in
set_option maxRecDepth 100000 in
theorem c_chr3 {X : jX} {d n : Nat} {I : HI} {J : HJ} {P : HP} {Q : jPost} {k : Nat} (hk : k < 4) (hQ : Q (some (.int (nI (chS 3 k)))) n I J P) : Cj X (d + 3) 0 0 mJ0_charAt_5068e [.ref 1003, .int (nI k)] n I J P Q := by
  refine Cj.intro rfl (Nat.le_of_ble_eq_true rfl) (L := [.ref 1003, .int (nI k)]) rfl ?_
  obtain ⟨hc1, hc2⟩ := chS_ok 3 (by decide) k hk
  refine j_aload_n dJ0_charAt_5068e_0 rfl rfl rfl ?_
  refine j_callVSw (i := 3) (As := []) (by decide) dJ0_charAt_5068e_1 rfl cJ0_492 rfl rfl (by decide) rfl rfl (c_latin3 ?_)
  show Rj _ _ _ _ _ _ 4 [.ref 1003, .int (nI k)] [.int (nI 1)] n I J P
  refine j_ifeqN (tgt := 16) dJ0_charAt_5068e_4 rfl rfl (by decide) (fun h1 => by exfalso; omega) (fun h1 => ?_)
  refine j_aload_n dJ0_charAt_5068e_7 rfl rfl rfl ?_
  refine j_getSV (i := 3) (by decide) dJ0_charAt_5068e_8 rfl fJ0_9 ?_
  refine j_iload_n dJ0_charAt_5068e_11 rfl rfl rfl ?_
  refine j_callSw (As := [.ref 1103, .int (nI k)]) dJ0_charAt_5068e_12 rfl cJ0_495 rfl (by decide) rfl rfl (c_lch3 (by omega) ?_)
  show Rj _ _ _ _ _ _ 15 [.ref 1003, .int (nI k)] [.int (nI (chS 3 k))] n I J P
  refine j_iret dJ0_charAt_5068e_15 rfl (pk_charN (by omega)).1 ?_
  exact hQ
set_option maxHeartbeats 4000000 in
set_option maxRecDepth 100000 in
theorem c_coder4 {X : jX} {d n : Nat} {I : HI} {J : HJ} {P : HP} {Q : jPost}  (hQ : Q (some (.int (nI 0))) n I J P) : Cj X d 0 0 mJ0_coder_7d493 [.ref 1004] n I J P Q := by
  refine Cj.intro rfl (Nat.le_of_ble_eq_true rfl) (L := [.ref 1004]) rfl ?_
  refine j_getsC dJ0_coder_7d493_0 rfl fJ0_38 ?_
  show Rj _ _ _ _ _ _ 3 [.ref 1004] [.int (nI 1)] n I J P
  refine j_ifeqN (tgt := 13) dJ0_coder_7d493_3 rfl rfl (by decide) (fun h1 => by exfalso; omega) (fun h1 => ?_)
  refine j_aload_n dJ0_coder_7d493_6 rfl rfl rfl ?_
  refine j_getSC (i := 4) (by decide) dJ0_coder_7d493_7 rfl fJ0_15 ?_
  show Rj _ _ _ _ _ _ 10 [.ref 1004] [.int (nI 0)] n I J P
  refine j_goto (tgt := 14) dJ0_coder_7d493_10 rfl ?_
  refine j_iret dJ0_coder_7d493_14 rfl rfl ?_
  exact hQ
set_option maxHeartbeats 4000000 in
set_option maxRecDepth 100000 in
theorem c_latin4 {X : jX} {d n : Nat} {I : HI} {J : HJ} {P : HP} {Q : jPost}  (hQ : Q (some (.int (nI 1))) n I J P) : Cj X d 0 0 mJ0_isLatin1_aae02 [.ref 1004] n I J P Q := by
  refine Cj.intro rfl (Nat.le_of_ble_eq_true rfl) (L := [.ref 1004]) rfl ?_
  refine j_getsC dJ0_isLatin1_aae02_0 rfl fJ0_38 ?_
  show Rj _ _ _ _ _ _ 3 [.ref 1004] [.int (nI 1)] n I J P
  refine j_ifeqN (tgt := 17) dJ0_isLatin1_aae02_3 rfl rfl (by decide) (fun h1 => by exfalso; omega) (fun h1 => ?_)
  refine j_aload_n dJ0_isLatin1_aae02_6 rfl rfl rfl ?_
  refine j_getSC (i := 4) (by decide) dJ0_isLatin1_aae02_7 rfl fJ0_15 ?_
  show Rj _ _ _ _ _ _ 10 [.ref 1004] [.int (nI 0)] n I J P
  refine j_ifneN (tgt := 17) dJ0_isLatin1_aae02_10 rfl rfl (by decide) (fun h2 => by exfalso; omega) (fun h2 => ?_)
  refine j_iconst (v := nI 1) dJ0_isLatin1_aae02_13 rfl rfl ?_
  refine j_goto (tgt := 18) dJ0_isLatin1_aae02_14 rfl ?_
  refine j_iret dJ0_isLatin1_aae02_18 rfl rfl ?_
  exact hQ
set_option maxHeartbeats 4000000 in
set_option maxRecDepth 100000 in
theorem c_lch4 {X : jX} {d n : Nat} {I : HI} {J : HJ} {P : HP} {Q : jPost} {k : Nat} (hk : k < 3) (hQ : Q (some (.int (nI (chS 4 k)))) n I J P) : Cj X (d + 2) 0 0 mJ1_charAt_3b067 [.ref 1104, .int (nI k)] n I J P Q := by
  refine Cj.intro rfl (Nat.le_of_ble_eq_true rfl) (L := [.ref 1104, .int (nI k)]) rfl ?_
  obtain ⟨hc1, hc2⟩ := chS_ok 4 (by decide) k hk
  refine j_iload_n dJ1_charAt_3b067_0 rfl rfl rfl ?_
  refine j_aload_n dJ1_charAt_3b067_1 rfl rfl rfl ?_
  refine j_blen (i := 4) (by decide) dJ1_charAt_3b067_2 rfl ?_
  show Rj _ _ _ _ _ _ 3 [.ref 1104, .int (nI k)] [.int (nI 3), .int (nI k)] n I J P
  refine j_callSw (As := [.int (nI k), .int (nI 3)]) dJ1_charAt_3b067_3 rfl cJ1_9 rfl (by decide) rfl rfl (c_sci (by omega) (by omega) ?_)
  show Rj _ _ _ _ _ _ 6 [.ref 1104, .int (nI k)] [] n I J P
  refine j_aload_n dJ1_charAt_3b067_6 rfl rfl rfl ?_
  refine j_iload_n dJ1_charAt_3b067_7 rfl rfl rfl ?_
  refine j_bld (i := 4) (by decide) dJ1_charAt_3b067_8 rfl (jin (j := k) rfl hk (by decide)).1 ?_
  rw [(jin (j := k) rfl hk (show 3 < 2 ^ 31 by decide)).2]
  refine j_sipush (v := nI 255) dJ1_charAt_3b067_9 rfl rfl ?_
  refine j_iand dJ1_charAt_3b067_12 rfl ?_
  refine j_i2c (v := nI (chS 4 k)) dJ1_charAt_3b067_13 rfl hc1 ?_
  refine j_iret dJ1_charAt_3b067_14 rfl (pk_charN (by omega)).1 ?_
  exact hQ
set_option maxHeartbeats 4000000 in
set_option maxRecDepth 100000 in
theorem c_len4 {X : jX} {d n : Nat} {I : HI} {J : HJ} {P : HP} {Q : jPost}  (hQ : Q (some (.int (nI 3))) n I J P) : Cj X (d + 1) 0 0 mJ0_length_8abf5 [.ref 1004] n I J P Q := by
  refine Cj.intro rfl (Nat.le_of_ble_eq_true rfl) (L := [.ref 1004]) rfl ?_
  refine j_aload_n dJ0_length_8abf5_0 rfl rfl rfl ?_
  refine j_getSV (i := 4) (by decide) dJ0_length_8abf5_1 rfl fJ0_9 ?_
  refine j_blen (i := 4) (by decide) dJ0_length_8abf5_4 rfl ?_
  show Rj _ _ _ _ _ _ 5 [.ref 1004] [.int (nI 3)] n I J P
  refine j_aload_n dJ0_length_8abf5_5 rfl rfl rfl ?_
  refine j_callVSw (i := 4) (As := []) (by decide) dJ0_length_8abf5_6 rfl cJ0_335 rfl rfl (Nat.le_of_ble_eq_true rfl) rfl rfl (c_coder4 ?_)
  show Rj _ _ _ _ _ _ 9 [.ref 1004] [.int (nI 0), .int (nI 3)] n I J P
  refine j_ishrN (c := 3 / 2 ^ 0) dJ0_length_8abf5_9 rfl (by omega) (by omega) rfl ?_
  show Rj _ _ _ _ _ _ 10 [.ref 1004] [.int (nI 3)] n I J P
  refine j_iret dJ0_length_8abf5_10 rfl rfl ?_
  exact hQ
set_option maxHeartbeats 4000000 in
set_option maxRecDepth 100000 in
theorem c_chr4 {X : jX} {d n : Nat} {I : HI} {J : HJ} {P : HP} {Q : jPost} {k : Nat} (hk : k < 3) (hQ : Q (some (.int (nI (chS 4 k)))) n I J P) : Cj X (d + 3) 0 0 mJ0_charAt_5068e [.ref 1004, .int (nI k)] n I J P Q := by
  refine Cj.intro rfl (Nat.le_of_ble_eq_true rfl) (L := [.ref 1004, .int (nI k)]) rfl ?_
  obtain ⟨hc1, hc2⟩ := chS_ok 4 (by decide) k hk
  refine j_aload_n dJ0_charAt_5068e_0 rfl rfl rfl ?_
  refine j_callVSw (i := 4) (As := []) (by decide) dJ0_charAt_5068e_1 rfl cJ0_492 rfl rfl (by decide) rfl rfl (c_latin4 ?_)
  show Rj _ _ _ _ _ _ 4 [.ref 1004, .int (nI k)] [.int (nI 1)] n I J P
  refine j_ifeqN (tgt := 16) dJ0_charAt_5068e_4 rfl rfl (by decide) (fun h1 => by exfalso; omega) (fun h1 => ?_)
  refine j_aload_n dJ0_charAt_5068e_7 rfl rfl rfl ?_
  refine j_getSV (i := 4) (by decide) dJ0_charAt_5068e_8 rfl fJ0_9 ?_
  refine j_iload_n dJ0_charAt_5068e_11 rfl rfl rfl ?_
  refine j_callSw (As := [.ref 1104, .int (nI k)]) dJ0_charAt_5068e_12 rfl cJ0_495 rfl (by decide) rfl rfl (c_lch4 (by omega) ?_)
  show Rj _ _ _ _ _ _ 15 [.ref 1004, .int (nI k)] [.int (nI (chS 4 k))] n I J P
  refine j_iret dJ0_charAt_5068e_15 rfl (pk_charN (by omega)).1 ?_
  exact hQ
