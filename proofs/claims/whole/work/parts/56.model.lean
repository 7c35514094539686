theorem inR_hasP {a : Int32} {np : Nat} (h : np ≤ 6) : inR a (nI 0) (nI np - 1) ↔ hasP a np := by
  have h1 : ∀ k : Fin 7, (nI k.1 - 1).toInt = (k.1 : Int) - 1 := by decide +kernel
  have h2 := h1 ⟨np, by omega⟩
  have h3 := nI_toInt (n := np) (by omega)
  unfold inR hasP
  rw [nI_0, Int32.lt_iff_toInt_lt, Int32.lt_iff_toInt_lt, Int32.le_iff_toInt_le, h3]
  simp only at h2
  rw [h2]
  constructor
  · intro q; exact ⟨q.1, by omega⟩
  · intro q; exact ⟨q.1, by omega⟩
set_option maxHeartbeats 4000000 in
set_option maxRecDepth 100000 in
theorem c_mhas {X : jX} {d n : Nat} {I : HI} {J : HJ} {P : HP} {Q : jPost} {st k : Nat} (hs : st < 2 ^ 31) (hk : k < 31) (hQ1 : st / 2 ^ k % 2 = 1 → Q (some (.int (nI 1))) n I J P) (hQ0 : ¬ st / 2 ^ k % 2 = 1 → Q (some (.int (nI 0))) n I J P) : Cj X d 0 0 mX10_has [.int (nI st), .int (nI k)] n I J P Q := by
  refine Cj.intro rfl (Nat.le_of_ble_eq_true rfl) (L := [.int (nI st), .int (nI k)]) rfl ?_
  refine j_iload_n dX10_has_0 rfl rfl rfl ?_
  refine j_iload_n dX10_has_1 rfl rfl rfl ?_
  refine j_ishrN (c := st / 2 ^ k) dX10_has_2 rfl (by omega) (by omega) rfl ?_
  refine j_iconst (v := nI 1) dX10_has_3 rfl rfl ?_
  refine j_iand1N (c := st / 2 ^ k % 2) dX10_has_4 rfl rfl ?_
  refine j_iconst (v := nI 1) dX10_has_5 rfl rfl ?_
  refine j_icmpneN (tgt := 13) dX10_has_6 rfl rfl (by omega) (by decide) (fun h1 => ?_) (fun h1 => ?_)
  · refine j_iconst (v := nI 0) dX10_has_13 rfl rfl ?_
    refine j_iret dX10_has_14 rfl rfl ?_
    exact hQ0 (by assumption)
  · refine j_iconst (v := nI 1) dX10_has_9 rfl rfl ?_
    refine j_goto (tgt := 14) dX10_has_10 rfl ?_
    refine j_iret dX10_has_14 rfl rfl ?_
    exact hQ1 (by assumption)
set_option maxHeartbeats 4000000 in
set_option maxRecDepth 100000 in
theorem c_mbad {X : jX} {d n : Nat} {I : HI} {J : HJ} {i0 i1 : Option Nat} {Q : jPost}  (hQ : Q (some (.int (-2))) n (u2 I 39 0 (I 39 0 + nI 1)) J (Pg i0 i1)) : Cj X d 0 0 mX10_refuse [.ref 33, .int (-2)] n I J (Pg i0 i1) Q := by
  refine Cj.intro rfl (Nat.le_of_ble_eq_true rfl) (L := [.ref 33, .int (-2)]) rfl ?_
  refine j_aload_n dX10_refuse_0 rfl rfl rfl ?_
  refine j_getP (b := 39) dX10_refuse_1 rfl fX10_30 rfl (by decide) rfl rfl ?_
  refine j_iload_n dX10_refuse_4 rfl rfl rfl ?_
  refine j_bipush (v := (-3)) dX10_refuse_5 rfl rfl ?_
  refine j_icmpne (tgt := 14) dX10_refuse_7 rfl rfl (fun h1 => ?_) (fun h1 => by exfalso; exact absurd h1 (by decide))
  refine j_iload_n dX10_refuse_14 rfl rfl rfl ?_
  refine j_bipush (v := (-4)) dX10_refuse_15 rfl rfl ?_
  refine j_icmpne (tgt := 24) dX10_refuse_17 rfl rfl (fun h2 => ?_) (fun h2 => by exfalso; exact absurd h2 (by decide))
  refine j_iconst (v := nI 0) dX10_refuse_24 rfl rfl ?_
  refine j_dup2 dX10_refuse_25 rfl rfl rfl ?_
  refine j_iald (j := 0) (v := I 39 0) dX10_refuse_26 rfl rfl (by decide) rfl (by decide) (by decide) rfl ?_
  refine j_iconst (v := nI 1) dX10_refuse_27 rfl rfl ?_
  refine j_iadd dX10_refuse_28 rfl ?_
  refine j_iast (j := 0) dX10_refuse_29 rfl rfl (by decide) rfl (by decide) (by decide) ?_
  refine j_iload_n dX10_refuse_30 rfl rfl rfl ?_
  refine j_iret dX10_refuse_31 rfl rfl ?_
  exact hQ
set_option maxHeartbeats 4000000 in
set_option maxRecDepth 100000 in
theorem c_mten {X : jX} {d n : Nat} {I : HI} {J : HJ} {i0 i1 : Option Nat} {Q : jPost}  (hQ : Q (some (.int (-10))) n (u2 I 39 0 (I 39 0 + nI 1)) J (Pg i0 i1)) : Cj X d 0 0 mX10_refuse [.ref 33, .int (-10)] n I J (Pg i0 i1) Q := by
  refine Cj.intro rfl (Nat.le_of_ble_eq_true rfl) (L := [.ref 33, .int (-10)]) rfl ?_
  refine j_aload_n dX10_refuse_0 rfl rfl rfl ?_
  refine j_getP (b := 39) dX10_refuse_1 rfl fX10_30 rfl (by decide) rfl rfl ?_
  refine j_iload_n dX10_refuse_4 rfl rfl rfl ?_
  refine j_bipush (v := (-3)) dX10_refuse_5 rfl rfl ?_
  refine j_icmpne (tgt := 14) dX10_refuse_7 rfl rfl (fun h1 => ?_) (fun h1 => by exfalso; exact absurd h1 (by decide))
  refine j_iload_n dX10_refuse_14 rfl rfl rfl ?_
  refine j_bipush (v := (-4)) dX10_refuse_15 rfl rfl ?_
  refine j_icmpne (tgt := 24) dX10_refuse_17 rfl rfl (fun h2 => ?_) (fun h2 => by exfalso; exact absurd h2 (by decide))
  refine j_iconst (v := nI 0) dX10_refuse_24 rfl rfl ?_
  refine j_dup2 dX10_refuse_25 rfl rfl rfl ?_
  refine j_iald (j := 0) (v := I 39 0) dX10_refuse_26 rfl rfl (by decide) rfl (by decide) (by decide) rfl ?_
  refine j_iconst (v := nI 1) dX10_refuse_27 rfl rfl ?_
  refine j_iadd dX10_refuse_28 rfl ?_
  refine j_iast (j := 0) dX10_refuse_29 rfl rfl (by decide) rfl (by decide) (by decide) ?_
  refine j_iload_n dX10_refuse_30 rfl rfl rfl ?_
  refine j_iret dX10_refuse_31 rfl rfl ?_
  exact hQ
set_option maxHeartbeats 4000000 in
set_option maxRecDepth 100000 in
theorem c_mno {X : jX} {d n : Nat} {I : HI} {J : HJ} {i0 i1 : Option Nat} {Q : jPost}  (hQ : Q (some (.int (-3))) n (u2 I 39 1 (I 39 1 + nI 1)) J (Pg i0 i1)) : Cj X d 0 0 mX10_refuse [.ref 33, .int (-3)] n I J (Pg i0 i1) Q := by
  refine Cj.intro rfl (Nat.le_of_ble_eq_true rfl) (L := [.ref 33, .int (-3)]) rfl ?_
  refine j_aload_n dX10_refuse_0 rfl rfl rfl ?_
  refine j_getP (b := 39) dX10_refuse_1 rfl fX10_30 rfl (by decide) rfl rfl ?_
  refine j_iload_n dX10_refuse_4 rfl rfl rfl ?_
  refine j_bipush (v := (-3)) dX10_refuse_5 rfl rfl ?_
  refine j_icmpne (tgt := 14) dX10_refuse_7 rfl rfl (fun h1 => by exfalso; exact h1 rfl) (fun h1 => ?_)
  refine j_iconst (v := nI 1) dX10_refuse_10 rfl rfl ?_
  refine j_goto (tgt := 25) dX10_refuse_11 rfl ?_
  refine j_dup2 dX10_refuse_25 rfl rfl rfl ?_
  refine j_iald (j := 1) (v := I 39 1) dX10_refuse_26 rfl rfl (by decide) rfl (by decide) (by decide) rfl ?_
  refine j_iconst (v := nI 1) dX10_refuse_27 rfl rfl ?_
  refine j_iadd dX10_refuse_28 rfl ?_
  refine j_iast (j := 1) dX10_refuse_29 rfl rfl (by decide) rfl (by decide) (by decide) ?_
  refine j_iload_n dX10_refuse_30 rfl rfl rfl ?_
  refine j_iret dX10_refuse_31 rfl rfl ?_
  exact hQ
set_option maxHeartbeats 4000000 in
set_option maxRecDepth 100000 in
theorem c_mfull {X : jX} {d n : Nat} {I : HI} {J : HJ} {i0 i1 : Option Nat} {Q : jPost}  (hQ : Q (some (.int (-4))) n (u2 I 39 2 (I 39 2 + nI 1)) J (Pg i0 i1)) : Cj X d 0 0 mX10_refuse [.ref 33, .int (-4)] n I J (Pg i0 i1) Q := by
  refine Cj.intro rfl (Nat.le_of_ble_eq_true rfl) (L := [.ref 33, .int (-4)]) rfl ?_
  refine j_aload_n dX10_refuse_0 rfl rfl rfl ?_
  refine j_getP (b := 39) dX10_refuse_1 rfl fX10_30 rfl (by decide) rfl rfl ?_
  refine j_iload_n dX10_refuse_4 rfl rfl rfl ?_
  refine j_bipush (v := (-3)) dX10_refuse_5 rfl rfl ?_
  refine j_icmpne (tgt := 14) dX10_refuse_7 rfl rfl (fun h1 => ?_) (fun h1 => by exfalso; exact absurd h1 (by decide))
  refine j_iload_n dX10_refuse_14 rfl rfl rfl ?_
  refine j_bipush (v := (-4)) dX10_refuse_15 rfl rfl ?_
  refine j_icmpne (tgt := 24) dX10_refuse_17 rfl rfl (fun h2 => by exfalso; exact h2 rfl) (fun h2 => ?_)
  refine j_iconst (v := nI 2) dX10_refuse_20 rfl rfl ?_
  refine j_goto (tgt := 25) dX10_refuse_21 rfl ?_
  refine j_dup2 dX10_refuse_25 rfl rfl rfl ?_
  refine j_iald (j := 2) (v := I 39 2) dX10_refuse_26 rfl rfl (by decide) rfl (by decide) (by decide) rfl ?_
  refine j_iconst (v := nI 1) dX10_refuse_27 rfl rfl ?_
  refine j_iadd dX10_refuse_28 rfl ?_
  refine j_iast (j := 2) dX10_refuse_29 rfl rfl (by decide) rfl (by decide) (by decide) ?_
  refine j_iload_n dX10_refuse_30 rfl rfl rfl ?_
  refine j_iret dX10_refuse_31 rfl rfl ?_
  exact hQ
