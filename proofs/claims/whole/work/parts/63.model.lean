theorem MI.txt {S : SS} {I I' : HI} {J : HJ} {l : Nat} {t : Nat → Nat} (h : MI S I J) (he : ∀ a, a ≠ 33 → a ≠ 38 → I' a = I a) (ht : I' 33 4 = nI l ∧ (∀ i, i < l → I' 38 i = nI (t i)) ∧ l ≤ 150 ∧ ∀ i, i < l → t i ≤ 127) : MI (S.txt l t) I' J := by
  refine ⟨h.1.congr (he 34 (by omega) (by omega)), ht, ?_, h.2.2.2.1, h.2.2.2.2.1.congr (he 36 (by omega) (by omega)) (he 37 (by omega) (by omega)), h.2.2.2.2.2.congr (he 36 (by omega) (by omega)) (he 37 (by omega) (by omega))⟩
  rw [he 39 (by omega) (by omega)]
  exact h.2.2.1
set_option maxHeartbeats 4000000 in
set_option maxRecDepth 100000 in
theorem g_clear {X : jX} {d n : Nat} {I : HI} {J : HJ} {i0 i1 : Option Nat} {Q : jPost} {S : SS} {yb : Nat} (hm : MI S I J) (hW : WF yb S.v) (hyb : yb ≤ 2 ^ 12) (hQ : MP Q (oClear S) n I J (Pg i0 i1)) : Cj X (d + 1) 0 0 mX10_clear [.ref 33] n I J (Pg i0 i1) Q := by
  refine Cj.intro rfl (Nat.le_of_ble_eq_true rfl) (L := [.ref 33, jU]) rfl ?_
  refine j_aload_n dX10_clear_0 rfl rfl rfl ?_
  refine j_getIv (v := nI S.tl) dX10_clear_1 rfl fX10_66 rfl (by decide) rfl hm.2.1.1 ?_
  refine j_istore_n (L' := [.ref 33, .int (nI S.tl)]) dX10_clear_4 rfl rfl rfl (by decide) rfl ?_
  refine j_aload_n dX10_clear_5 rfl rfl rfl ?_
  refine j_iconst (v := nI 0) dX10_clear_6 rfl rfl ?_
  refine j_putI dX10_clear_7 rfl fX10_66 rfl (by decide) rfl rfl ?_
  refine j_iload_n dX10_clear_10 rfl rfl rfl ?_
  refine j_iret dX10_clear_11 rfl rfl ?_
  exact hQ _ _ (hm.txt (fun a ha _ => u2_ne _ _ _ ha) ⟨u2_self _ _ _ _, fun i hi => absurd hi (Nat.not_lt_zero _), Nat.zero_le _, fun i hi => absurd hi (Nat.not_lt_zero _)⟩) (CF.u2 (by omega) (by omega))
