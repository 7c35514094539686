theorem MI.sta {S : SS} {I : HI} {J : HJ} {k : Nat} {x a b c : Int32} (h : MI S I J) (e : u2 I 39 k x 39 0 = a ∧ u2 I 39 k x 39 1 = b ∧ u2 I 39 k x 39 2 = c) : MI (S.sta a b c) (u2 I 39 k x) J := by
  have hn : ∀ a, a ≠ 39 → u2 I 39 k x a = I a := fun a ha => u2_ne _ _ _ ha
  refine ⟨h.1.congr (hn 34 (by omega)), ?_, e, h.2.2.2.1, h.2.2.2.2.1.congr (hn 36 (by omega)) (hn 37 (by omega)), h.2.2.2.2.2.congr (hn 36 (by omega)) (hn 37 (by omega))⟩
  rw [hn 33 (by omega), hn 38 (by omega)]
  exact h.2.1
theorem MI.bad {S : SS} {I : HI} {J : HJ} (h : MI S I J) : MI S.bad (u2 I 39 0 (I 39 0 + nI 1)) J :=
  h.sta ⟨by rw [u2_self, h.2.2.1.1], by rw [u2_ne2 _ _ _ (by decide)]; exact h.2.2.1.2.1, by rw [u2_ne2 _ _ _ (by decide)]; exact h.2.2.1.2.2⟩
theorem MI.no {S : SS} {I : HI} {J : HJ} (h : MI S I J) : MI S.no (u2 I 39 1 (I 39 1 + nI 1)) J :=
  h.sta ⟨by rw [u2_ne2 _ _ _ (by decide)]; exact h.2.2.1.1, by rw [u2_self, h.2.2.1.2.1], by rw [u2_ne2 _ _ _ (by decide)]; exact h.2.2.1.2.2⟩
theorem MI.full {S : SS} {I : HI} {J : HJ} (h : MI S I J) : MI S.full (u2 I 39 2 (I 39 2 + nI 1)) J :=
  h.sta ⟨by rw [u2_ne2 _ _ _ (by decide)]; exact h.2.2.1.1, by rw [u2_ne2 _ _ _ (by decide)]; exact h.2.2.1.2.1, by rw [u2_self, h.2.2.1.2.2]⟩
theorem CF.u2 {I : HI} {J : HJ} {a k : Nat} {x : Int32} (h : 33 ≤ a) (h2 : a ≤ 43) : CF I J (u2 I a k x) J := fun b hb => ⟨u2_ne _ _ _ (by omega), rfl⟩
theorem CF.ur {I : HI} {J : HJ} {a : Nat} {g : Nat → Int32} (h : 33 ≤ a) (h2 : a ≤ 43) : CF I J (ur I a g) J := fun b hb => ⟨ur_ne _ _ (by omega), rfl⟩
theorem VM_Z {b : Nat} {I : HI} {v : VT} (h : ∀ k, k < 7 → I b k = 0) : VM b 0 I (vZ v) := by
  refine ⟨⟨?_, ?_, ?_, ?_, ?_, ?_, ?_⟩, fun p hp => absurd hp (Nat.not_lt_zero _), fun p hp => absurd hp (Nat.not_lt_zero _), fun p hp => absurd hp (Nat.not_lt_zero _), fun p hp => absurd hp (Nat.not_lt_zero _)⟩
  all_goals exact (h _ (by omega)).trans nI_0.symm
set_option maxHeartbeats 4000000 in
set_option maxRecDepth 100000 in
theorem g_valley {X : jX} {d n : Nat} {I : HI} {J : HJ} {i0 i1 : Option Nat} {Q : jPost} {S : SS} {yb : Nat} (hm : MI S I J) (hW : WF yb S.v) (hyb : yb ≤ 2 ^ 12) (hQ : MP Q (oValley S) n I J (Pg i0 i1)) : Cj X (d + 1) 0 0 mX10_valley [.ref 33] n I J (Pg i0 i1) Q := by
  refine Cj.intro rfl (Nat.le_of_ble_eq_true rfl) (L := [.ref 33, jU]) rfl ?_
  refine j_aload_n dX10_valley_0 rfl rfl rfl ?_
  refine j_getP (b := 34) dX10_valley_1 rfl fX10_7 rfl (by decide) rfl rfl ?_
  refine j_iconst (v := nI 0) dX10_valley_4 rfl rfl ?_
  refine j_iald (j := 0) (v := nI (S.v 0 3)) dX10_valley_5 rfl rfl (by decide) rfl (by decide) (by decide) hm.v.mp ?_
  refine j_istore_n (L' := [.ref 33, .int (nI (S.v 0 3))]) dX10_valley_6 rfl rfl rfl (by decide) rfl ?_
  refine j_aload_n dX10_valley_7 rfl rfl rfl ?_
  refine j_getP (b := 34) dX10_valley_8 rfl fX10_7 rfl (by decide) rfl rfl ?_
  refine j_callSw (As := [.ref 34]) dX10_valley_11 rfl cX10_46 rfl (by decide) rfl rfl (c_lay34 (fun g hg1 hg2 => ?_))
  show Rj _ _ _ _ _ _ 14 [.ref 33, .int (nI (S.v 0 3))] [] n (ur I 34 g) J (Pg i0 i1)
  refine j_iload_n dX10_valley_14 rfl rfl rfl ?_
  refine j_iret dX10_valley_15 rfl rfl ?_
  exact hQ _ _ (hm.one (VM_Z (fun k hk => by rw [ur_row]; exact hg1 k (by omega))) (fun a ha => ur_ne _ _ ha)) (CF.ur (by omega) (by omega))
