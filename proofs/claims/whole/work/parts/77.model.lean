theorem lwm_z (k da dr : Nat) : ∀ m y l, l ≤ 60 → lwm k da dr 0 y l m = lft k da dr y l m
  | 0, _, _, _ => rfl
  | m + 1, y, l, h => by
    unfold lwm lft
    by_cases q : l = 0
    · rw [if_pos q, q, Nat.zero_sub, lft_0]
    · rw [if_neg q, Nat.add_zero, Nat.min_eq_right h]
      exact lwm_z k da dr m (y + 1) _ (by omega)
theorem MI.row40 {S : SS} {I : HI} {J : HJ} {f : Nat → Int32} (h : MI S I J) : MI S (ur I 40 f) J := h.scr (fun a _ _ _ => ur_ne _ _ (by omega)) (by rw [ur_ne _ _ (by omega)]) rfl rfl
set_option maxHeartbeats 4000000 in
set_option maxRecDepth 100000 in
theorem g_back {X : jX} {d n : Nat} {I : HI} {J : HJ} {i0 i1 : Option Nat} {Q : jPost} {S : SS} {yb : Nat} (hm : MI S I J) (hW : WF yb S.v) (hyb : yb ≤ 2 ^ 12) (hQ : MP Q (oBack S) n I J (Pg i0 i1)) : Cj X (d + 3) 0 0 mX10_back [.ref 33] n I J (Pg i0 i1) Q := by
  refine Cj.intro rfl (Nat.le_of_ble_eq_true rfl) (L := [.ref 33, jU, jU]) rfl ?_
  obtain ⟨⟨w0, w1, w2, w3, w4, w5, w6⟩, wp, wk, wc, wb⟩ := id hW
  refine j_iconst (v := nI 0) dX10_back_0 rfl rfl ?_
  refine j_istore_n (L' := [.ref 33, .int (nI 0), jU]) dX10_back_1 rfl rfl rfl (by decide) rfl ?_
  refine j_aload_n dX10_back_2 rfl rfl rfl ?_
  refine j_callVw (As := []) dX10_back_3 rfl cX10_164 (by decide) rfl rfl (by decide) rfl (by decide) rfl rfl (c_mlay (fun f hf => ?_))
  show Rj _ _ _ _ _ _ 6 [.ref 33, .int (nI 0), jU] [] n (ur I 40 f) J (Pg i0 i1)
  have hm2 : MI S (ur I 40 f) J := hm.row40
  have loop : ∀ (r p st : Nat), p + r = S.v 0 3 → st = bitsOf (fun p => decide (pbF S.v p)) p → Rj X (d + 3) 0 0 mX10_back Q 8 [.ref 33, .int (nI st), .int (nI p)] [] n (ur I 40 f) J (Pg i0 i1) := by
    intro r
    induction r with
    | zero =>
      intro p st hpr hst
      refine j_iload_n dX10_back_8 rfl rfl rfl ?_
      refine j_aload_n dX10_back_9 rfl rfl rfl ?_
      refine j_getP (b := 34) dX10_back_10 rfl fX10_7 rfl (by decide) rfl rfl ?_
      refine j_iconst (v := nI 0) dX10_back_13 rfl rfl ?_
      refine j_iald (j := 0) (v := nI (S.v 0 3)) dX10_back_14 rfl rfl (by decide) rfl (by decide) (by decide) hm2.v.mp ?_
      refine j_icmpgeN (tgt := 42) dX10_back_15 rfl rfl (by omega) (by omega) (fun h1 => ?_) (fun h1 => by exfalso; omega)
      refine j_iload_n dX10_back_42 rfl rfl rfl ?_
      refine j_iret dX10_back_43 rfl rfl ?_
      have hp3 : p = S.v 0 3 := by omega
      subst hp3
      rw [hst]
      exact hQ _ _ hm2 (CF.ur (by omega) (by omega))
    | succ r ih =>
      intro p st hpr hst
      have hsb : st < 2 ^ p := by rw [hst]; exact bitsOf_lt _ _
      refine j_iload_n dX10_back_8 rfl rfl rfl ?_
      refine j_aload_n dX10_back_9 rfl rfl rfl ?_
      refine j_getP (b := 34) dX10_back_10 rfl fX10_7 rfl (by decide) rfl rfl ?_
      refine j_iconst (v := nI 0) dX10_back_13 rfl rfl ?_
      refine j_iald (j := 0) (v := nI (S.v 0 3)) dX10_back_14 rfl rfl (by decide) rfl (by decide) (by decide) hm2.v.mp ?_
      refine j_icmpgeN (tgt := 42) dX10_back_15 rfl rfl (by omega) (by omega) (fun h1 => by exfalso; omega) (fun h1 => ?_)
      refine j_iload_n dX10_back_18 rfl rfl rfl ?_
      refine j_aload_n dX10_back_19 rfl rfl rfl ?_
      refine j_iload_n dX10_back_20 rfl rfl rfl ?_
      refine j_callVw (As := [.int (nI p)]) dX10_back_21 rfl cX10_167 (by decide) rfl rfl (by decide) rfl (Nat.le_of_ble_eq_true rfl) rfl rfl (c_misSo (h := S.v 2) (mo := fun q => if q = p then 1 else 0) hm2 hW hyb (fun q hq => by rw [ur_row, hf q (by omega)]; exact hm.v.lv hq) (fun q hq => (wp q hq).2.1) (fun q hq => ⟨fun e => if_pos ((nI_eq (by omega) (by omega)).mp e), fun e => if_neg (fun z => e (by rw [z]))⟩) (fun hy => ?_) (fun hy => ?_))
      · show Rj _ _ _ _ _ _ 24 [.ref 33, .int (nI st), .int (nI p)] [.int (nI 1), .int (nI st)] n (ur I 40 f) J (Pg i0 i1)
        refine j_ifeqN (tgt := 33) dX10_back_24 rfl rfl (by decide) (fun h2 => by exfalso; omega) (fun h2 => ?_)
        refine j_iconst (v := nI 1) dX10_back_27 rfl rfl ?_
        refine j_iload_n dX10_back_28 rfl rfl rfl ?_
        refine j_ishlN (c := 2 ^ p) dX10_back_29 rfl (by omega) (Nat.one_mul _) ?_
        refine j_goto (tgt := 34) dX10_back_30 rfl ?_
        refine j_iorN (c := st ||| (2 ^ p)) dX10_back_34 rfl rfl ?_
        refine j_istore_n (L' := [.ref 33, .int (nI (st ||| (2 ^ p))), .int (nI p)]) dX10_back_35 rfl rfl rfl (by decide) rfl ?_
        refine j_iincN (L' := [.ref 33, .int (nI (st ||| (2 ^ p))), .int (nI (p + 1))]) dX10_back_36 rfl rfl (b := 1) rfl rfl rfl (by decide) rfl ?_
        refine j_goto (tgt := 8) dX10_back_39 rfl ?_
        refine ih (p + 1) _ (by omega) ?_
        show _ = (if decide (pbF S.v p) = true then _ else _)
        rw [if_pos (decide_eq_true hy), ← hst]
      · show Rj _ _ _ _ _ _ 24 [.ref 33, .int (nI st), .int (nI p)] [.int (nI 0), .int (nI st)] n (ur I 40 f) J (Pg i0 i1)
        refine j_ifeqN (tgt := 33) dX10_back_24 rfl rfl (by decide) (fun h3 => ?_) (fun h3 => by exfalso; omega)
        refine j_iconst (v := nI 0) dX10_back_33 rfl rfl ?_
        refine j_iorN (c := st ||| 0) dX10_back_34 rfl rfl ?_
        refine j_istore_n (L' := [.ref 33, .int (nI (st ||| 0)), .int (nI p)]) dX10_back_35 rfl rfl rfl (by decide) rfl ?_
        refine j_iincN (L' := [.ref 33, .int (nI (st ||| 0)), .int (nI (p + 1))]) dX10_back_36 rfl rfl (b := 1) rfl rfl rfl (by decide) rfl ?_
        refine j_goto (tgt := 8) dX10_back_39 rfl ?_
        refine ih (p + 1) _ (by omega) ?_
        show _ = (if decide (pbF S.v p) = true then _ else _)
        rw [if_neg (fun q => hy (of_decide_eq_true q)), ← hst, Nat.or_zero]
  refine j_iconst (v := nI 0) dX10_back_6 rfl rfl ?_
  refine j_istore_n (L' := [.ref 33, .int (nI 0), .int (nI 0)]) dX10_back_7 rfl rfl rfl (by decide) rfl ?_
  exact loop (S.v 0 3) 0 0 (by omega) rfl
