set_option maxHeartbeats 4000000 in
set_option maxRecDepth 100000 in
theorem c_mleftOf {X : jX} {d n : Nat} {I : HI} {J : HJ} {i0 i1 : Option Nat} {Q : jPost} {v : VT} {k l m dr : Nat} (hM : VM 34 0 I v) (hk : k ≤ 5) (hl : l < 2 ^ 20) (hm : m ≤ 99) (hy : v 0 0 ≤ 2 ^ 20) (hda : v 0 1 ≤ 4095) (hdr : dr ≤ 4095) (hQ : Q (some (.int (nI (lft k (v 0 1) dr (v 0 0) l m)))) n I J (Pg i0 i1)) : Cj X (d + 2) 0 0 mX10_leftOf [.ref 33, .int (nI k), .int (nI l), .int (nI m), .int (nI dr)] n I J (Pg i0 i1) Q := by
  refine Cj.intro rfl (Nat.le_of_ble_eq_true rfl) (L := [.ref 33, .int (nI k), .int (nI l), .int (nI m), .int (nI dr), jU, jU, jU]) rfl ?_
  obtain ⟨T, hT⟩ : ∃ T, lft k (v 0 1) dr (v 0 0) l m = T := ⟨_, rfl⟩
  rw [hT] at hQ
  have loop : ∀ (r q lv : Nat) (w : Value), q + r = m → lv < 2 ^ 20 → lft k (v 0 1) dr (v 0 0 + q) lv r = T → Rj X (d + 2) 0 0 mX10_leftOf Q 6 [.ref 33, .int (nI k), .int (nI l), .int (nI m), .int (nI dr), .int (nI lv), .int (nI q), w] [] n I J (Pg i0 i1) := by
    intro r
    induction r with
    | zero =>
      intro q lv w hqr hlv hr
      refine j_iload dX10_leftOf_6 rfl rfl ?_
      refine j_iload_n dX10_leftOf_8 rfl rfl rfl ?_
      refine j_icmpgeN (tgt := 54) dX10_leftOf_9 rfl rfl (by omega) (by omega) (fun h1 => ?_) (fun h1 => by exfalso; omega)
      refine j_iload dX10_leftOf_54 rfl rfl ?_
      refine j_iret dX10_leftOf_56 rfl rfl ?_
      have hr : lv = T := hr
      rw [hr]
      exact hQ
    | succ r ih =>
      intro q lv w hqr hlv hr
      refine j_iload dX10_leftOf_6 rfl rfl ?_
      refine j_iload_n dX10_leftOf_8 rfl rfl rfl ?_
      refine j_icmpgeN (tgt := 54) dX10_leftOf_9 rfl rfl (by omega) (by omega) (fun h1 => by exfalso; omega) (fun h1 => ?_)
      refine j_aload_n dX10_leftOf_12 rfl rfl rfl ?_
      refine j_iload_n dX10_leftOf_13 rfl rfl rfl ?_
      refine j_aload_n dX10_leftOf_14 rfl rfl rfl ?_
      refine j_getP (b := 34) dX10_leftOf_15 rfl fX10_7 rfl (by decide) rfl rfl ?_
      refine j_iconst (v := nI 2) dX10_leftOf_18 rfl rfl ?_
      refine j_iald (j := 2) (v := nI (v 0 0)) dX10_leftOf_19 rfl rfl (by decide) rfl (by decide) (by decide) hM.my ?_
      refine j_iload dX10_leftOf_20 rfl rfl ?_
      refine j_iaddN (c := (v 0 0) + q) dX10_leftOf_22 rfl rfl ?_
      refine j_iload dX10_leftOf_23 rfl rfl ?_
      refine j_callVw (As := [.int (nI k), .int (nI ((v 0 0) + q)), .int (nI dr)]) dX10_leftOf_25 rfl cX10_126 (by decide) rfl rfl (by decide) rfl (by decide) rfl rfl (c_mgoes hM hk (by omega) hda hdr ?_)
      have hg := gos_le k (v 0 0 + q) (v 0 1) dr
      show Rj _ _ _ _ _ _ 28 [.ref 33, .int (nI k), .int (nI l), .int (nI m), .int (nI dr), .int (nI lv), .int (nI q), w] [.int (nI (gos k (v 0 0 + q) (v 0 1) dr))] n I J (Pg i0 i1)
      refine j_istore (L' := [.ref 33, .int (nI k), .int (nI l), .int (nI m), .int (nI dr), .int (nI lv), .int (nI q), .int (nI (gos k (v 0 0 + q) (v 0 1) dr))]) dX10_leftOf_28 rfl rfl (by decide) rfl ?_
      refine j_iload dX10_leftOf_30 rfl rfl ?_
      refine j_iload dX10_leftOf_32 rfl rfl ?_
      refine j_icmpleN (tgt := 45) dX10_leftOf_34 rfl rfl (by omega) (by omega) (fun h2 => ?_) (fun h2 => ?_)
      · refine j_iconst (v := nI 0) dX10_leftOf_45 rfl rfl ?_
        refine j_istore (L' := [.ref 33, .int (nI k), .int (nI l), .int (nI m), .int (nI dr), .int (nI 0), .int (nI q), .int (nI (gos k (v 0 0 + q) (v 0 1) dr))]) dX10_leftOf_46 rfl rfl (by decide) rfl ?_
        refine j_iincN (L' := [.ref 33, .int (nI k), .int (nI l), .int (nI m), .int (nI dr), .int (nI 0), .int (nI (q + 1)), .int (nI (gos k (v 0 0 + q) (v 0 1) dr))]) dX10_leftOf_48 rfl rfl (b := 1) rfl rfl rfl (by decide) rfl ?_
        refine j_goto (tgt := 6) dX10_leftOf_51 rfl ?_
        simp only [lft] at hr
        rw [show lv - gos k (v 0 0 + q) (v 0 1) dr = 0 by omega] at hr
        exact ih (q + 1) 0 _ (by omega) (by omega) hr
      · refine j_iload dX10_leftOf_37 rfl rfl ?_
        refine j_iload dX10_leftOf_39 rfl rfl ?_
        refine j_isubN (c := lv - (gos k (v 0 0 + q) (v 0 1) dr)) dX10_leftOf_41 rfl (by omega) rfl ?_
        refine j_goto (tgt := 46) dX10_leftOf_42 rfl ?_
        refine j_istore (L' := [.ref 33, .int (nI k), .int (nI l), .int (nI m), .int (nI dr), .int (nI (lv - (gos k (v 0 0 + q) (v 0 1) dr))), .int (nI q), .int (nI (gos k (v 0 0 + q) (v 0 1) dr))]) dX10_leftOf_46 rfl rfl (by decide) rfl ?_
        refine j_iincN (L' := [.ref 33, .int (nI k), .int (nI l), .int (nI m), .int (nI dr), .int (nI (lv - (gos k (v 0 0 + q) (v 0 1) dr))), .int (nI (q + 1)), .int (nI (gos k (v 0 0 + q) (v 0 1) dr))]) dX10_leftOf_48 rfl rfl (b := 1) rfl rfl rfl (by decide) rfl ?_
        refine j_goto (tgt := 6) dX10_leftOf_51 rfl ?_
        exact ih (q + 1) _ _ (by omega) (by omega) hr
  refine j_iload_n dX10_leftOf_0 rfl rfl rfl ?_
  refine j_istore (L' := [.ref 33, .int (nI k), .int (nI l), .int (nI m), .int (nI dr), .int (nI l), jU, jU]) dX10_leftOf_1 rfl rfl (by decide) rfl ?_
  refine j_iconst (v := nI 0) dX10_leftOf_3 rfl rfl ?_
  refine j_istore (L' := [.ref 33, .int (nI k), .int (nI l), .int (nI m), .int (nI dr), .int (nI l), .int (nI 0), jU]) dX10_leftOf_4 rfl rfl (by decide) rfl ?_
  exact loop m 0 l _ (by omega) hl hT
set_option maxHeartbeats 4000000 in
set_option maxRecDepth 100000 in
theorem c_mleftBy {X : jX} {d n : Nat} {I : HI} {J : HJ} {i0 i1 : Option Nat} {Q : jPost} {v : VT} {p m yb : Nat} (hM : VM 34 0 I v) (hW : WF yb v) (hyb : yb ≤ 2 ^ 12) (hp : p < v 0 3) (hm : m ≤ 99) (hQ : Q (some (.int (nI (lft (v 1 p) (v 0 1) (v 0 2) (v 0 0) (v 2 p) m)))) n I J (Pg i0 i1)) : Cj X (d + 3) 0 0 mX10_leftBy [.ref 33, .int (nI p), .int (nI m)] n I J (Pg i0 i1) Q := by
  refine Cj.intro rfl (Nat.le_of_ble_eq_true rfl) (L := [.ref 33, .int (nI p), .int (nI m)]) rfl ?_
  obtain ⟨⟨w0, w1, w2, w3, w4, w5, w6⟩, wp, wk, wc, wb⟩ := id hW
  obtain ⟨q1, q2, q3, q4, q5⟩ := wp p hp
  refine j_aload_n dX10_leftBy_0 rfl rfl rfl ?_
  refine j_aload_n dX10_leftBy_1 rfl rfl rfl ?_
  refine j_getP (b := 34) dX10_leftBy_2 rfl fX10_7 rfl (by decide) rfl rfl ?_
  refine j_bipush (v := nI 7) dX10_leftBy_5 rfl rfl ?_
  refine j_iload_n dX10_leftBy_7 rfl rfl rfl ?_
  refine j_iaddN (c := 7 + p) dX10_leftBy_8 rfl rfl ?_
  refine j_iald (j := 7 + p) (v := nI (v 1 p)) dX10_leftBy_9 rfl rfl (by decide) rfl (by omega) (by decide) (hM.kd (by omega)) ?_
  refine j_aload_n dX10_leftBy_10 rfl rfl rfl ?_
  refine j_getP (b := 34) dX10_leftBy_11 rfl fX10_7 rfl (by decide) rfl rfl ?_
  refine j_bipush (v := nI 13) dX10_leftBy_14 rfl rfl ?_
  refine j_iload_n dX10_leftBy_16 rfl rfl rfl ?_
  refine j_iaddN (c := 13 + p) dX10_leftBy_17 rfl rfl ?_
  refine j_iald (j := 13 + p) (v := nI (v 2 p)) dX10_leftBy_18 rfl rfl (by decide) rfl (by omega) (by decide) (hM.lv (by omega)) ?_
  refine j_iload_n dX10_leftBy_19 rfl rfl rfl ?_
  refine j_aload_n dX10_leftBy_20 rfl rfl rfl ?_
  refine j_getP (b := 34) dX10_leftBy_21 rfl fX10_7 rfl (by decide) rfl rfl ?_
  refine j_iconst (v := nI 4) dX10_leftBy_24 rfl rfl ?_
  refine j_iald (j := 4) (v := nI (v 0 2)) dX10_leftBy_25 rfl rfl (by decide) rfl (by decide) (by decide) hM.mr ?_
  refine j_callVw (As := [.int (nI (v 1 p)), .int (nI (v 2 p)), .int (nI m), .int (nI (v 0 2))]) dX10_leftBy_26 rfl cX10_130 (by decide) rfl rfl (by decide) rfl (by decide) rfl rfl (c_mleftOf hM q1 (by omega) hm (by omega) w1 w2 ?_)
  show Rj _ _ _ _ _ _ 29 [.ref 33, .int (nI p), .int (nI m)] [.int (nI (lft (v 1 p) (v 0 1) (v 0 2) (v 0 0) (v 2 p) m))] n I J (Pg i0 i1)
  refine j_iret dX10_leftBy_29 rfl rfl ?_
  exact hQ
