theorem i2b_n {j : Nat} (h : j ≤ 127) : (nI j : Int32).toInt8.toInt32 = nI j := by
  have h2 : ∀ k : Fin 128, (nI k.1 : Int32).toInt8.toInt32 = nI k.1 := by decide +kernel
  exact h2 ⟨j, by omega⟩
theorem CI.txt {S : SS} {n : Nat} {i0 i1 : Option Nat} {I I' : HI} {J : HJ} {l : Nat} {t : Nat → Nat} (h : CI S n i0 i1 I J) (he : ∀ a, (a < 13 ∨ 14 < a) → I' a = I a) (ht : RS I' l t) : CI (S.txt l t) n i0 i1 I' J := by
  refine ⟨h.v.congr (fun i _ => he _ (by omega)), h.w.imp (fun w hw => hw.congr (fun i _ => he _ (by omega))), ht, ?_, h.f, h.k.congr (fun a ha => he a (by omega))⟩
  rw [he 0 (by omega)]
  exact h.r
theorem MF.of {I I' : HI} {J : HJ} (he : ∀ a, 33 ≤ a → a ≤ 43 → I' a = I a) : MF I J I' J := fun a h1 h2 => ⟨he a h1 h2, rfl⟩
set_option maxHeartbeats 4000000 in
set_option maxRecDepth 100000 in
theorem c_addSign1 {X : jX} {d n : Nat} {I : HI} {J : HJ} {i0 i1 : Option Nat} {Q : jPost} {tl : Nat} {tx : Nat → Nat} (hR : RS I tl tx) {j : Nat} (hj : j ≤ 127) (hl : ¬ tl = 150) (hQ : Q (some (.int (nI (tl + 1)))) n (u2 (u2 I 14 tl (nI j)) 13 1 (nI (tl + 1))) J (Pg i0 i1)) : Cj X d 0 0 mX6_addSign [.ref 13, .int (nI j)] n I J (Pg i0 i1) Q := by
  refine Cj.intro rfl (Nat.le_of_ble_eq_true rfl) (L := [.ref 13, .int (nI j)]) rfl ?_
  obtain ⟨-, -, h150, h127⟩ := id hR
  refine j_aload_n dX6_addSign_0 rfl rfl rfl ?_
  refine j_getIv (v := nI tl) dX6_addSign_1 rfl fX6_15 rfl (by decide) rfl hR.1 ?_
  refine j_sipush (v := nI 150) dX6_addSign_4 rfl rfl ?_
  refine j_icmpltN (tgt := 13) dX6_addSign_7 rfl rfl (by omega) (by decide) (fun h1 => ?_) (fun h1 => by exfalso; omega)
  refine j_aload_n dX6_addSign_13 rfl rfl rfl ?_
  refine j_getP (b := 14) dX6_addSign_14 rfl fX6_9 rfl (by decide) rfl rfl ?_
  refine j_aload_n dX6_addSign_17 rfl rfl rfl ?_
  refine j_getIv (v := nI tl) dX6_addSign_18 rfl fX6_15 rfl (by decide) rfl hR.1 ?_
  refine j_iload_n dX6_addSign_21 rfl rfl rfl ?_
  refine j_i2b dX6_addSign_22 rfl ?_
  rw [i2b_n hj]
  refine j_bast (j := tl) dX6_addSign_23 rfl rfl (by decide) rfl (by omega) (by decide) ?_
  refine j_aload_n dX6_addSign_24 rfl rfl rfl ?_
  refine j_dup dX6_addSign_25 rfl rfl ?_
  refine j_getIv (v := nI tl) dX6_addSign_26 rfl fX6_15 rfl (by decide) rfl (by rw [u2_ne _ _ _ (by decide)]; exact hR.1) ?_
  refine j_iconst (v := nI 1) dX6_addSign_29 rfl rfl ?_
  refine j_iaddN (c := tl + 1) dX6_addSign_30 rfl rfl ?_
  refine j_dup_x1 dX6_addSign_31 rfl rfl rfl ?_
  refine j_putI dX6_addSign_32 rfl fX6_15 rfl (by decide) rfl rfl ?_
  refine j_iret dX6_addSign_35 rfl rfl ?_
  have hn : vp_nar FieldType.byte (nI j) = nI j := i2b_n hj
  rw [hn]
  exact hQ
set_option maxHeartbeats 4000000 in
set_option maxRecDepth 100000 in
theorem c_addSignF {X : jX} {d n : Nat} {I : HI} {J : HJ} {i0 i1 : Option Nat} {Q : jPost} {tl : Nat} {tx : Nat → Nat} (hR : RS I tl tx) {j : Nat} (hl : tl = 150) (hQ : Q (some (.int (-4))) n I J (Pg i0 i1)) : Cj X d 0 0 mX6_addSign [.ref 13, .int (nI j)] n I J (Pg i0 i1) Q := by
  refine Cj.intro rfl (Nat.le_of_ble_eq_true rfl) (L := [.ref 13, .int (nI j)]) rfl ?_
  refine j_aload_n dX6_addSign_0 rfl rfl rfl ?_
  refine j_getIv (v := nI tl) dX6_addSign_1 rfl fX6_15 rfl (by decide) rfl hR.1 ?_
  refine j_sipush (v := nI 150) dX6_addSign_4 rfl rfl ?_
  refine j_icmpltN (tgt := 13) dX6_addSign_7 rfl rfl (by omega) (by decide) (fun h1 => by exfalso; omega) (fun h1 => ?_)
  refine j_bipush (v := (-4)) dX6_addSign_10 rfl rfl ?_
  refine j_iret dX6_addSign_12 rfl rfl ?_
  exact hQ
set_option maxHeartbeats 4000000 in
set_option maxRecDepth 100000 in
theorem c_empty {X : jX} {d n : Nat} {I : HI} {J : HJ} {i0 i1 : Option Nat} {Q : jPost} {tl : Nat} {tx : Nat → Nat} (hR : RS I tl tx) (hQ : Q (some (.int (nI tl))) n (u2 I 13 1 (nI 0)) J (Pg i0 i1)) : Cj X d 0 0 mX6_empty [.ref 13] n I J (Pg i0 i1) Q := by
  refine Cj.intro rfl (Nat.le_of_ble_eq_true rfl) (L := [.ref 13, jU]) rfl ?_
  refine j_aload_n dX6_empty_0 rfl rfl rfl ?_
  refine j_getIv (v := nI tl) dX6_empty_1 rfl fX6_15 rfl (by decide) rfl hR.1 ?_
  refine j_istore_n (L' := [.ref 13, .int (nI tl)]) dX6_empty_4 rfl rfl rfl (by decide) rfl ?_
  refine j_aload_n dX6_empty_5 rfl rfl rfl ?_
  refine j_iconst (v := nI 0) dX6_empty_6 rfl rfl ?_
  refine j_putI dX6_empty_7 rfl fX6_15 rfl (by decide) rfl rfl ?_
  refine j_iload_n dX6_empty_10 rfl rfl rfl ?_
  refine j_iret dX6_empty_11 rfl rfl ?_
  exact hQ
theorem c_addSignX {X : jX} {d n : Nat} {I : HI} {J : HJ} {i0 i1 : Option Nat} {Q : jPost} {tl : Nat} {tx : Nat → Nat} (hR : RS I tl tx) {j : Nat} (hj : j ≤ 127) (hQ1 : ¬ tl = 150 → ∀ I', I' = u2 (u2 I 14 tl (nI j)) 13 1 (nI (tl + 1)) → Q (some (.int (nI (tl + 1)))) n I' J (Pg i0 i1)) (hQ0 : tl = 150 → Q (some (.int (-4))) n I J (Pg i0 i1)) : Cj X d 0 0 mX6_addSign [.ref 13, .int (nI j)] n I J (Pg i0 i1) Q := by
  by_cases h : tl = 150
  · exact c_addSignF hR h (hQ0 h)
  · exact c_addSign1 hR hj h (hQ1 h _ rfl)
theorem RS_add {I : HI} {tl j : Nat} {tx : Nat → Nat} (hR : RS I tl tx) (hj : j ≤ 127) (hl : ¬ tl = 150) : RS (u2 (u2 I 14 tl (nI j)) 13 1 (nI (tl + 1))) (tl + 1) (fun i => if i = tl then j else tx i) := by
  obtain ⟨a, b, c, e⟩ := hR
  refine ⟨u2_self _ _ _ _, fun i hi => ?_, by omega, fun i hi => ?_⟩
  · rw [u2_ne _ _ _ (by omega)]
    show _ = nI (if i = tl then j else tx i)
    by_cases q : i = tl
    · subst q; rw [u2_self, if_pos rfl]
    · rw [u2_ne2 _ _ _ q, if_neg q]; exact b i (by omega)
  · show (if i = tl then j else tx i) ≤ 127
    split
    · exact hj
    · exact e i (by omega)
set_option maxHeartbeats 4000000 in
set_option maxRecDepth 100000 in
theorem f_type {X : jX} {d n : Nat} {I : HI} {J : HJ} {i0 i1 : Option Nat} {Q : jPost} {S : SS} {yb : Nat} (hC : CI S n i0 i1 I J) (hW : WF yb S.v) (hyb : yb ≤ 2 ^ 12) {a : Int32} (hQ : CP Q (oType S a) I J) : Cj X (d + 2) 0 0 mX9_type [.ref 0, .int a] n I J (Pg i0 i1) Q := by
  refine Cj.intro rfl (Nat.le_of_ble_eq_true rfl) (L := [.ref 0, .int a, jU]) rfl ?_
  obtain ⟨⟨w0, w1, w2, w3, w4, w5, w6⟩, wp, wk, wc, wb⟩ := id hW
  refine j_iload_n dX9_type_0 rfl rfl rfl ?_
  refine j_iconst (v := nI 0) dX9_type_1 rfl rfl ?_
  refine j_bipush (v := nI 127) dX9_type_2 rfl rfl ?_
  refine j_callSw (As := [.int a, .int (nI 0), .int (nI 127)]) dX9_type_4 rfl cX9_71 rfl (by decide) rfl rfl (c_within (fun ha => ?_) (fun ha => ?_))
  · obtain ⟨ja, rfl, hal, hau⟩ := inR_nat (by decide) (by decide) ha
    show Rj _ _ _ _ _ _ 7 [.ref 0, .int (nI ja), jU] [.int (nI 1)] n I J (Pg i0 i1)
    refine j_ifneN (tgt := 15) dX9_type_7 rfl rfl (by decide) (fun h1 => ?_) (fun h1 => by exfalso; omega)
    refine j_aload_n dX9_type_15 rfl rfl rfl ?_
    refine j_getP (b := 13) dX9_type_16 rfl fX9_23 rfl (by decide) rfl rfl ?_
    refine j_iload_n dX9_type_19 rfl rfl rfl ?_
    refine j_callVw (As := [.int (nI ja)]) dX9_type_20 rfl cX9_96 (by decide) rfl rfl (by decide) rfl (by decide) rfl rfl (c_addSignX hC.t hau (fun hf I1 hI1 => ?_) (fun hf => ?_))
    · have h150 := hC.t.2.2.1
      show Rj _ _ _ _ _ _ 23 [.ref 0, .int (nI ja), jU] [.int (nI (S.tl + 1))] n I1 J (Pg i0 i1)
      refine j_istore_n (L' := [.ref 0, .int (nI ja), .int (nI (S.tl + 1))]) dX9_type_23 rfl rfl rfl (by decide) rfl ?_
      refine j_iload_n dX9_type_24 rfl rfl rfl ?_
      refine j_bipush (v := (-4)) dX9_type_25 rfl rfl ?_
      refine j_icmpne (tgt := 37) dX9_type_27 rfl rfl (fun h2 => ?_) (fun h2 => by exfalso; exact nI_m4 (show _ < 2 ^ 31 by omega) h2)
      refine j_iload_n dX9_type_37 rfl rfl rfl ?_
      refine j_iret dX9_type_38 rfl rfl ?_
      have e : oType S (nI ja) = (S.txt (S.tl + 1) (fun i => if i = S.tl then ja else S.tx i), nI (S.tl + 1)) := by unfold oType; rw [if_pos (by exact ha), if_neg (by exact hf), tN_nI (by omega)]
      rw [e] at hQ
      subst hI1
      exact hQ _ _ _ _ _ (hC.txt (fun a ha => by rw [u2_ne _ _ _ (by omega), u2_ne _ _ _ (by omega)]) (RS_add hC.t hau hf)) (MF.of (fun a h1 h2 => by rw [u2_ne _ _ _ (by omega), u2_ne _ _ _ (by omega)]))
    · show Rj _ _ _ _ _ _ 23 [.ref 0, .int (nI ja), jU] [.int (-4)] n I J (Pg i0 i1)
      refine j_istore_n (L' := [.ref 0, .int (nI ja), .int (-4)]) dX9_type_23 rfl rfl rfl (by decide) rfl ?_
      refine j_iload_n dX9_type_24 rfl rfl rfl ?_
      refine j_bipush (v := (-4)) dX9_type_25 rfl rfl ?_
      refine j_icmpne (tgt := 37) dX9_type_27 rfl rfl (fun h3 => by exfalso; exact h3 rfl) (fun h3 => ?_)
      refine j_aload_n dX9_type_30 rfl rfl rfl ?_
      refine j_callVw (As := []) dX9_type_31 rfl cX9_89 (by decide) rfl rfl (by decide) rfl (by decide) rfl rfl (c_full ?_)
      show Rj _ _ _ _ _ _ 34 [.ref 0, .int (nI ja), .int (-4)] [.int (-4)] n (u2 I 0 9 (I 0 9 + nI 1)) J (Pg i0 i1)
      refine j_goto (tgt := 38) dX9_type_34 rfl ?_
      refine j_iret dX9_type_38 rfl rfl ?_
      have e : oType S (nI ja) = (S.full, -4) := by unfold oType; rw [if_pos (by exact ha), if_pos (by exact hf)]
      rw [e] at hQ
      exact hQ _ _ _ _ _ hC.full MF.sta
  · show Rj _ _ _ _ _ _ 7 [.ref 0, .int a, jU] [.int (nI 0)] n I J (Pg i0 i1)
    refine j_ifneN (tgt := 15) dX9_type_7 rfl rfl (by decide) (fun h4 => by exfalso; omega) (fun h4 => ?_)
    refine j_aload_n dX9_type_10 rfl rfl rfl ?_
    refine j_callVw (As := []) dX9_type_11 rfl cX9_75 (by decide) rfl rfl (by decide) rfl (by decide) rfl rfl (c_bad ?_)
    show Rj _ _ _ _ _ _ 14 [.ref 0, .int a, jU] [.int (-2)] n (u2 I 0 7 (I 0 7 + nI 1)) J (Pg i0 i1)
    refine j_iret dX9_type_14 rfl rfl ?_
    have e : oType S a = (S.bad, -2) := by unfold oType; rw [if_neg (by exact ha)]
    rw [e] at hQ
    exact hQ _ _ _ _ _ hC.bad MF.sta
set_option maxHeartbeats 4000000 in
set_option maxRecDepth 100000 in
theorem f_clear {X : jX} {d n : Nat} {I : HI} {J : HJ} {i0 i1 : Option Nat} {Q : jPost} {S : SS} {yb : Nat} (hC : CI S n i0 i1 I J) (hW : WF yb S.v) (hyb : yb ≤ 2 ^ 12) (hQ : CP Q (oClear S ) I J) : Cj X (d + 2) 0 0 mX9_clear [.ref 0] n I J (Pg i0 i1) Q := by
  refine Cj.intro rfl (Nat.le_of_ble_eq_true rfl) (L := [.ref 0]) rfl ?_
  obtain ⟨⟨w0, w1, w2, w3, w4, w5, w6⟩, wp, wk, wc, wb⟩ := id hW
  refine j_aload_n dX9_clear_0 rfl rfl rfl ?_
  refine j_getP (b := 13) dX9_clear_1 rfl fX9_23 rfl (by decide) rfl rfl ?_
  refine j_callVw (As := []) dX9_clear_4 rfl cX9_99 (by decide) rfl rfl (by decide) rfl (by decide) rfl rfl (c_empty hC.t ?_)
  show Rj _ _ _ _ _ _ 7 [.ref 0] [.int (nI S.tl)] n (u2 I 13 1 (nI 0)) J (Pg i0 i1)
  refine j_iret dX9_clear_7 rfl rfl ?_
  exact hQ _ _ _ _ _ (hC.txt (fun a ha => u2_ne _ _ _ (by omega)) ⟨u2_self _ _ _ _, fun i hi => absurd hi (Nat.not_lt_zero _), Nat.zero_le _, fun i hi => absurd hi (Nat.not_lt_zero _)⟩) (MF.of (fun a h1 h2 => u2_ne _ _ _ (by omega)))
theorem CI.rd {S : SS} {n : Nat} {i0 i1 : Option Nat} {I I' : HI} {J : HJ} {w : VT} (h : CI S n i0 i1 I J) (hr : Rdr I I') (hw : VC 15 I' w) : CI S n i0 i1 I' J := by
  refine ⟨h.v.congr (fun i _ => hr.1 _ (by omega)), ⟨w, hw⟩, h.t.rd hr, ?_, h.f, h.k.congr (fun a ha => hr.1 a (by omega))⟩
  rw [hr.1 0 (by omega)]
  exact h.r
theorem Rdr.mf {I I' : HI} {J : HJ} (hr : Rdr I I') : MF I J I' J := fun a h1 h2 => ⟨hr.1 a (by omega), rfl⟩
theorem oRead_ve {S : SS} {w w1 : VT} {o : Option Nat} {g : Nat} (h : rdA S.tx S.tl (vZ w) = (o, g, w1)) : ∃ w2, VE w1 w2 ∧ rdA S.tx S.tl (vZ (fun _ _ => 0)) = (o, g, w2) := by
  have hv := rdA_ve (tx := S.tx) (tl := S.tl) (VE_Z w (fun _ _ => 0))
  rw [h] at hv
  obtain ⟨a, b, c⟩ := hv
  exact ⟨_, c, Prod.ext a.symm (Prod.ext b.symm rfl)⟩
set_option maxHeartbeats 4000000 in
set_option maxRecDepth 100000 in
theorem f_read {X : jX} {d n : Nat} {I : HI} {J : HJ} {i0 i1 : Option Nat} {Q : jPost} {S : SS} {yb : Nat} (hC : CI S n i0 i1 I J) (hW : WF yb S.v) (hyb : yb ≤ 2 ^ 12) (hQ : CP Q (oRead S ) I J) : Cj X (d + 7) 0 0 mX9_read [.ref 0] n I J (Pg i0 i1) Q := by
  refine Cj.intro rfl (Nat.le_of_ble_eq_true rfl) (L := [.ref 0]) rfl ?_
  obtain ⟨⟨w0, w1, w2, w3, w4, w5, w6⟩, wp, wk, wc, wb⟩ := id hW
  obtain ⟨w, hw⟩ := hC.w
  refine j_aload_n dX9_read_0 rfl rfl rfl ?_
  refine j_getP (b := 13) dX9_read_1 rfl fX9_23 rfl (by decide) rfl rfl ?_
  refine j_aload_n dX9_read_4 rfl rfl rfl ?_
  refine j_getP (b := 1) dX9_read_5 rfl fX9_10 rfl (by decide) rfl rfl ?_
  refine j_callVw (As := [.ref 1]) dX9_read_8 rfl cX9_102 (by decide) rfl rfl (by decide) rfl (by decide) rfl rfl (c_readInto hC.t hw rfl (fun k g w1 hy I1 I2 hV1 hV2 hr1 ho2 => ?_) (fun g w1 hy I1 hV1 hr1 => ?_))
  · show Rj _ _ _ _ _ _ 11 [.ref 0] [.int (nI k)] n I2 J (Pg i0 i1)
    refine j_iret dX9_read_11 rfl rfl ?_
    obtain ⟨w2, hw2, hy2⟩ := oRead_ve hy
    have e : oRead S = (S.set w2, nI k) := by unfold oRead; rw [hy2]
    rw [e] at hQ
    exact hQ _ _ _ _ _ ((hC.rd hr1 hV1).one (hV2.ve hw2) ho2) (hr1.mf.trans ho2.mf)
  · show Rj _ _ _ _ _ _ 11 [.ref 0] [.int (-10 - nI g)] n I1 J (Pg i0 i1)
    refine j_iret dX9_read_11 rfl rfl ?_
    obtain ⟨w2, hw2, hy2⟩ := oRead_ve hy
    have e : oRead S = (S, -10 - nI g) := by unfold oRead; rw [hy2]
    rw [e] at hQ
    exact hQ _ _ _ _ _ (hC.rd hr1 hV1) hr1.mf
