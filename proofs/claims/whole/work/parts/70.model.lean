def vYp (v : VT) (p : Nat) : VT := fun f i => if f = 2 ∧ i < p then v 2 i - gos (v 1 i) (v 0 0) (v 0 1) (v 0 2) else if f = 4 ∧ i < p then (if 0 < v 2 i ∧ v 2 i - gos (v 1 i) (v 0 0) (v 0 1) (v 0 2) = 0 then v 0 0 + 1 else v 4 i) else vPush v f i
theorem vYp_0 (v : VT) : vYp v 0 = vPush v := by
  funext f i
  unfold vYp
  rw [if_neg (by omega), if_neg (by omega)]
theorem vYp_k (v : VT) (p f i : Nat) (h1 : f ≠ 2) (h2 : f ≠ 4) : vYp v p f i = vPush v f i := by
  unfold vYp
  rw [if_neg (by omega), if_neg (by omega)]
theorem vYp_n (v : VT) (p f i : Nat) (h1 : ¬ i < p) : vYp v p f i = vPush v f i := by
  unfold vYp
  rw [if_neg (by omega), if_neg (by omega)]
theorem vYp_2 (v : VT) (p i : Nat) (h : i < p) : vYp v p 2 i = v 2 i - gos (v 1 i) (v 0 0) (v 0 1) (v 0 2) := by
  unfold vYp
  rw [if_pos ⟨rfl, h⟩]
theorem vYp_4 (v : VT) (p i : Nat) (h : i < p) : vYp v p 4 i = (if 0 < v 2 i ∧ v 2 i - gos (v 1 i) (v 0 0) (v 0 1) (v 0 2) = 0 then v 0 0 + 1 else v 4 i) := by
  unfold vYp
  rw [if_neg (by omega), if_pos ⟨rfl, h⟩]
theorem vPush_k (v : VT) (f i : Nat) (h1 : 1 ≤ f) (h2 : f < 10) : vPush v f i = v f i := by
  unfold vPush
  rw [if_neg (by omega), if_neg (by omega), if_neg (by omega)]
theorem VM_yp {I I' : HI} {v : VT} {p : Nat} (h : VM 34 0 I (vYp v p)) (h3 : v 0 3 ≤ 6) (h4 : v 0 4 ≤ 8) (h5 : v 0 5 ≤ 8) (hp : p < v 0 3) (e1 : I' 34 (13 + p) = nI (v 2 p - gos (v 1 p) (v 0 0) (v 0 1) (v 0 2))) (e2 : I' 34 (25 + p) = nI (if 0 < v 2 p ∧ v 2 p - gos (v 1 p) (v 0 0) (v 0 1) (v 0 2) = 0 then v 0 0 + 1 else v 4 p) - 1) (he : ∀ i, i ≠ 13 + p → i ≠ 25 + p → I' 34 i = I 34 i) : VM 34 0 I' (vYp v (p + 1)) := by
  have hb := h.2.2.2.2
  refine h.chg (fun i _ _ => ?_) ?_ ?_ h3 h4 h5 (fun q hq => ?_) (fun f i q1 q2 => ?_) (fun i q1 q2 q3 q4 => ?_) (fun j hj => ?_)
  · rw [vYp_k _ _ _ _ (by omega) (by omega), vYp_k _ _ _ _ (by omega) (by omega)]
  · rw [he _ (by omega) (by omega)]; exact h.my
  · rw [he _ (by omega) (by omega)]; exact h.mb
  · have hq : q < v 0 3 := hq
    have g1 := h.kd hq
    have g2 := h.lv hq
    have g3 := h.sn hq
    have g4 := h.en hq
    rw [he _ (by omega) (by omega), he (19 + q) (by omega) (by omega), g1, g3]
    rw [vYp_k _ _ 1 _ (by omega) (by omega), vYp_k _ _ 3 _ (by omega) (by omega), vYp_k _ _ 1 _ (by omega) (by omega), vYp_k _ _ 3 _ (by omega) (by omega)]
    by_cases e : q = p
    · subst e
      rw [vYp_2 _ _ _ (by omega), vYp_4 _ _ _ (by omega)]
      exact ⟨rfl, e1, rfl, e2⟩
    · rw [he _ (by omega) (by omega), he _ (by omega) (by omega), g2, g4]
      by_cases e3 : q < p
      · rw [vYp_2 _ _ _ e3, vYp_2 _ _ _ (by omega), vYp_4 _ _ _ e3, vYp_4 _ _ _ (by omega)]
        exact ⟨rfl, rfl, rfl, rfl⟩
      · rw [vYp_n _ _ _ _ e3, vYp_n _ _ _ _ e3, vYp_n _ _ _ _ (by omega), vYp_n _ _ _ _ (by omega)]
        exact ⟨rfl, rfl, rfl, rfl⟩
  · rw [vYp_k _ _ _ _ (by omega) (by omega), vYp_k _ _ _ _ (by omega) (by omega)]
  · exact he i (by omega) (by omega)
  · have e6 : vYp v (p + 1) 0 6 = vYp v p 0 6 := rfl
    rw [e6] at hj ⊢
    have := hb j hj
    simp only [Nat.zero_add] at this
    refine ⟨?_, fun q hq => ?_⟩
    · rw [he _ (by omega) (by omega), this.1, vYp_k _ _ _ _ (by omega) (by omega), vYp_k _ _ _ _ (by omega) (by omega)]
    · rw [he _ (by omega) (by omega), he _ (by omega) (by omega), (this.2 q hq).1, (this.2 q hq).2, vYp_k _ _ _ _ (by omega) (by omega), vYp_k _ _ _ _ (by omega) (by omega), vYp_k _ _ _ _ (by omega) (by omega), vYp_k _ _ _ _ (by omega) (by omega)]
      exact ⟨rfl, rfl⟩
theorem VM_ye {I : HI} {v : VT} (h : VM 34 0 I (vYp v (v 0 3))) (h3 : v 0 3 ≤ 6) (h4 : v 0 4 ≤ 8) (h5 : v 0 5 ≤ 8) : VM 34 0 (u2 I 34 2 (nI (v 0 0 + 1))) (vYear v) := by
  have hb := h.2.2.2.2
  have e : ∀ i, i ≠ 2 → u2 I 34 2 (nI (v 0 0 + 1)) 34 i = I 34 i := fun i hi => u2_ne2 _ _ _ hi
  have yk : ∀ f i, 5 ≤ f → vYear v f i = vPush v f i := fun f i hf => by unfold vYear; rw [if_neg (by omega), if_neg (by omega), if_neg (by omega)]
  refine h.chg (fun i k1 k2 => ?_) (u2_self _ _ _ _) ?_ h3 h4 h5 (fun q hq => ?_) (fun f i q1 q2 => ?_) (fun i q1 q2 q3 q4 => e i q1) (fun j hj => ?_)
  · rw [vYp_k _ _ _ _ (by omega) (by omega)]
    unfold vYear
    rw [if_pos rfl, if_neg k1]
  · rw [e _ (by omega)]; exact h.mb
  · have hq : q < v 0 3 := hq
    rw [e _ (by omega), e _ (by omega), e _ (by omega), e _ (by omega), h.kd hq, h.lv hq, h.sn hq, h.en hq, vYp_2 _ _ _ hq, vYp_4 _ _ _ hq, vYp_k _ _ _ _ (by omega) (by omega), vYp_k _ _ _ _ (by omega) (by omega)]
    exact ⟨rfl, rfl, rfl, rfl⟩
  · rw [vYp_k _ _ _ _ (by omega) (by omega), yk _ _ q1]
  · have e6 : vYear v 0 6 = vYp v (v 0 3) 0 6 := rfl
    rw [e6] at hj ⊢
    have := hb j hj
    simp only [Nat.zero_add] at this
    refine ⟨?_, fun q hq => ?_⟩
    · rw [e _ (by omega), this.1, vYp_k _ _ _ _ (by omega) (by omega), yk _ _ (by omega)]
    · rw [e _ (by omega), e _ (by omega), (this.2 q hq).1, (this.2 q hq).2, vYp_k _ _ _ _ (by omega) (by omega), vYp_k _ _ _ _ (by omega) (by omega), yk _ _ (by omega), yk _ _ (by omega)]
      exact ⟨rfl, rfl⟩
set_option maxHeartbeats 4000000 in
set_option maxRecDepth 100000 in
theorem c_mleftByW {X : jX} {d n : Nat} {I : HI} {J : HJ} {i0 i1 : Option Nat} {Q : jPost} {v : VT} {p m k l : Nat} (hM : VM 34 0 I v) (hp6 : p < 6) (e1 : I 34 (7 + p) = nI k) (e2 : I 34 (13 + p) = nI l) (hk : k ≤ 5) (hl : l ≤ 60) (hm : m ≤ 99) (hy : v 0 0 ≤ 2 ^ 20) (hda : v 0 1 ≤ 4095) (hdr : v 0 2 ≤ 4095) (hQ : Q (some (.int (nI (lft k (v 0 1) (v 0 2) (v 0 0) l m)))) n I J (Pg i0 i1)) : Cj X (d + 3) 0 0 mX10_leftBy [.ref 33, .int (nI p), .int (nI m)] n I J (Pg i0 i1) Q := by
  refine Cj.intro rfl (Nat.le_of_ble_eq_true rfl) (L := [.ref 33, .int (nI p), .int (nI m)]) rfl ?_
  refine j_aload_n dX10_leftBy_0 rfl rfl rfl ?_
  refine j_aload_n dX10_leftBy_1 rfl rfl rfl ?_
  refine j_getP (b := 34) dX10_leftBy_2 rfl fX10_7 rfl (by decide) rfl rfl ?_
  refine j_bipush (v := nI 7) dX10_leftBy_5 rfl rfl ?_
  refine j_iload_n dX10_leftBy_7 rfl rfl rfl ?_
  refine j_iaddN (c := 7 + p) dX10_leftBy_8 rfl rfl ?_
  refine j_iald (j := 7 + p) (v := nI k) dX10_leftBy_9 rfl rfl (by decide) rfl (by omega) (by decide) e1 ?_
  refine j_aload_n dX10_leftBy_10 rfl rfl rfl ?_
  refine j_getP (b := 34) dX10_leftBy_11 rfl fX10_7 rfl (by decide) rfl rfl ?_
  refine j_bipush (v := nI 13) dX10_leftBy_14 rfl rfl ?_
  refine j_iload_n dX10_leftBy_16 rfl rfl rfl ?_
  refine j_iaddN (c := 13 + p) dX10_leftBy_17 rfl rfl ?_
  refine j_iald (j := 13 + p) (v := nI l) dX10_leftBy_18 rfl rfl (by decide) rfl (by omega) (by decide) e2 ?_
  refine j_iload_n dX10_leftBy_19 rfl rfl rfl ?_
  refine j_aload_n dX10_leftBy_20 rfl rfl rfl ?_
  refine j_getP (b := 34) dX10_leftBy_21 rfl fX10_7 rfl (by decide) rfl rfl ?_
  refine j_iconst (v := nI 4) dX10_leftBy_24 rfl rfl ?_
  refine j_iald (j := 4) (v := nI (v 0 2)) dX10_leftBy_25 rfl rfl (by decide) rfl (by decide) (by decide) hM.mr ?_
  refine j_callVw (As := [.int (nI k), .int (nI l), .int (nI m), .int (nI (v 0 2))]) dX10_leftBy_26 rfl cX10_130 (by decide) rfl rfl (by decide) rfl (by decide) rfl rfl (c_mleftOf hM hk (by omega) hm hy hda hdr ?_)
  show Rj _ _ _ _ _ _ 29 [.ref 33, .int (nI p), .int (nI m)] [.int (nI (lft k (v 0 1) (v 0 2) (v 0 0) l m))] n I J (Pg i0 i1)
  refine j_iret dX10_leftBy_29 rfl rfl ?_
  exact hQ
set_option maxHeartbeats 4000000 in
set_option maxRecDepth 100000 in
theorem g_year {X : jX} {d n : Nat} {I : HI} {J : HJ} {i0 i1 : Option Nat} {Q : jPost} {S : SS} {yb : Nat} (hm : MI S I J) (hW : WF yb S.v) (hyb : yb ≤ 2 ^ 12) {a : Int32} (hQ : MP Q (oYear S a) n I J (Pg i0 i1)) : Cj X (d + 4) 0 0 mX10_year [.ref 33, .int a] n I J (Pg i0 i1) Q := by
  refine Cj.intro rfl (Nat.le_of_ble_eq_true rfl) (L := [.ref 33, .int a, jU, jU, jU, jU]) rfl ?_
  have inner : ∀ (r p e ja q e0 : Nat) (v1 : VT) (z : Value) (Ia : HI), p + r = v1 0 3 → q < ja ∧ ja ≤ 60 → WF (yb + q) v1 → yb + q ≤ 2 ^ 13 → VM 34 0 Ia (vYp v1 p) → (∀ a, a ≠ 34 → Ia a = I a) → e0 < 64 → e = e0 ||| endB v1 0 (v1 2) p → (∀ (z4 z5 : Value) (I2 : HI), VM 34 0 I2 (vYear v1) → (∀ a, a ≠ 34 → I2 a = I a) → Rj X (d + 4) 0 0 mX10_year Q 21 [.ref 33, .int (nI ja), .int (nI (e0 ||| endB v1 0 (v1 2) (v1 0 3))), .int (nI (q + 1)), z4, z5] [] n I2 J (Pg i0 i1)) → Rj X (d + 4) 0 0 mX10_year Q 33 [.ref 33, .int (nI ja), .int (nI e), .int (nI q), .int (nI p), z] [] n Ia J (Pg i0 i1) := by
    intro r
    induction r with
    | zero =>
      intro p e ja q e0 v1 z Ia hpr hqj hW1 hy1 hM hO he0 he hk
      obtain ⟨⟨w0, w1, w2, w3, w4, w5, w6⟩, wp, wk, wc, wb⟩ := id hW1
      have hel : e < 64 := by
        rw [he]
        exact Nat.or_lt_two_pow (n := 6) he0 (Nat.lt_of_lt_of_le (endB_lt _ _ _ _) (Nat.pow_le_pow_right (by omega) (by omega)))
      refine j_iload dX10_year_33 rfl rfl ?_
      refine j_aload_n dX10_year_35 rfl rfl rfl ?_
      refine j_getP (b := 34) dX10_year_36 rfl fX10_7 rfl (by decide) rfl rfl ?_
      refine j_iconst (v := nI 0) dX10_year_39 rfl rfl ?_
      refine j_iald (j := 0) (v := nI (v1 0 3)) dX10_year_40 rfl rfl (by decide) rfl (by decide) (by decide) hM.mp ?_
      refine j_icmpgeN (tgt := 120) dX10_year_41 rfl rfl (by omega) (by omega) (fun h1 => ?_) (fun h1 => by exfalso; omega)
      refine j_aload_n dX10_year_120 rfl rfl rfl ?_
      refine j_getP (b := 34) dX10_year_121 rfl fX10_7 rfl (by decide) rfl rfl ?_
      refine j_iconst (v := nI 2) dX10_year_124 rfl rfl ?_
      refine j_dup2 dX10_year_125 rfl rfl rfl ?_
      refine j_iald (j := 2) (v := nI (v1 0 0)) dX10_year_126 rfl rfl (by decide) rfl (by decide) (by decide) hM.my ?_
      refine j_iconst (v := nI 1) dX10_year_127 rfl rfl ?_
      refine j_iaddN (c := (v1 0 0) + 1) dX10_year_128 rfl rfl ?_
      refine j_iast (j := 2) dX10_year_129 rfl rfl (by decide) rfl (by decide) (by decide) ?_
      refine j_iincN (L' := [.ref 33, .int (nI ja), .int (nI e), .int (nI (q + 1)), .int (nI p), z]) dX10_year_130 rfl rfl (b := 1) rfl rfl rfl (by decide) rfl ?_
      refine j_goto (tgt := 21) dX10_year_133 rfl ?_
      have hp3 : p = v1 0 3 := by omega
      subst hp3
      rw [he]
      exact hk _ _ _ (VM_ye hM w3 w4 w5) (fun a ha => by rw [u2_ne _ _ _ ha]; exact hO a ha)
    | succ r ih =>
      intro p e ja q e0 v1 z Ia hpr hqj hW1 hy1 hM hO he0 he hk
      obtain ⟨⟨w0, w1, w2, w3, w4, w5, w6⟩, wp, wk, wc, wb⟩ := id hW1
      have hel : e < 64 := by
        rw [he]
        exact Nat.or_lt_two_pow (n := 6) he0 (Nat.lt_of_lt_of_le (endB_lt _ _ _ _) (Nat.pow_le_pow_right (by omega) (by omega)))
      obtain ⟨q1, q2, q3, q4, q5⟩ := wp p (by omega)
      have hl : Ia 34 (13 + p) = nI (v1 2 p) := by rw [hM.lv (show p < v1 0 3 by omega), vYp_n _ _ _ _ (by omega), vPush_k _ _ _ (by omega) (by omega)]
      have hkd : Ia 34 (7 + p) = nI (v1 1 p) := by rw [hM.kd (show p < v1 0 3 by omega), vYp_n _ _ _ _ (by omega), vPush_k _ _ _ (by omega) (by omega)]
      have hen : Ia 34 (25 + p) = nI (v1 4 p) - 1 := by rw [hM.en (show p < v1 0 3 by omega), vYp_n _ _ _ _ (by omega), vPush_k _ _ _ (by omega) (by omega)]
      refine j_iload dX10_year_33 rfl rfl ?_
      refine j_aload_n dX10_year_35 rfl rfl rfl ?_
      refine j_getP (b := 34) dX10_year_36 rfl fX10_7 rfl (by decide) rfl rfl ?_
      refine j_iconst (v := nI 0) dX10_year_39 rfl rfl ?_
      refine j_iald (j := 0) (v := nI (v1 0 3)) dX10_year_40 rfl rfl (by decide) rfl (by decide) (by decide) hM.mp ?_
      refine j_icmpgeN (tgt := 120) dX10_year_41 rfl rfl (by omega) (by omega) (fun h1 => by exfalso; omega) (fun h1 => ?_)
      refine j_aload_n dX10_year_44 rfl rfl rfl ?_
      refine j_getP (b := 34) dX10_year_45 rfl fX10_7 rfl (by decide) rfl rfl ?_
      refine j_bipush (v := nI 13) dX10_year_48 rfl rfl ?_
      refine j_iload dX10_year_50 rfl rfl ?_
      refine j_iaddN (c := 13 + p) dX10_year_52 rfl rfl ?_
      refine j_iald (j := 13 + p) (v := nI (v1 2 p)) dX10_year_53 rfl rfl (by decide) rfl (by omega) (by decide) hl ?_
      refine j_istore (L' := [.ref 33, .int (nI ja), .int (nI e), .int (nI q), .int (nI p), .int (nI (v1 2 p))]) dX10_year_54 rfl rfl (by decide) rfl ?_
      refine j_aload_n dX10_year_56 rfl rfl rfl ?_
      refine j_getP (b := 34) dX10_year_57 rfl fX10_7 rfl (by decide) rfl rfl ?_
      refine j_bipush (v := nI 13) dX10_year_60 rfl rfl ?_
      refine j_iload dX10_year_62 rfl rfl ?_
      refine j_iaddN (c := 13 + p) dX10_year_64 rfl rfl ?_
      refine j_aload_n dX10_year_65 rfl rfl rfl ?_
      refine j_iload dX10_year_66 rfl rfl ?_
      refine j_iconst (v := nI 1) dX10_year_68 rfl rfl ?_
      refine j_callVw (As := [.int (nI p), .int (nI 1)]) dX10_year_69 rfl cX10_137 (by decide) rfl rfl (by decide) rfl (Nat.le_of_ble_eq_true rfl) rfl rfl (c_mleftByW hM (by omega) hkd hl q1 q2 (by omega) (Nat.le_trans w0 (by omega)) w1 w2 ?_)
      show Rj _ _ _ _ _ _ 72 [.ref 33, .int (nI ja), .int (nI e), .int (nI q), .int (nI p), .int (nI (v1 2 p))] [.int (nI (v1 2 p - gos (v1 1 p) (v1 0 0) (v1 0 1) (v1 0 2))), .int (nI (13 + p)), .ref 34] n Ia J (Pg i0 i1)
      refine j_iast (j := 13 + p) dX10_year_72 rfl rfl (by decide) rfl (by omega) (by decide) ?_
      refine j_iload dX10_year_73 rfl rfl ?_
      refine j_ifleN (tgt := 114) dX10_year_75 rfl rfl (by omega) (fun h2 => ?_) (fun h2 => ?_)
      · refine j_iincN (L' := [.ref 33, .int (nI ja), .int (nI e), .int (nI q), .int (nI (p + 1)), .int (nI (v1 2 p))]) dX10_year_114 rfl rfl (b := 1) rfl rfl rfl (by decide) rfl ?_
        refine j_goto (tgt := 33) dX10_year_117 rfl ?_
        refine ih (p + 1) _ ja q e0 v1 _ _ (by omega) (by omega) hW1 hy1 (VM_yp hM w3 w4 w5 (by omega) (u2_self _ _ _ _) ?_ (fun i k1 k2 => u2_ne2 _ _ _ k1)) (fun a ha => by rw [u2_ne _ _ _ ha]; exact hO a ha) he0 ?_ hk
        · rw [u2_ne2 _ _ _ (by omega), hen, if_neg (by omega)]
        · rw [he]; show _ = e0 ||| (if _ then _ else _); rw [if_neg (by rintro ⟨k1, k2⟩; first | omega | exact absurd k2 (by assumption))]
      · refine j_aload_n dX10_year_78 rfl rfl rfl ?_
        refine j_getP (b := 34) dX10_year_79 rfl fX10_7 rfl (by decide) rfl rfl ?_
        refine j_bipush (v := nI 13) dX10_year_82 rfl rfl ?_
        refine j_iload dX10_year_84 rfl rfl ?_
        refine j_iaddN (c := 13 + p) dX10_year_86 rfl rfl ?_
        refine j_iald (j := 13 + p) (v := nI (v1 2 p - gos (v1 1 p) (v1 0 0) (v1 0 1) (v1 0 2))) dX10_year_87 rfl rfl (by decide) rfl (by omega) (by decide) (by simp [u2]) ?_
        refine j_ifneN (tgt := 114) dX10_year_88 rfl rfl (by omega) (fun h3 => ?_) (fun h3 => ?_)
        · refine j_iincN (L' := [.ref 33, .int (nI ja), .int (nI e), .int (nI q), .int (nI (p + 1)), .int (nI (v1 2 p))]) dX10_year_114 rfl rfl (b := 1) rfl rfl rfl (by decide) rfl ?_
          refine j_goto (tgt := 33) dX10_year_117 rfl ?_
          refine ih (p + 1) _ ja q e0 v1 _ _ (by omega) (by omega) hW1 hy1 (VM_yp hM w3 w4 w5 (by omega) (u2_self _ _ _ _) ?_ (fun i k1 k2 => u2_ne2 _ _ _ k1)) (fun a ha => by rw [u2_ne _ _ _ ha]; exact hO a ha) he0 ?_ hk
          · rw [u2_ne2 _ _ _ (by omega), hen, if_neg (by omega)]
          · rw [he]; show _ = e0 ||| (if _ then _ else _); rw [if_neg (by rintro ⟨k1, k2⟩; first | omega | exact absurd k2 (by assumption))]
        · refine j_aload_n dX10_year_91 rfl rfl rfl ?_
          refine j_getP (b := 34) dX10_year_92 rfl fX10_7 rfl (by decide) rfl rfl ?_
          refine j_bipush (v := nI 25) dX10_year_95 rfl rfl ?_
          refine j_iload dX10_year_97 rfl rfl ?_
          refine j_iaddN (c := 25 + p) dX10_year_99 rfl rfl ?_
          refine j_aload_n dX10_year_100 rfl rfl rfl ?_
          refine j_getP (b := 34) dX10_year_101 rfl fX10_7 rfl (by decide) rfl rfl ?_
          refine j_iconst (v := nI 2) dX10_year_104 rfl rfl ?_
          refine j_iald (j := 2) (v := nI (v1 0 0)) dX10_year_105 rfl rfl (by decide) rfl (by decide) (by decide) (by rw [u2_ne2 _ _ _ (by omega)]; exact hM.my) ?_
          refine j_iast (j := 25 + p) dX10_year_106 rfl rfl (by decide) rfl (by omega) (by decide) ?_
          refine j_iload_n dX10_year_107 rfl rfl rfl ?_
          refine j_iconst (v := nI 1) dX10_year_108 rfl rfl ?_
          refine j_iload dX10_year_109 rfl rfl ?_
          refine j_ishlN (c := 2 ^ p) dX10_year_111 rfl (by omega) (Nat.one_mul _) ?_
          refine j_iorN (c := e ||| (2 ^ p)) dX10_year_112 rfl rfl ?_
          refine j_istore_n (L' := [.ref 33, .int (nI ja), .int (nI (e ||| (2 ^ p))), .int (nI q), .int (nI p), .int (nI (v1 2 p))]) dX10_year_113 rfl rfl rfl (by decide) rfl ?_
          refine j_iincN (L' := [.ref 33, .int (nI ja), .int (nI (e ||| (2 ^ p))), .int (nI q), .int (nI (p + 1)), .int (nI (v1 2 p))]) dX10_year_114 rfl rfl (b := 1) rfl rfl rfl (by decide) rfl ?_
          refine j_goto (tgt := 33) dX10_year_117 rfl ?_
          refine ih (p + 1) _ ja q e0 v1 _ _ (by omega) (by omega) hW1 hy1 (VM_yp hM w3 w4 w5 (by omega) ?_ ?_ (fun i k1 k2 => by rw [u2_ne2 _ _ _ k2, u2_ne2 _ _ _ k1])) (fun a ha => by rw [u2_ne _ _ _ ha, u2_ne _ _ _ ha]; exact hO a ha) he0 ?_ hk
          · rw [u2_ne2 _ _ _ (by omega), u2_self]
          · rw [u2_self, if_pos (by omega), nI_pred]
          · rw [he]; show _ = e0 ||| (if _ then _ else _); rw [if_pos (by exact ⟨by omega, by assumption⟩), Nat.or_assoc]
  have outer : ∀ (r q e ja : Nat) (v1 : VT) (z4 z5 : Value) (I1 : HI) (T : VT × Nat), q + r = ja → ja ≤ 60 → VM 34 0 I1 v1 → (∀ a, a ≠ 34 → I1 a = I a) → WF (yb + q) v1 → e < 64 → yrN r v1 e = T → MP Q (S.set T.1, nI T.2) n I J (Pg i0 i1) → Rj X (d + 4) 0 0 mX10_year Q 21 [.ref 33, .int (nI ja), .int (nI e), .int (nI q), z4, z5] [] n I1 J (Pg i0 i1) := by
    intro r
    induction r with
    | zero =>
      intro q e ja v1 z4 z5 I1 T hqr hj hV1 hO1 hW1 he hr hF
      refine j_iload_n dX10_year_21 rfl rfl rfl ?_
      refine j_iload_n dX10_year_22 rfl rfl rfl ?_
      refine j_icmpgeN (tgt := 136) dX10_year_23 rfl rfl (by omega) (by omega) (fun h1 => ?_) (fun h1 => by exfalso; omega)
      refine j_iload_n dX10_year_136 rfl rfl rfl ?_
      refine j_iret dX10_year_137 rfl rfl ?_
      subst hr
      exact hF _ _ (hm.one hV1 hO1) (fun b hb => ⟨hO1 b (by omega), rfl⟩)
    | succ r ih =>
      intro q e ja v1 z4 z5 I1 T hqr hj hV1 hO1 hW1 he hr hF
      refine j_iload_n dX10_year_21 rfl rfl rfl ?_
      refine j_iload_n dX10_year_22 rfl rfl rfl ?_
      refine j_icmpgeN (tgt := 136) dX10_year_23 rfl rfl (by omega) (by omega) (fun h1 => by exfalso; omega) (fun h1 => ?_)
      refine j_aload_n dX10_year_26 rfl rfl rfl ?_
      refine j_callVw (As := []) dX10_year_27 rfl cX10_134 (by decide) rfl rfl (by decide) rfl (by decide) rfl rfl (c_mnote hV1 hW1 (fun Ia hM hOa => ?_))
      show Rj _ _ _ _ _ _ 30 [.ref 33, .int (nI ja), .int (nI e), .int (nI q), z4, z5] [] n Ia J (Pg i0 i1)
      refine j_iconst (v := nI 0) dX10_year_30 rfl rfl ?_
      refine j_istore (L' := [.ref 33, .int (nI ja), .int (nI e), .int (nI q), .int (nI 0), z5]) dX10_year_31 rfl rfl (by decide) rfl ?_
      refine inner (v1 0 3) 0 e ja q e v1 _ Ia (by omega) (by omega) hW1 (by omega) (by rw [vYp_0]; exact hM) (fun a ha => (hOa a ha).trans (hO1 a ha)) he (by show e = e ||| 0; rw [Nat.or_zero]) (fun z4 z5 I2 k1 k2 => ?_)
      refine ih (q + 1) _ ja _ _ _ _ T (by omega) hj k1 k2 (WF_year hW1) ?_ hr hF
      exact Nat.or_lt_two_pow (n := 6) he (Nat.lt_of_lt_of_le (endB_lt _ _ _ _) (Nat.pow_le_pow_right (by omega) hW1.1.2.2.2.1))
  refine j_iload_n dX10_year_0 rfl rfl rfl ?_
  refine j_iconst (v := nI 1) dX10_year_1 rfl rfl ?_
  refine j_bipush (v := nI 60) dX10_year_2 rfl rfl ?_
  refine j_callSw (As := [.int a, .int (nI 1), .int (nI 60)]) dX10_year_4 rfl cX10_50 rfl (by decide) rfl rfl (c_min (fun ha => ?_) (fun ha => ?_))
  · obtain ⟨ja, rfl, hal, hau⟩ := inR_nat (by decide) (by decide) ha
    show Rj _ _ _ _ _ _ 7 [.ref 33, .int (nI ja), jU, jU, jU, jU] [.int (nI 1)] n I J (Pg i0 i1)
    refine j_ifneN (tgt := 17) dX10_year_7 rfl rfl (by decide) (fun h1 => ?_) (fun h1 => by exfalso; omega)
    refine j_iconst (v := nI 0) dX10_year_17 rfl rfl ?_
    refine j_istore_n (L' := [.ref 33, .int (nI ja), .int (nI 0), jU, jU, jU]) dX10_year_18 rfl rfl rfl (by decide) rfl ?_
    refine j_iconst (v := nI 0) dX10_year_19 rfl rfl ?_
    refine j_istore_n (L' := [.ref 33, .int (nI ja), .int (nI 0), .int (nI 0), jU, jU]) dX10_year_20 rfl rfl rfl (by decide) rfl ?_
    have e : oYear S (nI ja) = (S.set (yrN ja S.v 0).1, nI (yrN ja S.v 0).2) := by unfold oYear; rw [if_pos (by exact ha), tN_nI (by omega)]
    rw [e] at hQ
    exact outer ja 0 0 ja S.v _ _ I _ (by omega) (by omega) hm.v (fun a _ => rfl) hW (by omega) rfl hQ
  · show Rj _ _ _ _ _ _ 7 [.ref 33, .int a, jU, jU, jU, jU] [.int (nI 0)] n I J (Pg i0 i1)
    refine j_ifneN (tgt := 17) dX10_year_7 rfl rfl (by decide) (fun h2 => by exfalso; omega) (fun h2 => ?_)
    refine j_aload_n dX10_year_10 rfl rfl rfl ?_
    refine j_bipush (v := (-2)) dX10_year_11 rfl rfl ?_
    refine j_callVw (As := [.int (-2)]) dX10_year_13 rfl cX10_54 (by decide) rfl rfl (by decide) rfl (by decide) rfl rfl (c_mbad ?_)
    show Rj _ _ _ _ _ _ 16 [.ref 33, .int a, jU, jU, jU, jU] [.int (-2)] n (u2 I 39 0 (I 39 0 + nI 1)) J (Pg i0 i1)
    refine j_iret dX10_year_16 rfl rfl ?_
    have e : oYear S a = (S.bad, -2) := by unfold oYear; rw [if_neg (by first | exact ha | exact fun q => ha q.1 | exact fun q => hb q.2 | exact fun q => hb q.2.1 | exact fun q => hc q.2.2 | exact fun q => ha q.1.1 | exact fun q => hb q.1.2.1 | exact fun q => q.1.2.2 (congrArg nI (by assumption)) | exact fun q => hc q.2.1 | exact fun q => he q.2.2)]
    rw [e] at hQ
    exact hQ _ _ hm.bad (CF.u2 (by omega) (by omega))
