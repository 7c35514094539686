set_option maxHeartbeats 4000000 in
set_option maxRecDepth 100000 in
theorem c_mlay {X : jX} {d n : Nat} {I : HI} {J : HJ} {i0 i1 : Option Nat} {Q : jPost}  (hQ : ∀ f, (∀ q, q < 6 → f q = I 34 (13 + q)) → Q none n (ur I 40 f) J (Pg i0 i1)) : Cj X d 0 0 mX10_layLoaves [.ref 33] n I J (Pg i0 i1) Q := by
  refine Cj.intro rfl (Nat.le_of_ble_eq_true rfl) (L := [.ref 33, jU]) rfl ?_
  have loop : ∀ (r p : Nat) (f : Nat → Int32), p + r = 6 → (∀ q, q < p → f q = I 34 (13 + q)) → Rj X d 0 0 mX10_layLoaves Q 2 [.ref 33, .int (nI p)] [] n (ur I 40 f) J (Pg i0 i1) := by
    intro r
    induction r with
    | zero =>
      intro p f hpr hf
      refine j_iload_n dX10_layLoaves_2 rfl rfl rfl ?_
      refine j_bipush (v := nI 6) dX10_layLoaves_3 rfl rfl ?_
      refine j_icmpgeN (tgt := 29) dX10_layLoaves_5 rfl rfl (by omega) (by decide) (fun h1 => ?_) (fun h1 => by exfalso; omega)
      refine j_vret dX10_layLoaves_29 rfl ?_
      exact hQ f (fun q hq => hf q (by omega))
    | succ r ih =>
      intro p f hpr hf
      refine j_iload_n dX10_layLoaves_2 rfl rfl rfl ?_
      refine j_bipush (v := nI 6) dX10_layLoaves_3 rfl rfl ?_
      refine j_icmpgeN (tgt := 29) dX10_layLoaves_5 rfl rfl (by omega) (by decide) (fun h1 => by exfalso; omega) (fun h1 => ?_)
      refine j_aload_n dX10_layLoaves_8 rfl rfl rfl ?_
      refine j_getP (b := 40) dX10_layLoaves_9 rfl fX10_33 rfl (by decide) rfl rfl ?_
      refine j_iload_n dX10_layLoaves_12 rfl rfl rfl ?_
      refine j_aload_n dX10_layLoaves_13 rfl rfl rfl ?_
      refine j_getP (b := 34) dX10_layLoaves_14 rfl fX10_7 rfl (by decide) rfl rfl ?_
      refine j_bipush (v := nI 13) dX10_layLoaves_17 rfl rfl ?_
      refine j_iload_n dX10_layLoaves_19 rfl rfl rfl ?_
      refine j_iaddN (c := 13 + p) dX10_layLoaves_20 rfl rfl ?_
      refine j_iald (j := 13 + p) (v := I 34 (13 + p)) dX10_layLoaves_21 rfl rfl (by decide) rfl (by omega) (by decide) rfl ?_
      refine j_iast (j := p) dX10_layLoaves_22 rfl rfl (by decide) rfl (by omega) (by decide) ?_
      refine j_iincN (L' := [.ref 33, .int (nI (p + 1))]) dX10_layLoaves_23 rfl rfl (b := 1) rfl rfl rfl (by decide) rfl ?_
      refine j_goto (tgt := 2) dX10_layLoaves_26 rfl ?_
      rw [u2_ur]
      refine ih (p + 1) _ (by omega) (fun q hq => ?_)
      show (if _ then _ else f _) = _
      by_cases e : q = p
      · rw [if_pos e, e]
      · rw [if_neg e]; exact hf q (by omega)
  refine j_iconst (v := nI 0) dX10_layLoaves_0 rfl rfl ?_
  refine j_istore_n (L' := [.ref 33, .int (nI 0)]) dX10_layLoaves_1 rfl rfl rfl (by decide) rfl ?_
  rw [← ur_self I 40]
  exact loop 6 0 _ (by omega) (fun q hq => absurd hq (Nat.not_lt_zero _))
set_option maxHeartbeats 4000000 in
set_option maxRecDepth 100000 in
theorem c_misSo {X : jX} {d n : Nat} {I : HI} {J : HJ} {i0 i1 : Option Nat} {Q : jPost} {S : SS} {yb : Nat} (hm : MI S I J) (hW : WF yb S.v) (hyb : yb ≤ 2 ^ 12) {one : Int32} {h mo : Nat → Nat} (hh : ∀ q, q < S.v 0 3 → I 40 q = nI (h q)) (hb60 : ∀ q, q < S.v 0 3 → h q ≤ 60) (hmo : ∀ q, q < 6 → (nI q = one → mo q = 1) ∧ (¬ nI q = one → mo q = 0)) (hT : (∀ c, c < S.v 0 5 → lwm (S.v 1 (S.v 6 c)) (S.v 0 1) (S.v 0 2) (mo (S.v 6 c)) (S.v 0 0) (h (S.v 6 c)) (S.v 7 c) = S.v 8 c) → Q (some (.int (nI 1))) n I J (Pg i0 i1)) (hN : ¬ (∀ c, c < S.v 0 5 → lwm (S.v 1 (S.v 6 c)) (S.v 0 1) (S.v 0 2) (mo (S.v 6 c)) (S.v 0 0) (h (S.v 6 c)) (S.v 7 c) = S.v 8 c) → Q (some (.int (nI 0))) n I J (Pg i0 i1)) : Cj X (d + 2) 0 0 mX10_isSo [.ref 33, .int one] n I J (Pg i0 i1) Q := by
  refine Cj.intro rfl (Nat.le_of_ble_eq_true rfl) (L := [.ref 33, .int one, jU, jU, jU, jU, jU, jU, jU]) rfl ?_
  obtain ⟨⟨w0, w1, w2, w3, w4, w5, w6⟩, wp, wk, wc, wb⟩ := id hW
  have inner : ∀ (r y c i lv : Nat) (z8 : Value), y + r = S.v 7 c → c < S.v 0 5 → i ≤ 1 → lv ≤ 60 → lwm (S.v 1 (S.v 6 c)) (S.v 0 1) (S.v 0 2) (mo (S.v 6 c)) (S.v 0 0 + y) lv r = lwm (S.v 1 (S.v 6 c)) (S.v 0 1) (S.v 0 2) (mo (S.v 6 c)) (S.v 0 0) (h (S.v 6 c)) (S.v 7 c) → (∀ (i2 : Nat) (z4 z5 z6 z7 z8 : Value), i2 ≤ 1 → (i2 = 1 ↔ i = 1 ∧ lwm (S.v 1 (S.v 6 c)) (S.v 0 1) (S.v 0 2) (mo (S.v 6 c)) (S.v 0 0) (h (S.v 6 c)) (S.v 7 c) = S.v 8 c) → Rj X (d + 2) 0 0 mX10_isSo Q 4 [.ref 33, .int one, .int (nI i2), .int (nI (c + 1)), z4, z5, z6, z7, z8] [] n I J (Pg i0 i1)) → Rj X (d + 2) 0 0 mX10_isSo Q 43 [.ref 33, .int one, .int (nI i), .int (nI c), .int (nI (39 + (3 * c))), .int (nI (S.v 6 c)), .int (nI lv), .int (nI y), z8] [] n I J (Pg i0 i1) := by
    intro r
    induction r with
    | zero =>
      intro y c i lv z8 hyr hc hi hlv hr hk
      obtain ⟨g1, g2, g3⟩ := wc c hc
      refine j_iload dX10_isSo_43 rfl rfl ?_
      refine j_aload_n dX10_isSo_45 rfl rfl rfl ?_
      refine j_getP (b := 34) dX10_isSo_46 rfl fX10_7 rfl (by decide) rfl rfl ?_
      refine j_iload dX10_isSo_49 rfl rfl ?_
      refine j_iconst (v := nI 1) dX10_isSo_51 rfl rfl ?_
      refine j_iaddN (c := (39 + (3 * c)) + 1) dX10_isSo_52 rfl rfl ?_
      refine j_iald (j := (39 + (3 * c)) + 1) (v := nI (S.v 7 c)) dX10_isSo_53 rfl rfl (by decide) rfl (by omega) (by decide) (by rw [show 39 + 3 * c + 1 = 40 + 3 * c by omega]; exact hm.v.cm (by omega)) ?_
      refine j_icmpgeN (tgt := 141) dX10_isSo_54 rfl rfl (by omega) (by omega) (fun h1 => ?_) (fun h1 => by exfalso; omega)
      refine j_iload_n dX10_isSo_141 rfl rfl rfl ?_
      refine j_ifeqN (tgt := 163) dX10_isSo_142 rfl rfl (by omega) (fun h2 => ?_) (fun h2 => ?_)
      · refine j_iconst (v := nI 0) dX10_isSo_163 rfl rfl ?_
        refine j_istore_n (L' := [.ref 33, .int one, .int (nI 0), .int (nI c), .int (nI (39 + (3 * c))), .int (nI (S.v 6 c)), .int (nI lv), .int (nI y), z8]) dX10_isSo_164 rfl rfl rfl (by decide) rfl ?_
        refine j_iincN (L' := [.ref 33, .int one, .int (nI 0), .int (nI (c + 1)), .int (nI (39 + (3 * c))), .int (nI (S.v 6 c)), .int (nI lv), .int (nI y), z8]) dX10_isSo_165 rfl rfl (b := 1) rfl rfl rfl (by decide) rfl ?_
        refine j_goto (tgt := 4) dX10_isSo_168 rfl ?_
        have hr : lv = lwm (S.v 1 (S.v 6 c)) (S.v 0 1) (S.v 0 2) (mo (S.v 6 c)) (S.v 0 0) (h (S.v 6 c)) (S.v 7 c) := hr
        refine hk _ _ _ _ _ _ (by omega) ?_
        rw [← hr]
        omega
      · refine j_iload dX10_isSo_145 rfl rfl ?_
        refine j_aload_n dX10_isSo_147 rfl rfl rfl ?_
        refine j_getP (b := 34) dX10_isSo_148 rfl fX10_7 rfl (by decide) rfl rfl ?_
        refine j_iload dX10_isSo_151 rfl rfl ?_
        refine j_iconst (v := nI 2) dX10_isSo_153 rfl rfl ?_
        refine j_iaddN (c := (39 + (3 * c)) + 2) dX10_isSo_154 rfl rfl ?_
        refine j_iald (j := (39 + (3 * c)) + 2) (v := nI (S.v 8 c)) dX10_isSo_155 rfl rfl (by decide) rfl (by omega) (by decide) (by rw [show 39 + 3 * c + 2 = 41 + 3 * c by omega]; exact hm.v.cv (by omega)) ?_
        refine j_icmpneN (tgt := 163) dX10_isSo_156 rfl rfl (by omega) (by omega) (fun h3 => ?_) (fun h3 => ?_)
        · refine j_iconst (v := nI 0) dX10_isSo_163 rfl rfl ?_
          refine j_istore_n (L' := [.ref 33, .int one, .int (nI 0), .int (nI c), .int (nI (39 + (3 * c))), .int (nI (S.v 6 c)), .int (nI lv), .int (nI y), z8]) dX10_isSo_164 rfl rfl rfl (by decide) rfl ?_
          refine j_iincN (L' := [.ref 33, .int one, .int (nI 0), .int (nI (c + 1)), .int (nI (39 + (3 * c))), .int (nI (S.v 6 c)), .int (nI lv), .int (nI y), z8]) dX10_isSo_165 rfl rfl (b := 1) rfl rfl rfl (by decide) rfl ?_
          refine j_goto (tgt := 4) dX10_isSo_168 rfl ?_
          have hr : lv = lwm (S.v 1 (S.v 6 c)) (S.v 0 1) (S.v 0 2) (mo (S.v 6 c)) (S.v 0 0) (h (S.v 6 c)) (S.v 7 c) := hr
          refine hk _ _ _ _ _ _ (by omega) ?_
          rw [← hr]
          omega
        · refine j_iconst (v := nI 1) dX10_isSo_159 rfl rfl ?_
          refine j_goto (tgt := 164) dX10_isSo_160 rfl ?_
          refine j_istore_n (L' := [.ref 33, .int one, .int (nI 1), .int (nI c), .int (nI (39 + (3 * c))), .int (nI (S.v 6 c)), .int (nI lv), .int (nI y), z8]) dX10_isSo_164 rfl rfl rfl (by decide) rfl ?_
          refine j_iincN (L' := [.ref 33, .int one, .int (nI 1), .int (nI (c + 1)), .int (nI (39 + (3 * c))), .int (nI (S.v 6 c)), .int (nI lv), .int (nI y), z8]) dX10_isSo_165 rfl rfl (b := 1) rfl rfl rfl (by decide) rfl ?_
          refine j_goto (tgt := 4) dX10_isSo_168 rfl ?_
          have hr : lv = lwm (S.v 1 (S.v 6 c)) (S.v 0 1) (S.v 0 2) (mo (S.v 6 c)) (S.v 0 0) (h (S.v 6 c)) (S.v 7 c) := hr
          refine hk _ _ _ _ _ _ (by omega) ?_
          rw [← hr]
          omega
    | succ r ih =>
      intro y c i lv z8 hyr hc hi hlv hr hk
      obtain ⟨g1, g2, g3⟩ := wc c hc
      obtain ⟨q1, q2, q3, q4, q5⟩ := wp (S.v 6 c) g1
      have hmc := hmo (S.v 6 c) (by omega)
      refine j_iload dX10_isSo_43 rfl rfl ?_
      refine j_aload_n dX10_isSo_45 rfl rfl rfl ?_
      refine j_getP (b := 34) dX10_isSo_46 rfl fX10_7 rfl (by decide) rfl rfl ?_
      refine j_iload dX10_isSo_49 rfl rfl ?_
      refine j_iconst (v := nI 1) dX10_isSo_51 rfl rfl ?_
      refine j_iaddN (c := (39 + (3 * c)) + 1) dX10_isSo_52 rfl rfl ?_
      refine j_iald (j := (39 + (3 * c)) + 1) (v := nI (S.v 7 c)) dX10_isSo_53 rfl rfl (by decide) rfl (by omega) (by decide) (by rw [show 39 + 3 * c + 1 = 40 + 3 * c by omega]; exact hm.v.cm (by omega)) ?_
      refine j_icmpgeN (tgt := 141) dX10_isSo_54 rfl rfl (by omega) (by omega) (fun h1 => by exfalso; omega) (fun h1 => ?_)
      refine j_iload dX10_isSo_57 rfl rfl ?_
      refine j_iload_n dX10_isSo_59 rfl rfl rfl ?_
      refine j_icmpne (tgt := 82) dX10_isSo_60 rfl rfl (fun h2 => ?_) (fun h2 => ?_)
      · refine j_iload dX10_isSo_82 rfl rfl ?_
        refine j_istore (L' := [.ref 33, .int one, .int (nI i), .int (nI c), .int (nI (39 + (3 * c))), .int (nI (S.v 6 c)), .int (nI lv), .int (nI y), z8]) dX10_isSo_84 rfl rfl (by decide) rfl ?_
        refine j_aload_n dX10_isSo_86 rfl rfl rfl ?_
        refine j_aload_n dX10_isSo_87 rfl rfl rfl ?_
        refine j_getP (b := 34) dX10_isSo_88 rfl fX10_7 rfl (by decide) rfl rfl ?_
        refine j_bipush (v := nI 7) dX10_isSo_91 rfl rfl ?_
        refine j_iload dX10_isSo_93 rfl rfl ?_
        refine j_iaddN (c := 7 + (S.v 6 c)) dX10_isSo_95 rfl rfl ?_
        refine j_iald (j := 7 + (S.v 6 c)) (v := nI (S.v 1 (S.v 6 c))) dX10_isSo_96 rfl rfl (by decide) rfl (by omega) (by decide) (hm.v.kd (by omega)) ?_
        refine j_aload_n dX10_isSo_97 rfl rfl rfl ?_
        refine j_getP (b := 34) dX10_isSo_98 rfl fX10_7 rfl (by decide) rfl rfl ?_
        refine j_iconst (v := nI 2) dX10_isSo_101 rfl rfl ?_
        refine j_iald (j := 2) (v := nI (S.v 0 0)) dX10_isSo_102 rfl rfl (by decide) rfl (by decide) (by decide) hm.v.my ?_
        refine j_iload dX10_isSo_103 rfl rfl ?_
        refine j_iaddN (c := (S.v 0 0) + y) dX10_isSo_105 rfl rfl ?_
        refine j_aload_n dX10_isSo_106 rfl rfl rfl ?_
        refine j_getP (b := 34) dX10_isSo_107 rfl fX10_7 rfl (by decide) rfl rfl ?_
        refine j_iconst (v := nI 4) dX10_isSo_110 rfl rfl ?_
        refine j_iald (j := 4) (v := nI (S.v 0 2)) dX10_isSo_111 rfl rfl (by decide) rfl (by decide) (by decide) hm.v.mr ?_
        refine j_callVw (As := [.int (nI (S.v 1 (S.v 6 c))), .int (nI ((S.v 0 0) + y)), .int (nI (S.v 0 2))]) dX10_isSo_112 rfl cX10_126 (by decide) rfl rfl (by decide) rfl (by decide) rfl rfl (c_mgoes hm.v q1 (by omega) w1 w2 ?_)
        have hg := gos_le (S.v 1 (S.v 6 c)) (S.v 0 0 + y) (S.v 0 1) (S.v 0 2)
        show Rj _ _ _ _ _ _ 115 [.ref 33, .int one, .int (nI i), .int (nI c), .int (nI (39 + (3 * c))), .int (nI (S.v 6 c)), .int (nI lv), .int (nI y), z8] [.int (nI (gos (S.v 1 (S.v 6 c)) (S.v 0 0 + y) (S.v 0 1) (S.v 0 2)))] n I J (Pg i0 i1)
        refine j_istore (L' := [.ref 33, .int one, .int (nI i), .int (nI c), .int (nI (39 + (3 * c))), .int (nI (S.v 6 c)), .int (nI lv), .int (nI y), .int (nI (gos (S.v 1 (S.v 6 c)) (S.v 0 0 + y) (S.v 0 1) (S.v 0 2)))]) dX10_isSo_115 rfl rfl (by decide) rfl ?_
        refine j_iload dX10_isSo_117 rfl rfl ?_
        refine j_iload dX10_isSo_119 rfl rfl ?_
        refine j_icmpleN (tgt := 132) dX10_isSo_121 rfl rfl (by omega) (by omega) (fun h3 => ?_) (fun h3 => ?_)
        · refine j_iconst (v := nI 0) dX10_isSo_132 rfl rfl ?_
          refine j_istore (L' := [.ref 33, .int one, .int (nI i), .int (nI c), .int (nI (39 + (3 * c))), .int (nI (S.v 6 c)), .int (nI 0), .int (nI y), .int (nI (gos (S.v 1 (S.v 6 c)) (S.v 0 0 + y) (S.v 0 1) (S.v 0 2)))]) dX10_isSo_133 rfl rfl (by decide) rfl ?_
          refine j_iincN (L' := [.ref 33, .int one, .int (nI i), .int (nI c), .int (nI (39 + (3 * c))), .int (nI (S.v 6 c)), .int (nI 0), .int (nI (y + 1)), .int (nI (gos (S.v 1 (S.v 6 c)) (S.v 0 0 + y) (S.v 0 1) (S.v 0 2)))]) dX10_isSo_135 rfl rfl (b := 1) rfl rfl rfl (by decide) rfl ?_
          refine j_goto (tgt := 43) dX10_isSo_138 rfl ?_
          have hmv : mo (S.v 6 c) = 1 ∨ mo (S.v 6 c) = 0 := by
            by_cases q : nI (S.v 6 c) = one
            · exact Or.inl (hmc.1 q)
            · exact Or.inr (hmc.2 q)
          refine ih (y + 1) c i _ _ (by omega) hc hi (by omega) ?_ hk
          rw [← hr]
          show _ = (if _ then _ else _)
          by_cases hlz : lv = 0
          · rw [if_pos hlz, show 0 = 0 by omega]
            exact lwm_0 _ _ _ _ _ _
          · rw [if_neg hlz]
            congr 1
            first
              | (rw [hmc.1 (by assumption)]; omega)
              | (rw [hmc.2 (by assumption)]; omega)
        · refine j_iload dX10_isSo_124 rfl rfl ?_
          refine j_iload dX10_isSo_126 rfl rfl ?_
          refine j_isubN (c := lv - (gos (S.v 1 (S.v 6 c)) (S.v 0 0 + y) (S.v 0 1) (S.v 0 2))) dX10_isSo_128 rfl (by omega) rfl ?_
          refine j_goto (tgt := 133) dX10_isSo_129 rfl ?_
          refine j_istore (L' := [.ref 33, .int one, .int (nI i), .int (nI c), .int (nI (39 + (3 * c))), .int (nI (S.v 6 c)), .int (nI (lv - (gos (S.v 1 (S.v 6 c)) (S.v 0 0 + y) (S.v 0 1) (S.v 0 2)))), .int (nI y), .int (nI (gos (S.v 1 (S.v 6 c)) (S.v 0 0 + y) (S.v 0 1) (S.v 0 2)))]) dX10_isSo_133 rfl rfl (by decide) rfl ?_
          refine j_iincN (L' := [.ref 33, .int one, .int (nI i), .int (nI c), .int (nI (39 + (3 * c))), .int (nI (S.v 6 c)), .int (nI (lv - (gos (S.v 1 (S.v 6 c)) (S.v 0 0 + y) (S.v 0 1) (S.v 0 2)))), .int (nI (y + 1)), .int (nI (gos (S.v 1 (S.v 6 c)) (S.v 0 0 + y) (S.v 0 1) (S.v 0 2)))]) dX10_isSo_135 rfl rfl (b := 1) rfl rfl rfl (by decide) rfl ?_
          refine j_goto (tgt := 43) dX10_isSo_138 rfl ?_
          have hmv : mo (S.v 6 c) = 1 ∨ mo (S.v 6 c) = 0 := by
            by_cases q : nI (S.v 6 c) = one
            · exact Or.inl (hmc.1 q)
            · exact Or.inr (hmc.2 q)
          refine ih (y + 1) c i _ _ (by omega) hc hi (by omega) ?_ hk
          rw [← hr]
          show _ = (if _ then _ else _)
          by_cases hlz : lv = 0
          · rw [if_pos hlz, show lv - (gos (S.v 1 (S.v 6 c)) (S.v 0 0 + y) (S.v 0 1) (S.v 0 2)) = 0 by omega]
            exact lwm_0 _ _ _ _ _ _
          · rw [if_neg hlz]
            congr 1
            first
              | (rw [hmc.1 (by assumption)]; omega)
              | (rw [hmc.2 (by assumption)]; omega)
      · refine j_iload dX10_isSo_63 rfl rfl ?_
        refine j_ifleN (tgt := 82) dX10_isSo_65 rfl rfl (by omega) (fun h4 => ?_) (fun h4 => ?_)
        · refine j_iload dX10_isSo_82 rfl rfl ?_
          refine j_istore (L' := [.ref 33, .int one, .int (nI i), .int (nI c), .int (nI (39 + (3 * c))), .int (nI (S.v 6 c)), .int (nI lv), .int (nI y), z8]) dX10_isSo_84 rfl rfl (by decide) rfl ?_
          refine j_aload_n dX10_isSo_86 rfl rfl rfl ?_
          refine j_aload_n dX10_isSo_87 rfl rfl rfl ?_
          refine j_getP (b := 34) dX10_isSo_88 rfl fX10_7 rfl (by decide) rfl rfl ?_
          refine j_bipush (v := nI 7) dX10_isSo_91 rfl rfl ?_
          refine j_iload dX10_isSo_93 rfl rfl ?_
          refine j_iaddN (c := 7 + (S.v 6 c)) dX10_isSo_95 rfl rfl ?_
          refine j_iald (j := 7 + (S.v 6 c)) (v := nI (S.v 1 (S.v 6 c))) dX10_isSo_96 rfl rfl (by decide) rfl (by omega) (by decide) (hm.v.kd (by omega)) ?_
          refine j_aload_n dX10_isSo_97 rfl rfl rfl ?_
          refine j_getP (b := 34) dX10_isSo_98 rfl fX10_7 rfl (by decide) rfl rfl ?_
          refine j_iconst (v := nI 2) dX10_isSo_101 rfl rfl ?_
          refine j_iald (j := 2) (v := nI (S.v 0 0)) dX10_isSo_102 rfl rfl (by decide) rfl (by decide) (by decide) hm.v.my ?_
          refine j_iload dX10_isSo_103 rfl rfl ?_
          refine j_iaddN (c := (S.v 0 0) + y) dX10_isSo_105 rfl rfl ?_
          refine j_aload_n dX10_isSo_106 rfl rfl rfl ?_
          refine j_getP (b := 34) dX10_isSo_107 rfl fX10_7 rfl (by decide) rfl rfl ?_
          refine j_iconst (v := nI 4) dX10_isSo_110 rfl rfl ?_
          refine j_iald (j := 4) (v := nI (S.v 0 2)) dX10_isSo_111 rfl rfl (by decide) rfl (by decide) (by decide) hm.v.mr ?_
          refine j_callVw (As := [.int (nI (S.v 1 (S.v 6 c))), .int (nI ((S.v 0 0) + y)), .int (nI (S.v 0 2))]) dX10_isSo_112 rfl cX10_126 (by decide) rfl rfl (by decide) rfl (by decide) rfl rfl (c_mgoes hm.v q1 (by omega) w1 w2 ?_)
          have hg := gos_le (S.v 1 (S.v 6 c)) (S.v 0 0 + y) (S.v 0 1) (S.v 0 2)
          show Rj _ _ _ _ _ _ 115 [.ref 33, .int one, .int (nI i), .int (nI c), .int (nI (39 + (3 * c))), .int (nI (S.v 6 c)), .int (nI lv), .int (nI y), z8] [.int (nI (gos (S.v 1 (S.v 6 c)) (S.v 0 0 + y) (S.v 0 1) (S.v 0 2)))] n I J (Pg i0 i1)
          refine j_istore (L' := [.ref 33, .int one, .int (nI i), .int (nI c), .int (nI (39 + (3 * c))), .int (nI (S.v 6 c)), .int (nI lv), .int (nI y), .int (nI (gos (S.v 1 (S.v 6 c)) (S.v 0 0 + y) (S.v 0 1) (S.v 0 2)))]) dX10_isSo_115 rfl rfl (by decide) rfl ?_
          refine j_iload dX10_isSo_117 rfl rfl ?_
          refine j_iload dX10_isSo_119 rfl rfl ?_
          refine j_icmpleN (tgt := 132) dX10_isSo_121 rfl rfl (by omega) (by omega) (fun h5 => ?_) (fun h5 => ?_)
          · refine j_iconst (v := nI 0) dX10_isSo_132 rfl rfl ?_
            refine j_istore (L' := [.ref 33, .int one, .int (nI i), .int (nI c), .int (nI (39 + (3 * c))), .int (nI (S.v 6 c)), .int (nI 0), .int (nI y), .int (nI (gos (S.v 1 (S.v 6 c)) (S.v 0 0 + y) (S.v 0 1) (S.v 0 2)))]) dX10_isSo_133 rfl rfl (by decide) rfl ?_
            refine j_iincN (L' := [.ref 33, .int one, .int (nI i), .int (nI c), .int (nI (39 + (3 * c))), .int (nI (S.v 6 c)), .int (nI 0), .int (nI (y + 1)), .int (nI (gos (S.v 1 (S.v 6 c)) (S.v 0 0 + y) (S.v 0 1) (S.v 0 2)))]) dX10_isSo_135 rfl rfl (b := 1) rfl rfl rfl (by decide) rfl ?_
            refine j_goto (tgt := 43) dX10_isSo_138 rfl ?_
            have hmv : mo (S.v 6 c) = 1 ∨ mo (S.v 6 c) = 0 := by
              by_cases q : nI (S.v 6 c) = one
              · exact Or.inl (hmc.1 q)
              · exact Or.inr (hmc.2 q)
            refine ih (y + 1) c i _ _ (by omega) hc hi (by omega) ?_ hk
            rw [← hr]
            show _ = (if _ then _ else _)
            by_cases hlz : lv = 0
            · rw [if_pos hlz, show 0 = 0 by omega]
              exact lwm_0 _ _ _ _ _ _
            · rw [if_neg hlz]
              congr 1
              first
                | (rw [hmc.1 (by assumption)]; omega)
                | (rw [hmc.2 (by assumption)]; omega)
          · refine j_iload dX10_isSo_124 rfl rfl ?_
            refine j_iload dX10_isSo_126 rfl rfl ?_
            refine j_isubN (c := lv - (gos (S.v 1 (S.v 6 c)) (S.v 0 0 + y) (S.v 0 1) (S.v 0 2))) dX10_isSo_128 rfl (by omega) rfl ?_
            refine j_goto (tgt := 133) dX10_isSo_129 rfl ?_
            refine j_istore (L' := [.ref 33, .int one, .int (nI i), .int (nI c), .int (nI (39 + (3 * c))), .int (nI (S.v 6 c)), .int (nI (lv - (gos (S.v 1 (S.v 6 c)) (S.v 0 0 + y) (S.v 0 1) (S.v 0 2)))), .int (nI y), .int (nI (gos (S.v 1 (S.v 6 c)) (S.v 0 0 + y) (S.v 0 1) (S.v 0 2)))]) dX10_isSo_133 rfl rfl (by decide) rfl ?_
            refine j_iincN (L' := [.ref 33, .int one, .int (nI i), .int (nI c), .int (nI (39 + (3 * c))), .int (nI (S.v 6 c)), .int (nI (lv - (gos (S.v 1 (S.v 6 c)) (S.v 0 0 + y) (S.v 0 1) (S.v 0 2)))), .int (nI (y + 1)), .int (nI (gos (S.v 1 (S.v 6 c)) (S.v 0 0 + y) (S.v 0 1) (S.v 0 2)))]) dX10_isSo_135 rfl rfl (b := 1) rfl rfl rfl (by decide) rfl ?_
            refine j_goto (tgt := 43) dX10_isSo_138 rfl ?_
            have hmv : mo (S.v 6 c) = 1 ∨ mo (S.v 6 c) = 0 := by
              by_cases q : nI (S.v 6 c) = one
              · exact Or.inl (hmc.1 q)
              · exact Or.inr (hmc.2 q)
            refine ih (y + 1) c i _ _ (by omega) hc hi (by omega) ?_ hk
            rw [← hr]
            show _ = (if _ then _ else _)
            by_cases hlz : lv = 0
            · rw [if_pos hlz, show lv - (gos (S.v 1 (S.v 6 c)) (S.v 0 0 + y) (S.v 0 1) (S.v 0 2)) = 0 by omega]
              exact lwm_0 _ _ _ _ _ _
            · rw [if_neg hlz]
              congr 1
              first
                | (rw [hmc.1 (by assumption)]; omega)
                | (rw [hmc.2 (by assumption)]; omega)
        · refine j_iload dX10_isSo_68 rfl rfl ?_
          refine j_bipush (v := nI 60) dX10_isSo_70 rfl rfl ?_
          refine j_icmpgeN (tgt := 82) dX10_isSo_72 rfl rfl (by omega) (by decide) (fun h6 => ?_) (fun h6 => ?_)
          · refine j_iload dX10_isSo_82 rfl rfl ?_
            refine j_istore (L' := [.ref 33, .int one, .int (nI i), .int (nI c), .int (nI (39 + (3 * c))), .int (nI (S.v 6 c)), .int (nI lv), .int (nI y), z8]) dX10_isSo_84 rfl rfl (by decide) rfl ?_
            refine j_aload_n dX10_isSo_86 rfl rfl rfl ?_
            refine j_aload_n dX10_isSo_87 rfl rfl rfl ?_
            refine j_getP (b := 34) dX10_isSo_88 rfl fX10_7 rfl (by decide) rfl rfl ?_
            refine j_bipush (v := nI 7) dX10_isSo_91 rfl rfl ?_
            refine j_iload dX10_isSo_93 rfl rfl ?_
            refine j_iaddN (c := 7 + (S.v 6 c)) dX10_isSo_95 rfl rfl ?_
            refine j_iald (j := 7 + (S.v 6 c)) (v := nI (S.v 1 (S.v 6 c))) dX10_isSo_96 rfl rfl (by decide) rfl (by omega) (by decide) (hm.v.kd (by omega)) ?_
            refine j_aload_n dX10_isSo_97 rfl rfl rfl ?_
            refine j_getP (b := 34) dX10_isSo_98 rfl fX10_7 rfl (by decide) rfl rfl ?_
            refine j_iconst (v := nI 2) dX10_isSo_101 rfl rfl ?_
            refine j_iald (j := 2) (v := nI (S.v 0 0)) dX10_isSo_102 rfl rfl (by decide) rfl (by decide) (by decide) hm.v.my ?_
            refine j_iload dX10_isSo_103 rfl rfl ?_
            refine j_iaddN (c := (S.v 0 0) + y) dX10_isSo_105 rfl rfl ?_
            refine j_aload_n dX10_isSo_106 rfl rfl rfl ?_
            refine j_getP (b := 34) dX10_isSo_107 rfl fX10_7 rfl (by decide) rfl rfl ?_
            refine j_iconst (v := nI 4) dX10_isSo_110 rfl rfl ?_
            refine j_iald (j := 4) (v := nI (S.v 0 2)) dX10_isSo_111 rfl rfl (by decide) rfl (by decide) (by decide) hm.v.mr ?_
            refine j_callVw (As := [.int (nI (S.v 1 (S.v 6 c))), .int (nI ((S.v 0 0) + y)), .int (nI (S.v 0 2))]) dX10_isSo_112 rfl cX10_126 (by decide) rfl rfl (by decide) rfl (by decide) rfl rfl (c_mgoes hm.v q1 (by omega) w1 w2 ?_)
            have hg := gos_le (S.v 1 (S.v 6 c)) (S.v 0 0 + y) (S.v 0 1) (S.v 0 2)
            show Rj _ _ _ _ _ _ 115 [.ref 33, .int one, .int (nI i), .int (nI c), .int (nI (39 + (3 * c))), .int (nI (S.v 6 c)), .int (nI lv), .int (nI y), z8] [.int (nI (gos (S.v 1 (S.v 6 c)) (S.v 0 0 + y) (S.v 0 1) (S.v 0 2)))] n I J (Pg i0 i1)
            refine j_istore (L' := [.ref 33, .int one, .int (nI i), .int (nI c), .int (nI (39 + (3 * c))), .int (nI (S.v 6 c)), .int (nI lv), .int (nI y), .int (nI (gos (S.v 1 (S.v 6 c)) (S.v 0 0 + y) (S.v 0 1) (S.v 0 2)))]) dX10_isSo_115 rfl rfl (by decide) rfl ?_
            refine j_iload dX10_isSo_117 rfl rfl ?_
            refine j_iload dX10_isSo_119 rfl rfl ?_
            refine j_icmpleN (tgt := 132) dX10_isSo_121 rfl rfl (by omega) (by omega) (fun h7 => ?_) (fun h7 => ?_)
            · refine j_iconst (v := nI 0) dX10_isSo_132 rfl rfl ?_
              refine j_istore (L' := [.ref 33, .int one, .int (nI i), .int (nI c), .int (nI (39 + (3 * c))), .int (nI (S.v 6 c)), .int (nI 0), .int (nI y), .int (nI (gos (S.v 1 (S.v 6 c)) (S.v 0 0 + y) (S.v 0 1) (S.v 0 2)))]) dX10_isSo_133 rfl rfl (by decide) rfl ?_
              refine j_iincN (L' := [.ref 33, .int one, .int (nI i), .int (nI c), .int (nI (39 + (3 * c))), .int (nI (S.v 6 c)), .int (nI 0), .int (nI (y + 1)), .int (nI (gos (S.v 1 (S.v 6 c)) (S.v 0 0 + y) (S.v 0 1) (S.v 0 2)))]) dX10_isSo_135 rfl rfl (b := 1) rfl rfl rfl (by decide) rfl ?_
              refine j_goto (tgt := 43) dX10_isSo_138 rfl ?_
              have hmv : mo (S.v 6 c) = 1 ∨ mo (S.v 6 c) = 0 := by
                by_cases q : nI (S.v 6 c) = one
                · exact Or.inl (hmc.1 q)
                · exact Or.inr (hmc.2 q)
              refine ih (y + 1) c i _ _ (by omega) hc hi (by omega) ?_ hk
              rw [← hr]
              show _ = (if _ then _ else _)
              by_cases hlz : lv = 0
              · rw [if_pos hlz, show 0 = 0 by omega]
                exact lwm_0 _ _ _ _ _ _
              · rw [if_neg hlz]
                congr 1
                first
                  | (rw [hmc.1 (by assumption)]; omega)
                  | (rw [hmc.2 (by assumption)]; omega)
            · refine j_iload dX10_isSo_124 rfl rfl ?_
              refine j_iload dX10_isSo_126 rfl rfl ?_
              refine j_isubN (c := lv - (gos (S.v 1 (S.v 6 c)) (S.v 0 0 + y) (S.v 0 1) (S.v 0 2))) dX10_isSo_128 rfl (by omega) rfl ?_
              refine j_goto (tgt := 133) dX10_isSo_129 rfl ?_
              refine j_istore (L' := [.ref 33, .int one, .int (nI i), .int (nI c), .int (nI (39 + (3 * c))), .int (nI (S.v 6 c)), .int (nI (lv - (gos (S.v 1 (S.v 6 c)) (S.v 0 0 + y) (S.v 0 1) (S.v 0 2)))), .int (nI y), .int (nI (gos (S.v 1 (S.v 6 c)) (S.v 0 0 + y) (S.v 0 1) (S.v 0 2)))]) dX10_isSo_133 rfl rfl (by decide) rfl ?_
              refine j_iincN (L' := [.ref 33, .int one, .int (nI i), .int (nI c), .int (nI (39 + (3 * c))), .int (nI (S.v 6 c)), .int (nI (lv - (gos (S.v 1 (S.v 6 c)) (S.v 0 0 + y) (S.v 0 1) (S.v 0 2)))), .int (nI (y + 1)), .int (nI (gos (S.v 1 (S.v 6 c)) (S.v 0 0 + y) (S.v 0 1) (S.v 0 2)))]) dX10_isSo_135 rfl rfl (b := 1) rfl rfl rfl (by decide) rfl ?_
              refine j_goto (tgt := 43) dX10_isSo_138 rfl ?_
              have hmv : mo (S.v 6 c) = 1 ∨ mo (S.v 6 c) = 0 := by
                by_cases q : nI (S.v 6 c) = one
                · exact Or.inl (hmc.1 q)
                · exact Or.inr (hmc.2 q)
              refine ih (y + 1) c i _ _ (by omega) hc hi (by omega) ?_ hk
              rw [← hr]
              show _ = (if _ then _ else _)
              by_cases hlz : lv = 0
              · rw [if_pos hlz, show lv - (gos (S.v 1 (S.v 6 c)) (S.v 0 0 + y) (S.v 0 1) (S.v 0 2)) = 0 by omega]
                exact lwm_0 _ _ _ _ _ _
              · rw [if_neg hlz]
                congr 1
                first
                  | (rw [hmc.1 (by assumption)]; omega)
                  | (rw [hmc.2 (by assumption)]; omega)
          · refine j_iload dX10_isSo_75 rfl rfl ?_
            refine j_iconst (v := nI 1) dX10_isSo_77 rfl rfl ?_
            refine j_iaddN (c := lv + 1) dX10_isSo_78 rfl rfl ?_
            refine j_goto (tgt := 84) dX10_isSo_79 rfl ?_
            refine j_istore (L' := [.ref 33, .int one, .int (nI i), .int (nI c), .int (nI (39 + (3 * c))), .int (nI (S.v 6 c)), .int (nI (lv + 1)), .int (nI y), z8]) dX10_isSo_84 rfl rfl (by decide) rfl ?_
            refine j_aload_n dX10_isSo_86 rfl rfl rfl ?_
            refine j_aload_n dX10_isSo_87 rfl rfl rfl ?_
            refine j_getP (b := 34) dX10_isSo_88 rfl fX10_7 rfl (by decide) rfl rfl ?_
            refine j_bipush (v := nI 7) dX10_isSo_91 rfl rfl ?_
            refine j_iload dX10_isSo_93 rfl rfl ?_
            refine j_iaddN (c := 7 + (S.v 6 c)) dX10_isSo_95 rfl rfl ?_
            refine j_iald (j := 7 + (S.v 6 c)) (v := nI (S.v 1 (S.v 6 c))) dX10_isSo_96 rfl rfl (by decide) rfl (by omega) (by decide) (hm.v.kd (by omega)) ?_
            refine j_aload_n dX10_isSo_97 rfl rfl rfl ?_
            refine j_getP (b := 34) dX10_isSo_98 rfl fX10_7 rfl (by decide) rfl rfl ?_
            refine j_iconst (v := nI 2) dX10_isSo_101 rfl rfl ?_
            refine j_iald (j := 2) (v := nI (S.v 0 0)) dX10_isSo_102 rfl rfl (by decide) rfl (by decide) (by decide) hm.v.my ?_
            refine j_iload dX10_isSo_103 rfl rfl ?_
            refine j_iaddN (c := (S.v 0 0) + y) dX10_isSo_105 rfl rfl ?_
            refine j_aload_n dX10_isSo_106 rfl rfl rfl ?_
            refine j_getP (b := 34) dX10_isSo_107 rfl fX10_7 rfl (by decide) rfl rfl ?_
            refine j_iconst (v := nI 4) dX10_isSo_110 rfl rfl ?_
            refine j_iald (j := 4) (v := nI (S.v 0 2)) dX10_isSo_111 rfl rfl (by decide) rfl (by decide) (by decide) hm.v.mr ?_
            refine j_callVw (As := [.int (nI (S.v 1 (S.v 6 c))), .int (nI ((S.v 0 0) + y)), .int (nI (S.v 0 2))]) dX10_isSo_112 rfl cX10_126 (by decide) rfl rfl (by decide) rfl (by decide) rfl rfl (c_mgoes hm.v q1 (by omega) w1 w2 ?_)
            have hg := gos_le (S.v 1 (S.v 6 c)) (S.v 0 0 + y) (S.v 0 1) (S.v 0 2)
            show Rj _ _ _ _ _ _ 115 [.ref 33, .int one, .int (nI i), .int (nI c), .int (nI (39 + (3 * c))), .int (nI (S.v 6 c)), .int (nI (lv + 1)), .int (nI y), z8] [.int (nI (gos (S.v 1 (S.v 6 c)) (S.v 0 0 + y) (S.v 0 1) (S.v 0 2)))] n I J (Pg i0 i1)
            refine j_istore (L' := [.ref 33, .int one, .int (nI i), .int (nI c), .int (nI (39 + (3 * c))), .int (nI (S.v 6 c)), .int (nI (lv + 1)), .int (nI y), .int (nI (gos (S.v 1 (S.v 6 c)) (S.v 0 0 + y) (S.v 0 1) (S.v 0 2)))]) dX10_isSo_115 rfl rfl (by decide) rfl ?_
            refine j_iload dX10_isSo_117 rfl rfl ?_
            refine j_iload dX10_isSo_119 rfl rfl ?_
            refine j_icmpleN (tgt := 132) dX10_isSo_121 rfl rfl (by omega) (by omega) (fun h8 => ?_) (fun h8 => ?_)
            · refine j_iconst (v := nI 0) dX10_isSo_132 rfl rfl ?_
              refine j_istore (L' := [.ref 33, .int one, .int (nI i), .int (nI c), .int (nI (39 + (3 * c))), .int (nI (S.v 6 c)), .int (nI 0), .int (nI y), .int (nI (gos (S.v 1 (S.v 6 c)) (S.v 0 0 + y) (S.v 0 1) (S.v 0 2)))]) dX10_isSo_133 rfl rfl (by decide) rfl ?_
              refine j_iincN (L' := [.ref 33, .int one, .int (nI i), .int (nI c), .int (nI (39 + (3 * c))), .int (nI (S.v 6 c)), .int (nI 0), .int (nI (y + 1)), .int (nI (gos (S.v 1 (S.v 6 c)) (S.v 0 0 + y) (S.v 0 1) (S.v 0 2)))]) dX10_isSo_135 rfl rfl (b := 1) rfl rfl rfl (by decide) rfl ?_
              refine j_goto (tgt := 43) dX10_isSo_138 rfl ?_
              have hmv : mo (S.v 6 c) = 1 ∨ mo (S.v 6 c) = 0 := by
                by_cases q : nI (S.v 6 c) = one
                · exact Or.inl (hmc.1 q)
                · exact Or.inr (hmc.2 q)
              refine ih (y + 1) c i _ _ (by omega) hc hi (by omega) ?_ hk
              rw [← hr]
              show _ = (if _ then _ else _)
              by_cases hlz : lv = 0
              · rw [if_pos hlz, show 0 = 0 by omega]
                exact lwm_0 _ _ _ _ _ _
              · rw [if_neg hlz]
                congr 1
                first
                  | (rw [hmc.1 (by assumption)]; omega)
                  | (rw [hmc.2 (by assumption)]; omega)
            · refine j_iload dX10_isSo_124 rfl rfl ?_
              refine j_iload dX10_isSo_126 rfl rfl ?_
              refine j_isubN (c := (lv + 1) - (gos (S.v 1 (S.v 6 c)) (S.v 0 0 + y) (S.v 0 1) (S.v 0 2))) dX10_isSo_128 rfl (by omega) rfl ?_
              refine j_goto (tgt := 133) dX10_isSo_129 rfl ?_
              refine j_istore (L' := [.ref 33, .int one, .int (nI i), .int (nI c), .int (nI (39 + (3 * c))), .int (nI (S.v 6 c)), .int (nI ((lv + 1) - (gos (S.v 1 (S.v 6 c)) (S.v 0 0 + y) (S.v 0 1) (S.v 0 2)))), .int (nI y), .int (nI (gos (S.v 1 (S.v 6 c)) (S.v 0 0 + y) (S.v 0 1) (S.v 0 2)))]) dX10_isSo_133 rfl rfl (by decide) rfl ?_
              refine j_iincN (L' := [.ref 33, .int one, .int (nI i), .int (nI c), .int (nI (39 + (3 * c))), .int (nI (S.v 6 c)), .int (nI ((lv + 1) - (gos (S.v 1 (S.v 6 c)) (S.v 0 0 + y) (S.v 0 1) (S.v 0 2)))), .int (nI (y + 1)), .int (nI (gos (S.v 1 (S.v 6 c)) (S.v 0 0 + y) (S.v 0 1) (S.v 0 2)))]) dX10_isSo_135 rfl rfl (b := 1) rfl rfl rfl (by decide) rfl ?_
              refine j_goto (tgt := 43) dX10_isSo_138 rfl ?_
              have hmv : mo (S.v 6 c) = 1 ∨ mo (S.v 6 c) = 0 := by
                by_cases q : nI (S.v 6 c) = one
                · exact Or.inl (hmc.1 q)
                · exact Or.inr (hmc.2 q)
              refine ih (y + 1) c i _ _ (by omega) hc hi (by omega) ?_ hk
              rw [← hr]
              show _ = (if _ then _ else _)
              by_cases hlz : lv = 0
              · rw [if_pos hlz, show (lv + 1) - (gos (S.v 1 (S.v 6 c)) (S.v 0 0 + y) (S.v 0 1) (S.v 0 2)) = 0 by omega]
                exact lwm_0 _ _ _ _ _ _
              · rw [if_neg hlz]
                congr 1
                first
                  | (rw [hmc.1 (by assumption)]; omega)
                  | (rw [hmc.2 (by assumption)]; omega)
  have outer : ∀ (r c i : Nat) (z4 z5 z6 z7 z8 : Value), c + r = S.v 0 5 → i ≤ 1 → (i = 1 ↔ (∀ b, b < c → lwm (S.v 1 (S.v 6 b)) (S.v 0 1) (S.v 0 2) (mo (S.v 6 b)) (S.v 0 0) (h (S.v 6 b)) (S.v 7 b) = S.v 8 b)) → Rj X (d + 2) 0 0 mX10_isSo Q 4 [.ref 33, .int one, .int (nI i), .int (nI c), z4, z5, z6, z7, z8] [] n I J (Pg i0 i1) := by
    intro r
    induction r with
    | zero =>
      intro c i z4 z5 z6 z7 z8 hcr hi hI
      refine j_iload_n dX10_isSo_4 rfl rfl rfl ?_
      refine j_aload_n dX10_isSo_5 rfl rfl rfl ?_
      refine j_getP (b := 34) dX10_isSo_6 rfl fX10_7 rfl (by decide) rfl rfl ?_
      refine j_iconst (v := nI 5) dX10_isSo_9 rfl rfl ?_
      refine j_iald (j := 5) (v := nI (S.v 0 5)) dX10_isSo_10 rfl rfl (by decide) rfl (by decide) (by decide) hm.v.mc ?_
      refine j_icmpgeN (tgt := 171) dX10_isSo_11 rfl rfl (by omega) (by omega) (fun h1 => ?_) (fun h1 => by exfalso; omega)
      refine j_iload_n dX10_isSo_171 rfl rfl rfl ?_
      have hnar : narrow FieldType.boolean (Value.int (nI i)) = Value.int (nI i) := by rcases (show i = 0 ∨ i = 1 by omega) with rfl | rfl <;> rfl
      refine j_iret dX10_isSo_172 rfl (by assumption) ?_
      have hc5 : c = S.v 0 5 := by omega
      subst hc5
      by_cases q : i = 1
      · subst q
        exact hT (hI.mp rfl)
      · rw [show i = 0 by omega]
        exact hN (fun z => q (hI.mpr z))
    | succ r ih =>
      intro c i z4 z5 z6 z7 z8 hcr hi hI
      obtain ⟨g1, g2, g3⟩ := wc c (by omega)
      refine j_iload_n dX10_isSo_4 rfl rfl rfl ?_
      refine j_aload_n dX10_isSo_5 rfl rfl rfl ?_
      refine j_getP (b := 34) dX10_isSo_6 rfl fX10_7 rfl (by decide) rfl rfl ?_
      refine j_iconst (v := nI 5) dX10_isSo_9 rfl rfl ?_
      refine j_iald (j := 5) (v := nI (S.v 0 5)) dX10_isSo_10 rfl rfl (by decide) rfl (by decide) (by decide) hm.v.mc ?_
      refine j_icmpgeN (tgt := 171) dX10_isSo_11 rfl rfl (by omega) (by omega) (fun h1 => by exfalso; omega) (fun h1 => ?_)
      refine j_bipush (v := nI 39) dX10_isSo_14 rfl rfl ?_
      refine j_iconst (v := nI 3) dX10_isSo_16 rfl rfl ?_
      refine j_iload_n dX10_isSo_17 rfl rfl rfl ?_
      refine j_imulN (c := 3 * c) dX10_isSo_18 rfl rfl ?_
      refine j_iaddN (c := 39 + (3 * c)) dX10_isSo_19 rfl rfl ?_
      refine j_istore (L' := [.ref 33, .int one, .int (nI i), .int (nI c), .int (nI (39 + (3 * c))), z5, z6, z7, z8]) dX10_isSo_20 rfl rfl (by decide) rfl ?_
      refine j_aload_n dX10_isSo_22 rfl rfl rfl ?_
      refine j_getP (b := 34) dX10_isSo_23 rfl fX10_7 rfl (by decide) rfl rfl ?_
      refine j_iload dX10_isSo_26 rfl rfl ?_
      refine j_iald (j := 39 + (3 * c)) (v := nI (S.v 6 c)) dX10_isSo_28 rfl rfl (by decide) rfl (by omega) (by decide) (hm.v.cp (by omega)) ?_
      refine j_istore (L' := [.ref 33, .int one, .int (nI i), .int (nI c), .int (nI (39 + (3 * c))), .int (nI (S.v 6 c)), z6, z7, z8]) dX10_isSo_29 rfl rfl (by decide) rfl ?_
      refine j_aload_n dX10_isSo_31 rfl rfl rfl ?_
      refine j_getP (b := 40) dX10_isSo_32 rfl fX10_33 rfl (by decide) rfl rfl ?_
      refine j_iload dX10_isSo_35 rfl rfl ?_
      refine j_iald (j := S.v 6 c) (v := nI (h (S.v 6 c))) dX10_isSo_37 rfl rfl (by decide) rfl (by omega) (by decide) (hh _ (by omega)) ?_
      refine j_istore (L' := [.ref 33, .int one, .int (nI i), .int (nI c), .int (nI (39 + (3 * c))), .int (nI (S.v 6 c)), .int (nI (h (S.v 6 c))), z7, z8]) dX10_isSo_38 rfl rfl (by decide) rfl ?_
      refine j_iconst (v := nI 0) dX10_isSo_40 rfl rfl ?_
      refine j_istore (L' := [.ref 33, .int one, .int (nI i), .int (nI c), .int (nI (39 + (3 * c))), .int (nI (S.v 6 c)), .int (nI (h (S.v 6 c))), .int (nI 0), z8]) dX10_isSo_41 rfl rfl (by decide) rfl ?_
      refine inner (S.v 7 c) 0 c i _ _ (by omega) (by omega) hi (hb60 _ g1) rfl (fun i2 z4 z5 z6 z7 z8 k1 k2 => ih (c + 1) i2 z4 z5 z6 z7 z8 (by omega) k1 ?_)
      have ho := @all_succ c (fun b => lwm (S.v 1 (S.v 6 b)) (S.v 0 1) (S.v 0 2) (mo (S.v 6 b)) (S.v 0 0) (h (S.v 6 b)) (S.v 7 b) = S.v 8 b)
      rw [ho, ← hI]
      exact k2
  refine j_iconst (v := nI 1) dX10_isSo_0 rfl rfl ?_
  refine j_istore_n (L' := [.ref 33, .int one, .int (nI 1), jU, jU, jU, jU, jU, jU]) dX10_isSo_1 rfl rfl rfl (by decide) rfl ?_
  refine j_iconst (v := nI 0) dX10_isSo_2 rfl rfl ?_
  refine j_istore_n (L' := [.ref 33, .int one, .int (nI 1), .int (nI 0), jU, jU, jU, jU, jU]) dX10_isSo_3 rfl rfl rfl (by decide) rfl ?_
  exact outer (S.v 0 5) 0 1 _ _ _ _ _ (by omega) (by omega) ⟨fun _ b hb => absurd hb (Nat.not_lt_zero _), fun _ => rfl⟩
