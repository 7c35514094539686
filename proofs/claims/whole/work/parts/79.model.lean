set_option maxHeartbeats 4000000 in
set_option maxRecDepth 100000 in
theorem g_years {X : jX} {d n : Nat} {I : HI} {J : HJ} {i0 i1 : Option Nat} {Q : jPost} {S : SS} {yb : Nat} (hm : MI S I J) (hW : WF yb S.v) (hyb : yb ≤ 2 ^ 12) {a b c : Int32} (hQ : MP Q (oYears S a b c) n I J (Pg i0 i1)) : Cj X (d + 2) 0 0 mX10_years [.ref 33, .int a, .int b, .int c] n I J (Pg i0 i1) Q := by
  refine Cj.intro rfl (Nat.le_of_ble_eq_true rfl) (L := [.ref 33, .int a, .int b, .int c, jU, jU, jU, jU, jU]) rfl ?_
  obtain ⟨⟨w0, w1, w2, w3, w4, w5, w6⟩, wp, wk, wc, wb⟩ := id hW
  refine j_iload_n dX10_years_0 rfl rfl rfl ?_
  refine j_iconst (v := nI 0) dX10_years_1 rfl rfl ?_
  refine j_ldc (v := nI 999999) dX10_years_2 rfl kX10_179 ?_
  refine j_callSw (As := [.int a, .int (nI 0), .int (nI 999999)]) dX10_years_4 rfl cX10_50 rfl (by decide) rfl rfl (c_min (fun ha => ?_) (fun ha => ?_))
  · obtain ⟨ja, rfl, hal, hau⟩ := inR_nat (by decide) (by decide) ha
    show Rj _ _ _ _ _ _ 7 [.ref 33, .int (nI ja), .int b, .int c, jU, jU, jU, jU, jU] [.int (nI 1)] n I J (Pg i0 i1)
    refine j_ifeqN (tgt := 30) dX10_years_7 rfl rfl (by decide) (fun h1 => by exfalso; omega) (fun h1 => ?_)
    refine j_iload_n dX10_years_10 rfl rfl rfl ?_
    refine j_iconst (v := nI 0) dX10_years_11 rfl rfl ?_
    refine j_bipush (v := nI 60) dX10_years_12 rfl rfl ?_
    refine j_callSw (As := [.int b, .int (nI 0), .int (nI 60)]) dX10_years_14 rfl cX10_50 rfl (by decide) rfl rfl (c_min (fun hb => ?_) (fun hb => ?_))
    · obtain ⟨jb, rfl, hbl, hbu⟩ := inR_nat (by decide) (by decide) hb
      show Rj _ _ _ _ _ _ 17 [.ref 33, .int (nI ja), .int (nI jb), .int c, jU, jU, jU, jU, jU] [.int (nI 1)] n I J (Pg i0 i1)
      refine j_ifeqN (tgt := 30) dX10_years_17 rfl rfl (by decide) (fun h2 => by exfalso; omega) (fun h2 => ?_)
      refine j_iload_n dX10_years_20 rfl rfl rfl ?_
      refine j_iconst (v := nI 0) dX10_years_21 rfl rfl ?_
      refine j_bipush (v := nI 100) dX10_years_22 rfl rfl ?_
      refine j_callSw (As := [.int c, .int (nI 0), .int (nI 100)]) dX10_years_24 rfl cX10_50 rfl (by decide) rfl rfl (c_min (fun hc => ?_) (fun hc => ?_))
      · obtain ⟨jc, rfl, hcl, hcu⟩ := inR_nat (by decide) (by decide) hc
        show Rj _ _ _ _ _ _ 27 [.ref 33, .int (nI ja), .int (nI jb), .int (nI jc), jU, jU, jU, jU, jU] [.int (nI 1)] n I J (Pg i0 i1)
        refine j_ifneN (tgt := 37) dX10_years_27 rfl rfl (by decide) (fun h3 => ?_) (fun h3 => by exfalso; omega)
        have inner : ∀ (r p x y : Nat) (h : Nat → Nat) (X1 : Nat) (H1 : Nat → Nat) (f : Nat → Int32) (z8 : Value), p + r = S.v 0 3 → y < jb → x < 2147483648 → (∀ q, q < S.v 0 3 → f q = nI (h q)) → (∀ q, q < S.v 0 3 → h q ≤ 60) → sdP S.v y jc r p x h = (X1, H1) → (∀ (f : Nat → Int32) (z7 z8 : Value), (∀ q, q < S.v 0 3 → f q = nI (H1 q)) → (∀ q, q < S.v 0 3 → H1 q ≤ 60) → X1 < 2147483648 → Rj X (d + 2) 0 0 mX10_years Q 48 [.ref 33, .int (nI ja), .int (nI jb), .int (nI jc), .long (lN X1), jU, .int (nI (y + 1)), z7, z8] [] n (ur I 40 f) J (Pg i0 i1)) → Rj X (d + 2) 0 0 mX10_years Q 57 [.ref 33, .int (nI ja), .int (nI jb), .int (nI jc), .long (lN x), jU, .int (nI y), .int (nI p), z8] [] n (ur I 40 f) J (Pg i0 i1) := by
          intro r
          induction r with
          | zero =>
            intro p x y h X1 H1 f z8 hpr hy hx hf hh hr hk
            refine j_iload dX10_years_57 rfl rfl ?_
            refine j_aload_n dX10_years_59 rfl rfl rfl ?_
            refine j_getP (b := 34) dX10_years_60 rfl fX10_7 rfl (by decide) rfl rfl ?_
            refine j_iconst (v := nI 0) dX10_years_63 rfl rfl ?_
            refine j_iald (j := 0) (v := nI (S.v 0 3)) dX10_years_64 rfl rfl (by decide) rfl (by decide) (by decide) hm.v.mp ?_
            refine j_icmpgeN (tgt := 176) dX10_years_65 rfl rfl (by omega) (by omega) (fun h1 => ?_) (fun h1 => by exfalso; omega)
            refine j_iincN (L' := [.ref 33, .int (nI ja), .int (nI jb), .int (nI jc), .long (lN x), jU, .int (nI (y + 1)), .int (nI p), z8]) dX10_years_176 rfl rfl (b := 1) rfl rfl rfl (by decide) rfl ?_
            refine j_goto (tgt := 48) dX10_years_179 rfl ?_
            simp only [sdP, Prod.mk.injEq] at hr
            obtain ⟨rfl, rfl⟩ := hr
            exact hk f _ _ hf hh hx
          | succ r ih =>
            intro p x y h X1 H1 f z8 hpr hy hx hf hh hr hk
            have hm2 : MI S (ur I 40 f) J := hm.row40
            obtain ⟨q1, q2, q3, q4, q5⟩ := wp p (by omega)
            have hb := hh p (by omega)
            have hlc := lcg_lt x
            refine j_iload dX10_years_57 rfl rfl ?_
            refine j_aload_n dX10_years_59 rfl rfl rfl ?_
            refine j_getP (b := 34) dX10_years_60 rfl fX10_7 rfl (by decide) rfl rfl ?_
            refine j_iconst (v := nI 0) dX10_years_63 rfl rfl ?_
            refine j_iald (j := 0) (v := nI (S.v 0 3)) dX10_years_64 rfl rfl (by decide) rfl (by decide) (by decide) hm.v.mp ?_
            refine j_icmpgeN (tgt := 176) dX10_years_65 rfl rfl (by omega) (by omega) (fun h1 => by exfalso; omega) (fun h1 => ?_)
            refine j_lload dX10_years_68 rfl rfl ?_
            refine j_ldc2 (v := lN 1103515245) dX10_years_70 rfl kX10_180 ?_
            refine j_lmulN (c := x * 1103515245) dX10_years_73 rfl rfl ?_
            refine j_ldc2 (v := lN 12345) dX10_years_74 rfl kX10_182 ?_
            refine j_laddN (c := (x * 1103515245) + 12345) dX10_years_77 rfl rfl ?_
            refine j_ldc2 (v := lN 2147483648) dX10_years_78 rfl kX10_184 ?_
            refine j_lremN (c := ((x * 1103515245) + 12345) % 2147483648) dX10_years_81 rfl (by omega) (by decide) (by decide) rfl ?_
            show Rj _ _ _ _ _ _ 82 [.ref 33, .int (nI ja), .int (nI jb), .int (nI jc), .long (lN x), jU, .int (nI y), .int (nI p), z8] [.long (lN (lcg x))] n (ur I 40 f) J (Pg i0 i1)
            refine j_lstore (L' := [.ref 33, .int (nI ja), .int (nI jb), .int (nI jc), .long (lN (lcg x)), jU, .int (nI y), .int (nI p), z8]) dX10_years_82 rfl rfl (by decide) rfl ?_
            refine j_aload_n dX10_years_84 rfl rfl rfl ?_
            refine j_aload_n dX10_years_85 rfl rfl rfl ?_
            refine j_getP (b := 34) dX10_years_86 rfl fX10_7 rfl (by decide) rfl rfl ?_
            refine j_bipush (v := nI 7) dX10_years_89 rfl rfl ?_
            refine j_iload dX10_years_91 rfl rfl ?_
            refine j_iaddN (c := 7 + p) dX10_years_93 rfl rfl ?_
            refine j_iald (j := 7 + p) (v := nI (S.v 1 p)) dX10_years_94 rfl rfl (by decide) rfl (by omega) (by decide) (hm.v.kd (by omega)) ?_
            refine j_aload_n dX10_years_95 rfl rfl rfl ?_
            refine j_getP (b := 34) dX10_years_96 rfl fX10_7 rfl (by decide) rfl rfl ?_
            refine j_iconst (v := nI 2) dX10_years_99 rfl rfl ?_
            refine j_iald (j := 2) (v := nI (S.v 0 0)) dX10_years_100 rfl rfl (by decide) rfl (by decide) (by decide) hm.v.my ?_
            refine j_iload dX10_years_101 rfl rfl ?_
            refine j_iaddN (c := (S.v 0 0) + y) dX10_years_103 rfl rfl ?_
            refine j_aload_n dX10_years_104 rfl rfl rfl ?_
            refine j_getP (b := 34) dX10_years_105 rfl fX10_7 rfl (by decide) rfl rfl ?_
            refine j_iconst (v := nI 4) dX10_years_108 rfl rfl ?_
            refine j_iald (j := 4) (v := nI (S.v 0 2)) dX10_years_109 rfl rfl (by decide) rfl (by decide) (by decide) hm.v.mr ?_
            refine j_callVw (As := [.int (nI (S.v 1 p)), .int (nI ((S.v 0 0) + y)), .int (nI (S.v 0 2))]) dX10_years_110 rfl cX10_126 (by decide) rfl rfl (by decide) rfl (by decide) rfl rfl (c_mgoes hm2.v q1 (by omega) w1 w2 ?_)
            have hg := gos_le (S.v 1 p) (S.v 0 0 + y) (S.v 0 1) (S.v 0 2)
            show Rj _ _ _ _ _ _ 113 [.ref 33, .int (nI ja), .int (nI jb), .int (nI jc), .long (lN (lcg x)), jU, .int (nI y), .int (nI p), z8] [.int (nI (gos (S.v 1 p) (S.v 0 0 + y) (S.v 0 1) (S.v 0 2)))] n (ur I 40 f) J (Pg i0 i1)
            refine j_lload dX10_years_113 rfl rfl ?_
            refine j_ldc2 (v := lN 65536) dX10_years_115 rfl kX10_186 ?_
            refine j_ldivN (c := (lcg x) / 65536) dX10_years_118 rfl (by omega) (by decide) (by decide) rfl ?_
            refine j_ldc2 (v := lN 100) dX10_years_119 rfl kX10_188 ?_
            refine j_lremN (c := ((lcg x) / 65536) % 100) dX10_years_122 rfl (by omega) (by decide) (by decide) rfl ?_
            refine j_iload_n dX10_years_123 rfl rfl rfl ?_
            refine j_i2lN dX10_years_124 rfl (by omega) ?_
            refine j_lcmp dX10_years_125 rfl ?_
            refine j_ifgeL (tgt := 133) dX10_years_126 rfl rfl (by omega) (by omega) (fun h2 => ?_) (fun h2 => ?_)
            · refine j_iconst (v := nI 0) dX10_years_133 rfl rfl ?_
              refine j_iaddN (c := gos (S.v 1 p) (S.v 0 0 + y) (S.v 0 1) (S.v 0 2)) dX10_years_134 rfl rfl ?_
              refine j_istore (L' := [.ref 33, .int (nI ja), .int (nI jb), .int (nI jc), .long (lN (lcg x)), jU, .int (nI y), .int (nI p), .int (nI (gos (S.v 1 p) (S.v 0 0 + y) (S.v 0 1) (S.v 0 2)))]) dX10_years_135 rfl rfl (by decide) rfl ?_
              refine j_aload_n dX10_years_137 rfl rfl rfl ?_
              refine j_getP (b := 40) dX10_years_138 rfl fX10_33 rfl (by decide) rfl rfl ?_
              refine j_iload dX10_years_141 rfl rfl ?_
              refine j_aload_n dX10_years_143 rfl rfl rfl ?_
              refine j_getP (b := 40) dX10_years_144 rfl fX10_33 rfl (by decide) rfl rfl ?_
              refine j_iload dX10_years_147 rfl rfl ?_
              refine j_iald (j := p) (v := nI (h p)) dX10_years_149 rfl rfl (by decide) rfl (by omega) (by decide) (hf p (by omega)) ?_
              refine j_iload dX10_years_150 rfl rfl ?_
              refine j_icmpleN (tgt := 168) dX10_years_152 rfl rfl (by omega) (by omega) (fun h3 => ?_) (fun h3 => ?_)
              · refine j_iconst (v := nI 0) dX10_years_168 rfl rfl ?_
                refine j_iast (j := p) dX10_years_169 rfl rfl (by decide) rfl (by omega) (by decide) ?_
                refine j_iincN (L' := [.ref 33, .int (nI ja), .int (nI jb), .int (nI jc), .long (lN (lcg x)), jU, .int (nI y), .int (nI (p + 1)), .int (nI (gos (S.v 1 p) (S.v 0 0 + y) (S.v 0 1) (S.v 0 2)))]) dX10_years_170 rfl rfl (b := 1) rfl rfl rfl (by decide) rfl ?_
                refine j_goto (tgt := 57) dX10_years_173 rfl ?_
                rw [u2_ur]
                refine ih (p + 1) (lcg x) y (fun q => if q = p then sdL S.v y jc (lcg x) p (h p) else h q) X1 H1 _ _ (by omega) hy (lcg_lt x) (fun q hq => ?_) (fun q hq => ?_) hr hk
                · show (if _ then _ else f _) = _
                  by_cases hqp : q = p
                  · subst hqp
                    rw [if_pos rfl, if_pos rfl]
                    congr 1
                    unfold sdL
                    split <;> omega
                  · rw [if_neg hqp, if_neg hqp]; exact hf q hq
                · by_cases hqp : q = p
                  · subst hqp; simp only [if_true]; exact Nat.le_trans (sdL_le _ _ _ _ _ _) hb
                  · simp only [if_neg hqp]; exact hh q hq
              · refine j_aload_n dX10_years_155 rfl rfl rfl ?_
                refine j_getP (b := 40) dX10_years_156 rfl fX10_33 rfl (by decide) rfl rfl ?_
                refine j_iload dX10_years_159 rfl rfl ?_
                refine j_iald (j := p) (v := nI (h p)) dX10_years_161 rfl rfl (by decide) rfl (by omega) (by decide) (hf p (by omega)) ?_
                refine j_iload dX10_years_162 rfl rfl ?_
                refine j_isubN (c := (h p) - (gos (S.v 1 p) (S.v 0 0 + y) (S.v 0 1) (S.v 0 2))) dX10_years_164 rfl (by omega) rfl ?_
                refine j_goto (tgt := 169) dX10_years_165 rfl ?_
                refine j_iast (j := p) dX10_years_169 rfl rfl (by decide) rfl (by omega) (by decide) ?_
                refine j_iincN (L' := [.ref 33, .int (nI ja), .int (nI jb), .int (nI jc), .long (lN (lcg x)), jU, .int (nI y), .int (nI (p + 1)), .int (nI (gos (S.v 1 p) (S.v 0 0 + y) (S.v 0 1) (S.v 0 2)))]) dX10_years_170 rfl rfl (b := 1) rfl rfl rfl (by decide) rfl ?_
                refine j_goto (tgt := 57) dX10_years_173 rfl ?_
                rw [u2_ur]
                refine ih (p + 1) (lcg x) y (fun q => if q = p then sdL S.v y jc (lcg x) p (h p) else h q) X1 H1 _ _ (by omega) hy (lcg_lt x) (fun q hq => ?_) (fun q hq => ?_) hr hk
                · show (if _ then _ else f _) = _
                  by_cases hqp : q = p
                  · subst hqp
                    rw [if_pos rfl, if_pos rfl]
                    congr 1
                    unfold sdL
                    split <;> omega
                  · rw [if_neg hqp, if_neg hqp]; exact hf q hq
                · by_cases hqp : q = p
                  · subst hqp; simp only [if_true]; exact Nat.le_trans (sdL_le _ _ _ _ _ _) hb
                  · simp only [if_neg hqp]; exact hh q hq
            · refine j_iconst (v := nI 1) dX10_years_129 rfl rfl ?_
              refine j_goto (tgt := 134) dX10_years_130 rfl ?_
              refine j_iaddN (c := gos (S.v 1 p) (S.v 0 0 + y) (S.v 0 1) (S.v 0 2) + 1) dX10_years_134 rfl rfl ?_
              refine j_istore (L' := [.ref 33, .int (nI ja), .int (nI jb), .int (nI jc), .long (lN (lcg x)), jU, .int (nI y), .int (nI p), .int (nI (gos (S.v 1 p) (S.v 0 0 + y) (S.v 0 1) (S.v 0 2) + 1))]) dX10_years_135 rfl rfl (by decide) rfl ?_
              refine j_aload_n dX10_years_137 rfl rfl rfl ?_
              refine j_getP (b := 40) dX10_years_138 rfl fX10_33 rfl (by decide) rfl rfl ?_
              refine j_iload dX10_years_141 rfl rfl ?_
              refine j_aload_n dX10_years_143 rfl rfl rfl ?_
              refine j_getP (b := 40) dX10_years_144 rfl fX10_33 rfl (by decide) rfl rfl ?_
              refine j_iload dX10_years_147 rfl rfl ?_
              refine j_iald (j := p) (v := nI (h p)) dX10_years_149 rfl rfl (by decide) rfl (by omega) (by decide) (hf p (by omega)) ?_
              refine j_iload dX10_years_150 rfl rfl ?_
              refine j_icmpleN (tgt := 168) dX10_years_152 rfl rfl (by omega) (by omega) (fun h4 => ?_) (fun h4 => ?_)
              · refine j_iconst (v := nI 0) dX10_years_168 rfl rfl ?_
                refine j_iast (j := p) dX10_years_169 rfl rfl (by decide) rfl (by omega) (by decide) ?_
                refine j_iincN (L' := [.ref 33, .int (nI ja), .int (nI jb), .int (nI jc), .long (lN (lcg x)), jU, .int (nI y), .int (nI (p + 1)), .int (nI (gos (S.v 1 p) (S.v 0 0 + y) (S.v 0 1) (S.v 0 2) + 1))]) dX10_years_170 rfl rfl (b := 1) rfl rfl rfl (by decide) rfl ?_
                refine j_goto (tgt := 57) dX10_years_173 rfl ?_
                rw [u2_ur]
                refine ih (p + 1) (lcg x) y (fun q => if q = p then sdL S.v y jc (lcg x) p (h p) else h q) X1 H1 _ _ (by omega) hy (lcg_lt x) (fun q hq => ?_) (fun q hq => ?_) hr hk
                · show (if _ then _ else f _) = _
                  by_cases hqp : q = p
                  · subst hqp
                    rw [if_pos rfl, if_pos rfl]
                    congr 1
                    unfold sdL
                    split <;> omega
                  · rw [if_neg hqp, if_neg hqp]; exact hf q hq
                · by_cases hqp : q = p
                  · subst hqp; simp only [if_true]; exact Nat.le_trans (sdL_le _ _ _ _ _ _) hb
                  · simp only [if_neg hqp]; exact hh q hq
              · refine j_aload_n dX10_years_155 rfl rfl rfl ?_
                refine j_getP (b := 40) dX10_years_156 rfl fX10_33 rfl (by decide) rfl rfl ?_
                refine j_iload dX10_years_159 rfl rfl ?_
                refine j_iald (j := p) (v := nI (h p)) dX10_years_161 rfl rfl (by decide) rfl (by omega) (by decide) (hf p (by omega)) ?_
                refine j_iload dX10_years_162 rfl rfl ?_
                refine j_isubN (c := (h p) - (gos (S.v 1 p) (S.v 0 0 + y) (S.v 0 1) (S.v 0 2) + 1)) dX10_years_164 rfl (by omega) rfl ?_
                refine j_goto (tgt := 169) dX10_years_165 rfl ?_
                refine j_iast (j := p) dX10_years_169 rfl rfl (by decide) rfl (by omega) (by decide) ?_
                refine j_iincN (L' := [.ref 33, .int (nI ja), .int (nI jb), .int (nI jc), .long (lN (lcg x)), jU, .int (nI y), .int (nI (p + 1)), .int (nI (gos (S.v 1 p) (S.v 0 0 + y) (S.v 0 1) (S.v 0 2) + 1))]) dX10_years_170 rfl rfl (b := 1) rfl rfl rfl (by decide) rfl ?_
                refine j_goto (tgt := 57) dX10_years_173 rfl ?_
                rw [u2_ur]
                refine ih (p + 1) (lcg x) y (fun q => if q = p then sdL S.v y jc (lcg x) p (h p) else h q) X1 H1 _ _ (by omega) hy (lcg_lt x) (fun q hq => ?_) (fun q hq => ?_) hr hk
                · show (if _ then _ else f _) = _
                  by_cases hqp : q = p
                  · subst hqp
                    rw [if_pos rfl, if_pos rfl]
                    congr 1
                    unfold sdL
                    split <;> omega
                  · rw [if_neg hqp, if_neg hqp]; exact hf q hq
                · by_cases hqp : q = p
                  · subst hqp; simp only [if_true]; exact Nat.le_trans (sdL_le _ _ _ _ _ _) hb
                  · simp only [if_neg hqp]; exact hh q hq
        have sm : ∀ (r p a x : Nat) (HT : Nat → Nat) (f : Nat → Int32) (z8 : Value), p + r = S.v 0 3 → a = sumN HT p → (∀ q, q < S.v 0 3 → f q = nI (HT q)) → (∀ q, q < S.v 0 3 → HT q ≤ 60) → HT = (sdY S.v jc jb 0 ja (S.v 2)).2 → Rj X (d + 2) 0 0 mX10_years Q 188 [.ref 33, .int (nI ja), .int (nI jb), .int (nI jc), .long (lN x), jU, .int (nI a), .int (nI p), z8] [] n (ur I 40 f) J (Pg i0 i1) := by
          intro r
          induction r with
          | zero =>
            intro p a x HT f z8 hpr ha6 hf hh hE
            refine j_iload dX10_years_188 rfl rfl ?_
            refine j_aload_n dX10_years_190 rfl rfl rfl ?_
            refine j_getP (b := 34) dX10_years_191 rfl fX10_7 rfl (by decide) rfl rfl ?_
            refine j_iconst (v := nI 0) dX10_years_194 rfl rfl ?_
            refine j_iald (j := 0) (v := nI (S.v 0 3)) dX10_years_195 rfl rfl (by decide) rfl (by decide) (by decide) hm.v.mp ?_
            refine j_icmpgeN (tgt := 217) dX10_years_196 rfl rfl (by omega) (by omega) (fun h1 => ?_) (fun h1 => by exfalso; omega)
            refine j_iload dX10_years_217 rfl rfl ?_
            refine j_iret dX10_years_219 rfl rfl ?_
            have hp3 : p = S.v 0 3 := by omega
            subst hp3
            have e : oYears S (nI ja) (nI jb) (nI jc) = (S, nI (sumN HT (S.v 0 3))) := by unfold oYears; rw [if_pos (by exact ⟨ha, hb, hc⟩), tN_nI (show ja < 2 ^ 30 by omega), tN_nI (show jb < 2 ^ 30 by omega), tN_nI (show jc < 2 ^ 30 by omega), hE]
            rw [e] at hQ
            rw [ha6]
            exact hQ _ _ hm.row40 (CF.ur (by omega) (by omega))
          | succ r ih =>
            intro p a x HT f z8 hpr ha6 hf hh hE
            have hb6 := hh p (by omega)
            have hs6 := sumN_60 p (fun q hq => hh q (by omega))
            refine j_iload dX10_years_188 rfl rfl ?_
            refine j_aload_n dX10_years_190 rfl rfl rfl ?_
            refine j_getP (b := 34) dX10_years_191 rfl fX10_7 rfl (by decide) rfl rfl ?_
            refine j_iconst (v := nI 0) dX10_years_194 rfl rfl ?_
            refine j_iald (j := 0) (v := nI (S.v 0 3)) dX10_years_195 rfl rfl (by decide) rfl (by decide) (by decide) hm.v.mp ?_
            refine j_icmpgeN (tgt := 217) dX10_years_196 rfl rfl (by omega) (by omega) (fun h1 => by exfalso; omega) (fun h1 => ?_)
            refine j_iload dX10_years_199 rfl rfl ?_
            refine j_aload_n dX10_years_201 rfl rfl rfl ?_
            refine j_getP (b := 40) dX10_years_202 rfl fX10_33 rfl (by decide) rfl rfl ?_
            refine j_iload dX10_years_205 rfl rfl ?_
            refine j_iald (j := p) (v := nI (HT p)) dX10_years_207 rfl rfl (by decide) rfl (by omega) (by decide) (hf p (by omega)) ?_
            refine j_iaddN (c := a + (HT p)) dX10_years_208 rfl rfl ?_
            refine j_istore (L' := [.ref 33, .int (nI ja), .int (nI jb), .int (nI jc), .long (lN x), jU, .int (nI (a + (HT p))), .int (nI p), z8]) dX10_years_209 rfl rfl (by decide) rfl ?_
            refine j_iincN (L' := [.ref 33, .int (nI ja), .int (nI jb), .int (nI jc), .long (lN x), jU, .int (nI (a + (HT p))), .int (nI (p + 1)), z8]) dX10_years_211 rfl rfl (b := 1) rfl rfl rfl (by decide) rfl ?_
            refine j_goto (tgt := 188) dX10_years_214 rfl ?_
            exact ih (p + 1) _ x HT f _ (by omega) (by rw [ha6]; rfl) hf hh hE
        have outer : ∀ (r y x XT : Nat) (h HT : Nat → Nat) (f : Nat → Int32) (z7 z8 : Value), y + r = jb → x < 2147483648 → (∀ q, q < S.v 0 3 → f q = nI (h q)) → (∀ q, q < S.v 0 3 → h q ≤ 60) → sdY S.v jc r y x h = (XT, HT) → HT = (sdY S.v jc jb 0 ja (S.v 2)).2 → Rj X (d + 2) 0 0 mX10_years Q 48 [.ref 33, .int (nI ja), .int (nI jb), .int (nI jc), .long (lN x), jU, .int (nI y), z7, z8] [] n (ur I 40 f) J (Pg i0 i1) := by
          intro r
          induction r with
          | zero =>
            intro y x XT h HT f z7 z8 hyr hx hf hh hr hE
            refine j_iload dX10_years_48 rfl rfl ?_
            refine j_iload_n dX10_years_50 rfl rfl rfl ?_
            refine j_icmpgeN (tgt := 182) dX10_years_51 rfl rfl (by omega) (by omega) (fun h1 => ?_) (fun h1 => by exfalso; omega)
            refine j_iconst (v := nI 0) dX10_years_182 rfl rfl ?_
            refine j_istore (L' := [.ref 33, .int (nI ja), .int (nI jb), .int (nI jc), .long (lN x), jU, .int (nI 0), z7, z8]) dX10_years_183 rfl rfl (by decide) rfl ?_
            refine j_iconst (v := nI 0) dX10_years_185 rfl rfl ?_
            refine j_istore (L' := [.ref 33, .int (nI ja), .int (nI jb), .int (nI jc), .long (lN x), jU, .int (nI 0), .int (nI 0), z8]) dX10_years_186 rfl rfl (by decide) rfl ?_
            simp only [sdY, Prod.mk.injEq] at hr
            obtain ⟨rfl, rfl⟩ := hr
            exact sm (S.v 0 3) 0 0 x h f _ (by omega) rfl hf hh hE
          | succ r ih =>
            intro y x XT h HT f z7 z8 hyr hx hf hh hr hE
            refine j_iload dX10_years_48 rfl rfl ?_
            refine j_iload_n dX10_years_50 rfl rfl rfl ?_
            refine j_icmpgeN (tgt := 182) dX10_years_51 rfl rfl (by omega) (by omega) (fun h1 => by exfalso; omega) (fun h1 => ?_)
            refine j_iconst (v := nI 0) dX10_years_54 rfl rfl ?_
            refine j_istore (L' := [.ref 33, .int (nI ja), .int (nI jb), .int (nI jc), .long (lN x), jU, .int (nI y), .int (nI 0), z8]) dX10_years_55 rfl rfl (by decide) rfl ?_
            obtain ⟨X1, H1, hsp⟩ : ∃ X1 H1, sdP S.v y jc (S.v 0 3) 0 x h = (X1, H1) := ⟨_, _, rfl⟩
            have hrr : sdY S.v jc r (y + 1) X1 H1 = (XT, HT) := by
              rw [← hr]
              conv => rhs; unfold sdY
              rw [hsp]
            exact inner (S.v 0 3) 0 x y h X1 H1 f _ (by omega) (by omega) hx hf hh hsp (fun f2 z7 z8 k1 k2 k3 => ih (y + 1) X1 XT H1 HT f2 z7 z8 (by omega) k3 k1 k2 hrr hE)
        refine j_aload_n dX10_years_37 rfl rfl rfl ?_
        refine j_callVw (As := []) dX10_years_38 rfl cX10_164 (by decide) rfl rfl (by decide) rfl (by decide) rfl rfl (c_mlay (fun f hf => ?_))
        show Rj _ _ _ _ _ _ 41 [.ref 33, .int (nI ja), .int (nI jb), .int (nI jc), jU, jU, jU, jU, jU] [] n (ur I 40 f) J (Pg i0 i1)
        refine j_iload_n dX10_years_41 rfl rfl rfl ?_
        refine j_i2lN dX10_years_42 rfl (by omega) ?_
        refine j_lstore (L' := [.ref 33, .int (nI ja), .int (nI jb), .int (nI jc), .long (lN ja), jU, jU, jU, jU]) dX10_years_43 rfl rfl (by decide) rfl ?_
        refine j_iconst (v := nI 0) dX10_years_45 rfl rfl ?_
        refine j_istore (L' := [.ref 33, .int (nI ja), .int (nI jb), .int (nI jc), .long (lN ja), jU, .int (nI 0), jU, jU]) dX10_years_46 rfl rfl (by decide) rfl ?_
        exact outer jb 0 ja _ (S.v 2) _ f _ _ (by omega) (by omega) (fun q hq => by rw [hf q (by omega)]; exact hm.v.lv hq) (fun q hq => (wp q hq).2.1) rfl rfl
      · show Rj _ _ _ _ _ _ 27 [.ref 33, .int (nI ja), .int (nI jb), .int c, jU, jU, jU, jU, jU] [.int (nI 0)] n I J (Pg i0 i1)
        refine j_ifneN (tgt := 37) dX10_years_27 rfl rfl (by decide) (fun h4 => by exfalso; omega) (fun h4 => ?_)
        refine j_aload_n dX10_years_30 rfl rfl rfl ?_
        refine j_bipush (v := (-2)) dX10_years_31 rfl rfl ?_
        refine j_callVw (As := [.int (-2)]) dX10_years_33 rfl cX10_54 (by decide) rfl rfl (by decide) rfl (by decide) rfl rfl (c_mbad ?_)
        show Rj _ _ _ _ _ _ 36 [.ref 33, .int (nI ja), .int (nI jb), .int c, jU, jU, jU, jU, jU] [.int (-2)] n (u2 I 39 0 (I 39 0 + nI 1)) J (Pg i0 i1)
        refine j_iret dX10_years_36 rfl rfl ?_
        have e : oYears S (nI ja) (nI jb) c = (S.bad, -2) := by unfold oYears; rw [if_neg (by first | exact ha | exact fun q => ha q.1 | exact fun q => hb q.2 | exact fun q => hb q.2.1 | exact fun q => hc q.2.2 | exact fun q => ha q.1.1 | exact fun q => hb q.1.2.1 | exact fun q => q.1.2.2 (congrArg nI (by assumption)) | exact fun q => hc q.2.1 | exact fun q => he q.2.2)]
        rw [e] at hQ
        exact hQ _ _ hm.bad (CF.u2 (by omega) (by omega))
    · show Rj _ _ _ _ _ _ 17 [.ref 33, .int (nI ja), .int b, .int c, jU, jU, jU, jU, jU] [.int (nI 0)] n I J (Pg i0 i1)
      refine j_ifeqN (tgt := 30) dX10_years_17 rfl rfl (by decide) (fun h5 => ?_) (fun h5 => by exfalso; omega)
      refine j_aload_n dX10_years_30 rfl rfl rfl ?_
      refine j_bipush (v := (-2)) dX10_years_31 rfl rfl ?_
      refine j_callVw (As := [.int (-2)]) dX10_years_33 rfl cX10_54 (by decide) rfl rfl (by decide) rfl (by decide) rfl rfl (c_mbad ?_)
      show Rj _ _ _ _ _ _ 36 [.ref 33, .int (nI ja), .int b, .int c, jU, jU, jU, jU, jU] [.int (-2)] n (u2 I 39 0 (I 39 0 + nI 1)) J (Pg i0 i1)
      refine j_iret dX10_years_36 rfl rfl ?_
      have e : oYears S (nI ja) b c = (S.bad, -2) := by unfold oYears; rw [if_neg (by first | exact ha | exact fun q => ha q.1 | exact fun q => hb q.2 | exact fun q => hb q.2.1 | exact fun q => hc q.2.2 | exact fun q => ha q.1.1 | exact fun q => hb q.1.2.1 | exact fun q => q.1.2.2 (congrArg nI (by assumption)) | exact fun q => hc q.2.1 | exact fun q => he q.2.2)]
      rw [e] at hQ
      exact hQ _ _ hm.bad (CF.u2 (by omega) (by omega))
  · show Rj _ _ _ _ _ _ 7 [.ref 33, .int a, .int b, .int c, jU, jU, jU, jU, jU] [.int (nI 0)] n I J (Pg i0 i1)
    refine j_ifeqN (tgt := 30) dX10_years_7 rfl rfl (by decide) (fun h6 => ?_) (fun h6 => by exfalso; omega)
    refine j_aload_n dX10_years_30 rfl rfl rfl ?_
    refine j_bipush (v := (-2)) dX10_years_31 rfl rfl ?_
    refine j_callVw (As := [.int (-2)]) dX10_years_33 rfl cX10_54 (by decide) rfl rfl (by decide) rfl (by decide) rfl rfl (c_mbad ?_)
    show Rj _ _ _ _ _ _ 36 [.ref 33, .int a, .int b, .int c, jU, jU, jU, jU, jU] [.int (-2)] n (u2 I 39 0 (I 39 0 + nI 1)) J (Pg i0 i1)
    refine j_iret dX10_years_36 rfl rfl ?_
    have e : oYears S a b c = (S.bad, -2) := by unfold oYears; rw [if_neg (by first | exact ha | exact fun q => ha q.1 | exact fun q => hb q.2 | exact fun q => hb q.2.1 | exact fun q => hc q.2.2 | exact fun q => ha q.1.1 | exact fun q => hb q.1.2.1 | exact fun q => q.1.2.2 (congrArg nI (by assumption)) | exact fun q => hc q.2.1 | exact fun q => he q.2.2)]
    rw [e] at hQ
    exact hQ _ _ hm.bad (CF.u2 (by omega) (by omega))
