set_option maxHeartbeats 4000000 in
set_option maxRecDepth 100000 in
theorem c_misItem1 {X : jX} {d n : Nat} {I : HI} {J : HJ} {i0 i1 : Option Nat} {Q : jPost} {tl f : Nat} {tx : Nat → Nat} (hR : MR I tl tx) (hT : TM I J tx tl f) (hb11 : I 33 11 = nI 0) {T : Bool × Nat} (hI : itmV tx tl f = T) (hQ1 : ∀ g, T = (true, g) → ∀ I' J', TM I' J' tx tl g → Ftk I J I' J' → Q (some (.int (nI 1))) n I' J' (Pg i0 i1)) (hQ0 : ∀ g, T = (false, g) → ∀ I' J', TM I' J' tx tl g → Ftk I J I' J' → Q (some (.int (nI 0))) n I' J' (Pg i0 i1)) : Cj X (d + 3) 0 0 mX10_isItem [.ref 33] n I J (Pg i0 i1) Q := by
  refine Cj.intro rfl (Nat.le_of_ble_eq_true rfl) (L := [.ref 33, jU, jU, jU]) rfl ?_
  have hk4 := tkK_le tx tl f
  have hm1 := mkT_1 hk4
  have hm5 := mkT_le hk4
  refine j_aload_n dX10_isItem_0 rfl rfl rfl ?_
  refine j_getIv (v := nI (mkT (tkK tx tl f))) dX10_isItem_1 rfl fX10_79 rfl (by decide) rfl hT.1.2.2 ?_
  refine j_iconst (v := nI 1) dX10_isItem_4 rfl rfl ?_
  refine j_icmpeqN (tgt := 10) dX10_isItem_5 rfl rfl (by omega) (by decide) (fun h1 => ?_) (fun h1 => ?_)
  · have hk1 : tkK tx tl f = 1 := by omega
    refine j_aload_n dX10_isItem_10 rfl rfl rfl ?_
    refine j_getIv (v := nI 0) dX10_isItem_11 rfl fX10_101 rfl (by decide) rfl hb11 ?_
    refine j_ifneN (tgt := 21) dX10_isItem_14 rfl rfl (by decide) (fun h2 => by exfalso; omega) (fun h2 => ?_)
    refine j_iconst (v := nI 1) dX10_isItem_17 rfl rfl ?_
    refine j_goto (tgt := 22) dX10_isItem_18 rfl ?_
    refine j_istore_n (L' := [.ref 33, .int (nI 1), jU, jU]) dX10_isItem_22 rfl rfl rfl (by decide) rfl ?_
    refine j_aload_n dX10_isItem_23 rfl rfl rfl ?_
    refine j_getJv (v := wdL tx (tkE tx tl f - f) f) dX10_isItem_24 rfl fX10_82 rfl (by decide) rfl (hT.2.2.1 hk1) ?_
    refine j_bipush (v := nI 22) dX10_isItem_27 rfl rfl ?_
    refine j_iconst (v := nI 1) dX10_isItem_29 rfl rfl ?_
    refine j_bipush (v := nI 12) dX10_isItem_30 rfl rfl ?_
    refine j_bipush (v := nI 12) dX10_isItem_32 rfl rfl ?_
    refine j_iconst (v := nI 5) dX10_isItem_34 rfl rfl ?_
    refine j_bipush (v := nI 25) dX10_isItem_35 rfl rfl ?_
    refine j_callSw (As := [.int (nI 22), .int (nI 1), .int (nI 12), .int (nI 12), .int (nI 5), .int (nI 25)]) dX10_isItem_37 rfl cX10_104 rfl (Nat.le_of_ble_eq_true rfl) rfl rfl (c_mword0 ?_)
    show Rj _ _ _ _ _ _ 40 [.ref 33, .int (nI 1), jU, jU] [.long (lN 739651769), .long (wdL tx (tkE tx tl f - f) f)] n I J (Pg i0 i1)
    refine j_lcmp dX10_isItem_40 rfl ?_
    refine j_ifne (tgt := 61) dX10_isItem_41 rfl rfl (fun h3 => ?_) (fun h3 => ?_)
    · have hw0 : ¬ isW tx tl f 0 := fun z => absurd ((lg_cmp_eq _ _).mpr ((wd_0 hk1 hT.2.2.2).mpr z)) (by assumption)
      refine j_iload_n dX10_isItem_61 rfl rfl rfl ?_
      refine j_ifeqN (tgt := 67) dX10_isItem_62 rfl rfl (by decide) (fun h4 => by exfalso; omega) (fun h4 => ?_)
      refine j_iconst (v := nI 0) dX10_isItem_65 rfl rfl ?_
      refine j_iret dX10_isItem_66 rfl rfl ?_
      refine hQ0 f ?_ I J hT Ftk.rf
      rw [← hI]; unfold itmV; rw [if_neg (fun z => hw0 z.2)]
    · have hw0 := (wd_0 hk1 hT.2.2.2).mp ((lg_cmp_eq _ _).mp (by assumption))
      refine j_iload_n dX10_isItem_44 rfl rfl rfl ?_
      refine j_ifeqN (tgt := 59) dX10_isItem_45 rfl rfl (by decide) (fun h5 => by exfalso; omega) (fun h5 => ?_)
      refine j_aload_n dX10_isItem_48 rfl rfl rfl ?_
      refine j_callVw (As := []) dX10_isItem_49 rfl cX10_108 (by decide) rfl rfl (by decide) rfl (by decide) rfl rfl (c_misEnd hR hT (fun he3 I1 J1 hT1 hF1 => ?_) (fun he3 I1 J1 hT1 hF1 => ?_))
      · show Rj _ _ _ _ _ _ 52 [.ref 33, .int (nI 1), jU, jU] [.int (nI 1)] n I1 J1 (Pg i0 i1)
        refine j_ifeqN (tgt := 59) dX10_isItem_52 rfl rfl (by decide) (fun h6 => by exfalso; omega) (fun h6 => ?_)
        refine j_iconst (v := nI 1) dX10_isItem_55 rfl rfl ?_
        refine j_goto (tgt := 60) dX10_isItem_56 rfl ?_
        refine j_iret dX10_isItem_60 rfl rfl ?_
        refine hQ1 (nx tx tl f) ?_ _ _ hT1 hF1
        rw [← hI]; unfold itmV; rw [if_pos ⟨hk1, hw0⟩, decide_eq_true he3]
      · show Rj _ _ _ _ _ _ 52 [.ref 33, .int (nI 1), jU, jU] [.int (nI 0)] n I1 J1 (Pg i0 i1)
        refine j_ifeqN (tgt := 59) dX10_isItem_52 rfl rfl (by decide) (fun h7 => ?_) (fun h7 => by exfalso; omega)
        refine j_iconst (v := nI 0) dX10_isItem_59 rfl rfl ?_
        refine j_iret dX10_isItem_60 rfl rfl ?_
        refine hQ0 (nx tx tl f) ?_ _ _ hT1 hF1
        rw [← hI]; unfold itmV; rw [if_pos ⟨hk1, hw0⟩, decide_eq_false he3]
  · refine j_iconst (v := nI 0) dX10_isItem_8 rfl rfl ?_
    refine j_iret dX10_isItem_9 rfl rfl ?_
    refine hQ0 f ?_ I J hT Ftk.rf
    rw [← hI]; unfold itmV; rw [if_neg (fun z => by omega)]
set_option maxHeartbeats 4000000 in
set_option maxRecDepth 100000 in
theorem c_misItem0 {X : jX} {d n : Nat} {I : HI} {J : HJ} {i0 i1 : Option Nat} {Q : jPost} {tl f q : Nat} {tx : Nat → Nat} {w : VT} (hR : MR I tl tx) (hT : TM I J tx tl f) (hV : VM 35 0 I w) (hb11 : I 33 11 = nI q) (hq : 0 < q ∧ q < 2 ^ 20) (hb6 : w 0 3 ≤ 6) (hb8 : w 0 4 ≤ 8) (hda : w 0 1 ≤ 4095) (hdr : w 0 2 ≤ 4095) {T : Bool × Nat × VT} (hI : itm tx tl f w = T) (hQ1 : ∀ g w1, T = (true, g, w1) → ∀ I' J', TM I' J' tx tl g → VM 35 0 I' w1 → Fit I J I' J' → Q (some (.int (nI 1))) n I' J' (Pg i0 i1)) (hQ0 : ∀ g w1, T = (false, g, w1) → ∀ I' J', TM I' J' tx tl g → VM 35 0 I' w1 → Fit I J I' J' → Q (some (.int (nI 0))) n I' J' (Pg i0 i1)) : Cj X (d + 3) 0 0 mX10_isItem [.ref 33] n I J (Pg i0 i1) Q := by
  refine Cj.intro rfl (Nat.le_of_ble_eq_true rfl) (L := [.ref 33, jU, jU, jU]) rfl ?_
  have hk4 := tkK_le tx tl f
  have hm1 := mkT_1 hk4
  have hm5 := mkT_le hk4
  refine j_aload_n dX10_isItem_0 rfl rfl rfl ?_
  refine j_getIv (v := nI (mkT (tkK tx tl f))) dX10_isItem_1 rfl fX10_79 rfl (by decide) rfl hT.1.2.2 ?_
  refine j_iconst (v := nI 1) dX10_isItem_4 rfl rfl ?_
  refine j_icmpeqN (tgt := 10) dX10_isItem_5 rfl rfl (by omega) (by decide) (fun h1 => ?_) (fun h1 => ?_)
  · have hk1 : tkK tx tl f = 1 := by omega
    refine j_aload_n dX10_isItem_10 rfl rfl rfl ?_
    refine j_getIv (v := nI q) dX10_isItem_11 rfl fX10_101 rfl (by decide) rfl hb11 ?_
    refine j_ifneN (tgt := 21) dX10_isItem_14 rfl rfl (by omega) (fun h2 => ?_) (fun h2 => by exfalso; omega)
    refine j_iconst (v := nI 0) dX10_isItem_21 rfl rfl ?_
    refine j_istore_n (L' := [.ref 33, .int (nI 0), jU, jU]) dX10_isItem_22 rfl rfl rfl (by decide) rfl ?_
    refine j_aload_n dX10_isItem_23 rfl rfl rfl ?_
    refine j_getJv (v := wdL tx (tkE tx tl f - f) f) dX10_isItem_24 rfl fX10_82 rfl (by decide) rfl (hT.2.2.1 hk1) ?_
    refine j_bipush (v := nI 22) dX10_isItem_27 rfl rfl ?_
    refine j_iconst (v := nI 1) dX10_isItem_29 rfl rfl ?_
    refine j_bipush (v := nI 12) dX10_isItem_30 rfl rfl ?_
    refine j_bipush (v := nI 12) dX10_isItem_32 rfl rfl ?_
    refine j_iconst (v := nI 5) dX10_isItem_34 rfl rfl ?_
    refine j_bipush (v := nI 25) dX10_isItem_35 rfl rfl ?_
    refine j_callSw (As := [.int (nI 22), .int (nI 1), .int (nI 12), .int (nI 12), .int (nI 5), .int (nI 25)]) dX10_isItem_37 rfl cX10_104 rfl (Nat.le_of_ble_eq_true rfl) rfl rfl (c_mword0 ?_)
    show Rj _ _ _ _ _ _ 40 [.ref 33, .int (nI 0), jU, jU] [.long (lN 739651769), .long (wdL tx (tkE tx tl f - f) f)] n I J (Pg i0 i1)
    refine j_lcmp dX10_isItem_40 rfl ?_
    refine j_ifne (tgt := 61) dX10_isItem_41 rfl rfl (fun h3 => ?_) (fun h3 => ?_)
    · have hw0 : ¬ isW tx tl f 0 := fun z => absurd ((lg_cmp_eq _ _).mpr ((wd_0 hk1 hT.2.2.2).mpr z)) (by assumption)
      refine j_iload_n dX10_isItem_61 rfl rfl rfl ?_
      refine j_ifeqN (tgt := 67) dX10_isItem_62 rfl rfl (by decide) (fun h4 => ?_) (fun h4 => by exfalso; omega)
      refine j_aload_n dX10_isItem_67 rfl rfl rfl ?_
      refine j_getJv (v := wdL tx (tkE tx tl f - f) f) dX10_isItem_68 rfl fX10_82 rfl (by decide) rfl (hT.2.2.1 hk1) ?_
      refine j_iconst (v := nI 4) dX10_isItem_71 rfl rfl ?_
      refine j_iconst (v := nI 1) dX10_isItem_72 rfl rfl ?_
      refine j_bipush (v := nI 13) dX10_isItem_73 rfl rfl ?_
      refine j_bipush (v := nI 16) dX10_isItem_75 rfl rfl ?_
      refine j_iconst (v := nI 0) dX10_isItem_77 rfl rfl ?_
      refine j_iconst (v := nI 0) dX10_isItem_78 rfl rfl ?_
      refine j_callSw (As := [.int (nI 4), .int (nI 1), .int (nI 13), .int (nI 16), .int (nI 0), .int (nI 0)]) dX10_isItem_79 rfl cX10_104 rfl (Nat.le_of_ble_eq_true rfl) rfl rfl (c_mword1 ?_)
      show Rj _ _ _ _ _ _ 82 [.ref 33, .int (nI 0), jU, jU] [.long (lN 132528), .long (wdL tx (tkE tx tl f - f) f)] n I J (Pg i0 i1)
      refine j_lcmp dX10_isItem_82 rfl ?_
      refine j_ifne (tgt := 90) dX10_isItem_83 rfl rfl (fun h5 => ?_) (fun h5 => ?_)
      · have hw1 : ¬ isW tx tl f 1 := fun z => absurd ((lg_cmp_eq _ _).mpr ((wd_1 hk1 hT.2.2.2).mpr z)) (by assumption)
        refine j_iconst (v := nI 0) dX10_isItem_90 rfl rfl ?_
        refine j_istore_n (L' := [.ref 33, .int (nI 0), .int (nI 0), jU]) dX10_isItem_91 rfl rfl rfl (by decide) rfl ?_
        refine j_iload_n dX10_isItem_92 rfl rfl rfl ?_
        refine j_ifneN (tgt := 115) dX10_isItem_93 rfl rfl (by decide) (fun h6 => by exfalso; omega) (fun h6 => ?_)
        refine j_aload_n dX10_isItem_96 rfl rfl rfl ?_
        refine j_getJv (v := wdL tx (tkE tx tl f - f) f) dX10_isItem_97 rfl fX10_82 rfl (by decide) rfl (hT.2.2.1 hk1) ?_
        refine j_iconst (v := nI 4) dX10_isItem_100 rfl rfl ?_
        refine j_bipush (v := nI 18) dX10_isItem_101 rfl rfl ?_
        refine j_bipush (v := nI 25) dX10_isItem_103 rfl rfl ?_
        refine j_iconst (v := nI 0) dX10_isItem_105 rfl rfl ?_
        refine j_iconst (v := nI 0) dX10_isItem_106 rfl rfl ?_
        refine j_iconst (v := nI 0) dX10_isItem_107 rfl rfl ?_
        refine j_callSw (As := [.int (nI 4), .int (nI 18), .int (nI 25), .int (nI 0), .int (nI 0), .int (nI 0)]) dX10_isItem_108 rfl cX10_104 rfl (Nat.le_of_ble_eq_true rfl) rfl rfl (c_mword2 ?_)
        show Rj _ _ _ _ _ _ 111 [.ref 33, .int (nI 0), .int (nI 0), jU] [.long (lN 4697), .long (wdL tx (tkE tx tl f - f) f)] n I J (Pg i0 i1)
        refine j_lcmp dX10_isItem_111 rfl ?_
        refine j_ifne (tgt := 158) dX10_isItem_112 rfl rfl (fun h7 => ?_) (fun h7 => ?_)
        · have hw2 : ¬ isW tx tl f 2 := fun z => absurd ((lg_cmp_eq _ _).mpr ((wd_2 hk1 hT.2.2.2).mpr z)) (by assumption)
          refine j_aload_n dX10_isItem_158 rfl rfl rfl ?_
          refine j_getJv (v := wdL tx (tkE tx tl f - f) f) dX10_isItem_159 rfl fX10_82 rfl (by decide) rfl (hT.2.2.1 hk1) ?_
          refine j_bipush (v := nI 16) dX10_isItem_162 rfl rfl ?_
          refine j_iconst (v := nI 1) dX10_isItem_164 rfl rfl ?_
          refine j_bipush (v := nI 9) dX10_isItem_165 rfl rfl ?_
          refine j_bipush (v := nI 18) dX10_isItem_167 rfl rfl ?_
          refine j_iconst (v := nI 0) dX10_isItem_169 rfl rfl ?_
          refine j_iconst (v := nI 0) dX10_isItem_170 rfl rfl ?_
          refine j_callSw (As := [.int (nI 16), .int (nI 1), .int (nI 9), .int (nI 18), .int (nI 0), .int (nI 0)]) dX10_isItem_171 rfl cX10_104 rfl (Nat.le_of_ble_eq_true rfl) rfl rfl (c_mword3 ?_)
          show Rj _ _ _ _ _ _ 174 [.ref 33, .int (nI 0), .int (nI 0), jU] [.long (lN 525618), .long (wdL tx (tkE tx tl f - f) f)] n I J (Pg i0 i1)
          refine j_lcmp dX10_isItem_174 rfl ?_
          refine j_ifne (tgt := 245) dX10_isItem_175 rfl rfl (fun h8 => ?_) (fun h8 => ?_)
          · have hw3 : ¬ isW tx tl f 3 := fun z => absurd ((lg_cmp_eq _ _).mpr ((wd_3 hk1 hT.2.2.2).mpr z)) (by assumption)
            refine j_aload_n dX10_isItem_245 rfl rfl rfl ?_
            refine j_getJv (v := wdL tx (tkE tx tl f - f) f) dX10_isItem_246 rfl fX10_82 rfl (by decide) rfl (hT.2.2.1 hk1) ?_
            refine j_bipush (v := nI 11) dX10_isItem_249 rfl rfl ?_
            refine j_bipush (v := nI 9) dX10_isItem_251 rfl rfl ?_
            refine j_bipush (v := nI 14) dX10_isItem_253 rfl rfl ?_
            refine j_iconst (v := nI 0) dX10_isItem_255 rfl rfl ?_
            refine j_iconst (v := nI 0) dX10_isItem_256 rfl rfl ?_
            refine j_iconst (v := nI 0) dX10_isItem_257 rfl rfl ?_
            refine j_callSw (As := [.int (nI 11), .int (nI 9), .int (nI 14), .int (nI 0), .int (nI 0), .int (nI 0)]) dX10_isItem_258 rfl cX10_104 rfl (Nat.le_of_ble_eq_true rfl) rfl rfl (c_mword4 ?_)
            show Rj _ _ _ _ _ _ 261 [.ref 33, .int (nI 0), .int (nI 0), jU] [.long (lN 11566), .long (wdL tx (tkE tx tl f - f) f)] n I J (Pg i0 i1)
            refine j_lcmp dX10_isItem_261 rfl ?_
            refine j_ifne (tgt := 276) dX10_isItem_262 rfl rfl (fun h9 => ?_) (fun h9 => ?_)
            · refine j_iconst (v := nI 0) dX10_isItem_276 rfl rfl ?_
              refine j_iret dX10_isItem_277 rfl rfl ?_
              refine hQ0 f w ?_ I J hT hV Fit.rf
              by_cases hw4 : isW tx tl f 4
              · first
                  | (rw [← hI]; unfold itm; rw [if_pos hk1, if_neg hw1, if_neg hw2, if_neg hw3, if_pos hw4]; unfold itmK; rw [if_pos (by omega)])
                  | exact absurd ((lg_cmp_eq _ _).mpr ((wd_4 hk1 hT.2.2.2).mpr hw4)) (by assumption)
              · rw [← hI]; unfold itm; rw [if_pos hk1, if_neg hw1, if_neg hw2, if_neg hw3, if_neg hw4]
            · have hw4 := (wd_4 hk1 hT.2.2.2).mp ((lg_cmp_eq _ _).mp (by assumption))
              refine j_aload_n dX10_isItem_265 rfl rfl rfl ?_
              refine j_getP (b := 35) dX10_isItem_266 rfl fX10_13 rfl (by decide) rfl rfl ?_
              refine j_iconst (v := nI 1) dX10_isItem_269 rfl rfl ?_
              refine j_iald (j := 1) (v := nI (w 0 4)) dX10_isItem_270 rfl rfl (by decide) rfl (by decide) (by decide) hV.1.2.1 ?_
              refine j_bipush (v := nI 8) dX10_isItem_271 rfl rfl ?_
              refine j_icmpneN (tgt := 278) dX10_isItem_273 rfl rfl (by omega) (by decide) (fun h10 => ?_) (fun h10 => ?_)
              · refine j_aload_n dX10_isItem_278 rfl rfl rfl ?_
                refine j_callVw (As := []) dX10_isItem_279 rfl cX10_94 (by decide) rfl rfl (by decide) rfl (by decide) rfl rfl (c_mtok (b := tkE tx tl f) hR hT.1.1 (tkE_le hT.2.2.2).2.1 (fun I1 J1 hT1 hF1 => ?_))
                have hT1 : TM I1 J1 tx tl (nx tx tl f) := hT1
                have hV1 : VM 35 0 I1 w := hV.congr (hF1.1 35 (by omega)).1
                show Rj _ _ _ _ _ _ 282 [.ref 33, .int (nI 0), .int (nI 0), jU] [] n I1 J1 (Pg i0 i1)
                refine j_aload_n dX10_isItem_282 rfl rfl rfl ?_
                refine j_iconst (v := nI 1) dX10_isItem_283 rfl rfl ?_
                refine j_bipush (v := nI 20) dX10_isItem_284 rfl rfl ?_
                refine j_callVw (As := [.int (nI 1), .int (nI 20)]) dX10_isItem_286 rfl cX10_97 (by decide) rfl rfl (by decide) rfl (by decide) rfl rfl (c_misNum hT1 (by omega) (by omega) (fun hn1 => ?_) (fun hn1 => ?_))
                · show Rj _ _ _ _ _ _ 289 [.ref 33, .int (nI 0), .int (nI 0), jU] [.int (nI 1)] n I1 J1 (Pg i0 i1)
                  refine j_ifneN (tgt := 294) dX10_isItem_289 rfl rfl (by decide) (fun h11 => ?_) (fun h11 => by exfalso; omega)
                  have hv1 := hn1.2.2
                  refine j_aload_n dX10_isItem_294 rfl rfl rfl ?_
                  refine j_getP (b := 35) dX10_isItem_295 rfl fX10_13 rfl (by decide) rfl rfl ?_
                  refine j_aload_n dX10_isItem_298 rfl rfl rfl ?_
                  refine j_getIv (v := nI (tkN tx tl (nx tx tl f))) dX10_isItem_299 rfl fX10_91 rfl (by decide) rfl (hT1.2.1 hn1.1) ?_
                  refine j_callSw (As := [.ref 35, .int (nI (tkN tx tl (nx tx tl f)))]) dX10_isItem_302 rfl cX10_62 rfl (by decide) rfl rfl (c_maddK35 hV1 hb6 (by omega) (fun I3 hV3 ho3 => ?_))
                  have hT3 : TM I3 J1 tx tl (nx tx tl f) := hT1.congr (ho3 33 (by omega)) rfl
                  have hR3 : MR I3 tl tx := (hR.it (hF1.it.trans (Fit.row ho3)))
                  show Rj _ _ _ _ _ _ 305 [.ref 33, .int (nI 0), .int (nI 0), jU] [.int (nI (w 0 4))] n I3 J1 (Pg i0 i1)
                  refine j_pop dX10_isItem_305 rfl rfl ?_
                  refine j_aload_n dX10_isItem_306 rfl rfl rfl ?_
                  refine j_callVw (As := []) dX10_isItem_307 rfl cX10_108 (by decide) rfl rfl (by decide) rfl (by decide) rfl rfl (c_misEnd hR3 hT3 (fun he3 I4 J4 hT4 hF4 => ?_) (fun he3 I4 J4 hT4 hF4 => ?_))
                  · show Rj _ _ _ _ _ _ 310 [.ref 33, .int (nI 0), .int (nI 0), jU] [.int (nI 1)] n I4 J4 (Pg i0 i1)
                    refine j_iret dX10_isItem_310 rfl rfl ?_
                    refine hQ1 (nx tx tl (nx tx tl f)) _ ?_ _ _ hT4 (hV3.congr (hF4.1 35 (by omega)).1) ((hF1.it.trans (Fit.row ho3)).trans hF4.it)
                    rw [← hI]; unfold itm; rw [if_pos hk1, if_neg hw1, if_neg hw2, if_neg hw3, if_pos hw4]; unfold itmK; rw [if_neg (by omega), if_neg (by rw [(show nmB tx tl (nx tx tl f) 1 20 = true from decide_eq_true hn1)]; decide), decide_eq_true he3]
                  · show Rj _ _ _ _ _ _ 310 [.ref 33, .int (nI 0), .int (nI 0), jU] [.int (nI 0)] n I4 J4 (Pg i0 i1)
                    refine j_iret dX10_isItem_310 rfl rfl ?_
                    refine hQ0 (nx tx tl (nx tx tl f)) _ ?_ _ _ hT4 (hV3.congr (hF4.1 35 (by omega)).1) ((hF1.it.trans (Fit.row ho3)).trans hF4.it)
                    rw [← hI]; unfold itm; rw [if_pos hk1, if_neg hw1, if_neg hw2, if_neg hw3, if_pos hw4]; unfold itmK; rw [if_neg (by omega), if_neg (by rw [(show nmB tx tl (nx tx tl f) 1 20 = true from decide_eq_true hn1)]; decide), decide_eq_false he3]
                · show Rj _ _ _ _ _ _ 289 [.ref 33, .int (nI 0), .int (nI 0), jU] [.int (nI 0)] n I1 J1 (Pg i0 i1)
                  refine j_ifneN (tgt := 294) dX10_isItem_289 rfl rfl (by decide) (fun h12 => by exfalso; omega) (fun h12 => ?_)
                  refine j_iconst (v := nI 0) dX10_isItem_292 rfl rfl ?_
                  refine j_iret dX10_isItem_293 rfl rfl ?_
                  refine hQ0 (nx tx tl f) w ?_ _ _ hT1 hV1 hF1.it
                  rw [← hI]; unfold itm; rw [if_pos hk1, if_neg hw1, if_neg hw2, if_neg hw3, if_pos hw4]; unfold itmK; rw [if_neg (by omega), if_pos (show nmB tx tl (nx tx tl f) 1 20 = false from decide_eq_false hn1)]
              · refine j_iconst (v := nI 0) dX10_isItem_276 rfl rfl ?_
                refine j_iret dX10_isItem_277 rfl rfl ?_
                refine hQ0 f w ?_ I J hT hV Fit.rf
                by_cases hw4 : isW tx tl f 4
                · first
                    | (rw [← hI]; unfold itm; rw [if_pos hk1, if_neg hw1, if_neg hw2, if_neg hw3, if_pos hw4]; unfold itmK; rw [if_pos (by omega)])
                    | exact absurd ((lg_cmp_eq _ _).mpr ((wd_4 hk1 hT.2.2.2).mpr hw4)) (by assumption)
                · rw [← hI]; unfold itm; rw [if_pos hk1, if_neg hw1, if_neg hw2, if_neg hw3, if_neg hw4]
          · have hw3 := (wd_3 hk1 hT.2.2.2).mp ((lg_cmp_eq _ _).mp (by assumption))
            refine j_aload_n dX10_isItem_178 rfl rfl rfl ?_
            refine j_getP (b := 35) dX10_isItem_179 rfl fX10_13 rfl (by decide) rfl rfl ?_
            refine j_iconst (v := nI 0) dX10_isItem_182 rfl rfl ?_
            refine j_iald (j := 0) (v := nI (w 0 3)) dX10_isItem_183 rfl rfl (by decide) rfl (by decide) (by decide) hV.1.1 ?_
            refine j_bipush (v := nI 6) dX10_isItem_184 rfl rfl ?_
            refine j_icmpneN (tgt := 191) dX10_isItem_186 rfl rfl (by omega) (by decide) (fun h13 => ?_) (fun h13 => ?_)
            · refine j_aload_n dX10_isItem_191 rfl rfl rfl ?_
              refine j_callVw (As := []) dX10_isItem_192 rfl cX10_94 (by decide) rfl rfl (by decide) rfl (by decide) rfl rfl (c_mtok (b := tkE tx tl f) hR hT.1.1 (tkE_le hT.2.2.2).2.1 (fun I1 J1 hT1 hF1 => ?_))
              have hT1 : TM I1 J1 tx tl (nx tx tl f) := hT1
              have hV1 : VM 35 0 I1 w := hV.congr (hF1.1 35 (by omega)).1
              show Rj _ _ _ _ _ _ 195 [.ref 33, .int (nI 0), .int (nI 0), jU] [] n I1 J1 (Pg i0 i1)
              refine j_aload_n dX10_isItem_195 rfl rfl rfl ?_
              refine j_iconst (v := nI 0) dX10_isItem_196 rfl rfl ?_
              refine j_iconst (v := nI 5) dX10_isItem_197 rfl rfl ?_
              refine j_callVw (As := [.int (nI 0), .int (nI 5)]) dX10_isItem_198 rfl cX10_97 (by decide) rfl rfl (by decide) rfl (by decide) rfl rfl (c_misNum hT1 (by omega) (by omega) (fun hn1 => ?_) (fun hn1 => ?_))
              · show Rj _ _ _ _ _ _ 201 [.ref 33, .int (nI 0), .int (nI 0), jU] [.int (nI 1)] n I1 J1 (Pg i0 i1)
                refine j_ifneN (tgt := 206) dX10_isItem_201 rfl rfl (by decide) (fun h14 => ?_) (fun h14 => by exfalso; omega)
                have hv1 := hn1.2.2
                refine j_aload_n dX10_isItem_206 rfl rfl rfl ?_
                refine j_getIv (v := nI (tkN tx tl (nx tx tl f))) dX10_isItem_207 rfl fX10_91 rfl (by decide) rfl (hT1.2.1 hn1.1) ?_
                refine j_istore_n (L' := [.ref 33, .int (nI 0), .int (nI 0), .int (nI (tkN tx tl (nx tx tl f)))]) dX10_isItem_210 rfl rfl rfl (by decide) rfl ?_
                refine j_aload_n dX10_isItem_211 rfl rfl rfl ?_
                refine j_callVw (As := []) dX10_isItem_212 rfl cX10_94 (by decide) rfl rfl (by decide) rfl (by decide) rfl rfl (c_mtok (b := tkE tx tl (nx tx tl f)) (hR.fr hF1) hT1.1.1 (tkE_le hT1.2.2.2).2.1 (fun I2 J2 hT2 hF2 => ?_))
                have hT2 : TM I2 J2 tx tl (nx tx tl (nx tx tl f)) := hT2
                have hV2 : VM 35 0 I2 w := hV.congr ((hF1.trans hF2).1 35 (by omega)).1
                show Rj _ _ _ _ _ _ 215 [.ref 33, .int (nI 0), .int (nI 0), .int (nI (tkN tx tl (nx tx tl f)))] [] n I2 J2 (Pg i0 i1)
                refine j_aload_n dX10_isItem_215 rfl rfl rfl ?_
                refine j_iconst (v := nI 0) dX10_isItem_216 rfl rfl ?_
                refine j_bipush (v := nI 60) dX10_isItem_217 rfl rfl ?_
                refine j_callVw (As := [.int (nI 0), .int (nI 60)]) dX10_isItem_219 rfl cX10_97 (by decide) rfl rfl (by decide) rfl (by decide) rfl rfl (c_misNum hT2 (by omega) (by omega) (fun hn2 => ?_) (fun hn2 => ?_))
                · show Rj _ _ _ _ _ _ 222 [.ref 33, .int (nI 0), .int (nI 0), .int (nI (tkN tx tl (nx tx tl f)))] [.int (nI 1)] n I2 J2 (Pg i0 i1)
                  refine j_ifneN (tgt := 227) dX10_isItem_222 rfl rfl (by decide) (fun h15 => ?_) (fun h15 => by exfalso; omega)
                  have hv2 := hn2.2.2
                  refine j_aload_n dX10_isItem_227 rfl rfl rfl ?_
                  refine j_getP (b := 35) dX10_isItem_228 rfl fX10_13 rfl (by decide) rfl rfl ?_
                  refine j_iload_n dX10_isItem_231 rfl rfl rfl ?_
                  refine j_aload_n dX10_isItem_232 rfl rfl rfl ?_
                  refine j_getIv (v := nI (tkN tx tl (nx tx tl (nx tx tl f)))) dX10_isItem_233 rfl fX10_91 rfl (by decide) rfl (hT2.2.1 hn2.1) ?_
                  refine j_callSw (As := [.ref 35, .int (nI (tkN tx tl (nx tx tl f))), .int (nI (tkN tx tl (nx tx tl (nx tx tl f))))]) dX10_isItem_236 rfl cX10_58 rfl (by decide) rfl rfl (c_maddP35 hV2 (by omega) (fun I3 hV3 ho3 => ?_))
                  have hT3 : TM I3 J2 tx tl (nx tx tl (nx tx tl f)) := hT2.congr (ho3 33 (by omega)) rfl
                  have hR3 : MR I3 tl tx := (hR.it ((hF1.trans hF2).it.trans (Fit.row ho3)))
                  show Rj _ _ _ _ _ _ 239 [.ref 33, .int (nI 0), .int (nI 0), .int (nI (tkN tx tl (nx tx tl f)))] [.int (nI (w 0 3))] n I3 J2 (Pg i0 i1)
                  refine j_pop dX10_isItem_239 rfl rfl ?_
                  refine j_aload_n dX10_isItem_240 rfl rfl rfl ?_
                  refine j_callVw (As := []) dX10_isItem_241 rfl cX10_108 (by decide) rfl rfl (by decide) rfl (by decide) rfl rfl (c_misEnd hR3 hT3 (fun he3 I4 J4 hT4 hF4 => ?_) (fun he3 I4 J4 hT4 hF4 => ?_))
                  · show Rj _ _ _ _ _ _ 244 [.ref 33, .int (nI 0), .int (nI 0), .int (nI (tkN tx tl (nx tx tl f)))] [.int (nI 1)] n I4 J4 (Pg i0 i1)
                    refine j_iret dX10_isItem_244 rfl rfl ?_
                    refine hQ1 (nx tx tl (nx tx tl (nx tx tl f))) _ ?_ _ _ hT4 (hV3.congr (hF4.1 35 (by omega)).1) (((hF1.trans hF2).it.trans (Fit.row ho3)).trans hF4.it)
                    rw [← hI]; unfold itm; rw [if_pos hk1, if_neg hw1, if_neg hw2, if_pos hw3]; unfold itmP; rw [if_neg (by omega), if_neg (by rw [(show nmB tx tl (nx tx tl f) 0 5 = true from decide_eq_true hn1)]; decide), if_neg (by rw [(show nmB tx tl (nx tx tl (nx tx tl f)) 0 60 = true from decide_eq_true hn2)]; decide), decide_eq_true he3]
                  · show Rj _ _ _ _ _ _ 244 [.ref 33, .int (nI 0), .int (nI 0), .int (nI (tkN tx tl (nx tx tl f)))] [.int (nI 0)] n I4 J4 (Pg i0 i1)
                    refine j_iret dX10_isItem_244 rfl rfl ?_
                    refine hQ0 (nx tx tl (nx tx tl (nx tx tl f))) _ ?_ _ _ hT4 (hV3.congr (hF4.1 35 (by omega)).1) (((hF1.trans hF2).it.trans (Fit.row ho3)).trans hF4.it)
                    rw [← hI]; unfold itm; rw [if_pos hk1, if_neg hw1, if_neg hw2, if_pos hw3]; unfold itmP; rw [if_neg (by omega), if_neg (by rw [(show nmB tx tl (nx tx tl f) 0 5 = true from decide_eq_true hn1)]; decide), if_neg (by rw [(show nmB tx tl (nx tx tl (nx tx tl f)) 0 60 = true from decide_eq_true hn2)]; decide), decide_eq_false he3]
                · show Rj _ _ _ _ _ _ 222 [.ref 33, .int (nI 0), .int (nI 0), .int (nI (tkN tx tl (nx tx tl f)))] [.int (nI 0)] n I2 J2 (Pg i0 i1)
                  refine j_ifneN (tgt := 227) dX10_isItem_222 rfl rfl (by decide) (fun h16 => by exfalso; omega) (fun h16 => ?_)
                  refine j_iconst (v := nI 0) dX10_isItem_225 rfl rfl ?_
                  refine j_iret dX10_isItem_226 rfl rfl ?_
                  refine hQ0 (nx tx tl (nx tx tl f)) w ?_ _ _ hT2 hV2 (hF1.trans hF2).it
                  rw [← hI]; unfold itm; rw [if_pos hk1, if_neg hw1, if_neg hw2, if_pos hw3]; unfold itmP; rw [if_neg (by omega), if_neg (by rw [(show nmB tx tl (nx tx tl f) 0 5 = true from decide_eq_true hn1)]; decide), if_pos (show nmB tx tl (nx tx tl (nx tx tl f)) 0 60 = false from decide_eq_false hn2)]
              · show Rj _ _ _ _ _ _ 201 [.ref 33, .int (nI 0), .int (nI 0), jU] [.int (nI 0)] n I1 J1 (Pg i0 i1)
                refine j_ifneN (tgt := 206) dX10_isItem_201 rfl rfl (by decide) (fun h17 => by exfalso; omega) (fun h17 => ?_)
                refine j_iconst (v := nI 0) dX10_isItem_204 rfl rfl ?_
                refine j_iret dX10_isItem_205 rfl rfl ?_
                refine hQ0 (nx tx tl f) w ?_ _ _ hT1 hV1 hF1.it
                rw [← hI]; unfold itm; rw [if_pos hk1, if_neg hw1, if_neg hw2, if_pos hw3]; unfold itmP; rw [if_neg (by omega), if_pos (show nmB tx tl (nx tx tl f) 0 5 = false from decide_eq_false hn1)]
            · refine j_iconst (v := nI 0) dX10_isItem_189 rfl rfl ?_
              refine j_iret dX10_isItem_190 rfl rfl ?_
              refine hQ0 f w ?_ I J hT hV Fit.rf
              rw [← hI]; unfold itm; rw [if_pos hk1, if_neg hw1, if_neg hw2, if_pos hw3]; unfold itmP; rw [if_pos (by omega)]
        · have hw2 := (wd_2 hk1 hT.2.2.2).mp ((lg_cmp_eq _ _).mp (by assumption))
          refine j_aload_n dX10_isItem_115 rfl rfl rfl ?_
          refine j_callVw (As := []) dX10_isItem_116 rfl cX10_112 (by decide) rfl rfl (by decide) rfl (by decide) rfl rfl (c_myears hR hT rfl (fun ys g hY I1 J1 hT1 hF1 => ?_) (fun g hY I1 J1 hT1 hF1 => ?_))
          · have hV1 : VM 35 0 I1 w := hV.congr (hF1.1 35 (by omega)).1
            have hys := yrs_lt hY
            show Rj _ _ _ _ _ _ 119 [.ref 33, .int (nI 0), .int (nI 0), jU] [.int (nI ys)] n I1 J1 (Pg i0 i1)
            refine j_istore_n (L' := [.ref 33, .int (nI 0), .int (nI 0), .int (nI ys)]) dX10_isItem_119 rfl rfl rfl (by decide) rfl ?_
            refine j_iload_n dX10_isItem_120 rfl rfl rfl ?_
            refine j_ifgeN (tgt := 126) dX10_isItem_121 rfl rfl (by omega) (fun h18 => ?_) (fun h18 => by exfalso; omega)
            refine j_aload_n dX10_isItem_126 rfl rfl rfl ?_
            refine j_getP (b := 35) dX10_isItem_127 rfl fX10_13 rfl (by decide) rfl rfl ?_
            refine j_iload_n dX10_isItem_130 rfl rfl rfl ?_
            refine j_ifeqN (tgt := 138) dX10_isItem_131 rfl rfl (by decide) (fun h19 => ?_) (fun h19 => by exfalso; omega)
            refine j_iconst (v := nI 4) dX10_isItem_138 rfl rfl ?_
            refine j_aload_n dX10_isItem_139 rfl rfl rfl ?_
            refine j_getP (b := 35) dX10_isItem_140 rfl fX10_13 rfl (by decide) rfl rfl ?_
            refine j_iload_n dX10_isItem_143 rfl rfl rfl ?_
            refine j_ifeqN (tgt := 151) dX10_isItem_144 rfl rfl (by decide) (fun h20 => ?_) (fun h20 => by exfalso; omega)
            refine j_iconst (v := nI 4) dX10_isItem_151 rfl rfl ?_
            refine j_iald (j := 4) (v := nI (w 0 2)) dX10_isItem_152 rfl rfl (by decide) rfl (by decide) (by decide) hV1.1.2.2.2.2.1 ?_
            refine j_iload_n dX10_isItem_153 rfl rfl rfl ?_
            refine j_iorN (c := (w 0 2) ||| ys) dX10_isItem_154 rfl rfl ?_
            refine j_iast (j := 4) dX10_isItem_155 rfl rfl (by decide) rfl (by decide) (by decide) ?_
            refine j_iconst (v := nI 1) dX10_isItem_156 rfl rfl ?_
            refine j_iret dX10_isItem_157 rfl rfl ?_
            refine hQ1 g _ ?_ _ _ (hT1.congr (u2_ne _ _ _ (by omega)) rfl) (VM35_set2 hV1) (hF1.it.trans (Fit.row (fun a ha => u2_ne _ _ _ ha)))
            rw [← hI]; unfold itm; rw [if_pos hk1, if_neg hw1, if_pos hw2]; unfold itmD; rw [hY]
          · have hV1 : VM 35 0 I1 w := hV.congr (hF1.1 35 (by omega)).1
            show Rj _ _ _ _ _ _ 119 [.ref 33, .int (nI 0), .int (nI 0), jU] [.int (-1)] n I1 J1 (Pg i0 i1)
            refine j_istore_n (L' := [.ref 33, .int (nI 0), .int (nI 0), .int (-1)]) dX10_isItem_119 rfl rfl rfl (by decide) rfl ?_
            refine j_iload_n dX10_isItem_120 rfl rfl rfl ?_
            refine j_ifge (tgt := 126) dX10_isItem_121 rfl rfl (fun h21 => by exfalso; exact absurd h21 (by decide)) (fun h21 => ?_)
            refine j_iconst (v := nI 0) dX10_isItem_124 rfl rfl ?_
            refine j_iret dX10_isItem_125 rfl rfl ?_
            refine hQ0 g w ?_ _ _ hT1 hV1 hF1.it
            rw [← hI]; unfold itm; rw [if_pos hk1, if_neg hw1, if_pos hw2]; unfold itmD; rw [hY]
      · have hw1 := (wd_1 hk1 hT.2.2.2).mp ((lg_cmp_eq _ _).mp (by assumption))
        refine j_iconst (v := nI 1) dX10_isItem_86 rfl rfl ?_
        refine j_goto (tgt := 91) dX10_isItem_87 rfl ?_
        refine j_istore_n (L' := [.ref 33, .int (nI 0), .int (nI 1), jU]) dX10_isItem_91 rfl rfl rfl (by decide) rfl ?_
        refine j_iload_n dX10_isItem_92 rfl rfl rfl ?_
        refine j_ifneN (tgt := 115) dX10_isItem_93 rfl rfl (by decide) (fun h22 => ?_) (fun h22 => by exfalso; omega)
        refine j_aload_n dX10_isItem_115 rfl rfl rfl ?_
        refine j_callVw (As := []) dX10_isItem_116 rfl cX10_112 (by decide) rfl rfl (by decide) rfl (by decide) rfl rfl (c_myears hR hT rfl (fun ys g hY I1 J1 hT1 hF1 => ?_) (fun g hY I1 J1 hT1 hF1 => ?_))
        · have hV1 : VM 35 0 I1 w := hV.congr (hF1.1 35 (by omega)).1
          have hys := yrs_lt hY
          show Rj _ _ _ _ _ _ 119 [.ref 33, .int (nI 0), .int (nI 1), jU] [.int (nI ys)] n I1 J1 (Pg i0 i1)
          refine j_istore_n (L' := [.ref 33, .int (nI 0), .int (nI 1), .int (nI ys)]) dX10_isItem_119 rfl rfl rfl (by decide) rfl ?_
          refine j_iload_n dX10_isItem_120 rfl rfl rfl ?_
          refine j_ifgeN (tgt := 126) dX10_isItem_121 rfl rfl (by omega) (fun h23 => ?_) (fun h23 => by exfalso; omega)
          refine j_aload_n dX10_isItem_126 rfl rfl rfl ?_
          refine j_getP (b := 35) dX10_isItem_127 rfl fX10_13 rfl (by decide) rfl rfl ?_
          refine j_iload_n dX10_isItem_130 rfl rfl rfl ?_
          refine j_ifeqN (tgt := 138) dX10_isItem_131 rfl rfl (by decide) (fun h24 => by exfalso; omega) (fun h24 => ?_)
          refine j_iconst (v := nI 3) dX10_isItem_134 rfl rfl ?_
          refine j_goto (tgt := 139) dX10_isItem_135 rfl ?_
          refine j_aload_n dX10_isItem_139 rfl rfl rfl ?_
          refine j_getP (b := 35) dX10_isItem_140 rfl fX10_13 rfl (by decide) rfl rfl ?_
          refine j_iload_n dX10_isItem_143 rfl rfl rfl ?_
          refine j_ifeqN (tgt := 151) dX10_isItem_144 rfl rfl (by decide) (fun h25 => by exfalso; omega) (fun h25 => ?_)
          refine j_iconst (v := nI 3) dX10_isItem_147 rfl rfl ?_
          refine j_goto (tgt := 152) dX10_isItem_148 rfl ?_
          refine j_iald (j := 3) (v := nI (w 0 1)) dX10_isItem_152 rfl rfl (by decide) rfl (by decide) (by decide) hV1.1.2.2.2.1 ?_
          refine j_iload_n dX10_isItem_153 rfl rfl rfl ?_
          refine j_iorN (c := (w 0 1) ||| ys) dX10_isItem_154 rfl rfl ?_
          refine j_iast (j := 3) dX10_isItem_155 rfl rfl (by decide) rfl (by decide) (by decide) ?_
          refine j_iconst (v := nI 1) dX10_isItem_156 rfl rfl ?_
          refine j_iret dX10_isItem_157 rfl rfl ?_
          refine hQ1 g _ ?_ _ _ (hT1.congr (u2_ne _ _ _ (by omega)) rfl) (VM35_set1 hV1) (hF1.it.trans (Fit.row (fun a ha => u2_ne _ _ _ ha)))
          rw [← hI]; unfold itm; rw [if_pos hk1, if_pos hw1]; unfold itmD; rw [hY]
        · have hV1 : VM 35 0 I1 w := hV.congr (hF1.1 35 (by omega)).1
          show Rj _ _ _ _ _ _ 119 [.ref 33, .int (nI 0), .int (nI 1), jU] [.int (-1)] n I1 J1 (Pg i0 i1)
          refine j_istore_n (L' := [.ref 33, .int (nI 0), .int (nI 1), .int (-1)]) dX10_isItem_119 rfl rfl rfl (by decide) rfl ?_
          refine j_iload_n dX10_isItem_120 rfl rfl rfl ?_
          refine j_ifge (tgt := 126) dX10_isItem_121 rfl rfl (fun h26 => by exfalso; exact absurd h26 (by decide)) (fun h26 => ?_)
          refine j_iconst (v := nI 0) dX10_isItem_124 rfl rfl ?_
          refine j_iret dX10_isItem_125 rfl rfl ?_
          refine hQ0 g w ?_ _ _ hT1 hV1 hF1.it
          rw [← hI]; unfold itm; rw [if_pos hk1, if_pos hw1]; unfold itmD; rw [hY]
    · have hw0 := (wd_0 hk1 hT.2.2.2).mp ((lg_cmp_eq _ _).mp (by assumption))
      refine j_iload_n dX10_isItem_44 rfl rfl rfl ?_
      refine j_ifeqN (tgt := 59) dX10_isItem_45 rfl rfl (by decide) (fun h27 => ?_) (fun h27 => by exfalso; omega)
      refine j_iconst (v := nI 0) dX10_isItem_59 rfl rfl ?_
      refine j_iret dX10_isItem_60 rfl rfl ?_
      refine hQ0 f w ?_ I J hT hV Fit.rf
      rw [← hI]; unfold itm; rw [if_pos hk1, if_neg (fun z => by have a0 : tkE tx tl f - f = 6 := hw0.1; have a1 : tkE tx tl f - f = 4 := z.1; omega), if_neg (fun z => by have a0 : tkE tx tl f - f = 6 := hw0.1; have a1 : tkE tx tl f - f = 3 := z.1; omega), if_neg (fun z => by have a0 : tkE tx tl f - f = 6 := hw0.1; have a1 : tkE tx tl f - f = 4 := z.1; omega), if_neg (fun z => by have a0 : tkE tx tl f - f = 6 := hw0.1; have a1 : tkE tx tl f - f = 3 := z.1; omega)]
  · refine j_iconst (v := nI 0) dX10_isItem_8 rfl rfl ?_
    refine j_iret dX10_isItem_9 rfl rfl ?_
    refine hQ0 f w ?_ I J hT hV Fit.rf
    rw [← hI]; unfold itm; rw [if_neg (by omega)]
