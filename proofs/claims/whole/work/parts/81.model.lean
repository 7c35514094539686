abbrev MR (I : HI) (tl : Nat) (tx : Nat → Nat) : Prop := I 33 4 = nI tl ∧ (∀ i, i < tl → I 38 i = nI (tx i)) ∧ tl ≤ 150 ∧ ∀ i, i < tl → tx i ≤ 127
def wv (tx : Nat → Nat) : Nat → Nat → Nat → Nat
  | 0, _, a => a
  | r + 1, i, a => wv tx r (i + 1) (a * 32 + tx i - 96)
theorem wv_s (tx : Nat → Nat) : ∀ r i a, wv tx (r + 1) i a = wv tx r i a * 32 + tx (i + r) - 96
  | 0, i, a => rfl
  | r + 1, i, a => by
    show wv tx (r + 1) (i + 1) _ = _
    rw [wv_s tx r (i + 1) _, show i + 1 + r = i + (r + 1) by omega]
    rfl
theorem numV_s (tx : Nat → Nat) : ∀ r i a, numV tx (r + 1) i a = 10 * numV tx r i a + tx (i + r) - 48
  | 0, i, a => rfl
  | r + 1, i, a => by
    show numV tx (r + 1) (i + 1) _ = _
    rw [numV_s tx r (i + 1) _, show i + 1 + r = i + (r + 1) by omega]
    rfl
def wdL (tx : Nat → Nat) (l f : Nat) : Int64 := if l ≤ 7 then lN (wv tx l f 0) else -1
def mkT (k : Nat) : Nat := if k = 0 then 4 else if k = 4 then 5 else k
def TM (I : HI) (J : HJ) (tx : Nat → Nat) (tl f : Nat) : Prop := (I 33 6 = nI (tkE tx tl f) ∧ I 33 7 = nI f ∧ I 33 8 = nI (mkT (tkK tx tl f))) ∧ (tkK tx tl f = 2 → I 33 10 = nI (tkN tx tl f)) ∧ (tkK tx tl f = 1 → J 33 9 = wdL tx (tkE tx tl f - f) f) ∧ f ≤ tl
/-- what the tokens leave as it was -/
def Ftk (I : HI) (J : HJ) (I' : HI) (J' : HJ) : Prop := (∀ a, a ≠ 33 → I' a = I a ∧ J' a = J a) ∧ I' 33 4 = I 33 4 ∧ I' 33 11 = I 33 11 ∧ J' 33 12 = J 33 12 ∧ J' 33 13 = J 33 13
theorem Ftk.rf {I : HI} {J : HJ} : Ftk I J I J := ⟨fun _ _ => ⟨rfl, rfl⟩, rfl, rfl, rfl, rfl⟩
theorem Ftk.trans {I I1 I2 : HI} {J J1 J2 : HJ} (h : Ftk I J I1 J1) (k : Ftk I1 J1 I2 J2) : Ftk I J I2 J2 := ⟨fun a ha => ⟨((k.1 a ha).1).trans (h.1 a ha).1, ((k.1 a ha).2).trans (h.1 a ha).2⟩, k.2.1.trans h.2.1, k.2.2.1.trans h.2.2.1, k.2.2.2.1.trans h.2.2.2.1, k.2.2.2.2.trans h.2.2.2.2⟩
theorem Ftk.put {I I1 : HI} {J J1 : HJ} {k : Nat} {x : Int32} (h : Ftk I J I1 J1) (h4 : k ≠ 4) (h11 : k ≠ 11) : Ftk I J (u2 I1 33 k x) J1 := h.trans ⟨fun a ha => ⟨u2_ne _ _ _ ha, rfl⟩, u2_ne2 _ _ _ (Ne.symm h4), u2_ne2 _ _ _ (Ne.symm h11), rfl, rfl⟩
theorem Ftk.putJ {I I1 : HI} {J J1 : HJ} {x : Int64} (h : Ftk I J I1 J1) : Ftk I J I1 (u2 J1 33 9 x) := h.trans ⟨fun a ha => ⟨rfl, u2_ne _ _ _ ha⟩, rfl, rfl, u2_ne2 _ _ _ (by omega), u2_ne2 _ _ _ (by omega)⟩
theorem MR.fr {I I' : HI} {J J' : HJ} {tl : Nat} {tx : Nat → Nat} (h : MR I tl tx) (k : Ftk I J I' J') : MR I' tl tx := ⟨k.2.1.trans h.1, by rw [(k.1 38 (by omega)).1]; exact h.2.1, h.2.2⟩
set_option maxHeartbeats 4000000 in
set_option maxRecDepth 100000 in
theorem c_mletter {X : jX} {d n : Nat} {I : HI} {J : HJ} {i0 i1 : Option Nat} {Q : jPost} {tl k : Nat} {tx : Nat → Nat} (hR : MR I tl tx) (hk : k ≤ 150) (hQ1 : k < tl → Q (some (.int (nI (tx k)))) n I J (Pg i0 i1)) (hQ0 : ¬ k < tl → Q (some (.int (-1))) n I J (Pg i0 i1)) : Cj X d 0 0 mX10_letterAt [.ref 33, .int (nI k)] n I J (Pg i0 i1) Q := by
  refine Cj.intro rfl (Nat.le_of_ble_eq_true rfl) (L := [.ref 33, .int (nI k)]) rfl ?_
  have h150 := hR.2.2.1
  refine j_iload_n dX10_letterAt_0 rfl rfl rfl ?_
  refine j_aload_n dX10_letterAt_1 rfl rfl rfl ?_
  refine j_getIv (v := nI tl) dX10_letterAt_2 rfl fX10_66 rfl (by decide) rfl hR.1 ?_
  refine j_icmpgeN (tgt := 17) dX10_letterAt_5 rfl rfl (by omega) (by omega) (fun h1 => ?_) (fun h1 => ?_)
  · refine j_iconst (v := (-1)) dX10_letterAt_17 rfl rfl ?_
    refine j_iret dX10_letterAt_18 rfl rfl ?_
    exact hQ0 (by omega)
  · refine j_aload_n dX10_letterAt_8 rfl rfl rfl ?_
    refine j_getP (b := 38) dX10_letterAt_9 rfl fX10_23 rfl (by decide) rfl rfl ?_
    refine j_iload_n dX10_letterAt_12 rfl rfl rfl ?_
    refine j_iald (j := k) (v := nI (tx k)) dX10_letterAt_13 rfl rfl (by decide) rfl (by omega) (by decide) (hR.2.1 _ (by omega)) ?_
    refine j_goto (tgt := 18) dX10_letterAt_14 rfl ?_
    refine j_iret dX10_letterAt_18 rfl rfl ?_
    exact hQ1 (by omega)
set_option maxHeartbeats 4000000 in
set_option maxRecDepth 100000 in
theorem c_mtok {X : jX} {d n : Nat} {I : HI} {J : HJ} {i0 i1 : Option Nat} {Q : jPost} {tl b : Nat} {tx : Nat → Nat} (hR : MR I tl tx) (hb6 : I 33 6 = nI b) (hbl : b ≤ tl) (hQ : ∀ I' J', TM I' J' tx tl (tkF tx tl b) → Ftk I J I' J' → Q none n I' J' (Pg i0 i1)) : Cj X (d + 1) 0 0 mX10_nextToken [.ref 33] n I J (Pg i0 i1) Q := by
  refine Cj.intro rfl (Nat.le_of_ble_eq_true rfl) (L := [.ref 33, jU]) rfl ?_
  have h150 := hR.2.2.1
  have lW : ∀ (r p f : Nat) (c : Value) (Ia : HI) (Ja : HJ), Ia 33 6 = nI p → Ftk I J Ia Ja → p ≤ tl → p + r = tl → f ≤ p → Ia 33 7 = nI f → Ja 33 9 = wdL tx (p - f) f → 97 ≤ tx f ∧ tx f ≤ 122 → f = tkF tx tl b ∧ f < tl → runE tx tl 97 122 r p = runE tx tl 97 122 (tl - f) f → Rj X (d + 1) 0 0 mX10_nextToken Q 71 [.ref 33, c] [] n Ia Ja (Pg i0 i1) := by
    intro r
    induction r with
    | zero =>
      intro p f c Ia Ja e6 hF hpl hrl hfp e7 e9 hcw hft hr
      have hRa : MR Ia tl tx := hR.fr hF
      have h150 := hR.2.2.1
      refine j_aload_n dX10_nextToken_71 rfl rfl rfl ?_
      refine j_aload_n dX10_nextToken_72 rfl rfl rfl ?_
      refine j_getIv (v := nI p) dX10_nextToken_73 rfl fX10_70 rfl (by decide) rfl e6 ?_
      refine j_callVw (As := [.int (nI p)]) dX10_nextToken_76 rfl cX10_73 (by decide) rfl rfl (by decide) rfl (by decide) rfl rfl (c_mletter hRa (by omega) (fun l1 => ?_) (fun l1 => ?_))
      · have h127 := hRa.2.2.2 p l1
        show Rj _ _ _ _ _ _ 79 [.ref 33, c] [.int (nI (tx p))] n Ia Ja (Pg i0 i1)
        refine j_bipush (v := nI 97) dX10_nextToken_79 rfl rfl ?_
        refine j_bipush (v := nI 122) dX10_nextToken_81 rfl rfl ?_
        refine j_callSw (As := [.int (nI (tx p)), .int (nI 97), .int (nI 122)]) dX10_nextToken_83 rfl cX10_50 rfl (by decide) rfl rfl (c_min (fun i2 => ?_) (fun i2 => ?_))
        · rw [inR_N (by omega) (by omega) (by omega)] at i2
          show Rj _ _ _ _ _ _ 86 [.ref 33, c] [.int (nI 1)] n Ia Ja (Pg i0 i1)
          refine j_ifeqN (tgt := 148) dX10_nextToken_86 rfl rfl (by decide) (fun h3 => by exfalso; omega) (fun h3 => ?_)
          refine j_aload_n dX10_nextToken_89 rfl rfl rfl ?_
          refine j_aload_n dX10_nextToken_90 rfl rfl rfl ?_
          refine j_getIv (v := nI p) dX10_nextToken_91 rfl fX10_70 rfl (by decide) rfl e6 ?_
          refine j_aload_n dX10_nextToken_94 rfl rfl rfl ?_
          refine j_getIv (v := nI f) dX10_nextToken_95 rfl fX10_76 rfl (by decide) rfl e7 ?_
          refine j_isubN (c := p - f) dX10_nextToken_98 rfl (by omega) rfl ?_
          refine j_bipush (v := nI 7) dX10_nextToken_99 rfl rfl ?_
          refine j_icmpgeN (tgt := 129) dX10_nextToken_101 rfl rfl (by omega) (by decide) (fun h4 => ?_) (fun h4 => ?_)
          · refine j_ldc2 (v := (-1)) dX10_nextToken_129 rfl kX10_89 ?_
            refine j_putJ dX10_nextToken_132 rfl fX10_82 rfl (by decide) rfl rfl ?_
            refine j_aload_n dX10_nextToken_135 rfl rfl rfl ?_
            refine j_dup dX10_nextToken_136 rfl rfl ?_
            refine j_getIv (v := nI p) dX10_nextToken_137 rfl fX10_70 rfl (by decide) rfl e6 ?_
            refine j_iconst (v := nI 1) dX10_nextToken_140 rfl rfl ?_
            refine j_iaddN (c := p + 1) dX10_nextToken_141 rfl rfl ?_
            refine j_putI dX10_nextToken_142 rfl fX10_70 rfl (by decide) rfl rfl ?_
            refine j_goto (tgt := 71) dX10_nextToken_145 rfl ?_
            exfalso; omega
          · refine j_aload_n dX10_nextToken_104 rfl rfl rfl ?_
            refine j_getJv (v := lN (wv tx (p - f) f 0)) dX10_nextToken_105 rfl fX10_82 rfl (by decide) rfl (by rw [e9]; unfold wdL; rw [if_pos (by omega)]) ?_
            refine j_ldc2 (v := lN 32) dX10_nextToken_108 rfl kX10_85 ?_
            refine j_lmulN (c := (wv tx (p - f) f 0) * 32) dX10_nextToken_111 rfl rfl ?_
            refine j_aload_n dX10_nextToken_112 rfl rfl rfl ?_
            refine j_aload_n dX10_nextToken_113 rfl rfl rfl ?_
            refine j_getIv (v := nI p) dX10_nextToken_114 rfl fX10_70 rfl (by decide) rfl e6 ?_
            refine j_callVw (As := [.int (nI p)]) dX10_nextToken_117 rfl cX10_73 (by decide) rfl rfl (by decide) rfl (Nat.le_of_ble_eq_true rfl) rfl rfl (c_mletter hRa (by omega) (fun l5 => ?_) (fun l5 => ?_))
            · have h127 := hRa.2.2.2 p l5
              show Rj _ _ _ _ _ _ 120 [.ref 33, c] [.int (nI (tx p)), .long (lN ((wv tx (p - f) f 0) * 32)), .ref 33] n Ia Ja (Pg i0 i1)
              refine j_i2lN dX10_nextToken_120 rfl (by omega) ?_
              refine j_laddN (c := ((wv tx (p - f) f 0) * 32) + (tx p)) dX10_nextToken_121 rfl rfl ?_
              refine j_ldc2 (v := lN 96) dX10_nextToken_122 rfl kX10_87 ?_
              refine j_lsubN (c := (((wv tx (p - f) f 0) * 32) + (tx p)) - 96) dX10_nextToken_125 rfl (by omega) rfl ?_
              refine j_goto (tgt := 132) dX10_nextToken_126 rfl ?_
              refine j_putJ dX10_nextToken_132 rfl fX10_82 rfl (by decide) rfl rfl ?_
              refine j_aload_n dX10_nextToken_135 rfl rfl rfl ?_
              refine j_dup dX10_nextToken_136 rfl rfl ?_
              refine j_getIv (v := nI p) dX10_nextToken_137 rfl fX10_70 rfl (by decide) rfl e6 ?_
              refine j_iconst (v := nI 1) dX10_nextToken_140 rfl rfl ?_
              refine j_iaddN (c := p + 1) dX10_nextToken_141 rfl rfl ?_
              refine j_putI dX10_nextToken_142 rfl fX10_70 rfl (by decide) rfl rfl ?_
              refine j_goto (tgt := 71) dX10_nextToken_145 rfl ?_
              exfalso; omega
            · exact absurd (by omega) l5
        · rw [inR_N (by omega) (by omega) (by omega)] at i2
          show Rj _ _ _ _ _ _ 86 [.ref 33, c] [.int (nI 0)] n Ia Ja (Pg i0 i1)
          refine j_ifeqN (tgt := 148) dX10_nextToken_86 rfl rfl (by decide) (fun h6 => ?_) (fun h6 => by exfalso; omega)
          refine j_aload_n dX10_nextToken_148 rfl rfl rfl ?_
          refine j_iconst (v := nI 1) dX10_nextToken_149 rfl rfl ?_
          refine j_putI dX10_nextToken_150 rfl fX10_79 rfl (by decide) rfl rfl ?_
          refine j_goto (tgt := 296) dX10_nextToken_153 rfl ?_
          refine j_vret dX10_nextToken_296 rfl ?_
          have hp : p = tkE tx tl f := by
            unfold tkE
            rw [if_neg (by omega), if_pos hcw, ← hr]
            rfl
          have hK : tkK tx tl f = 1 := by unfold tkK; rw [if_neg (by omega), if_pos hcw]
          rw [← hft.1] at hQ
          refine hQ _ _ ⟨⟨?_, ?_, ?_⟩, fun q => ?_, fun _ => ?_, by omega⟩ (hF.put (by omega) (by omega))
          · rw [u2_ne2 _ _ _ (by omega), e6, ← hp]
          · rw [u2_ne2 _ _ _ (by omega), e7]
          · rw [u2_self, hK]; rfl
          · rw [hK] at q; exact absurd q (by omega)
          · rw [e9, ← hp]
      · show Rj _ _ _ _ _ _ 79 [.ref 33, c] [.int (-1)] n Ia Ja (Pg i0 i1)
        refine j_bipush (v := nI 97) dX10_nextToken_79 rfl rfl ?_
        refine j_bipush (v := nI 122) dX10_nextToken_81 rfl rfl ?_
        refine j_callSw (As := [.int (-1), .int (nI 97), .int (nI 122)]) dX10_nextToken_83 rfl cX10_50 rfl (by decide) rfl rfl (c_min (fun q => absurd (show (-1 : Int32) < nI 97 by decide) q.1) (fun _ => ?_))
        show Rj _ _ _ _ _ _ 86 [.ref 33, c] [.int (nI 0)] n Ia Ja (Pg i0 i1)
        refine j_ifeqN (tgt := 148) dX10_nextToken_86 rfl rfl (by decide) (fun h7 => ?_) (fun h7 => by exfalso; omega)
        refine j_aload_n dX10_nextToken_148 rfl rfl rfl ?_
        refine j_iconst (v := nI 1) dX10_nextToken_149 rfl rfl ?_
        refine j_putI dX10_nextToken_150 rfl fX10_79 rfl (by decide) rfl rfl ?_
        refine j_goto (tgt := 296) dX10_nextToken_153 rfl ?_
        refine j_vret dX10_nextToken_296 rfl ?_
        have hp : p = tkE tx tl f := by
          unfold tkE
          rw [if_neg (by omega), if_pos hcw, ← hr]
          rfl
        have hK : tkK tx tl f = 1 := by unfold tkK; rw [if_neg (by omega), if_pos hcw]
        rw [← hft.1] at hQ
        refine hQ _ _ ⟨⟨?_, ?_, ?_⟩, fun q => ?_, fun _ => ?_, by omega⟩ (hF.put (by omega) (by omega))
        · rw [u2_ne2 _ _ _ (by omega), e6, ← hp]
        · rw [u2_ne2 _ _ _ (by omega), e7]
        · rw [u2_self, hK]; rfl
        · rw [hK] at q; exact absurd q (by omega)
        · rw [e9, ← hp]
    | succ r ih =>
      intro p f c Ia Ja e6 hF hpl hrl hfp e7 e9 hcw hft hr
      have hRa : MR Ia tl tx := hR.fr hF
      have h150 := hR.2.2.1
      refine j_aload_n dX10_nextToken_71 rfl rfl rfl ?_
      refine j_aload_n dX10_nextToken_72 rfl rfl rfl ?_
      refine j_getIv (v := nI p) dX10_nextToken_73 rfl fX10_70 rfl (by decide) rfl e6 ?_
      refine j_callVw (As := [.int (nI p)]) dX10_nextToken_76 rfl cX10_73 (by decide) rfl rfl (by decide) rfl (by decide) rfl rfl (c_mletter hRa (by omega) (fun l1 => ?_) (fun l1 => ?_))
      · have h127 := hRa.2.2.2 p l1
        show Rj _ _ _ _ _ _ 79 [.ref 33, c] [.int (nI (tx p))] n Ia Ja (Pg i0 i1)
        refine j_bipush (v := nI 97) dX10_nextToken_79 rfl rfl ?_
        refine j_bipush (v := nI 122) dX10_nextToken_81 rfl rfl ?_
        refine j_callSw (As := [.int (nI (tx p)), .int (nI 97), .int (nI 122)]) dX10_nextToken_83 rfl cX10_50 rfl (by decide) rfl rfl (c_min (fun i2 => ?_) (fun i2 => ?_))
        · rw [inR_N (by omega) (by omega) (by omega)] at i2
          show Rj _ _ _ _ _ _ 86 [.ref 33, c] [.int (nI 1)] n Ia Ja (Pg i0 i1)
          refine j_ifeqN (tgt := 148) dX10_nextToken_86 rfl rfl (by decide) (fun h3 => by exfalso; omega) (fun h3 => ?_)
          refine j_aload_n dX10_nextToken_89 rfl rfl rfl ?_
          refine j_aload_n dX10_nextToken_90 rfl rfl rfl ?_
          refine j_getIv (v := nI p) dX10_nextToken_91 rfl fX10_70 rfl (by decide) rfl e6 ?_
          refine j_aload_n dX10_nextToken_94 rfl rfl rfl ?_
          refine j_getIv (v := nI f) dX10_nextToken_95 rfl fX10_76 rfl (by decide) rfl e7 ?_
          refine j_isubN (c := p - f) dX10_nextToken_98 rfl (by omega) rfl ?_
          refine j_bipush (v := nI 7) dX10_nextToken_99 rfl rfl ?_
          refine j_icmpgeN (tgt := 129) dX10_nextToken_101 rfl rfl (by omega) (by decide) (fun h4 => ?_) (fun h4 => ?_)
          · refine j_ldc2 (v := (-1)) dX10_nextToken_129 rfl kX10_89 ?_
            refine j_putJ dX10_nextToken_132 rfl fX10_82 rfl (by decide) rfl rfl ?_
            refine j_aload_n dX10_nextToken_135 rfl rfl rfl ?_
            refine j_dup dX10_nextToken_136 rfl rfl ?_
            refine j_getIv (v := nI p) dX10_nextToken_137 rfl fX10_70 rfl (by decide) rfl e6 ?_
            refine j_iconst (v := nI 1) dX10_nextToken_140 rfl rfl ?_
            refine j_iaddN (c := p + 1) dX10_nextToken_141 rfl rfl ?_
            refine j_putI dX10_nextToken_142 rfl fX10_70 rfl (by decide) rfl rfl ?_
            refine j_goto (tgt := 71) dX10_nextToken_145 rfl ?_
            refine ih (p + 1) f c _ _ (u2_self _ _ _ _) ?_ (by omega) (by omega) (by omega) ?_ ?_ hcw hft ?_
            · exact (hF.putJ).put (by omega) (by omega)
            · rw [u2_ne2 _ _ _ (by omega)]; exact e7
            · rw [u2_self]; unfold wdL
              rw [if_neg (by omega)]
            · rw [← hr]; conv => rhs; unfold runE
              rw [if_pos (by omega)]
          · refine j_aload_n dX10_nextToken_104 rfl rfl rfl ?_
            refine j_getJv (v := lN (wv tx (p - f) f 0)) dX10_nextToken_105 rfl fX10_82 rfl (by decide) rfl (by rw [e9]; unfold wdL; rw [if_pos (by omega)]) ?_
            refine j_ldc2 (v := lN 32) dX10_nextToken_108 rfl kX10_85 ?_
            refine j_lmulN (c := (wv tx (p - f) f 0) * 32) dX10_nextToken_111 rfl rfl ?_
            refine j_aload_n dX10_nextToken_112 rfl rfl rfl ?_
            refine j_aload_n dX10_nextToken_113 rfl rfl rfl ?_
            refine j_getIv (v := nI p) dX10_nextToken_114 rfl fX10_70 rfl (by decide) rfl e6 ?_
            refine j_callVw (As := [.int (nI p)]) dX10_nextToken_117 rfl cX10_73 (by decide) rfl rfl (by decide) rfl (Nat.le_of_ble_eq_true rfl) rfl rfl (c_mletter hRa (by omega) (fun l5 => ?_) (fun l5 => ?_))
            · have h127 := hRa.2.2.2 p l5
              show Rj _ _ _ _ _ _ 120 [.ref 33, c] [.int (nI (tx p)), .long (lN ((wv tx (p - f) f 0) * 32)), .ref 33] n Ia Ja (Pg i0 i1)
              refine j_i2lN dX10_nextToken_120 rfl (by omega) ?_
              refine j_laddN (c := ((wv tx (p - f) f 0) * 32) + (tx p)) dX10_nextToken_121 rfl rfl ?_
              refine j_ldc2 (v := lN 96) dX10_nextToken_122 rfl kX10_87 ?_
              refine j_lsubN (c := (((wv tx (p - f) f 0) * 32) + (tx p)) - 96) dX10_nextToken_125 rfl (by omega) rfl ?_
              refine j_goto (tgt := 132) dX10_nextToken_126 rfl ?_
              refine j_putJ dX10_nextToken_132 rfl fX10_82 rfl (by decide) rfl rfl ?_
              refine j_aload_n dX10_nextToken_135 rfl rfl rfl ?_
              refine j_dup dX10_nextToken_136 rfl rfl ?_
              refine j_getIv (v := nI p) dX10_nextToken_137 rfl fX10_70 rfl (by decide) rfl e6 ?_
              refine j_iconst (v := nI 1) dX10_nextToken_140 rfl rfl ?_
              refine j_iaddN (c := p + 1) dX10_nextToken_141 rfl rfl ?_
              refine j_putI dX10_nextToken_142 rfl fX10_70 rfl (by decide) rfl rfl ?_
              refine j_goto (tgt := 71) dX10_nextToken_145 rfl ?_
              refine ih (p + 1) f c _ _ (u2_self _ _ _ _) ?_ (by omega) (by omega) (by omega) ?_ ?_ hcw hft ?_
              · exact (hF.putJ).put (by omega) (by omega)
              · rw [u2_ne2 _ _ _ (by omega)]; exact e7
              · rw [u2_self]; unfold wdL
                have hs := wv_s tx (p - f) f 0
                rw [show f + (p - f) = p by omega, show p - f + 1 = p + 1 - f by omega] at hs
                rw [if_pos (by omega), hs]
              · rw [← hr]; conv => rhs; unfold runE
                rw [if_pos (by omega)]
            · exact absurd (by omega) l5
        · rw [inR_N (by omega) (by omega) (by omega)] at i2
          show Rj _ _ _ _ _ _ 86 [.ref 33, c] [.int (nI 0)] n Ia Ja (Pg i0 i1)
          refine j_ifeqN (tgt := 148) dX10_nextToken_86 rfl rfl (by decide) (fun h6 => ?_) (fun h6 => by exfalso; omega)
          refine j_aload_n dX10_nextToken_148 rfl rfl rfl ?_
          refine j_iconst (v := nI 1) dX10_nextToken_149 rfl rfl ?_
          refine j_putI dX10_nextToken_150 rfl fX10_79 rfl (by decide) rfl rfl ?_
          refine j_goto (tgt := 296) dX10_nextToken_153 rfl ?_
          refine j_vret dX10_nextToken_296 rfl ?_
          have hp : p = tkE tx tl f := by
            unfold tkE
            rw [if_neg (by omega), if_pos hcw, ← hr]
            unfold runE; rw [if_neg (by omega)]
          have hK : tkK tx tl f = 1 := by unfold tkK; rw [if_neg (by omega), if_pos hcw]
          rw [← hft.1] at hQ
          refine hQ _ _ ⟨⟨?_, ?_, ?_⟩, fun q => ?_, fun _ => ?_, by omega⟩ (hF.put (by omega) (by omega))
          · rw [u2_ne2 _ _ _ (by omega), e6, ← hp]
          · rw [u2_ne2 _ _ _ (by omega), e7]
          · rw [u2_self, hK]; rfl
          · rw [hK] at q; exact absurd q (by omega)
          · rw [e9, ← hp]
      · show Rj _ _ _ _ _ _ 79 [.ref 33, c] [.int (-1)] n Ia Ja (Pg i0 i1)
        refine j_bipush (v := nI 97) dX10_nextToken_79 rfl rfl ?_
        refine j_bipush (v := nI 122) dX10_nextToken_81 rfl rfl ?_
        refine j_callSw (As := [.int (-1), .int (nI 97), .int (nI 122)]) dX10_nextToken_83 rfl cX10_50 rfl (by decide) rfl rfl (c_min (fun q => absurd (show (-1 : Int32) < nI 97 by decide) q.1) (fun _ => ?_))
        show Rj _ _ _ _ _ _ 86 [.ref 33, c] [.int (nI 0)] n Ia Ja (Pg i0 i1)
        refine j_ifeqN (tgt := 148) dX10_nextToken_86 rfl rfl (by decide) (fun h7 => ?_) (fun h7 => by exfalso; omega)
        refine j_aload_n dX10_nextToken_148 rfl rfl rfl ?_
        refine j_iconst (v := nI 1) dX10_nextToken_149 rfl rfl ?_
        refine j_putI dX10_nextToken_150 rfl fX10_79 rfl (by decide) rfl rfl ?_
        refine j_goto (tgt := 296) dX10_nextToken_153 rfl ?_
        refine j_vret dX10_nextToken_296 rfl ?_
        have hp : p = tkE tx tl f := by
          unfold tkE
          rw [if_neg (by omega), if_pos hcw, ← hr]
          unfold runE; rw [if_neg (by omega)]
        have hK : tkK tx tl f = 1 := by unfold tkK; rw [if_neg (by omega), if_pos hcw]
        rw [← hft.1] at hQ
        refine hQ _ _ ⟨⟨?_, ?_, ?_⟩, fun q => ?_, fun _ => ?_, by omega⟩ (hF.put (by omega) (by omega))
        · rw [u2_ne2 _ _ _ (by omega), e6, ← hp]
        · rw [u2_ne2 _ _ _ (by omega), e7]
        · rw [u2_self, hK]; rfl
        · rw [hK] at q; exact absurd q (by omega)
        · rw [e9, ← hp]
  have lN_ : ∀ (r p f : Nat) (c : Value) (Ia : HI) (Ja : HJ), Ia 33 6 = nI p → Ftk I J Ia Ja → p ≤ tl → p + r = tl → f ≤ p → Ia 33 7 = nI f → Ia 33 10 = nI (numV tx (min 2 (p - f)) f 0) → ¬ (97 ≤ tx f ∧ tx f ≤ 122) → 48 ≤ tx f ∧ tx f ≤ 57 → f = tkF tx tl b ∧ f < tl → runE tx tl 48 57 r p = runE tx tl 48 57 (tl - f) f → Rj X (d + 1) 0 0 mX10_nextToken Q 172 [.ref 33, c] [] n Ia Ja (Pg i0 i1) := by
    intro r
    induction r with
    | zero =>
      intro p f c Ia Ja e6 hF hpl hrl hfp e7 e10 hcw hcn hft hr
      have hRa : MR Ia tl tx := hR.fr hF
      have h150 := hR.2.2.1
      refine j_aload_n dX10_nextToken_172 rfl rfl rfl ?_
      refine j_aload_n dX10_nextToken_173 rfl rfl rfl ?_
      refine j_getIv (v := nI p) dX10_nextToken_174 rfl fX10_70 rfl (by decide) rfl e6 ?_
      refine j_callVw (As := [.int (nI p)]) dX10_nextToken_177 rfl cX10_73 (by decide) rfl rfl (by decide) rfl (by decide) rfl rfl (c_mletter hRa (by omega) (fun l1 => ?_) (fun l1 => ?_))
      · have h127 := hRa.2.2.2 p l1
        show Rj _ _ _ _ _ _ 180 [.ref 33, c] [.int (nI (tx p))] n Ia Ja (Pg i0 i1)
        refine j_bipush (v := nI 48) dX10_nextToken_180 rfl rfl ?_
        refine j_bipush (v := nI 57) dX10_nextToken_182 rfl rfl ?_
        refine j_callSw (As := [.int (nI (tx p)), .int (nI 48), .int (nI 57)]) dX10_nextToken_184 rfl cX10_50 rfl (by decide) rfl rfl (c_min (fun i2 => ?_) (fun i2 => ?_))
        · rw [inR_N (by omega) (by omega) (by omega)] at i2
          show Rj _ _ _ _ _ _ 187 [.ref 33, c] [.int (nI 1)] n Ia Ja (Pg i0 i1)
          refine j_ifeqN (tgt := 246) dX10_nextToken_187 rfl rfl (by decide) (fun h3 => by exfalso; omega) (fun h3 => ?_)
          refine j_aload_n dX10_nextToken_190 rfl rfl rfl ?_
          refine j_aload_n dX10_nextToken_191 rfl rfl rfl ?_
          refine j_getIv (v := nI p) dX10_nextToken_192 rfl fX10_70 rfl (by decide) rfl e6 ?_
          refine j_aload_n dX10_nextToken_195 rfl rfl rfl ?_
          refine j_getIv (v := nI f) dX10_nextToken_196 rfl fX10_76 rfl (by decide) rfl e7 ?_
          refine j_isubN (c := p - f) dX10_nextToken_199 rfl (by omega) rfl ?_
          refine j_iconst (v := nI 2) dX10_nextToken_200 rfl rfl ?_
          refine j_icmpgeN (tgt := 226) dX10_nextToken_201 rfl rfl (by omega) (by decide) (fun h4 => ?_) (fun h4 => ?_)
          · refine j_aload_n dX10_nextToken_226 rfl rfl rfl ?_
            refine j_getIv (v := nI (numV tx (min 2 (p - f)) f 0)) dX10_nextToken_227 rfl fX10_91 rfl (by decide) rfl e10 ?_
            refine j_putI dX10_nextToken_230 rfl fX10_91 rfl (by decide) rfl rfl ?_
            refine j_aload_n dX10_nextToken_233 rfl rfl rfl ?_
            refine j_dup dX10_nextToken_234 rfl rfl ?_
            refine j_getIv (v := nI p) dX10_nextToken_235 rfl fX10_70 rfl (by decide) rfl e6 ?_
            refine j_iconst (v := nI 1) dX10_nextToken_238 rfl rfl ?_
            refine j_iaddN (c := p + 1) dX10_nextToken_239 rfl rfl ?_
            refine j_putI dX10_nextToken_240 rfl fX10_70 rfl (by decide) rfl rfl ?_
            refine j_goto (tgt := 172) dX10_nextToken_243 rfl ?_
            exfalso; omega
          · refine j_bipush (v := nI 10) dX10_nextToken_204 rfl rfl ?_
            refine j_aload_n dX10_nextToken_206 rfl rfl rfl ?_
            refine j_getIv (v := nI (numV tx (min 2 (p - f)) f 0)) dX10_nextToken_207 rfl fX10_91 rfl (by decide) rfl e10 ?_
            refine j_imulN (c := 10 * (numV tx (min 2 (p - f)) f 0)) dX10_nextToken_210 rfl rfl ?_
            refine j_aload_n dX10_nextToken_211 rfl rfl rfl ?_
            refine j_aload_n dX10_nextToken_212 rfl rfl rfl ?_
            refine j_getIv (v := nI p) dX10_nextToken_213 rfl fX10_70 rfl (by decide) rfl e6 ?_
            refine j_callVw (As := [.int (nI p)]) dX10_nextToken_216 rfl cX10_73 (by decide) rfl rfl (by decide) rfl (Nat.le_of_ble_eq_true rfl) rfl rfl (c_mletter hRa (by omega) (fun l5 => ?_) (fun l5 => ?_))
            · have h127 := hRa.2.2.2 p l5
              show Rj _ _ _ _ _ _ 219 [.ref 33, c] [.int (nI (tx p)), .int (nI (10 * (numV tx (min 2 (p - f)) f 0))), .ref 33] n Ia Ja (Pg i0 i1)
              refine j_iaddN (c := (10 * (numV tx (min 2 (p - f)) f 0)) + (tx p)) dX10_nextToken_219 rfl rfl ?_
              refine j_bipush (v := nI 48) dX10_nextToken_220 rfl rfl ?_
              refine j_isubN (c := ((10 * (numV tx (min 2 (p - f)) f 0)) + (tx p)) - 48) dX10_nextToken_222 rfl (by omega) rfl ?_
              refine j_goto (tgt := 230) dX10_nextToken_223 rfl ?_
              refine j_putI dX10_nextToken_230 rfl fX10_91 rfl (by decide) rfl rfl ?_
              refine j_aload_n dX10_nextToken_233 rfl rfl rfl ?_
              refine j_dup dX10_nextToken_234 rfl rfl ?_
              refine j_getIv (v := nI p) dX10_nextToken_235 rfl fX10_70 rfl (by decide) rfl e6 ?_
              refine j_iconst (v := nI 1) dX10_nextToken_238 rfl rfl ?_
              refine j_iaddN (c := p + 1) dX10_nextToken_239 rfl rfl ?_
              refine j_putI dX10_nextToken_240 rfl fX10_70 rfl (by decide) rfl rfl ?_
              refine j_goto (tgt := 172) dX10_nextToken_243 rfl ?_
              exfalso; omega
            · exact absurd (by omega) l5
        · rw [inR_N (by omega) (by omega) (by omega)] at i2
          show Rj _ _ _ _ _ _ 187 [.ref 33, c] [.int (nI 0)] n Ia Ja (Pg i0 i1)
          refine j_ifeqN (tgt := 246) dX10_nextToken_187 rfl rfl (by decide) (fun h6 => ?_) (fun h6 => by exfalso; omega)
          refine j_aload_n dX10_nextToken_246 rfl rfl rfl ?_
          refine j_aload_n dX10_nextToken_247 rfl rfl rfl ?_
          refine j_getIv (v := nI p) dX10_nextToken_248 rfl fX10_70 rfl (by decide) rfl e6 ?_
          refine j_aload_n dX10_nextToken_251 rfl rfl rfl ?_
          refine j_getIv (v := nI f) dX10_nextToken_252 rfl fX10_76 rfl (by decide) rfl e7 ?_
          refine j_isubN (c := p - f) dX10_nextToken_255 rfl (by omega) rfl ?_
          refine j_iconst (v := nI 2) dX10_nextToken_256 rfl rfl ?_
          refine j_icmpleN (tgt := 264) dX10_nextToken_257 rfl rfl (by omega) (by decide) (fun h7 => ?_) (fun h7 => ?_)
          · refine j_iconst (v := nI 2) dX10_nextToken_264 rfl rfl ?_
            refine j_putI dX10_nextToken_265 rfl fX10_79 rfl (by decide) rfl rfl ?_
            refine j_goto (tgt := 296) dX10_nextToken_268 rfl ?_
            refine j_vret dX10_nextToken_296 rfl ?_
            have hp : p = tkE tx tl f := by
              unfold tkE
              rw [if_neg (by omega), if_neg hcw, if_pos hcn, ← hr]
              rfl
            have hK : tkK tx tl f = 2 := by unfold tkK; rw [if_neg (by omega), if_neg hcw, if_pos hcn, ← hp, if_pos (by omega)]
            have hN : tkN tx tl f = numV tx (p - f) f 0 := by unfold tkN; rw [← hp]
            rw [← hft.1] at hQ
            refine hQ _ _ ⟨⟨?_, ?_, ?_⟩, fun q => ?_, fun q => ?_, by omega⟩ (hF.put (by omega) (by omega))
            · rw [u2_ne2 _ _ _ (by omega), e6, ← hp]
            · rw [u2_ne2 _ _ _ (by omega), e7]
            · rw [u2_self, hK]; rfl
            · rw [u2_ne2 _ _ _ (by omega), e10, hN, show min 2 (p - f) = p - f by omega]
            · rw [hK] at q; exact absurd q (by omega)
          · refine j_iconst (v := nI 5) dX10_nextToken_260 rfl rfl ?_
            refine j_goto (tgt := 265) dX10_nextToken_261 rfl ?_
            refine j_putI dX10_nextToken_265 rfl fX10_79 rfl (by decide) rfl rfl ?_
            refine j_goto (tgt := 296) dX10_nextToken_268 rfl ?_
            refine j_vret dX10_nextToken_296 rfl ?_
            have hp : p = tkE tx tl f := by
              unfold tkE
              rw [if_neg (by omega), if_neg hcw, if_pos hcn, ← hr]
              rfl
            have hK : tkK tx tl f = 4 := by unfold tkK; rw [if_neg (by omega), if_neg hcw, if_pos hcn, ← hp, if_neg (by omega)]
            have hN : tkN tx tl f = numV tx (p - f) f 0 := by unfold tkN; rw [← hp]
            rw [← hft.1] at hQ
            refine hQ _ _ ⟨⟨?_, ?_, ?_⟩, fun q => ?_, fun q => ?_, by omega⟩ (hF.put (by omega) (by omega))
            · rw [u2_ne2 _ _ _ (by omega), e6, ← hp]
            · rw [u2_ne2 _ _ _ (by omega), e7]
            · rw [u2_self, hK]; rfl
            · rw [hK] at q; exact absurd q (by omega)
            · rw [hK] at q; exact absurd q (by omega)
      · show Rj _ _ _ _ _ _ 180 [.ref 33, c] [.int (-1)] n Ia Ja (Pg i0 i1)
        refine j_bipush (v := nI 48) dX10_nextToken_180 rfl rfl ?_
        refine j_bipush (v := nI 57) dX10_nextToken_182 rfl rfl ?_
        refine j_callSw (As := [.int (-1), .int (nI 48), .int (nI 57)]) dX10_nextToken_184 rfl cX10_50 rfl (by decide) rfl rfl (c_min (fun q => absurd (show (-1 : Int32) < nI 48 by decide) q.1) (fun _ => ?_))
        show Rj _ _ _ _ _ _ 187 [.ref 33, c] [.int (nI 0)] n Ia Ja (Pg i0 i1)
        refine j_ifeqN (tgt := 246) dX10_nextToken_187 rfl rfl (by decide) (fun h8 => ?_) (fun h8 => by exfalso; omega)
        refine j_aload_n dX10_nextToken_246 rfl rfl rfl ?_
        refine j_aload_n dX10_nextToken_247 rfl rfl rfl ?_
        refine j_getIv (v := nI p) dX10_nextToken_248 rfl fX10_70 rfl (by decide) rfl e6 ?_
        refine j_aload_n dX10_nextToken_251 rfl rfl rfl ?_
        refine j_getIv (v := nI f) dX10_nextToken_252 rfl fX10_76 rfl (by decide) rfl e7 ?_
        refine j_isubN (c := p - f) dX10_nextToken_255 rfl (by omega) rfl ?_
        refine j_iconst (v := nI 2) dX10_nextToken_256 rfl rfl ?_
        refine j_icmpleN (tgt := 264) dX10_nextToken_257 rfl rfl (by omega) (by decide) (fun h9 => ?_) (fun h9 => ?_)
        · refine j_iconst (v := nI 2) dX10_nextToken_264 rfl rfl ?_
          refine j_putI dX10_nextToken_265 rfl fX10_79 rfl (by decide) rfl rfl ?_
          refine j_goto (tgt := 296) dX10_nextToken_268 rfl ?_
          refine j_vret dX10_nextToken_296 rfl ?_
          have hp : p = tkE tx tl f := by
            unfold tkE
            rw [if_neg (by omega), if_neg hcw, if_pos hcn, ← hr]
            rfl
          have hK : tkK tx tl f = 2 := by unfold tkK; rw [if_neg (by omega), if_neg hcw, if_pos hcn, ← hp, if_pos (by omega)]
          have hN : tkN tx tl f = numV tx (p - f) f 0 := by unfold tkN; rw [← hp]
          rw [← hft.1] at hQ
          refine hQ _ _ ⟨⟨?_, ?_, ?_⟩, fun q => ?_, fun q => ?_, by omega⟩ (hF.put (by omega) (by omega))
          · rw [u2_ne2 _ _ _ (by omega), e6, ← hp]
          · rw [u2_ne2 _ _ _ (by omega), e7]
          · rw [u2_self, hK]; rfl
          · rw [u2_ne2 _ _ _ (by omega), e10, hN, show min 2 (p - f) = p - f by omega]
          · rw [hK] at q; exact absurd q (by omega)
        · refine j_iconst (v := nI 5) dX10_nextToken_260 rfl rfl ?_
          refine j_goto (tgt := 265) dX10_nextToken_261 rfl ?_
          refine j_putI dX10_nextToken_265 rfl fX10_79 rfl (by decide) rfl rfl ?_
          refine j_goto (tgt := 296) dX10_nextToken_268 rfl ?_
          refine j_vret dX10_nextToken_296 rfl ?_
          have hp : p = tkE tx tl f := by
            unfold tkE
            rw [if_neg (by omega), if_neg hcw, if_pos hcn, ← hr]
            rfl
          have hK : tkK tx tl f = 4 := by unfold tkK; rw [if_neg (by omega), if_neg hcw, if_pos hcn, ← hp, if_neg (by omega)]
          have hN : tkN tx tl f = numV tx (p - f) f 0 := by unfold tkN; rw [← hp]
          rw [← hft.1] at hQ
          refine hQ _ _ ⟨⟨?_, ?_, ?_⟩, fun q => ?_, fun q => ?_, by omega⟩ (hF.put (by omega) (by omega))
          · rw [u2_ne2 _ _ _ (by omega), e6, ← hp]
          · rw [u2_ne2 _ _ _ (by omega), e7]
          · rw [u2_self, hK]; rfl
          · rw [hK] at q; exact absurd q (by omega)
          · rw [hK] at q; exact absurd q (by omega)
    | succ r ih =>
      intro p f c Ia Ja e6 hF hpl hrl hfp e7 e10 hcw hcn hft hr
      have hRa : MR Ia tl tx := hR.fr hF
      have h150 := hR.2.2.1
      refine j_aload_n dX10_nextToken_172 rfl rfl rfl ?_
      refine j_aload_n dX10_nextToken_173 rfl rfl rfl ?_
      refine j_getIv (v := nI p) dX10_nextToken_174 rfl fX10_70 rfl (by decide) rfl e6 ?_
      refine j_callVw (As := [.int (nI p)]) dX10_nextToken_177 rfl cX10_73 (by decide) rfl rfl (by decide) rfl (by decide) rfl rfl (c_mletter hRa (by omega) (fun l1 => ?_) (fun l1 => ?_))
      · have h127 := hRa.2.2.2 p l1
        show Rj _ _ _ _ _ _ 180 [.ref 33, c] [.int (nI (tx p))] n Ia Ja (Pg i0 i1)
        refine j_bipush (v := nI 48) dX10_nextToken_180 rfl rfl ?_
        refine j_bipush (v := nI 57) dX10_nextToken_182 rfl rfl ?_
        refine j_callSw (As := [.int (nI (tx p)), .int (nI 48), .int (nI 57)]) dX10_nextToken_184 rfl cX10_50 rfl (by decide) rfl rfl (c_min (fun i2 => ?_) (fun i2 => ?_))
        · rw [inR_N (by omega) (by omega) (by omega)] at i2
          show Rj _ _ _ _ _ _ 187 [.ref 33, c] [.int (nI 1)] n Ia Ja (Pg i0 i1)
          refine j_ifeqN (tgt := 246) dX10_nextToken_187 rfl rfl (by decide) (fun h3 => by exfalso; omega) (fun h3 => ?_)
          refine j_aload_n dX10_nextToken_190 rfl rfl rfl ?_
          refine j_aload_n dX10_nextToken_191 rfl rfl rfl ?_
          refine j_getIv (v := nI p) dX10_nextToken_192 rfl fX10_70 rfl (by decide) rfl e6 ?_
          refine j_aload_n dX10_nextToken_195 rfl rfl rfl ?_
          refine j_getIv (v := nI f) dX10_nextToken_196 rfl fX10_76 rfl (by decide) rfl e7 ?_
          refine j_isubN (c := p - f) dX10_nextToken_199 rfl (by omega) rfl ?_
          refine j_iconst (v := nI 2) dX10_nextToken_200 rfl rfl ?_
          refine j_icmpgeN (tgt := 226) dX10_nextToken_201 rfl rfl (by omega) (by decide) (fun h4 => ?_) (fun h4 => ?_)
          · refine j_aload_n dX10_nextToken_226 rfl rfl rfl ?_
            refine j_getIv (v := nI (numV tx (min 2 (p - f)) f 0)) dX10_nextToken_227 rfl fX10_91 rfl (by decide) rfl e10 ?_
            refine j_putI dX10_nextToken_230 rfl fX10_91 rfl (by decide) rfl rfl ?_
            refine j_aload_n dX10_nextToken_233 rfl rfl rfl ?_
            refine j_dup dX10_nextToken_234 rfl rfl ?_
            refine j_getIv (v := nI p) dX10_nextToken_235 rfl fX10_70 rfl (by decide) rfl e6 ?_
            refine j_iconst (v := nI 1) dX10_nextToken_238 rfl rfl ?_
            refine j_iaddN (c := p + 1) dX10_nextToken_239 rfl rfl ?_
            refine j_putI dX10_nextToken_240 rfl fX10_70 rfl (by decide) rfl rfl ?_
            refine j_goto (tgt := 172) dX10_nextToken_243 rfl ?_
            refine ih (p + 1) f c _ _ (u2_self _ _ _ _) ?_ (by omega) (by omega) (by omega) ?_ ?_ hcw hcn hft ?_
            · exact (hF.put (by omega) (by omega)).put (by omega) (by omega)
            · rw [u2_ne2 _ _ _ (by omega), u2_ne2 _ _ _ (by omega)]; exact e7
            · rw [u2_ne2 _ _ _ (by omega), u2_self]
              rw [show min 2 (p + 1 - f) = min 2 (p - f) by omega]
            · rw [← hr]; conv => rhs; unfold runE
              rw [if_pos (by omega)]
          · refine j_bipush (v := nI 10) dX10_nextToken_204 rfl rfl ?_
            refine j_aload_n dX10_nextToken_206 rfl rfl rfl ?_
            refine j_getIv (v := nI (numV tx (min 2 (p - f)) f 0)) dX10_nextToken_207 rfl fX10_91 rfl (by decide) rfl e10 ?_
            refine j_imulN (c := 10 * (numV tx (min 2 (p - f)) f 0)) dX10_nextToken_210 rfl rfl ?_
            refine j_aload_n dX10_nextToken_211 rfl rfl rfl ?_
            refine j_aload_n dX10_nextToken_212 rfl rfl rfl ?_
            refine j_getIv (v := nI p) dX10_nextToken_213 rfl fX10_70 rfl (by decide) rfl e6 ?_
            refine j_callVw (As := [.int (nI p)]) dX10_nextToken_216 rfl cX10_73 (by decide) rfl rfl (by decide) rfl (Nat.le_of_ble_eq_true rfl) rfl rfl (c_mletter hRa (by omega) (fun l5 => ?_) (fun l5 => ?_))
            · have h127 := hRa.2.2.2 p l5
              show Rj _ _ _ _ _ _ 219 [.ref 33, c] [.int (nI (tx p)), .int (nI (10 * (numV tx (min 2 (p - f)) f 0))), .ref 33] n Ia Ja (Pg i0 i1)
              refine j_iaddN (c := (10 * (numV tx (min 2 (p - f)) f 0)) + (tx p)) dX10_nextToken_219 rfl rfl ?_
              refine j_bipush (v := nI 48) dX10_nextToken_220 rfl rfl ?_
              refine j_isubN (c := ((10 * (numV tx (min 2 (p - f)) f 0)) + (tx p)) - 48) dX10_nextToken_222 rfl (by omega) rfl ?_
              refine j_goto (tgt := 230) dX10_nextToken_223 rfl ?_
              refine j_putI dX10_nextToken_230 rfl fX10_91 rfl (by decide) rfl rfl ?_
              refine j_aload_n dX10_nextToken_233 rfl rfl rfl ?_
              refine j_dup dX10_nextToken_234 rfl rfl ?_
              refine j_getIv (v := nI p) dX10_nextToken_235 rfl fX10_70 rfl (by decide) rfl e6 ?_
              refine j_iconst (v := nI 1) dX10_nextToken_238 rfl rfl ?_
              refine j_iaddN (c := p + 1) dX10_nextToken_239 rfl rfl ?_
              refine j_putI dX10_nextToken_240 rfl fX10_70 rfl (by decide) rfl rfl ?_
              refine j_goto (tgt := 172) dX10_nextToken_243 rfl ?_
              refine ih (p + 1) f c _ _ (u2_self _ _ _ _) ?_ (by omega) (by omega) (by omega) ?_ ?_ hcw hcn hft ?_
              · exact (hF.put (by omega) (by omega)).put (by omega) (by omega)
              · rw [u2_ne2 _ _ _ (by omega), u2_ne2 _ _ _ (by omega)]; exact e7
              · rw [u2_ne2 _ _ _ (by omega), u2_self]
                have hs := numV_s tx (p - f) f 0
                rw [show f + (p - f) = p by omega, show p - f + 1 = min 2 (p + 1 - f) by omega] at hs
                rw [hs, show min 2 (p - f) = p - f by omega]
              · rw [← hr]; conv => rhs; unfold runE
                rw [if_pos (by omega)]
            · exact absurd (by omega) l5
        · rw [inR_N (by omega) (by omega) (by omega)] at i2
          show Rj _ _ _ _ _ _ 187 [.ref 33, c] [.int (nI 0)] n Ia Ja (Pg i0 i1)
          refine j_ifeqN (tgt := 246) dX10_nextToken_187 rfl rfl (by decide) (fun h6 => ?_) (fun h6 => by exfalso; omega)
          refine j_aload_n dX10_nextToken_246 rfl rfl rfl ?_
          refine j_aload_n dX10_nextToken_247 rfl rfl rfl ?_
          refine j_getIv (v := nI p) dX10_nextToken_248 rfl fX10_70 rfl (by decide) rfl e6 ?_
          refine j_aload_n dX10_nextToken_251 rfl rfl rfl ?_
          refine j_getIv (v := nI f) dX10_nextToken_252 rfl fX10_76 rfl (by decide) rfl e7 ?_
          refine j_isubN (c := p - f) dX10_nextToken_255 rfl (by omega) rfl ?_
          refine j_iconst (v := nI 2) dX10_nextToken_256 rfl rfl ?_
          refine j_icmpleN (tgt := 264) dX10_nextToken_257 rfl rfl (by omega) (by decide) (fun h7 => ?_) (fun h7 => ?_)
          · refine j_iconst (v := nI 2) dX10_nextToken_264 rfl rfl ?_
            refine j_putI dX10_nextToken_265 rfl fX10_79 rfl (by decide) rfl rfl ?_
            refine j_goto (tgt := 296) dX10_nextToken_268 rfl ?_
            refine j_vret dX10_nextToken_296 rfl ?_
            have hp : p = tkE tx tl f := by
              unfold tkE
              rw [if_neg (by omega), if_neg hcw, if_pos hcn, ← hr]
              unfold runE; rw [if_neg (by omega)]
            have hK : tkK tx tl f = 2 := by unfold tkK; rw [if_neg (by omega), if_neg hcw, if_pos hcn, ← hp, if_pos (by omega)]
            have hN : tkN tx tl f = numV tx (p - f) f 0 := by unfold tkN; rw [← hp]
            rw [← hft.1] at hQ
            refine hQ _ _ ⟨⟨?_, ?_, ?_⟩, fun q => ?_, fun q => ?_, by omega⟩ (hF.put (by omega) (by omega))
            · rw [u2_ne2 _ _ _ (by omega), e6, ← hp]
            · rw [u2_ne2 _ _ _ (by omega), e7]
            · rw [u2_self, hK]; rfl
            · rw [u2_ne2 _ _ _ (by omega), e10, hN, show min 2 (p - f) = p - f by omega]
            · rw [hK] at q; exact absurd q (by omega)
          · refine j_iconst (v := nI 5) dX10_nextToken_260 rfl rfl ?_
            refine j_goto (tgt := 265) dX10_nextToken_261 rfl ?_
            refine j_putI dX10_nextToken_265 rfl fX10_79 rfl (by decide) rfl rfl ?_
            refine j_goto (tgt := 296) dX10_nextToken_268 rfl ?_
            refine j_vret dX10_nextToken_296 rfl ?_
            have hp : p = tkE tx tl f := by
              unfold tkE
              rw [if_neg (by omega), if_neg hcw, if_pos hcn, ← hr]
              unfold runE; rw [if_neg (by omega)]
            have hK : tkK tx tl f = 4 := by unfold tkK; rw [if_neg (by omega), if_neg hcw, if_pos hcn, ← hp, if_neg (by omega)]
            have hN : tkN tx tl f = numV tx (p - f) f 0 := by unfold tkN; rw [← hp]
            rw [← hft.1] at hQ
            refine hQ _ _ ⟨⟨?_, ?_, ?_⟩, fun q => ?_, fun q => ?_, by omega⟩ (hF.put (by omega) (by omega))
            · rw [u2_ne2 _ _ _ (by omega), e6, ← hp]
            · rw [u2_ne2 _ _ _ (by omega), e7]
            · rw [u2_self, hK]; rfl
            · rw [hK] at q; exact absurd q (by omega)
            · rw [hK] at q; exact absurd q (by omega)
      · show Rj _ _ _ _ _ _ 180 [.ref 33, c] [.int (-1)] n Ia Ja (Pg i0 i1)
        refine j_bipush (v := nI 48) dX10_nextToken_180 rfl rfl ?_
        refine j_bipush (v := nI 57) dX10_nextToken_182 rfl rfl ?_
        refine j_callSw (As := [.int (-1), .int (nI 48), .int (nI 57)]) dX10_nextToken_184 rfl cX10_50 rfl (by decide) rfl rfl (c_min (fun q => absurd (show (-1 : Int32) < nI 48 by decide) q.1) (fun _ => ?_))
        show Rj _ _ _ _ _ _ 187 [.ref 33, c] [.int (nI 0)] n Ia Ja (Pg i0 i1)
        refine j_ifeqN (tgt := 246) dX10_nextToken_187 rfl rfl (by decide) (fun h8 => ?_) (fun h8 => by exfalso; omega)
        refine j_aload_n dX10_nextToken_246 rfl rfl rfl ?_
        refine j_aload_n dX10_nextToken_247 rfl rfl rfl ?_
        refine j_getIv (v := nI p) dX10_nextToken_248 rfl fX10_70 rfl (by decide) rfl e6 ?_
        refine j_aload_n dX10_nextToken_251 rfl rfl rfl ?_
        refine j_getIv (v := nI f) dX10_nextToken_252 rfl fX10_76 rfl (by decide) rfl e7 ?_
        refine j_isubN (c := p - f) dX10_nextToken_255 rfl (by omega) rfl ?_
        refine j_iconst (v := nI 2) dX10_nextToken_256 rfl rfl ?_
        refine j_icmpleN (tgt := 264) dX10_nextToken_257 rfl rfl (by omega) (by decide) (fun h9 => ?_) (fun h9 => ?_)
        · refine j_iconst (v := nI 2) dX10_nextToken_264 rfl rfl ?_
          refine j_putI dX10_nextToken_265 rfl fX10_79 rfl (by decide) rfl rfl ?_
          refine j_goto (tgt := 296) dX10_nextToken_268 rfl ?_
          refine j_vret dX10_nextToken_296 rfl ?_
          have hp : p = tkE tx tl f := by
            unfold tkE
            rw [if_neg (by omega), if_neg hcw, if_pos hcn, ← hr]
            unfold runE; rw [if_neg (by omega)]
          have hK : tkK tx tl f = 2 := by unfold tkK; rw [if_neg (by omega), if_neg hcw, if_pos hcn, ← hp, if_pos (by omega)]
          have hN : tkN tx tl f = numV tx (p - f) f 0 := by unfold tkN; rw [← hp]
          rw [← hft.1] at hQ
          refine hQ _ _ ⟨⟨?_, ?_, ?_⟩, fun q => ?_, fun q => ?_, by omega⟩ (hF.put (by omega) (by omega))
          · rw [u2_ne2 _ _ _ (by omega), e6, ← hp]
          · rw [u2_ne2 _ _ _ (by omega), e7]
          · rw [u2_self, hK]; rfl
          · rw [u2_ne2 _ _ _ (by omega), e10, hN, show min 2 (p - f) = p - f by omega]
          · rw [hK] at q; exact absurd q (by omega)
        · refine j_iconst (v := nI 5) dX10_nextToken_260 rfl rfl ?_
          refine j_goto (tgt := 265) dX10_nextToken_261 rfl ?_
          refine j_putI dX10_nextToken_265 rfl fX10_79 rfl (by decide) rfl rfl ?_
          refine j_goto (tgt := 296) dX10_nextToken_268 rfl ?_
          refine j_vret dX10_nextToken_296 rfl ?_
          have hp : p = tkE tx tl f := by
            unfold tkE
            rw [if_neg (by omega), if_neg hcw, if_pos hcn, ← hr]
            unfold runE; rw [if_neg (by omega)]
          have hK : tkK tx tl f = 4 := by unfold tkK; rw [if_neg (by omega), if_neg hcw, if_pos hcn, ← hp, if_neg (by omega)]
          have hN : tkN tx tl f = numV tx (p - f) f 0 := by unfold tkN; rw [← hp]
          rw [← hft.1] at hQ
          refine hQ _ _ ⟨⟨?_, ?_, ?_⟩, fun q => ?_, fun q => ?_, by omega⟩ (hF.put (by omega) (by omega))
          · rw [u2_ne2 _ _ _ (by omega), e6, ← hp]
          · rw [u2_ne2 _ _ _ (by omega), e7]
          · rw [u2_self, hK]; rfl
          · rw [hK] at q; exact absurd q (by omega)
          · rw [hK] at q; exact absurd q (by omega)
  have rest : ∀ (f : Nat) (Ia : HI), Ia 33 6 = nI f → Ftk I J Ia J → f = tkF tx tl b → f ≤ tl → Rj X (d + 1) 0 0 mX10_nextToken Q 26 [.ref 33, jU] [] n Ia J (Pg i0 i1) := by
    intro f Ia e6 hF hft hfl
    refine j_aload_n dX10_nextToken_26 rfl rfl rfl ?_
    refine j_aload_n dX10_nextToken_27 rfl rfl rfl ?_
    refine j_getIv (v := nI f) dX10_nextToken_28 rfl fX10_70 rfl (by decide) rfl e6 ?_
    refine j_putI dX10_nextToken_31 rfl fX10_76 rfl (by decide) rfl rfl ?_
    have hRa : MR (u2 Ia 33 7 (nI f)) tl tx := hR.fr (hF.put (by omega) (by omega))
    refine j_aload_n dX10_nextToken_34 rfl rfl rfl ?_
    refine j_aload_n dX10_nextToken_35 rfl rfl rfl ?_
    refine j_getIv (v := nI f) dX10_nextToken_36 rfl fX10_70 rfl (by decide) rfl e6 ?_
    refine j_callVw (As := [.int (nI f)]) dX10_nextToken_39 rfl cX10_73 (by decide) rfl rfl (by decide) rfl (by decide) rfl rfl (c_mletter hRa (by omega) (fun l1 => ?_) (fun l1 => ?_))
    · have h127 := hRa.2.2.2 f l1
      show Rj _ _ _ _ _ _ 42 [.ref 33, jU] [.int (nI (tx f))] n (u2 Ia 33 7 (nI f)) J (Pg i0 i1)
      refine j_istore_n (L' := [.ref 33, .int (nI (tx f))]) dX10_nextToken_42 rfl rfl rfl (by decide) rfl ?_
      refine j_iload_n dX10_nextToken_43 rfl rfl rfl ?_
      refine j_ifgeN (tgt := 55) dX10_nextToken_44 rfl rfl (by omega) (fun h2 => ?_) (fun h2 => by exfalso; omega)
      refine j_iload_n dX10_nextToken_55 rfl rfl rfl ?_
      refine j_bipush (v := nI 97) dX10_nextToken_56 rfl rfl ?_
      refine j_bipush (v := nI 122) dX10_nextToken_58 rfl rfl ?_
      refine j_callSw (As := [.int (nI (tx f)), .int (nI 97), .int (nI 122)]) dX10_nextToken_60 rfl cX10_50 rfl (by decide) rfl rfl (c_min (fun i3 => ?_) (fun i3 => ?_))
      · rw [inR_N (by omega) (by omega) (by omega)] at i3
        show Rj _ _ _ _ _ _ 63 [.ref 33, .int (nI (tx f))] [.int (nI 1)] n (u2 Ia 33 7 (nI f)) J (Pg i0 i1)
        refine j_ifeqN (tgt := 156) dX10_nextToken_63 rfl rfl (by decide) (fun h4 => by exfalso; omega) (fun h4 => ?_)
        refine j_aload_n dX10_nextToken_66 rfl rfl rfl ?_
        refine j_lconst (v := lN 0) dX10_nextToken_67 rfl rfl ?_
        refine j_putJ dX10_nextToken_68 rfl fX10_82 rfl (by decide) rfl rfl ?_
        refine lW (tl - f) f f _ _ _ ?_ ((hF.put (by omega) (by omega)).putJ) hfl (by omega) (by omega) (u2_self _ _ _ _) ?_ (by assumption) ⟨hft, by omega⟩ rfl
        · rw [u2_ne2 _ _ _ (by omega)]; exact e6
        · rw [u2_self]; unfold wdL; rw [if_pos (by omega), Nat.sub_self]; rfl
      · rw [inR_N (by omega) (by omega) (by omega)] at i3
        show Rj _ _ _ _ _ _ 63 [.ref 33, .int (nI (tx f))] [.int (nI 0)] n (u2 Ia 33 7 (nI f)) J (Pg i0 i1)
        refine j_ifeqN (tgt := 156) dX10_nextToken_63 rfl rfl (by decide) (fun h5 => ?_) (fun h5 => by exfalso; omega)
        refine j_iload_n dX10_nextToken_156 rfl rfl rfl ?_
        refine j_bipush (v := nI 48) dX10_nextToken_157 rfl rfl ?_
        refine j_bipush (v := nI 57) dX10_nextToken_159 rfl rfl ?_
        refine j_callSw (As := [.int (nI (tx f)), .int (nI 48), .int (nI 57)]) dX10_nextToken_161 rfl cX10_50 rfl (by decide) rfl rfl (c_min (fun i6 => ?_) (fun i6 => ?_))
        · rw [inR_N (by omega) (by omega) (by omega)] at i6
          show Rj _ _ _ _ _ _ 164 [.ref 33, .int (nI (tx f))] [.int (nI 1)] n (u2 Ia 33 7 (nI f)) J (Pg i0 i1)
          refine j_ifeqN (tgt := 271) dX10_nextToken_164 rfl rfl (by decide) (fun h7 => by exfalso; omega) (fun h7 => ?_)
          refine j_aload_n dX10_nextToken_167 rfl rfl rfl ?_
          refine j_iconst (v := nI 0) dX10_nextToken_168 rfl rfl ?_
          refine j_putI dX10_nextToken_169 rfl fX10_91 rfl (by decide) rfl rfl ?_
          refine lN_ (tl - f) f f _ _ _ ?_ ((hF.put (by omega) (by omega)).put (by omega) (by omega)) hfl (by omega) (by omega) ?_ ?_ (by assumption) (by assumption) ⟨hft, by omega⟩ rfl
          · rw [u2_ne2 _ _ _ (by omega), u2_ne2 _ _ _ (by omega)]; exact e6
          · rw [u2_ne2 _ _ _ (by omega), u2_self]
          · rw [u2_self, Nat.sub_self]; rfl
        · rw [inR_N (by omega) (by omega) (by omega)] at i6
          show Rj _ _ _ _ _ _ 164 [.ref 33, .int (nI (tx f))] [.int (nI 0)] n (u2 Ia 33 7 (nI f)) J (Pg i0 i1)
          refine j_ifeqN (tgt := 271) dX10_nextToken_164 rfl rfl (by decide) (fun h8 => ?_) (fun h8 => by exfalso; omega)
          refine j_aload_n dX10_nextToken_271 rfl rfl rfl ?_
          refine j_iload_n dX10_nextToken_272 rfl rfl rfl ?_
          refine j_bipush (v := nI 59) dX10_nextToken_273 rfl rfl ?_
          refine j_icmpneN (tgt := 282) dX10_nextToken_275 rfl rfl (by omega) (by decide) (fun h9 => ?_) (fun h9 => ?_)
          · refine j_iconst (v := nI 5) dX10_nextToken_282 rfl rfl ?_
            refine j_putI dX10_nextToken_283 rfl fX10_79 rfl (by decide) rfl rfl ?_
            refine j_aload_n dX10_nextToken_286 rfl rfl rfl ?_
            refine j_dup dX10_nextToken_287 rfl rfl ?_
            refine j_getIv (v := nI f) dX10_nextToken_288 rfl fX10_70 rfl (by decide) rfl e6 ?_
            refine j_iconst (v := nI 1) dX10_nextToken_291 rfl rfl ?_
            refine j_iaddN (c := f + 1) dX10_nextToken_292 rfl rfl ?_
            refine j_putI dX10_nextToken_293 rfl fX10_70 rfl (by decide) rfl rfl ?_
            refine j_vret dX10_nextToken_296 rfl ?_
            rw [← hft] at hQ
            have hK : tkK tx tl f = 4 := by unfold tkK; rw [if_neg (by omega), if_neg (by assumption), if_neg (by assumption), if_neg (by assumption)]
            have hE : tkE tx tl f = f + 1 := by unfold tkE; rw [if_neg (by omega), if_neg (by assumption), if_neg (by assumption)]
            refine hQ _ _ ⟨⟨?_, ?_, ?_⟩, fun q => ?_, fun q => ?_, hfl⟩ (((hF.put (by omega) (by omega)).put (by omega) (by omega)).put (by omega) (by omega))
            · rw [u2_self, hE]
            · rw [u2_ne2 _ _ _ (by omega), u2_ne2 _ _ _ (by omega), u2_self]
            · rw [u2_ne2 _ _ _ (by omega), u2_self, hK]; rfl
            · rw [hK] at q; exact absurd q (by omega)
            · rw [hK] at q; exact absurd q (by omega)
          · refine j_iconst (v := nI 3) dX10_nextToken_278 rfl rfl ?_
            refine j_goto (tgt := 283) dX10_nextToken_279 rfl ?_
            refine j_putI dX10_nextToken_283 rfl fX10_79 rfl (by decide) rfl rfl ?_
            refine j_aload_n dX10_nextToken_286 rfl rfl rfl ?_
            refine j_dup dX10_nextToken_287 rfl rfl ?_
            refine j_getIv (v := nI f) dX10_nextToken_288 rfl fX10_70 rfl (by decide) rfl e6 ?_
            refine j_iconst (v := nI 1) dX10_nextToken_291 rfl rfl ?_
            refine j_iaddN (c := f + 1) dX10_nextToken_292 rfl rfl ?_
            refine j_putI dX10_nextToken_293 rfl fX10_70 rfl (by decide) rfl rfl ?_
            refine j_vret dX10_nextToken_296 rfl ?_
            rw [← hft] at hQ
            have hK : tkK tx tl f = 3 := by unfold tkK; rw [if_neg (by omega), if_neg (by assumption), if_neg (by assumption), if_pos (by assumption)]
            have hE : tkE tx tl f = f + 1 := by unfold tkE; rw [if_neg (by omega), if_neg (by assumption), if_neg (by assumption)]
            refine hQ _ _ ⟨⟨?_, ?_, ?_⟩, fun q => ?_, fun q => ?_, hfl⟩ (((hF.put (by omega) (by omega)).put (by omega) (by omega)).put (by omega) (by omega))
            · rw [u2_self, hE]
            · rw [u2_ne2 _ _ _ (by omega), u2_ne2 _ _ _ (by omega), u2_self]
            · rw [u2_ne2 _ _ _ (by omega), u2_self, hK]; rfl
            · rw [hK] at q; exact absurd q (by omega)
            · rw [hK] at q; exact absurd q (by omega)
    · show Rj _ _ _ _ _ _ 42 [.ref 33, jU] [.int (-1)] n (u2 Ia 33 7 (nI f)) J (Pg i0 i1)
      refine j_istore_n (L' := [.ref 33, .int (-1)]) dX10_nextToken_42 rfl rfl rfl (by decide) rfl ?_
      refine j_iload_n dX10_nextToken_43 rfl rfl rfl ?_
      refine j_ifge (tgt := 55) dX10_nextToken_44 rfl rfl (fun h10 => by exfalso; exact absurd h10 (by decide)) (fun h10 => ?_)
      refine j_aload_n dX10_nextToken_47 rfl rfl rfl ?_
      refine j_iconst (v := nI 4) dX10_nextToken_48 rfl rfl ?_
      refine j_putI dX10_nextToken_49 rfl fX10_79 rfl (by decide) rfl rfl ?_
      refine j_goto (tgt := 296) dX10_nextToken_52 rfl ?_
      refine j_vret dX10_nextToken_296 rfl ?_
      rw [← hft] at hQ
      have hK : tkK tx tl f = 0 := by unfold tkK; rw [if_pos (by omega)]
      have hE : tkE tx tl f = f := by unfold tkE; rw [if_pos (by omega)]
      refine hQ _ _ ⟨⟨?_, ?_, ?_⟩, fun q => ?_, fun q => ?_, hfl⟩ ((hF.put (by omega) (by omega)).put (by omega) (by omega))
      · rw [u2_ne2 _ _ _ (by omega), u2_ne2 _ _ _ (by omega), e6, hE]
      · rw [u2_ne2 _ _ _ (by omega), u2_self]
      · rw [u2_self, hK]; rfl
      · rw [hK] at q; exact absurd q (by omega)
      · rw [hK] at q; exact absurd q (by omega)
  have lA : ∀ (r p : Nat) (Ia : HI), Ia 33 6 = nI p → Ftk I J Ia J → p ≤ tl → p + r = tl → runE tx tl 32 32 r p = tkF tx tl b → Rj X (d + 1) 0 0 mX10_nextToken Q 0 [.ref 33, jU] [] n Ia J (Pg i0 i1) := by
    intro r
    induction r with
    | zero =>
      intro p Ia e6 hF hpl hrl hr
      have hRa : MR Ia tl tx := hR.fr hF
      have h150 := hR.2.2.1
      refine j_aload_n dX10_nextToken_0 rfl rfl rfl ?_
      refine j_aload_n dX10_nextToken_1 rfl rfl rfl ?_
      refine j_getIv (v := nI p) dX10_nextToken_2 rfl fX10_70 rfl (by decide) rfl e6 ?_
      refine j_callVw (As := [.int (nI p)]) dX10_nextToken_5 rfl cX10_73 (by decide) rfl rfl (by decide) rfl (by decide) rfl rfl (c_mletter hRa (by omega) (fun l1 => ?_) (fun l1 => ?_))
      · have h127 := hRa.2.2.2 p l1
        show Rj _ _ _ _ _ _ 8 [.ref 33, jU] [.int (nI (tx p))] n Ia J (Pg i0 i1)
        refine j_bipush (v := nI 32) dX10_nextToken_8 rfl rfl ?_
        refine j_icmpneN (tgt := 26) dX10_nextToken_10 rfl rfl (by omega) (by decide) (fun h2 => ?_) (fun h2 => ?_)
        · have hp : p = tkF tx tl b := by rw [← hr]; rfl
          exact rest p Ia e6 hF hp hpl
        · refine j_aload_n dX10_nextToken_13 rfl rfl rfl ?_
          refine j_dup dX10_nextToken_14 rfl rfl ?_
          refine j_getIv (v := nI p) dX10_nextToken_15 rfl fX10_70 rfl (by decide) rfl e6 ?_
          refine j_iconst (v := nI 1) dX10_nextToken_18 rfl rfl ?_
          refine j_iaddN (c := p + 1) dX10_nextToken_19 rfl rfl ?_
          refine j_putI dX10_nextToken_20 rfl fX10_70 rfl (by decide) rfl rfl ?_
          refine j_goto (tgt := 0) dX10_nextToken_23 rfl ?_
          first
            | (exfalso; omega)
            | exact absurd (by assumption) (show ¬ (-1 : Int32) = nI 32 by decide)
      · show Rj _ _ _ _ _ _ 8 [.ref 33, jU] [.int (-1)] n Ia J (Pg i0 i1)
        refine j_bipush (v := nI 32) dX10_nextToken_8 rfl rfl ?_
        refine j_icmpne (tgt := 26) dX10_nextToken_10 rfl rfl (fun h3 => ?_) (fun h3 => ?_)
        · have hp : p = tkF tx tl b := by rw [← hr]; rfl
          exact rest p Ia e6 hF hp hpl
        · refine j_aload_n dX10_nextToken_13 rfl rfl rfl ?_
          refine j_dup dX10_nextToken_14 rfl rfl ?_
          refine j_getIv (v := nI p) dX10_nextToken_15 rfl fX10_70 rfl (by decide) rfl e6 ?_
          refine j_iconst (v := nI 1) dX10_nextToken_18 rfl rfl ?_
          refine j_iaddN (c := p + 1) dX10_nextToken_19 rfl rfl ?_
          refine j_putI dX10_nextToken_20 rfl fX10_70 rfl (by decide) rfl rfl ?_
          refine j_goto (tgt := 0) dX10_nextToken_23 rfl ?_
          first
            | (exfalso; omega)
            | exact absurd (by assumption) (show ¬ (-1 : Int32) = nI 32 by decide)
    | succ r ih =>
      intro p Ia e6 hF hpl hrl hr
      have hRa : MR Ia tl tx := hR.fr hF
      have h150 := hR.2.2.1
      refine j_aload_n dX10_nextToken_0 rfl rfl rfl ?_
      refine j_aload_n dX10_nextToken_1 rfl rfl rfl ?_
      refine j_getIv (v := nI p) dX10_nextToken_2 rfl fX10_70 rfl (by decide) rfl e6 ?_
      refine j_callVw (As := [.int (nI p)]) dX10_nextToken_5 rfl cX10_73 (by decide) rfl rfl (by decide) rfl (by decide) rfl rfl (c_mletter hRa (by omega) (fun l1 => ?_) (fun l1 => ?_))
      · have h127 := hRa.2.2.2 p l1
        show Rj _ _ _ _ _ _ 8 [.ref 33, jU] [.int (nI (tx p))] n Ia J (Pg i0 i1)
        refine j_bipush (v := nI 32) dX10_nextToken_8 rfl rfl ?_
        refine j_icmpneN (tgt := 26) dX10_nextToken_10 rfl rfl (by omega) (by decide) (fun h2 => ?_) (fun h2 => ?_)
        · have hp : p = tkF tx tl b := by rw [← hr]; unfold runE; rw [if_neg (by omega)]
          exact rest p Ia e6 hF hp hpl
        · refine j_aload_n dX10_nextToken_13 rfl rfl rfl ?_
          refine j_dup dX10_nextToken_14 rfl rfl ?_
          refine j_getIv (v := nI p) dX10_nextToken_15 rfl fX10_70 rfl (by decide) rfl e6 ?_
          refine j_iconst (v := nI 1) dX10_nextToken_18 rfl rfl ?_
          refine j_iaddN (c := p + 1) dX10_nextToken_19 rfl rfl ?_
          refine j_putI dX10_nextToken_20 rfl fX10_70 rfl (by decide) rfl rfl ?_
          refine j_goto (tgt := 0) dX10_nextToken_23 rfl ?_
          first
            | exact absurd (by assumption) (show ¬ (-1 : Int32) = nI 32 by decide)
            | (refine ih (p + 1) _ (u2_self _ _ _ _) (hF.put (by omega) (by omega)) (by omega) (by omega) ?_
               rw [← hr]; conv => rhs; unfold runE
               rw [if_pos (by omega)])
      · show Rj _ _ _ _ _ _ 8 [.ref 33, jU] [.int (-1)] n Ia J (Pg i0 i1)
        refine j_bipush (v := nI 32) dX10_nextToken_8 rfl rfl ?_
        refine j_icmpne (tgt := 26) dX10_nextToken_10 rfl rfl (fun h3 => ?_) (fun h3 => ?_)
        · have hp : p = tkF tx tl b := by rw [← hr]; unfold runE; rw [if_neg (by omega)]
          exact rest p Ia e6 hF hp hpl
        · refine j_aload_n dX10_nextToken_13 rfl rfl rfl ?_
          refine j_dup dX10_nextToken_14 rfl rfl ?_
          refine j_getIv (v := nI p) dX10_nextToken_15 rfl fX10_70 rfl (by decide) rfl e6 ?_
          refine j_iconst (v := nI 1) dX10_nextToken_18 rfl rfl ?_
          refine j_iaddN (c := p + 1) dX10_nextToken_19 rfl rfl ?_
          refine j_putI dX10_nextToken_20 rfl fX10_70 rfl (by decide) rfl rfl ?_
          refine j_goto (tgt := 0) dX10_nextToken_23 rfl ?_
          first
            | exact absurd (by assumption) (show ¬ (-1 : Int32) = nI 32 by decide)
            | (refine ih (p + 1) _ (u2_self _ _ _ _) (hF.put (by omega) (by omega)) (by omega) (by omega) ?_
               rw [← hr]; conv => rhs; unfold runE
               rw [if_pos (by omega)])
  exact lA (tl - b) b I hb6 Ftk.rf hbl (by omega) rfl
