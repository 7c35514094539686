def lcg (x : Nat) : Nat := (x * 1103515245 + 12345) % 2147483648
theorem lcg_lt (x : Nat) : lcg x < 2147483648 := Nat.mod_lt _ (by omega)
def sdL (v : VT) (y w x p l : Nat) : Nat := if x / 65536 % 100 < w ∧ 0 < l - gos (v 1 p) (v 0 0 + y) (v 0 1) (v 0 2) then l - gos (v 1 p) (v 0 0 + y) (v 0 1) (v 0 2) - 1 else l - gos (v 1 p) (v 0 0 + y) (v 0 1) (v 0 2)
theorem sdL_le (v : VT) (y w x p l : Nat) : sdL v y w x p l ≤ l := by unfold sdL; split <;> omega
def sdP (v : VT) (y w : Nat) : Nat → Nat → Nat → (Nat → Nat) → Nat × (Nat → Nat)
  | 0, _, x, h => (x, h)
  | r + 1, p, x, h => sdP v y w r (p + 1) (lcg x) (fun q => if q = p then sdL v y w (lcg x) p (h p) else h q)
def sdY (v : VT) (w : Nat) : Nat → Nat → Nat → (Nat → Nat) → Nat × (Nat → Nat)
  | 0, _, x, h => (x, h)
  | r + 1, y, x, h => sdY v w r (y + 1) (sdP v y w (v 0 3) 0 x h).1 (sdP v y w (v 0 3) 0 x h).2
set_option maxHeartbeats 4000000 in
set_option maxRecDepth 100000 in
theorem c_loavesBySeed {X : jX} {d n : Nat} {I : HI} {J : HJ} {i0 i1 : Option Nat} {Q : jPost} {v : VT} {yb : Nat} (hV : VC 1 I v) (hW : WF yb v) (hyb : yb ≤ 2 ^ 20) {seed nn w XT : Nat} {HT : Nat → Nat} (hse : seed ≤ 999999) (hn : nn ≤ 60) (hw : w ≤ 100) (hT : sdY v w nn 0 seed (v 2) = (XT, HT)) (hQ : ∀ f, Q (some (.int (nI (sumN HT (v 0 3))))) n (ur I 27 f) J (Pg i0 i1)) : Cj X (d + 3) 0 0 mX1_loavesBySeed [.ref 26, .ref 1, .int (nI seed), .int (nI nn), .int (nI w)] n I J (Pg i0 i1) Q := by
  refine Cj.intro rfl (Nat.le_of_ble_eq_true rfl) (L := [.ref 26, .ref 1, .int (nI seed), .int (nI nn), .int (nI w), jU, jU, jU, jU]) rfl ?_
  obtain ⟨⟨w0, w1, w2, w3, w4, w5, w6⟩, wp, wk, wc, wj⟩ := id hW
  have fin : ∀ (x y : Nat) (z : Value) (f : Nat → Int32), (∀ q, q < v 0 3 → f q = nI (HT q)) → (∀ q, q < v 0 3 → HT q ≤ 60) → Rj X (d + 3) 0 0 mX1_loavesBySeed Q 128 [.ref 26, .ref 1, .int (nI seed), .int (nI nn), .int (nI w), .long (lN x), jU, .int (nI y), z] [] n (ur I 27 f) J (Pg i0 i1) := by
    intro x y z f hf hh
    have hV2 : VC 1 (ur I 27 f) v := hV.congr (fun i hi => ur_ne I f (by omega))
    have sm : ∀ r p a : Nat, p + r = v 0 3 → a = sumN HT p → Rj X (d + 3) 0 0 mX1_loavesBySeed Q 134 [.ref 26, .ref 1, .int (nI seed), .int (nI nn), .int (nI w), .long (lN x), jU, .int (nI a), .int (nI p)] [] n (ur I 27 f) J (Pg i0 i1) := by
      intro r
      induction r with
      | zero =>
        intro p a hpr ha
        refine j_iload dX1_loavesBySeed_134 rfl rfl ?_
        refine j_aload_n dX1_loavesBySeed_136 rfl rfl rfl ?_
        refine j_getIv (v := nI (v 0 3)) dX1_loavesBySeed_137 rfl fX1_57 rfl (by decide) rfl hV2.pairs ?_
        refine j_icmpgeN (tgt := 161) dX1_loavesBySeed_140 rfl rfl (by omega) (by omega) (fun h1 => ?_) (fun h1 => by exfalso; omega)
        refine j_iload dX1_loavesBySeed_161 rfl rfl ?_
        refine j_iret dX1_loavesBySeed_163 rfl rfl ?_
        have hp : p = v 0 3 := by omega
        subst hp; subst ha; exact hQ f
      | succ r ih =>
        intro p a hpr ha
        have hb := hh p (by omega)
        have hs := sumN_le (b := 60) p (fun q hq => hh q (by omega))
        refine j_iload dX1_loavesBySeed_134 rfl rfl ?_
        refine j_aload_n dX1_loavesBySeed_136 rfl rfl rfl ?_
        refine j_getIv (v := nI (v 0 3)) dX1_loavesBySeed_137 rfl fX1_57 rfl (by decide) rfl hV2.pairs ?_
        refine j_icmpgeN (tgt := 161) dX1_loavesBySeed_140 rfl rfl (by omega) (by omega) (fun h1 => by exfalso; omega) (fun h1 => ?_)
        refine j_iload dX1_loavesBySeed_143 rfl rfl ?_
        refine j_aload_n dX1_loavesBySeed_145 rfl rfl rfl ?_
        refine j_getP (b := 27) dX1_loavesBySeed_146 rfl fX1_9 rfl (by decide) rfl rfl ?_
        refine j_iload dX1_loavesBySeed_149 rfl rfl ?_
        refine j_iald (j := p) (v := nI (HT p)) dX1_loavesBySeed_151 rfl rfl (by decide) rfl (by omega) (by decide) (by rw [ur_row]; exact hf p (by omega)) ?_
        refine j_iaddN (c := a + (HT p)) dX1_loavesBySeed_152 rfl rfl ?_
        refine j_istore (L' := [.ref 26, .ref 1, .int (nI seed), .int (nI nn), .int (nI w), .long (lN x), jU, .int (nI (a + (HT p))), .int (nI p)]) dX1_loavesBySeed_153 rfl rfl (by decide) rfl ?_
        refine j_iincN (L' := [.ref 26, .ref 1, .int (nI seed), .int (nI nn), .int (nI w), .long (lN x), jU, .int (nI (a + (HT p))), .int (nI (p + 1))]) dX1_loavesBySeed_155 rfl rfl (b := 1) rfl rfl rfl (by decide) rfl ?_
        refine j_goto (tgt := 134) dX1_loavesBySeed_158 rfl ?_
        exact ih (p + 1) _ (by omega) (by rw [ha]; rfl)
    refine j_iconst (v := nI 0) dX1_loavesBySeed_128 rfl rfl ?_
    refine j_istore (L' := [.ref 26, .ref 1, .int (nI seed), .int (nI nn), .int (nI w), .long (lN x), jU, .int (nI 0), z]) dX1_loavesBySeed_129 rfl rfl (by decide) rfl ?_
    refine j_iconst (v := nI 0) dX1_loavesBySeed_131 rfl rfl ?_
    refine j_istore (L' := [.ref 26, .ref 1, .int (nI seed), .int (nI nn), .int (nI w), .long (lN x), jU, .int (nI 0), .int (nI 0)]) dX1_loavesBySeed_132 rfl rfl (by decide) rfl ?_
    exact sm (v 0 3) 0 0 (by omega) rfl
  have outer : ∀ (r y x : Nat) (h : Nat → Nat) (f : Nat → Int32) (z : Value), y + r = nn → x < 2147483648 → (∀ q, q < v 0 3 → f q = nI (h q)) → (∀ q, q < v 0 3 → h q ≤ 60) → sdY v w r y x h = (XT, HT) → Rj X (d + 3) 0 0 mX1_loavesBySeed Q 22 [.ref 26, .ref 1, .int (nI seed), .int (nI nn), .int (nI w), .long (lN x), jU, .int (nI y), z] [] n (ur I 27 f) J (Pg i0 i1) := by
    intro r
    induction r with
    | zero =>
      intro y x h f z hyr hx hf hh hr
      simp only [sdY, Prod.mk.injEq] at hr
      obtain ⟨rfl, rfl⟩ := hr
      refine j_iload dX1_loavesBySeed_22 rfl rfl ?_
      refine j_iload_n dX1_loavesBySeed_24 rfl rfl rfl ?_
      refine j_icmpgeN (tgt := 128) dX1_loavesBySeed_25 rfl rfl (by omega) (by omega) (fun h1 => ?_) (fun h1 => by exfalso; omega)
      exact fin _ _ _ f hf hh
    | succ r ih =>
      intro y x h f z hyr hx hf hh hr
      obtain ⟨X1, H1, hsp⟩ : ∃ X1 H1, sdP v y w (v 0 3) 0 x h = (X1, H1) := ⟨_, _, rfl⟩
      have hrr : sdY v w r (y + 1) X1 H1 = (XT, HT) := by
        rw [← hr]
        conv => rhs; unfold sdY
        rw [hsp]
      have inner : ∀ (r2 p x : Nat) (h : Nat → Nat) (f : Nat → Int32), p + r2 = v 0 3 → x < 2147483648 → (∀ q, q < v 0 3 → f q = nI (h q)) → (∀ q, q < v 0 3 → h q ≤ 60) → sdP v y w r2 p x h = (X1, H1) → Rj X (d + 3) 0 0 mX1_loavesBySeed Q 31 [.ref 26, .ref 1, .int (nI seed), .int (nI nn), .int (nI w), .long (lN x), jU, .int (nI y), .int (nI p)] [] n (ur I 27 f) J (Pg i0 i1) := by
        intro r2
        induction r2 with
        | zero =>
          intro p x h f hpr hx hf hh hr
          have hV2 : VC 1 (ur I 27 f) v := hV.congr (fun i hi => ur_ne I f (by omega))
          refine j_iload dX1_loavesBySeed_31 rfl rfl ?_
          refine j_aload_n dX1_loavesBySeed_33 rfl rfl rfl ?_
          refine j_getIv (v := nI (v 0 3)) dX1_loavesBySeed_34 rfl fX1_57 rfl (by decide) rfl hV2.pairs ?_
          refine j_icmpgeN (tgt := 122) dX1_loavesBySeed_37 rfl rfl (by omega) (by omega) (fun h1 => ?_) (fun h1 => by exfalso; omega)
          refine j_iincN (L' := [.ref 26, .ref 1, .int (nI seed), .int (nI nn), .int (nI w), .long (lN x), jU, .int (nI (y + 1)), .int (nI p)]) dX1_loavesBySeed_122 rfl rfl (b := 1) rfl rfl rfl (by decide) rfl ?_
          refine j_goto (tgt := 22) dX1_loavesBySeed_125 rfl ?_
          simp only [sdP, Prod.mk.injEq] at hr
          obtain ⟨rfl, rfl⟩ := hr
          exact ih (y + 1) _ _ _ _ (by omega) hx hf hh hrr
        | succ r2 ih2 =>
          intro p x h f hpr hx hf hh hr
          have hV2 : VC 1 (ur I 27 f) v := hV.congr (fun i hi => ur_ne I f (by omega))
          obtain ⟨q1, q2, q3, q4, q5⟩ := wp p (by omega)
          have hb := hh p (by omega)
          have hlc := lcg_lt x
          refine j_iload dX1_loavesBySeed_31 rfl rfl ?_
          refine j_aload_n dX1_loavesBySeed_33 rfl rfl rfl ?_
          refine j_getIv (v := nI (v 0 3)) dX1_loavesBySeed_34 rfl fX1_57 rfl (by decide) rfl hV2.pairs ?_
          refine j_icmpgeN (tgt := 122) dX1_loavesBySeed_37 rfl rfl (by omega) (by omega) (fun h1 => by exfalso; omega) (fun h1 => ?_)
          refine j_lload dX1_loavesBySeed_40 rfl rfl ?_
          refine j_ldc2 (v := lN 1103515245) dX1_loavesBySeed_42 rfl kX1_74 ?_
          refine j_lmulN (c := x * 1103515245) dX1_loavesBySeed_45 rfl rfl ?_
          refine j_ldc2 (v := lN 12345) dX1_loavesBySeed_46 rfl kX1_76 ?_
          refine j_laddN (c := (x * 1103515245) + 12345) dX1_loavesBySeed_49 rfl rfl ?_
          refine j_ldc2 (v := lN 2147483648) dX1_loavesBySeed_50 rfl kX1_78 ?_
          refine j_lremN (c := ((x * 1103515245) + 12345) % 2147483648) dX1_loavesBySeed_53 rfl (by omega) (by decide) (by decide) rfl ?_
          show Rj _ _ _ _ _ _ 54 [.ref 26, .ref 1, .int (nI seed), .int (nI nn), .int (nI w), .long (lN x), jU, .int (nI y), .int (nI p)] [.long (lN (lcg x))] n (ur I 27 f) J (Pg i0 i1)
          refine j_lstore (L' := [.ref 26, .ref 1, .int (nI seed), .int (nI nn), .int (nI w), .long (lN (lcg x)), jU, .int (nI y), .int (nI p)]) dX1_loavesBySeed_54 rfl rfl (by decide) rfl ?_
          refine j_aload_n dX1_loavesBySeed_56 rfl rfl rfl ?_
          refine j_getP (b := 27) dX1_loavesBySeed_57 rfl fX1_9 rfl (by decide) rfl rfl ?_
          refine j_iload dX1_loavesBySeed_60 rfl rfl ?_
          refine j_aload_n dX1_loavesBySeed_62 rfl rfl rfl ?_
          refine j_aload_n dX1_loavesBySeed_63 rfl rfl rfl ?_
          refine j_getP (b := 27) dX1_loavesBySeed_64 rfl fX1_9 rfl (by decide) rfl rfl ?_
          refine j_iload dX1_loavesBySeed_67 rfl rfl ?_
          refine j_iald (j := p) (v := nI (h p)) dX1_loavesBySeed_69 rfl rfl (by decide) rfl (by omega) (by decide) (by rw [ur_row]; exact hf p (by omega)) ?_
          refine j_iload dX1_loavesBySeed_70 rfl rfl ?_
          refine j_iload dX1_loavesBySeed_72 rfl rfl ?_
          refine j_callVw (As := [.int (nI (h p)), .int (nI p), .int (nI y)]) dX1_loavesBySeed_74 rfl cX1_34 (by decide) rfl rfl (by decide) rfl (Nat.le_of_ble_eq_true rfl) rfl rfl (c_leftInYear hV2 (by omega) (by omega) (by omega) (by omega) (by omega) (by omega) (by omega) ?_)
          show Rj _ _ _ _ _ _ 77 [.ref 26, .ref 1, .int (nI seed), .int (nI nn), .int (nI w), .long (lN (lcg x)), jU, .int (nI y), .int (nI p)] [.int (nI ((h p) - gos (v 1 p) (v 0 0 + y) (v 0 1) (v 0 2))), .int (nI p), .ref 27] n (ur I 27 f) J (Pg i0 i1)
          refine j_iast (j := p) dX1_loavesBySeed_77 rfl rfl (by decide) rfl (by omega) (by decide) ?_
          refine j_lload dX1_loavesBySeed_78 rfl rfl ?_
          refine j_ldc2 (v := lN 65536) dX1_loavesBySeed_80 rfl kX1_80 ?_
          refine j_ldivN (c := (lcg x) / 65536) dX1_loavesBySeed_83 rfl (by omega) (by decide) (by decide) rfl ?_
          refine j_ldc2 (v := lN 100) dX1_loavesBySeed_84 rfl kX1_82 ?_
          refine j_lremN (c := ((lcg x) / 65536) % 100) dX1_loavesBySeed_87 rfl (by omega) (by decide) (by decide) rfl ?_
          refine j_iload dX1_loavesBySeed_88 rfl rfl ?_
          refine j_i2lN dX1_loavesBySeed_90 rfl (by omega) ?_
          refine j_lcmp dX1_loavesBySeed_91 rfl ?_
          refine j_ifgeL (tgt := 116) dX1_loavesBySeed_92 rfl rfl (by omega) (by omega) (fun h2 => ?_) (fun h2 => ?_)
          · refine j_iincN (L' := [.ref 26, .ref 1, .int (nI seed), .int (nI nn), .int (nI w), .long (lN (lcg x)), jU, .int (nI y), .int (nI (p + 1))]) dX1_loavesBySeed_116 rfl rfl (b := 1) rfl rfl rfl (by decide) rfl ?_
            refine j_goto (tgt := 31) dX1_loavesBySeed_119 rfl ?_
            rw [u2_ur]
            refine ih2 (p + 1) (lcg x) (fun q => if q = p then sdL v y w (lcg x) p (h p) else h q) _ (by omega) (lcg_lt x) (fun q hq => ?_) (fun q hq => ?_) hr
            · by_cases hqp : q = p
              · subst hqp; simp only [if_true, sdL]; rw [if_neg (by omega)]
              · simp only [if_neg hqp]; exact hf q hq
            · by_cases hqp : q = p
              · subst hqp; simp only [if_true]; exact Nat.le_trans (sdL_le _ _ _ _ _ _) hb
              · simp only [if_neg hqp]; exact hh q hq
          · refine j_aload_n dX1_loavesBySeed_95 rfl rfl rfl ?_
            refine j_getP (b := 27) dX1_loavesBySeed_96 rfl fX1_9 rfl (by decide) rfl rfl ?_
            refine j_iload dX1_loavesBySeed_99 rfl rfl ?_
            refine j_iald (j := p) (v := nI ((h p) - gos (v 1 p) (v 0 0 + y) (v 0 1) (v 0 2))) dX1_loavesBySeed_101 rfl rfl (by decide) rfl (by omega) (by decide) (by simp [u2]) ?_
            refine j_ifleN (tgt := 116) dX1_loavesBySeed_102 rfl rfl (by omega) (fun h3 => ?_) (fun h3 => ?_)
            · refine j_iincN (L' := [.ref 26, .ref 1, .int (nI seed), .int (nI nn), .int (nI w), .long (lN (lcg x)), jU, .int (nI y), .int (nI (p + 1))]) dX1_loavesBySeed_116 rfl rfl (b := 1) rfl rfl rfl (by decide) rfl ?_
              refine j_goto (tgt := 31) dX1_loavesBySeed_119 rfl ?_
              rw [u2_ur]
              refine ih2 (p + 1) (lcg x) (fun q => if q = p then sdL v y w (lcg x) p (h p) else h q) _ (by omega) (lcg_lt x) (fun q hq => ?_) (fun q hq => ?_) hr
              · by_cases hqp : q = p
                · subst hqp; simp only [if_true, sdL]; rw [if_neg (by omega)]
                · simp only [if_neg hqp]; exact hf q hq
              · by_cases hqp : q = p
                · subst hqp; simp only [if_true]; exact Nat.le_trans (sdL_le _ _ _ _ _ _) hb
                · simp only [if_neg hqp]; exact hh q hq
            · refine j_aload_n dX1_loavesBySeed_105 rfl rfl rfl ?_
              refine j_getP (b := 27) dX1_loavesBySeed_106 rfl fX1_9 rfl (by decide) rfl rfl ?_
              refine j_iload dX1_loavesBySeed_109 rfl rfl ?_
              refine j_dup2 dX1_loavesBySeed_111 rfl rfl rfl ?_
              refine j_iald (j := p) (v := nI ((h p) - gos (v 1 p) (v 0 0 + y) (v 0 1) (v 0 2))) dX1_loavesBySeed_112 rfl rfl (by decide) rfl (by omega) (by decide) (by simp [u2]) ?_
              refine j_iconst (v := nI 1) dX1_loavesBySeed_113 rfl rfl ?_
              refine j_isubN (c := ((h p) - gos (v 1 p) (v 0 0 + y) (v 0 1) (v 0 2)) - 1) dX1_loavesBySeed_114 rfl (by omega) rfl ?_
              refine j_iast (j := p) dX1_loavesBySeed_115 rfl rfl (by decide) rfl (by omega) (by decide) ?_
              refine j_iincN (L' := [.ref 26, .ref 1, .int (nI seed), .int (nI nn), .int (nI w), .long (lN (lcg x)), jU, .int (nI y), .int (nI (p + 1))]) dX1_loavesBySeed_116 rfl rfl (b := 1) rfl rfl rfl (by decide) rfl ?_
              refine j_goto (tgt := 31) dX1_loavesBySeed_119 rfl ?_
              rw [u2_ur, u2_ur]
              refine ih2 (p + 1) (lcg x) (fun q => if q = p then sdL v y w (lcg x) p (h p) else h q) _ (by omega) (lcg_lt x) (fun q hq => ?_) (fun q hq => ?_) hr
              · by_cases hqp : q = p
                · subst hqp; simp only [if_true, sdL]; rw [if_pos ⟨by omega, by omega⟩]
                · simp only [if_neg hqp]; exact hf q hq
              · by_cases hqp : q = p
                · subst hqp; simp only [if_true]; exact Nat.le_trans (sdL_le _ _ _ _ _ _) hb
                · simp only [if_neg hqp]; exact hh q hq
      refine j_iload dX1_loavesBySeed_22 rfl rfl ?_
      refine j_iload_n dX1_loavesBySeed_24 rfl rfl rfl ?_
      refine j_icmpgeN (tgt := 128) dX1_loavesBySeed_25 rfl rfl (by omega) (by omega) (fun h1 => by exfalso; omega) (fun h1 => ?_)
      refine j_iconst (v := nI 0) dX1_loavesBySeed_28 rfl rfl ?_
      refine j_istore (L' := [.ref 26, .ref 1, .int (nI seed), .int (nI nn), .int (nI w), .long (lN x), jU, .int (nI y), .int (nI 0)]) dX1_loavesBySeed_29 rfl rfl (by decide) rfl ?_
      exact inner (v 0 3) 0 x h f (by omega) hx hf hh hsp
  refine j_aload_n dX1_loavesBySeed_0 rfl rfl rfl ?_
  refine j_getP (b := 3) dX1_loavesBySeed_1 rfl fX1_31 rfl (by decide) rfl rfl ?_
  refine j_iconst (v := nI 0) dX1_loavesBySeed_4 rfl rfl ?_
  refine j_aload_n dX1_loavesBySeed_5 rfl rfl rfl ?_
  refine j_getP (b := 27) dX1_loavesBySeed_6 rfl fX1_9 rfl (by decide) rfl rfl ?_
  refine j_iconst (v := nI 0) dX1_loavesBySeed_9 rfl rfl ?_
  refine j_bipush (v := nI 6) dX1_loavesBySeed_10 rfl rfl ?_
  refine j_copy (sp := 0) (dp := 0) (cn := 6) dX1_loavesBySeed_12 rfl cX1_41 jvw_an jvw_as jvw_ai rfl rfl (by decide) (by decide) rfl rfl rfl (by decide) (by decide) (by decide) (by decide) (by decide) ?_
  refine j_iload_n dX1_loavesBySeed_15 rfl rfl rfl ?_
  refine j_i2lN dX1_loavesBySeed_16 rfl (by omega) ?_
  refine j_lstore (L' := [.ref 26, .ref 1, .int (nI seed), .int (nI nn), .int (nI w), .long (lN seed), jU, jU, jU]) dX1_loavesBySeed_17 rfl rfl (by decide) rfl ?_
  refine j_iconst (v := nI 0) dX1_loavesBySeed_19 rfl rfl ?_
  refine j_istore (L' := [.ref 26, .ref 1, .int (nI seed), .int (nI nn), .int (nI w), .long (lN seed), jU, .int (nI 0), jU]) dX1_loavesBySeed_20 rfl rfl (by decide) rfl ?_
  refine outer nn 0 seed (v 2) _ _ (by omega) (by omega) (fun p hp => ?_) (fun p hp => (wp p hp).2.1) hT
  rw [pk_cpy_in (by omega) (by omega), show 0 + (p - 0) = p by omega]
  exact hV.lv hp
