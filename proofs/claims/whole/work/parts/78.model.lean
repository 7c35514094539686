theorem u2_in {α : Type} (I : Nat → Nat → α) (F G : Nat → α) (k : Nat) (x : α) : u2 (ur (ur I 42 F) 43 G) 42 k x = ur (ur I 42 (fun j => if j = k then x else F j)) 43 G := by
  funext a j
  by_cases h1 : a = 43
  · simp [u2, ur, h1]
  · by_cases h2 : a = 42
    · simp [u2, ur, h2]
    · simp [u2, ur, h1, h2]
theorem MI.frc {S : SS} {I : HI} {J J' : HJ} {a b : Nat} (h : MI S I J) (h1 : J' 33 12 = lN a) (h2 : J' 33 13 = lN b) : MI (S.frc a b) I J' := ⟨h.1, h.2.1, h.2.2.1, ⟨h1, h2⟩, h.2.2.2.2.1, h.2.2.2.2.2⟩
set_option maxHeartbeats 4000000 in
set_option maxRecDepth 100000 in
theorem c_mtell {X : jX} {d n : Nat} {I : HI} {J : HJ} {i0 i1 : Option Nat} {Q : jPost} {a b : Nat} (hab : a ≤ b) (hb0 : 0 < b) (hb : b ≤ 10 ^ 12) (hQ : Q none n I (u2 (u2 J 33 12 (lN (a / Nat.gcd a b))) 33 13 (lN (b / Nat.gcd a b))) (Pg i0 i1)) : Cj X d 0 0 mX10_tell [.ref 33, .long (lN a), .long (lN b)] n I J (Pg i0 i1) Q := by
  refine Cj.intro rfl (Nat.le_of_ble_eq_true rfl) (L := [.ref 33, .long (lN a), jU, .long (lN b), jU, jU, jU, jU, jU, jU, jU]) rfl ?_
  have hb63 : (10 : Nat) ^ 12 < 2 ^ 63 := by decide
  have hg0 : 0 < Nat.gcd a b := Nat.gcd_pos_of_pos_right a hb0
  have hgb : Nat.gcd a b ≤ b := Nat.gcd_le_right a hb0
  have loop : ∀ (r x y : Nat) (z : Value), y ≤ r → x ≤ 10 ^ 12 → y ≤ 10 ^ 12 → Nat.gcd x y = Nat.gcd a b → Rj X d 0 0 mX10_tell Q 6 [.ref 33, .long (lN a), jU, .long (lN b), jU, .long (lN x), jU, .long (lN y), jU, z, jU] [] n I J (Pg i0 i1) := by
    intro r
    induction r with
    | zero =>
      intro x y z hyr hx hy hg
      have hxp : 0 < x := by
        rw [show y = 0 by omega, Nat.gcd_zero_right] at hg
        omega
      refine j_lload dX10_tell_6 rfl rfl ?_
      refine j_lconst (v := lN 0) dX10_tell_8 rfl rfl ?_
      refine j_lcmp dX10_tell_9 rfl ?_
      refine j_ifleL (tgt := 31) dX10_tell_10 rfl rfl (by omega) (by decide) (fun h1 => ?_) (fun h1 => by exfalso; omega)
      refine j_aload_n dX10_tell_31 rfl rfl rfl ?_
      refine j_lload_n dX10_tell_32 rfl rfl rfl ?_
      refine j_lload dX10_tell_33 rfl rfl ?_
      refine j_ldivN (c := a / x) dX10_tell_35 rfl (by omega) (by omega) (by omega) rfl ?_
      refine j_putJ dX10_tell_36 rfl fX10_170 rfl (by decide) rfl rfl ?_
      refine j_aload_n dX10_tell_39 rfl rfl rfl ?_
      refine j_lload_n dX10_tell_40 rfl rfl rfl ?_
      refine j_lload dX10_tell_41 rfl rfl ?_
      refine j_ldivN (c := b / x) dX10_tell_43 rfl (by omega) (by omega) (by omega) rfl ?_
      refine j_putJ dX10_tell_44 rfl fX10_26 rfl (by decide) rfl rfl ?_
      refine j_vret dX10_tell_47 rfl ?_
      have hy0 : y = 0 := by omega
      subst hy0
      rw [Nat.gcd_zero_right] at hg
      rw [hg]
      exact hQ
    | succ r ih =>
      intro x y z hyr hx hy hg
      have hxy : 0 < y ∨ 0 < x := by
        by_cases q : y = 0
        · rw [q, Nat.gcd_zero_right] at hg; right; omega
        · left; omega
      refine j_lload dX10_tell_6 rfl rfl ?_
      refine j_lconst (v := lN 0) dX10_tell_8 rfl rfl ?_
      refine j_lcmp dX10_tell_9 rfl ?_
      refine j_ifleL (tgt := 31) dX10_tell_10 rfl rfl (by omega) (by decide) (fun h1 => ?_) (fun h1 => ?_)
      · refine j_aload_n dX10_tell_31 rfl rfl rfl ?_
        refine j_lload_n dX10_tell_32 rfl rfl rfl ?_
        refine j_lload dX10_tell_33 rfl rfl ?_
        refine j_ldivN (c := a / x) dX10_tell_35 rfl (by omega) (by omega) (by omega) rfl ?_
        refine j_putJ dX10_tell_36 rfl fX10_170 rfl (by decide) rfl rfl ?_
        refine j_aload_n dX10_tell_39 rfl rfl rfl ?_
        refine j_lload_n dX10_tell_40 rfl rfl rfl ?_
        refine j_lload dX10_tell_41 rfl rfl ?_
        refine j_ldivN (c := b / x) dX10_tell_43 rfl (by omega) (by omega) (by omega) rfl ?_
        refine j_putJ dX10_tell_44 rfl fX10_26 rfl (by decide) rfl rfl ?_
        refine j_vret dX10_tell_47 rfl ?_
        have hy0 : y = 0 := by omega
        subst hy0
        rw [Nat.gcd_zero_right] at hg
        rw [hg]
        exact hQ
      · refine j_lload dX10_tell_13 rfl rfl ?_
        refine j_lload dX10_tell_15 rfl rfl ?_
        refine j_lremN (c := x % y) dX10_tell_17 rfl (by omega) (by omega) (by omega) rfl ?_
        refine j_lstore (L' := [.ref 33, .long (lN a), jU, .long (lN b), jU, .long (lN x), jU, .long (lN y), jU, .long (lN (x % y)), jU]) dX10_tell_18 rfl rfl (by decide) rfl ?_
        refine j_lload dX10_tell_20 rfl rfl ?_
        refine j_lstore (L' := [.ref 33, .long (lN a), jU, .long (lN b), jU, .long (lN y), jU, .long (lN y), jU, .long (lN (x % y)), jU]) dX10_tell_22 rfl rfl (by decide) rfl ?_
        refine j_lload dX10_tell_24 rfl rfl ?_
        refine j_lstore (L' := [.ref 33, .long (lN a), jU, .long (lN b), jU, .long (lN y), jU, .long (lN (x % y)), jU, .long (lN (x % y)), jU]) dX10_tell_26 rfl rfl (by decide) rfl ?_
        refine j_goto (tgt := 6) dX10_tell_28 rfl ?_
        have hml := Nat.mod_lt x (show 0 < y by omega)
        refine ih _ _ _ (by omega) (by omega) (by omega) ?_
        rw [← hg, Nat.gcd_comm x y, Nat.gcd_rec y x, Nat.gcd_comm]
  refine j_lload_n dX10_tell_0 rfl rfl rfl ?_
  refine j_lstore (L' := [.ref 33, .long (lN a), jU, .long (lN b), jU, .long (lN a), jU, jU, jU, jU, jU]) dX10_tell_1 rfl rfl (by decide) rfl ?_
  refine j_lload_n dX10_tell_3 rfl rfl rfl ?_
  refine j_lstore (L' := [.ref 33, .long (lN a), jU, .long (lN b), jU, .long (lN a), jU, .long (lN b), jU, jU, jU]) dX10_tell_4 rfl rfl (by decide) rfl ?_
  exact loop b a b _ (by omega) (by omega) (by omega) rfl
set_option maxHeartbeats 4000000 in
set_option maxRecDepth 100000 in
theorem g_mice {X : jX} {d n : Nat} {I : HI} {J : HJ} {i0 i1 : Option Nat} {Q : jPost} {S : SS} {yb : Nat} (hm : MI S I J) (hW : WF yb S.v) (hyb : yb ≤ 2 ^ 12) {a b c : Int32} (hQ : MP Q (oMice S a b c) n I J (Pg i0 i1)) : Cj X (d + 3) 0 0 mX10_mice [.ref 33, .int a, .int b, .int c] n I J (Pg i0 i1) Q := by
  refine Cj.intro rfl (Nat.le_of_ble_eq_true rfl) (L := [.ref 33, .int a, .int b, .int c, jU, jU, jU, jU, jU, jU]) rfl ?_
  obtain ⟨⟨w0, w1, w2, w3, w4, w5, w6⟩, wp, wk, wc, wb⟩ := id hW
  refine j_aload_n dX10_mice_0 rfl rfl rfl ?_
  refine j_iload_n dX10_mice_1 rfl rfl rfl ?_
  refine j_callVw (As := [.int a]) dX10_mice_2 rfl cX10_141 (by decide) rfl rfl (by decide) rfl (by decide) rfl rfl (c_misP hm.v w3 (fun ha => ?_) (fun ha => ?_))
  · obtain ⟨ja, rfl, hau⟩ := hasP_nat (by omega) ha
    show Rj _ _ _ _ _ _ 5 [.ref 33, .int (nI ja), .int b, .int c, jU, jU, jU, jU, jU, jU] [.int (nI 1)] n I J (Pg i0 i1)
    refine j_ifeqN (tgt := 28) dX10_mice_5 rfl rfl (by decide) (fun h1 => by exfalso; omega) (fun h1 => ?_)
    refine j_iload_n dX10_mice_8 rfl rfl rfl ?_
    refine j_iconst (v := nI 0) dX10_mice_9 rfl rfl ?_
    refine j_bipush (v := nI 12) dX10_mice_10 rfl rfl ?_
    refine j_callSw (As := [.int b, .int (nI 0), .int (nI 12)]) dX10_mice_12 rfl cX10_50 rfl (by decide) rfl rfl (c_min (fun hb => ?_) (fun hb => ?_))
    · obtain ⟨jb, rfl, hbl, hbu⟩ := inR_nat (by decide) (by decide) hb
      show Rj _ _ _ _ _ _ 15 [.ref 33, .int (nI ja), .int (nI jb), .int c, jU, jU, jU, jU, jU, jU] [.int (nI 1)] n I J (Pg i0 i1)
      refine j_ifeqN (tgt := 28) dX10_mice_15 rfl rfl (by decide) (fun h2 => by exfalso; omega) (fun h2 => ?_)
      refine j_iload_n dX10_mice_18 rfl rfl rfl ?_
      refine j_iconst (v := nI 0) dX10_mice_19 rfl rfl ?_
      refine j_bipush (v := nI 10) dX10_mice_20 rfl rfl ?_
      refine j_callSw (As := [.int c, .int (nI 0), .int (nI 10)]) dX10_mice_22 rfl cX10_50 rfl (by decide) rfl rfl (c_min (fun hc => ?_) (fun hc => ?_))
      · obtain ⟨jc, rfl, hcl, hcu⟩ := inR_nat (by decide) (by decide) hc
        show Rj _ _ _ _ _ _ 25 [.ref 33, .int (nI ja), .int (nI jb), .int (nI jc), jU, jU, jU, jU, jU, jU] [.int (nI 1)] n I J (Pg i0 i1)
        refine j_ifneN (tgt := 35) dX10_mice_25 rfl rfl (by decide) (fun h3 => ?_) (fun h3 => by exfalso; omega)
        obtain ⟨q1, q2, q3, q4, q5⟩ := wp ja hau
        have la : ∀ (r v y dn g : Nat) (F G : Nat → Int64) (z9 : Value), v + r = 61 → (∀ j, j < v → G j = lN 0) → (∀ (G2 : Nat → Int64) (z8 : Value), (∀ j, j < 61 → G2 j = lN 0) → Rj X (d + 3) 0 0 mX10_mice Q 143 [.ref 33, .int (nI ja), .int (nI jb), .int (nI jc), .long (lN dn), jU, .int (nI y), .int (nI g), z8, z9] [] n I (ur (ur J 42 F) 43 G2) (Pg i0 i1)) → Rj X (d + 3) 0 0 mX10_mice Q 122 [.ref 33, .int (nI ja), .int (nI jb), .int (nI jc), .long (lN dn), jU, .int (nI y), .int (nI g), .int (nI v), z9] [] n I (ur (ur J 42 F) 43 G) (Pg i0 i1) := by
          intro r
          induction r with
          | zero =>
            intro v y dn g F G z9 hvr hG hk
            refine j_iload dX10_mice_122 rfl rfl ?_
            refine j_bipush (v := nI 61) dX10_mice_124 rfl rfl ?_
            refine j_icmpgeN (tgt := 143) dX10_mice_126 rfl rfl (by omega) (by decide) (fun h1 => ?_) (fun h1 => by exfalso; omega)
            exact hk G _ (fun j hj => hG j (by omega))
          | succ r ih =>
            intro v y dn g F G z9 hvr hG hk
            refine j_iload dX10_mice_122 rfl rfl ?_
            refine j_bipush (v := nI 61) dX10_mice_124 rfl rfl ?_
            refine j_icmpgeN (tgt := 143) dX10_mice_126 rfl rfl (by omega) (by decide) (fun h1 => by exfalso; omega) (fun h1 => ?_)
            refine j_aload_n dX10_mice_129 rfl rfl rfl ?_
            refine j_getP (b := 43) dX10_mice_130 rfl fX10_43 rfl (by decide) rfl rfl ?_
            refine j_iload dX10_mice_133 rfl rfl ?_
            refine j_lconst (v := lN 0) dX10_mice_135 rfl rfl ?_
            refine j_last (j := v) dX10_mice_136 rfl rfl (by decide) rfl (by omega) (by decide) ?_
            refine j_iincN (L' := [.ref 33, .int (nI ja), .int (nI jb), .int (nI jc), .long (lN dn), jU, .int (nI y), .int (nI g), .int (nI (v + 1)), z9]) dX10_mice_137 rfl rfl (b := 1) rfl rfl rfl (by decide) rfl ?_
            refine j_goto (tgt := 122) dX10_mice_140 rfl ?_
            rw [u2_ur]
            refine ih (v + 1) y dn g F _ z9 (by omega) (fun j hj => ?_) hk
            show (if _ then _ else G _) = _
            by_cases e : j = v
            · rw [if_pos e]
            · rw [if_neg e]; exact hG j (by omega)
        have lb : ∀ (r v y dn g : Nat) (f T acc : Nat → Nat) (F G : Nat → Int64) (z9 : Value), v + r = 61 → g ≤ 5 → (∀ j, j < 61 → F j = lN (f j)) → (∀ j, j < 61 → G j = lN (acc j)) → moL g jc r v f acc = T → (∀ (G2 : Nat → Int64) (z8 z9 : Value), (∀ j, j < 61 → G2 j = lN (T j)) → Rj X (d + 3) 0 0 mX10_mice Q 231 [.ref 33, .int (nI ja), .int (nI jb), .int (nI jc), .long (lN dn), jU, .int (nI y), .int (nI g), z8, z9] [] n I (ur (ur J 42 F) 43 G2) (Pg i0 i1)) → Rj X (d + 3) 0 0 mX10_mice Q 146 [.ref 33, .int (nI ja), .int (nI jb), .int (nI jc), .long (lN dn), jU, .int (nI y), .int (nI g), .int (nI v), z9] [] n I (ur (ur J 42 F) 43 G) (Pg i0 i1) := by
          intro r
          induction r with
          | zero =>
            intro v y dn g f T acc F G z9 hvr hg5 hF hG hr hk
            refine j_iload dX10_mice_146 rfl rfl ?_
            refine j_bipush (v := nI 61) dX10_mice_148 rfl rfl ?_
            refine j_icmpgeN (tgt := 231) dX10_mice_150 rfl rfl (by omega) (by decide) (fun h1 => ?_) (fun h1 => by exfalso; omega)
            simp only [moL] at hr
            subst hr
            exact hk G _ _ hG
          | succ r ih =>
            intro v y dn g f T acc F G z9 hvr hg5 hF hG hr hk
            refine j_iload dX10_mice_146 rfl rfl ?_
            refine j_bipush (v := nI 61) dX10_mice_148 rfl rfl ?_
            refine j_icmpgeN (tgt := 231) dX10_mice_150 rfl rfl (by omega) (by decide) (fun h1 => by exfalso; omega) (fun h1 => ?_)
            refine j_iload dX10_mice_153 rfl rfl ?_
            refine j_iload dX10_mice_155 rfl rfl ?_
            refine j_icmpleN (tgt := 168) dX10_mice_157 rfl rfl (by omega) (by omega) (fun h2 => ?_) (fun h2 => ?_)
            · refine j_iconst (v := nI 0) dX10_mice_168 rfl rfl ?_
              refine j_istore (L' := [.ref 33, .int (nI ja), .int (nI jb), .int (nI jc), .long (lN dn), jU, .int (nI y), .int (nI g), .int (nI v), .int (nI 0)]) dX10_mice_169 rfl rfl (by decide) rfl ?_
              refine j_aload_n dX10_mice_171 rfl rfl rfl ?_
              refine j_getP (b := 43) dX10_mice_172 rfl fX10_43 rfl (by decide) rfl rfl ?_
              refine j_iload dX10_mice_175 rfl rfl ?_
              refine j_dup2 dX10_mice_177 rfl rfl rfl ?_
              refine j_lald (j := 0) (v := lN (acc 0)) dX10_mice_178 rfl rfl (by decide) rfl (by decide) (by decide) (hG 0 (by omega)) ?_
              refine j_bipush (v := nI 10) dX10_mice_179 rfl rfl ?_
              refine j_iload_n dX10_mice_181 rfl rfl rfl ?_
              refine j_isubN (c := 10 - jc) dX10_mice_182 rfl (by omega) rfl ?_
              refine j_i2lN dX10_mice_183 rfl (by omega) ?_
              refine j_aload_n dX10_mice_184 rfl rfl rfl ?_
              refine j_getP (b := 42) dX10_mice_185 rfl fX10_39 rfl (by decide) rfl rfl ?_
              refine j_iload dX10_mice_188 rfl rfl ?_
              refine j_lald (j := v) (v := lN (f v)) dX10_mice_190 rfl rfl (by decide) rfl (by omega) (by decide) (hF v (by omega)) ?_
              refine j_lmulN (c := (10 - jc) * (f v)) dX10_mice_191 rfl rfl ?_
              refine j_laddN (c := (acc 0) + ((10 - jc) * (f v))) dX10_mice_192 rfl rfl ?_
              refine j_last (j := 0) dX10_mice_193 rfl rfl (by decide) rfl (by decide) (by decide) ?_
              rw [u2_ur]
              generalize eG1 : (fun j => if j = 0 then lN (acc 0 + (10 - jc) * f v) else G j) = G1
              have hG1 : ∀ j, j < 61 → G1 j = lN ((u1 acc 0 (acc 0 + (10 - jc) * f v)) j) := by rw [← eG1]; exact u1_lN hG _ _
              refine j_aload_n dX10_mice_194 rfl rfl rfl ?_
              refine j_getP (b := 43) dX10_mice_195 rfl fX10_43 rfl (by decide) rfl rfl ?_
              refine j_iload dX10_mice_198 rfl rfl ?_
              refine j_ifleN (tgt := 210) dX10_mice_200 rfl rfl (by decide) (fun h3 => ?_) (fun h3 => by exfalso; omega)
              refine j_iconst (v := nI 0) dX10_mice_210 rfl rfl ?_
              refine j_dup2 dX10_mice_211 rfl rfl rfl ?_
              refine j_lald (j := 0) (v := lN ((u1 acc 0 (acc 0 + (10 - jc) * f v)) 0)) dX10_mice_212 rfl rfl (by decide) rfl (by decide) (by decide) (hG1 0 (by omega)) ?_
              refine j_iload_n dX10_mice_213 rfl rfl rfl ?_
              refine j_i2lN dX10_mice_214 rfl (by omega) ?_
              refine j_aload_n dX10_mice_215 rfl rfl rfl ?_
              refine j_getP (b := 42) dX10_mice_216 rfl fX10_39 rfl (by decide) rfl rfl ?_
              refine j_iload dX10_mice_219 rfl rfl ?_
              refine j_lald (j := v) (v := lN (f v)) dX10_mice_221 rfl rfl (by decide) rfl (by omega) (by decide) (hF v (by omega)) ?_
              refine j_lmulN (c := jc * (f v)) dX10_mice_222 rfl rfl ?_
              refine j_laddN (c := ((u1 acc 0 (acc 0 + (10 - jc) * f v)) 0) + (jc * (f v))) dX10_mice_223 rfl rfl ?_
              refine j_last (j := 0) dX10_mice_224 rfl rfl (by decide) rfl (by decide) (by decide) ?_
              rw [u2_ur]
              generalize eG2 : (fun j => if j = 0 then lN ((u1 acc 0 (acc 0 + (10 - jc) * f v)) 0 + jc * f v) else G1 j) = G2
              have hG2 : ∀ j, j < 61 → G2 j = lN ((u1 (u1 acc 0 (acc 0 + (10 - jc) * f v)) 0 ((u1 acc 0 (acc 0 + (10 - jc) * f v)) 0 + jc * f v)) j) := by rw [← eG2]; exact u1_lN hG1 _ _
              refine j_iincN (L' := [.ref 33, .int (nI ja), .int (nI jb), .int (nI jc), .long (lN dn), jU, .int (nI y), .int (nI g), .int (nI (v + 1)), .int (nI 0)]) dX10_mice_225 rfl rfl (b := 1) rfl rfl rfl (by decide) rfl ?_
              refine j_goto (tgt := 146) dX10_mice_228 rfl ?_
              refine ih (v + 1) y dn g f T _ F G2 _ (by omega) hg5 hF (fun j hj => ?_) hr hk
              rw [hG2 j hj]
              unfold moS
              rw [show v - g = 0 by omega]
            · refine j_iload dX10_mice_160 rfl rfl ?_
              refine j_iload dX10_mice_162 rfl rfl ?_
              refine j_isubN (c := v - g) dX10_mice_164 rfl (by omega) rfl ?_
              refine j_goto (tgt := 169) dX10_mice_165 rfl ?_
              refine j_istore (L' := [.ref 33, .int (nI ja), .int (nI jb), .int (nI jc), .long (lN dn), jU, .int (nI y), .int (nI g), .int (nI v), .int (nI (v - g))]) dX10_mice_169 rfl rfl (by decide) rfl ?_
              refine j_aload_n dX10_mice_171 rfl rfl rfl ?_
              refine j_getP (b := 43) dX10_mice_172 rfl fX10_43 rfl (by decide) rfl rfl ?_
              refine j_iload dX10_mice_175 rfl rfl ?_
              refine j_dup2 dX10_mice_177 rfl rfl rfl ?_
              refine j_lald (j := v - g) (v := lN (acc (v - g))) dX10_mice_178 rfl rfl (by decide) rfl (by omega) (by decide) (hG (v - g) (by omega)) ?_
              refine j_bipush (v := nI 10) dX10_mice_179 rfl rfl ?_
              refine j_iload_n dX10_mice_181 rfl rfl rfl ?_
              refine j_isubN (c := 10 - jc) dX10_mice_182 rfl (by omega) rfl ?_
              refine j_i2lN dX10_mice_183 rfl (by omega) ?_
              refine j_aload_n dX10_mice_184 rfl rfl rfl ?_
              refine j_getP (b := 42) dX10_mice_185 rfl fX10_39 rfl (by decide) rfl rfl ?_
              refine j_iload dX10_mice_188 rfl rfl ?_
              refine j_lald (j := v) (v := lN (f v)) dX10_mice_190 rfl rfl (by decide) rfl (by omega) (by decide) (hF v (by omega)) ?_
              refine j_lmulN (c := (10 - jc) * (f v)) dX10_mice_191 rfl rfl ?_
              refine j_laddN (c := (acc (v - g)) + ((10 - jc) * (f v))) dX10_mice_192 rfl rfl ?_
              refine j_last (j := v - g) dX10_mice_193 rfl rfl (by decide) rfl (by omega) (by decide) ?_
              rw [u2_ur]
              generalize eG1 : (fun j => if j = v - g then lN (acc (v - g) + (10 - jc) * f v) else G j) = G1
              have hG1 : ∀ j, j < 61 → G1 j = lN ((u1 acc (v - g) (acc (v - g) + (10 - jc) * f v)) j) := by rw [← eG1]; exact u1_lN hG _ _
              refine j_aload_n dX10_mice_194 rfl rfl rfl ?_
              refine j_getP (b := 43) dX10_mice_195 rfl fX10_43 rfl (by decide) rfl rfl ?_
              refine j_iload dX10_mice_198 rfl rfl ?_
              refine j_ifleN (tgt := 210) dX10_mice_200 rfl rfl (by omega) (fun h4 => by exfalso; omega) (fun h4 => ?_)
              refine j_iload dX10_mice_203 rfl rfl ?_
              refine j_iconst (v := nI 1) dX10_mice_205 rfl rfl ?_
              refine j_isubN (c := (v - g) - 1) dX10_mice_206 rfl (by omega) rfl ?_
              refine j_goto (tgt := 211) dX10_mice_207 rfl ?_
              refine j_dup2 dX10_mice_211 rfl rfl rfl ?_
              refine j_lald (j := (v - g) - 1) (v := lN ((u1 acc (v - g) (acc (v - g) + (10 - jc) * f v)) ((v - g) - 1))) dX10_mice_212 rfl rfl (by decide) rfl (by omega) (by decide) (hG1 ((v - g) - 1) (by omega)) ?_
              refine j_iload_n dX10_mice_213 rfl rfl rfl ?_
              refine j_i2lN dX10_mice_214 rfl (by omega) ?_
              refine j_aload_n dX10_mice_215 rfl rfl rfl ?_
              refine j_getP (b := 42) dX10_mice_216 rfl fX10_39 rfl (by decide) rfl rfl ?_
              refine j_iload dX10_mice_219 rfl rfl ?_
              refine j_lald (j := v) (v := lN (f v)) dX10_mice_221 rfl rfl (by decide) rfl (by omega) (by decide) (hF v (by omega)) ?_
              refine j_lmulN (c := jc * (f v)) dX10_mice_222 rfl rfl ?_
              refine j_laddN (c := ((u1 acc (v - g) (acc (v - g) + (10 - jc) * f v)) ((v - g) - 1)) + (jc * (f v))) dX10_mice_223 rfl rfl ?_
              refine j_last (j := (v - g) - 1) dX10_mice_224 rfl rfl (by decide) rfl (by omega) (by decide) ?_
              rw [u2_ur]
              generalize eG2 : (fun j => if j = (v - g) - 1 then lN ((u1 acc (v - g) (acc (v - g) + (10 - jc) * f v)) ((v - g) - 1) + jc * f v) else G1 j) = G2
              have hG2 : ∀ j, j < 61 → G2 j = lN ((u1 (u1 acc (v - g) (acc (v - g) + (10 - jc) * f v)) ((v - g) - 1) ((u1 acc (v - g) (acc (v - g) + (10 - jc) * f v)) ((v - g) - 1) + jc * f v)) j) := by rw [← eG2]; exact u1_lN hG1 _ _
              refine j_iincN (L' := [.ref 33, .int (nI ja), .int (nI jb), .int (nI jc), .long (lN dn), jU, .int (nI y), .int (nI g), .int (nI (v + 1)), .int (nI (v - g))]) dX10_mice_225 rfl rfl (b := 1) rfl rfl rfl (by decide) rfl ?_
              refine j_goto (tgt := 146) dX10_mice_228 rfl ?_
              refine ih (v + 1) y dn g f T _ F G2 _ (by omega) hg5 hF (fun j hj => ?_) hr hk
              rw [hG2 j hj]
              unfold moS
              rfl
        have ld : ∀ (r v y dn g : Nat) (T : Nat → Nat) (F G : Nat → Int64) (z9 : Value), v + r = 61 → (∀ j, j < 61 → G j = lN (T j)) → (∀ j, j < v → F j = lN (T j)) → (∀ (F2 : Nat → Int64) (z8 : Value), (∀ j, j < 61 → F2 j = lN (T j)) → Rj X (d + 3) 0 0 mX10_mice Q 261 [.ref 33, .int (nI ja), .int (nI jb), .int (nI jc), .long (lN dn), jU, .int (nI y), .int (nI g), z8, z9] [] n I (ur (ur J 42 F2) 43 G) (Pg i0 i1)) → Rj X (d + 3) 0 0 mX10_mice Q 234 [.ref 33, .int (nI ja), .int (nI jb), .int (nI jc), .long (lN dn), jU, .int (nI y), .int (nI g), .int (nI v), z9] [] n I (ur (ur J 42 F) 43 G) (Pg i0 i1) := by
          intro r
          induction r with
          | zero =>
            intro v y dn g T F G z9 hvr hG hF hk
            refine j_iload dX10_mice_234 rfl rfl ?_
            refine j_bipush (v := nI 61) dX10_mice_236 rfl rfl ?_
            refine j_icmpgeN (tgt := 261) dX10_mice_238 rfl rfl (by omega) (by decide) (fun h1 => ?_) (fun h1 => by exfalso; omega)
            exact hk F _ (fun j hj => hF j (by omega))
          | succ r ih =>
            intro v y dn g T F G z9 hvr hG hF hk
            refine j_iload dX10_mice_234 rfl rfl ?_
            refine j_bipush (v := nI 61) dX10_mice_236 rfl rfl ?_
            refine j_icmpgeN (tgt := 261) dX10_mice_238 rfl rfl (by omega) (by decide) (fun h1 => by exfalso; omega) (fun h1 => ?_)
            refine j_aload_n dX10_mice_241 rfl rfl rfl ?_
            refine j_getP (b := 42) dX10_mice_242 rfl fX10_39 rfl (by decide) rfl rfl ?_
            refine j_iload dX10_mice_245 rfl rfl ?_
            refine j_aload_n dX10_mice_247 rfl rfl rfl ?_
            refine j_getP (b := 43) dX10_mice_248 rfl fX10_43 rfl (by decide) rfl rfl ?_
            refine j_iload dX10_mice_251 rfl rfl ?_
            refine j_lald (j := v) (v := lN (T v)) dX10_mice_253 rfl rfl (by decide) rfl (by omega) (by decide) (hG v (by omega)) ?_
            refine j_last (j := v) dX10_mice_254 rfl rfl (by decide) rfl (by omega) (by decide) ?_
            refine j_iincN (L' := [.ref 33, .int (nI ja), .int (nI jb), .int (nI jc), .long (lN dn), jU, .int (nI y), .int (nI g), .int (nI (v + 1)), z9]) dX10_mice_255 rfl rfl (b := 1) rfl rfl rfl (by decide) rfl ?_
            refine j_goto (tgt := 234) dX10_mice_258 rfl ?_
            rw [u2_in]
            refine ih (v + 1) y dn g T _ G z9 (by omega) hG (fun j hj => ?_) hk
            show (if _ then _ else F _) = _
            by_cases e : j = v
            · rw [if_pos e, e]
            · rw [if_neg e]; exact hF j (by omega)
        have lo : ∀ (r y dn : Nat) (f : Nat → Nat) (F G : Nat → Int64) (z7 z8 z9 : Value), y + r = jb → dn = 10 ^ y → f = chN S.v ja jc y → (∀ j, j < 61 → F j = lN (f j)) → Rj X (d + 3) 0 0 mX10_mice Q 83 [.ref 33, .int (nI ja), .int (nI jb), .int (nI jc), .long (lN dn), jU, .int (nI y), z7, z8, z9] [] n I (ur (ur J 42 F) 43 G) (Pg i0 i1) := by
          intro r
          induction r with
          | zero =>
            intro y dn f F G z7 z8 z9 hyr hdn hfE hF
            have hf0' : f 0 ≤ dn := by rw [hdn, hfE]; exact chN_0 hcu q2
            have hd0 : 0 < dn := by rw [hdn]; exact Nat.pow_pos (by omega)
            have hd12 : dn ≤ 10 ^ 12 := by rw [hdn]; exact Nat.pow_le_pow_right (by omega) (by omega)
            refine j_iload dX10_mice_83 rfl rfl ?_
            refine j_iload_n dX10_mice_85 rfl rfl rfl ?_
            refine j_icmpgeN (tgt := 275) dX10_mice_86 rfl rfl (by omega) (by omega) (fun h1 => ?_) (fun h1 => by exfalso; omega)
            refine j_aload_n dX10_mice_275 rfl rfl rfl ?_
            refine j_lload dX10_mice_276 rfl rfl ?_
            refine j_aload_n dX10_mice_278 rfl rfl rfl ?_
            refine j_getP (b := 42) dX10_mice_279 rfl fX10_39 rfl (by decide) rfl rfl ?_
            refine j_iconst (v := nI 0) dX10_mice_282 rfl rfl ?_
            refine j_lald (j := 0) (v := lN (f 0)) dX10_mice_283 rfl rfl (by decide) rfl (by decide) (by decide) (hF 0 (by omega)) ?_
            refine j_lsubN (c := dn - (f 0)) dX10_mice_284 rfl (by omega) rfl ?_
            refine j_lload dX10_mice_285 rfl rfl ?_
            refine j_callVw (As := [.long (lN (dn - (f 0))), .long (lN dn)]) dX10_mice_287 rfl cX10_175 (by decide) rfl rfl (by decide) rfl (by decide) rfl rfl (c_mtell (Nat.sub_le _ _) hd0 hd12 ?_)
            show Rj _ _ _ _ _ _ 290 [.ref 33, .int (nI ja), .int (nI jb), .int (nI jc), .long (lN dn), jU, .int (nI y), z7, z8, z9] [] n I (u2 (u2 (ur (ur J 42 F) 43 G) 33 12 (lN ((dn - f 0) / Nat.gcd (dn - f 0) dn))) 33 13 (lN (dn / Nat.gcd (dn - f 0) dn))) (Pg i0 i1)
            refine j_iconst (v := nI 1) dX10_mice_290 rfl rfl ?_
            refine j_iret dX10_mice_291 rfl rfl ?_
            have hyb2 : y = jb := by omega
            subst hyb2
            have e : oMice S (nI ja) (nI y) (nI jc) = (S.frc (micU S.v ja y jc) (micL S.v ja y jc), nI 1) := by unfold oMice; rw [if_pos (by exact ⟨ha, hb, hc⟩), tN_nI (show ja < 2 ^ 30 by omega), tN_nI (show y < 2 ^ 30 by omega), tN_nI (show jc < 2 ^ 30 by omega)]
            rw [e] at hQ
            have hf0 : f 0 = chN S.v ja jc y 0 := congrFun hfE 0
            refine hQ _ _ (hm.frc ?_ ?_) (fun b hb => ⟨rfl, by rw [u2_ne _ _ _ (by omega), u2_ne _ _ _ (by omega), ur_ne _ _ (by omega), ur_ne _ _ (by omega)]⟩)
            · rw [u2_ne2 _ _ _ (by omega), u2_self, hf0, hdn]; rfl
            · rw [u2_self, hf0, hdn]; rfl
          | succ r ih =>
            intro y dn f F G z7 z8 z9 hyr hdn hfE hF
            refine j_iload dX10_mice_83 rfl rfl ?_
            refine j_iload_n dX10_mice_85 rfl rfl rfl ?_
            refine j_icmpgeN (tgt := 275) dX10_mice_86 rfl rfl (by omega) (by omega) (fun h1 => by exfalso; omega) (fun h1 => ?_)
            obtain ⟨g, hgE⟩ : ∃ g, gos (S.v 1 ja) (S.v 0 0 + y) (S.v 0 1) (S.v 0 2) = g := ⟨_, rfl⟩
            have hg5 : g ≤ 5 := by rw [← hgE]; exact gos_le _ _ _ _
            refine j_aload_n dX10_mice_89 rfl rfl rfl ?_
            refine j_aload_n dX10_mice_90 rfl rfl rfl ?_
            refine j_getP (b := 34) dX10_mice_91 rfl fX10_7 rfl (by decide) rfl rfl ?_
            refine j_bipush (v := nI 7) dX10_mice_94 rfl rfl ?_
            refine j_iload_n dX10_mice_96 rfl rfl rfl ?_
            refine j_iaddN (c := 7 + ja) dX10_mice_97 rfl rfl ?_
            refine j_iald (j := 7 + ja) (v := nI (S.v 1 ja)) dX10_mice_98 rfl rfl (by decide) rfl (by omega) (by decide) (hm.v.kd (by omega)) ?_
            refine j_aload_n dX10_mice_99 rfl rfl rfl ?_
            refine j_getP (b := 34) dX10_mice_100 rfl fX10_7 rfl (by decide) rfl rfl ?_
            refine j_iconst (v := nI 2) dX10_mice_103 rfl rfl ?_
            refine j_iald (j := 2) (v := nI (S.v 0 0)) dX10_mice_104 rfl rfl (by decide) rfl (by decide) (by decide) hm.v.my ?_
            refine j_iload dX10_mice_105 rfl rfl ?_
            refine j_iaddN (c := (S.v 0 0) + y) dX10_mice_107 rfl rfl ?_
            refine j_aload_n dX10_mice_108 rfl rfl rfl ?_
            refine j_getP (b := 34) dX10_mice_109 rfl fX10_7 rfl (by decide) rfl rfl ?_
            refine j_iconst (v := nI 4) dX10_mice_112 rfl rfl ?_
            refine j_iald (j := 4) (v := nI (S.v 0 2)) dX10_mice_113 rfl rfl (by decide) rfl (by decide) (by decide) hm.v.mr ?_
            refine j_callVw (As := [.int (nI (S.v 1 ja)), .int (nI ((S.v 0 0) + y)), .int (nI (S.v 0 2))]) dX10_mice_114 rfl cX10_126 (by decide) rfl rfl (by decide) rfl (by decide) rfl rfl (c_mgoes hm.v q1 (by omega) w1 w2 ?_)
            rw [hgE]
            show Rj _ _ _ _ _ _ 117 [.ref 33, .int (nI ja), .int (nI jb), .int (nI jc), .long (lN dn), jU, .int (nI y), z7, z8, z9] [.int (nI g)] n I (ur (ur J 42 F) 43 G) (Pg i0 i1)
            refine j_istore (L' := [.ref 33, .int (nI ja), .int (nI jb), .int (nI jc), .long (lN dn), jU, .int (nI y), .int (nI g), z8, z9]) dX10_mice_117 rfl rfl (by decide) rfl ?_
            refine j_iconst (v := nI 0) dX10_mice_119 rfl rfl ?_
            refine j_istore (L' := [.ref 33, .int (nI ja), .int (nI jb), .int (nI jc), .long (lN dn), jU, .int (nI y), .int (nI g), .int (nI 0), z9]) dX10_mice_120 rfl rfl (by decide) rfl ?_
            refine la 61 0 y dn g F G _ (by omega) (fun j hj => absurd hj (Nat.not_lt_zero _)) (fun G2 z8 hG2 => ?_)
            refine j_iconst (v := nI 0) dX10_mice_143 rfl rfl ?_
            refine j_istore (L' := [.ref 33, .int (nI ja), .int (nI jb), .int (nI jc), .long (lN dn), jU, .int (nI y), .int (nI g), .int (nI 0), z9]) dX10_mice_144 rfl rfl (by decide) rfl ?_
            refine lb 61 0 y dn g f (chN S.v ja jc (y + 1)) (fun _ => 0) F G2 _ (by omega) hg5 hF hG2 (by rw [hfE, ← hgE]; rfl) (fun G3 z8 z9 hG3 => ?_)
            refine j_iconst (v := nI 0) dX10_mice_231 rfl rfl ?_
            refine j_istore (L' := [.ref 33, .int (nI ja), .int (nI jb), .int (nI jc), .long (lN dn), jU, .int (nI y), .int (nI g), .int (nI 0), z9]) dX10_mice_232 rfl rfl (by decide) rfl ?_
            refine ld 61 0 y dn g (chN S.v ja jc (y + 1)) F G3 _ (by omega) hG3 (fun j hj => absurd hj (Nat.not_lt_zero _)) (fun F2 z8 hF2 => ?_)
            refine j_lload dX10_mice_261 rfl rfl ?_
            refine j_ldc2 (v := lN 10) dX10_mice_263 rfl kX10_173 ?_
            refine j_lmulN (c := dn * 10) dX10_mice_266 rfl rfl ?_
            refine j_lstore (L' := [.ref 33, .int (nI ja), .int (nI jb), .int (nI jc), .long (lN (dn * 10)), jU, .int (nI y), .int (nI g), z8, z9]) dX10_mice_267 rfl rfl (by decide) rfl ?_
            refine j_iincN (L' := [.ref 33, .int (nI ja), .int (nI jb), .int (nI jc), .long (lN (dn * 10)), jU, .int (nI (y + 1)), .int (nI g), z8, z9]) dX10_mice_269 rfl rfl (b := 1) rfl rfl rfl (by decide) rfl ?_
            refine j_goto (tgt := 83) dX10_mice_272 rfl ?_
            exact ih (y + 1) _ _ F2 G3 _ _ _ (by omega) (by rw [hdn, Nat.pow_succ]) rfl hF2
        have l1 : ∀ (r v : Nat) (F : Nat → Int64), v + r = 61 → (∀ j, j < v → F j = lN (chN S.v ja jc 0 j)) → Rj X (d + 3) 0 0 mX10_mice Q 38 [.ref 33, .int (nI ja), .int (nI jb), .int (nI jc), .int (nI v), jU, jU, jU, jU, jU] [] n I (ur J 42 F) (Pg i0 i1) := by
          intro r
          induction r with
          | zero =>
            intro v F hvr hF
            refine j_iload dX10_mice_38 rfl rfl ?_
            refine j_bipush (v := nI 61) dX10_mice_40 rfl rfl ?_
            refine j_icmpgeN (tgt := 77) dX10_mice_42 rfl rfl (by omega) (by decide) (fun h1 => ?_) (fun h1 => by exfalso; omega)
            refine j_lconst (v := lN 1) dX10_mice_77 rfl rfl ?_
            refine j_lstore (L' := [.ref 33, .int (nI ja), .int (nI jb), .int (nI jc), .long (lN 1), jU, jU, jU, jU, jU]) dX10_mice_78 rfl rfl (by decide) rfl ?_
            refine j_iconst (v := nI 0) dX10_mice_80 rfl rfl ?_
            refine j_istore (L' := [.ref 33, .int (nI ja), .int (nI jb), .int (nI jc), .long (lN 1), jU, .int (nI 0), jU, jU, jU]) dX10_mice_81 rfl rfl (by decide) rfl ?_
            rw [← ur_self (ur J 42 F) 43]
            exact lo jb 0 1 _ F _ _ _ _ (by omega) rfl rfl (fun j hj => hF j (by omega))
          | succ r ih =>
            intro v F hvr hF
            refine j_iload dX10_mice_38 rfl rfl ?_
            refine j_bipush (v := nI 61) dX10_mice_40 rfl rfl ?_
            refine j_icmpgeN (tgt := 77) dX10_mice_42 rfl rfl (by omega) (by decide) (fun h1 => by exfalso; omega) (fun h1 => ?_)
            refine j_aload_n dX10_mice_45 rfl rfl rfl ?_
            refine j_getP (b := 42) dX10_mice_46 rfl fX10_39 rfl (by decide) rfl rfl ?_
            refine j_iload dX10_mice_49 rfl rfl ?_
            refine j_iload dX10_mice_51 rfl rfl ?_
            refine j_aload_n dX10_mice_53 rfl rfl rfl ?_
            refine j_getP (b := 34) dX10_mice_54 rfl fX10_7 rfl (by decide) rfl rfl ?_
            refine j_bipush (v := nI 13) dX10_mice_57 rfl rfl ?_
            refine j_iload_n dX10_mice_59 rfl rfl rfl ?_
            refine j_iaddN (c := 13 + ja) dX10_mice_60 rfl rfl ?_
            refine j_iald (j := 13 + ja) (v := nI (S.v 2 ja)) dX10_mice_61 rfl rfl (by decide) rfl (by omega) (by decide) (hm.v.lv (by omega)) ?_
            refine j_icmpneN (tgt := 69) dX10_mice_62 rfl rfl (by omega) (by omega) (fun h2 => ?_) (fun h2 => ?_)
            · refine j_lconst (v := lN 0) dX10_mice_69 rfl rfl ?_
              refine j_last (j := v) dX10_mice_70 rfl rfl (by decide) rfl (by omega) (by decide) ?_
              refine j_iincN (L' := [.ref 33, .int (nI ja), .int (nI jb), .int (nI jc), .int (nI (v + 1)), jU, jU, jU, jU, jU]) dX10_mice_71 rfl rfl (b := 1) rfl rfl rfl (by decide) rfl ?_
              refine j_goto (tgt := 38) dX10_mice_74 rfl ?_
              rw [u2_ur]
              refine ih (v + 1) _ (by omega) (fun j hj => ?_)
              show (if _ then _ else F _) = _
              by_cases e : j = v
              · rw [if_pos e, e]
                show _ = lN (if _ then 1 else 0)
                first | rw [if_pos (by assumption)] | rw [if_neg (by assumption)]
              · rw [if_neg e]; exact hF j (by omega)
            · refine j_lconst (v := lN 1) dX10_mice_65 rfl rfl ?_
              refine j_goto (tgt := 70) dX10_mice_66 rfl ?_
              refine j_last (j := v) dX10_mice_70 rfl rfl (by decide) rfl (by omega) (by decide) ?_
              refine j_iincN (L' := [.ref 33, .int (nI ja), .int (nI jb), .int (nI jc), .int (nI (v + 1)), jU, jU, jU, jU, jU]) dX10_mice_71 rfl rfl (b := 1) rfl rfl rfl (by decide) rfl ?_
              refine j_goto (tgt := 38) dX10_mice_74 rfl ?_
              rw [u2_ur]
              refine ih (v + 1) _ (by omega) (fun j hj => ?_)
              show (if _ then _ else F _) = _
              by_cases e : j = v
              · rw [if_pos e, e]
                show _ = lN (if _ then 1 else 0)
                first | rw [if_pos (by assumption)] | rw [if_neg (by assumption)]
              · rw [if_neg e]; exact hF j (by omega)
        refine j_iconst (v := nI 0) dX10_mice_35 rfl rfl ?_
        refine j_istore (L' := [.ref 33, .int (nI ja), .int (nI jb), .int (nI jc), .int (nI 0), jU, jU, jU, jU, jU]) dX10_mice_36 rfl rfl (by decide) rfl ?_
        rw [← ur_self J 42]
        exact l1 61 0 _ (by omega) (fun j hj => absurd hj (Nat.not_lt_zero _))
      · show Rj _ _ _ _ _ _ 25 [.ref 33, .int (nI ja), .int (nI jb), .int c, jU, jU, jU, jU, jU, jU] [.int (nI 0)] n I J (Pg i0 i1)
        refine j_ifneN (tgt := 35) dX10_mice_25 rfl rfl (by decide) (fun h4 => by exfalso; omega) (fun h4 => ?_)
        refine j_aload_n dX10_mice_28 rfl rfl rfl ?_
        refine j_bipush (v := (-2)) dX10_mice_29 rfl rfl ?_
        refine j_callVw (As := [.int (-2)]) dX10_mice_31 rfl cX10_54 (by decide) rfl rfl (by decide) rfl (by decide) rfl rfl (c_mbad ?_)
        show Rj _ _ _ _ _ _ 34 [.ref 33, .int (nI ja), .int (nI jb), .int c, jU, jU, jU, jU, jU, jU] [.int (-2)] n (u2 I 39 0 (I 39 0 + nI 1)) J (Pg i0 i1)
        refine j_iret dX10_mice_34 rfl rfl ?_
        have e : oMice S (nI ja) (nI jb) c = (S.bad, -2) := by unfold oMice; rw [if_neg (by first | exact ha | exact fun q => ha q.1 | exact fun q => hb q.2 | exact fun q => hb q.2.1 | exact fun q => hc q.2.2 | exact fun q => ha q.1.1 | exact fun q => hb q.1.2.1 | exact fun q => q.1.2.2 (congrArg nI (by assumption)) | exact fun q => hc q.2.1 | exact fun q => he q.2.2)]
        rw [e] at hQ
        exact hQ _ _ hm.bad (CF.u2 (by omega) (by omega))
    · show Rj _ _ _ _ _ _ 15 [.ref 33, .int (nI ja), .int b, .int c, jU, jU, jU, jU, jU, jU] [.int (nI 0)] n I J (Pg i0 i1)
      refine j_ifeqN (tgt := 28) dX10_mice_15 rfl rfl (by decide) (fun h5 => ?_) (fun h5 => by exfalso; omega)
      refine j_aload_n dX10_mice_28 rfl rfl rfl ?_
      refine j_bipush (v := (-2)) dX10_mice_29 rfl rfl ?_
      refine j_callVw (As := [.int (-2)]) dX10_mice_31 rfl cX10_54 (by decide) rfl rfl (by decide) rfl (by decide) rfl rfl (c_mbad ?_)
      show Rj _ _ _ _ _ _ 34 [.ref 33, .int (nI ja), .int b, .int c, jU, jU, jU, jU, jU, jU] [.int (-2)] n (u2 I 39 0 (I 39 0 + nI 1)) J (Pg i0 i1)
      refine j_iret dX10_mice_34 rfl rfl ?_
      have e : oMice S (nI ja) b c = (S.bad, -2) := by unfold oMice; rw [if_neg (by first | exact ha | exact fun q => ha q.1 | exact fun q => hb q.2 | exact fun q => hb q.2.1 | exact fun q => hc q.2.2 | exact fun q => ha q.1.1 | exact fun q => hb q.1.2.1 | exact fun q => q.1.2.2 (congrArg nI (by assumption)) | exact fun q => hc q.2.1 | exact fun q => he q.2.2)]
      rw [e] at hQ
      exact hQ _ _ hm.bad (CF.u2 (by omega) (by omega))
  · show Rj _ _ _ _ _ _ 5 [.ref 33, .int a, .int b, .int c, jU, jU, jU, jU, jU, jU] [.int (nI 0)] n I J (Pg i0 i1)
    refine j_ifeqN (tgt := 28) dX10_mice_5 rfl rfl (by decide) (fun h6 => ?_) (fun h6 => by exfalso; omega)
    refine j_aload_n dX10_mice_28 rfl rfl rfl ?_
    refine j_bipush (v := (-2)) dX10_mice_29 rfl rfl ?_
    refine j_callVw (As := [.int (-2)]) dX10_mice_31 rfl cX10_54 (by decide) rfl rfl (by decide) rfl (by decide) rfl rfl (c_mbad ?_)
    show Rj _ _ _ _ _ _ 34 [.ref 33, .int a, .int b, .int c, jU, jU, jU, jU, jU, jU] [.int (-2)] n (u2 I 39 0 (I 39 0 + nI 1)) J (Pg i0 i1)
    refine j_iret dX10_mice_34 rfl rfl ?_
    have e : oMice S a b c = (S.bad, -2) := by unfold oMice; rw [if_neg (by first | exact ha | exact fun q => ha q.1 | exact fun q => hb q.2 | exact fun q => hb q.2.1 | exact fun q => hc q.2.2 | exact fun q => ha q.1.1 | exact fun q => hb q.1.2.1 | exact fun q => q.1.2.2 (congrArg nI (by assumption)) | exact fun q => hc q.2.1 | exact fun q => he q.2.2)]
    rw [e] at hQ
    exact hQ _ _ hm.bad (CF.u2 (by omega) (by omega))
