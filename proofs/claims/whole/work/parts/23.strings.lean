theorem lft_succ (k da dr : Nat) : ∀ m y l, lft k da dr y l (m + 1) = lft k da dr y l m - gos k (y + m) da dr
  | 0, _, _ => rfl
  | m + 1, y, l => by
    have h := lft_succ k da dr m (y + 1) (l - gos k y da dr)
    rw [show y + 1 + m = y + (m + 1) by omega] at h
    exact h
/-- all that was counted of p is so, were it of the kind k -/
abbrev fitK (v : VT) (p k : Nat) : Prop := ∀ c, c < v 0 5 → v 6 c = p → lft k (v 0 1) (v 0 2) (v 0 0) (v 2 p) (v 7 c) = v 8 c
/-- numbers below n by a test: bits -/
def bitsOf (f : Nat → Bool) : Nat → Nat
  | 0 => 0
  | k + 1 => if f k = true then bitsOf f k ||| 2 ^ k else bitsOf f k
theorem bitsOf_lt (f : Nat → Bool) : ∀ n, bitsOf f n < 2 ^ n
  | 0 => by simp [bitsOf]
  | k + 1 => by
    have h1 := bitsOf_lt f k
    unfold bitsOf
    split
    · exact Nat.or_lt_two_pow (Nat.lt_trans h1 (Nat.pow_lt_pow_right (by omega) (by omega))) (Nat.pow_lt_pow_right (by omega) (by omega))
    · exact Nat.lt_trans h1 (Nat.pow_lt_pow_right (by omega) (by omega))
set_option maxHeartbeats 4000000 in
set_option maxRecDepth 100000 in
theorem c_fits {X : jX} {d n : Nat} {I : HI} {J : HJ} {i0 i1 : Option Nat} {Q : jPost} {v : VT} {yb : Nat} (hV : VC 1 I v) (hW : WF yb v) (hyb : yb ≤ 2 ^ 20) {p k : Nat} (hp : p < v 0 3) (hk : k ≤ 5) (hT : fitK v p k → Q (some (.int (nI 1))) n I J (Pg i0 i1)) (hN : ¬ fitK v p k → Q (some (.int (nI 0))) n I J (Pg i0 i1)) : Cj X (d + 3) 0 0 mX7_fits [.ref 1, .int (nI p), .int (nI k)] n I J (Pg i0 i1) Q := by
  refine Cj.intro rfl (Nat.le_of_ble_eq_true rfl) (L := [.ref 1, .int (nI p), .int (nI k), jU, jU]) rfl ?_
  obtain ⟨⟨w0, w1, w2, w3, w4, w5, w6⟩, wp, wk, wc, wj⟩ := id hW
  obtain ⟨q1, q2, q3, q4, q5⟩ := wp p hp
  have loop : ∀ (r c : Nat) (z : Value), c + r = v 0 5 → (∀ b, b < c → v 6 b = p → lft k (v 0 1) (v 0 2) (v 0 0) (v 2 p) (v 7 b) = v 8 b) → Rj X (d + 3) 0 0 mX7_fits Q 2 [.ref 1, .int (nI p), .int (nI k), .int (nI c), z] [] n I J (Pg i0 i1) := by
    intro r
    induction r with
    | zero =>
      intro c z hcr hc
      refine j_iload_n dX7_fits_2 rfl rfl rfl ?_
      refine j_aload_n dX7_fits_3 rfl rfl rfl ?_
      refine j_getIv (v := nI (v 0 5)) dX7_fits_4 rfl fX7_19 rfl (by decide) rfl hV.cnt ?_
      refine j_icmpgeN (tgt := 62) dX7_fits_7 rfl rfl (by omega) (by omega) (fun h1 => ?_) (fun h1 => by exfalso; omega)
      refine j_iconst (v := nI 1) dX7_fits_62 rfl rfl ?_
      refine j_iret dX7_fits_63 rfl rfl ?_
      exact hT (fun b hb => hc b (by omega))
    | succ r ih =>
      intro c z hcr hc
      obtain ⟨g1, g2, g3⟩ := wc c (by omega)
      have g4 := lft_le k (v 0 1) (v 0 2) (v 7 c) (v 0 0) (v 2 p)
      refine j_iload_n dX7_fits_2 rfl rfl rfl ?_
      refine j_aload_n dX7_fits_3 rfl rfl rfl ?_
      refine j_getIv (v := nI (v 0 5)) dX7_fits_4 rfl fX7_19 rfl (by decide) rfl hV.cnt ?_
      refine j_icmpgeN (tgt := 62) dX7_fits_7 rfl rfl (by omega) (by omega) (fun h1 => by exfalso; omega) (fun h1 => ?_)
      refine j_aload_n dX7_fits_10 rfl rfl rfl ?_
      refine j_getP (b := 7) dX7_fits_11 rfl fX7_25 rfl (by decide) rfl rfl ?_
      refine j_iload_n dX7_fits_14 rfl rfl rfl ?_
      refine j_iald (j := c) (v := nI (v 6 c)) dX7_fits_15 rfl rfl (by decide) rfl (by omega) (by decide) (hV.cp (by omega)) ?_
      refine j_iload_n dX7_fits_16 rfl rfl rfl ?_
      refine j_icmpneN (tgt := 56) dX7_fits_17 rfl rfl (by omega) (by omega) (fun h2 => ?_) (fun h2 => ?_)
      · refine j_iincN (L' := [.ref 1, .int (nI p), .int (nI k), .int (nI (c + 1)), z]) dX7_fits_56 rfl rfl (b := 1) rfl rfl rfl (by decide) rfl ?_
        refine j_goto (tgt := 2) dX7_fits_59 rfl ?_
        refine ih (c + 1) _ (by omega) (fun b hb => ?_)
        by_cases hbc : b = c
        · subst hbc; intro hbp; omega
        · exact hc b (by omega)
      · refine j_aload_n dX7_fits_20 rfl rfl rfl ?_
        refine j_iload_n dX7_fits_21 rfl rfl rfl ?_
        refine j_aload_n dX7_fits_22 rfl rfl rfl ?_
        refine j_getP (b := 3) dX7_fits_23 rfl fX7_28 rfl (by decide) rfl rfl ?_
        refine j_iload_n dX7_fits_26 rfl rfl rfl ?_
        refine j_iald (j := p) (v := nI (v 2 p)) dX7_fits_27 rfl rfl (by decide) rfl (by omega) (by decide) (hV.lv (by omega)) ?_
        refine j_aload_n dX7_fits_28 rfl rfl rfl ?_
        refine j_getP (b := 8) dX7_fits_29 rfl fX7_31 rfl (by decide) rfl rfl ?_
        refine j_iload_n dX7_fits_32 rfl rfl rfl ?_
        refine j_iald (j := c) (v := nI (v 7 c)) dX7_fits_33 rfl rfl (by decide) rfl (by omega) (by decide) (hV.cm (by omega)) ?_
        refine j_aload_n dX7_fits_34 rfl rfl rfl ?_
        refine j_getIv (v := nI (v 0 2)) dX7_fits_35 rfl fX7_34 rfl (by decide) rfl hV.dry ?_
        refine j_callVw (As := [.int (nI k), .int (nI (v 2 p)), .int (nI (v 7 c)), .int (nI (v 0 2))]) dX7_fits_38 rfl cX7_37 (by decide) rfl rfl (by decide) rfl (by decide) rfl rfl (c_leftAs hV (by omega) (by omega) (by omega) (by omega) (by omega) (by omega) ?_)
        show Rj _ _ _ _ _ _ 41 [.ref 1, .int (nI p), .int (nI k), .int (nI c), z] [.int (nI (lft k (v 0 1) (v 0 2) (v 0 0) (v 2 p) (v 7 c)))] n I J (Pg i0 i1)
        refine j_istore (L' := [.ref 1, .int (nI p), .int (nI k), .int (nI c), .int (nI (lft k (v 0 1) (v 0 2) (v 0 0) (v 2 p) (v 7 c)))]) dX7_fits_41 rfl rfl (by decide) rfl ?_
        refine j_iload dX7_fits_43 rfl rfl ?_
        refine j_aload_n dX7_fits_45 rfl rfl rfl ?_
        refine j_getP (b := 9) dX7_fits_46 rfl fX7_41 rfl (by decide) rfl rfl ?_
        refine j_iload_n dX7_fits_49 rfl rfl rfl ?_
        refine j_iald (j := c) (v := nI (v 8 c)) dX7_fits_50 rfl rfl (by decide) rfl (by omega) (by decide) (hV.cv (by omega)) ?_
        refine j_icmpeqN (tgt := 56) dX7_fits_51 rfl rfl (by omega) (by omega) (fun h3 => ?_) (fun h3 => ?_)
        · refine j_iincN (L' := [.ref 1, .int (nI p), .int (nI k), .int (nI (c + 1)), .int (nI (lft k (v 0 1) (v 0 2) (v 0 0) (v 2 p) (v 7 c)))]) dX7_fits_56 rfl rfl (b := 1) rfl rfl rfl (by decide) rfl ?_
          refine j_goto (tgt := 2) dX7_fits_59 rfl ?_
          refine ih (c + 1) _ (by omega) (fun b hb => ?_)
          by_cases hbc : b = c
          · subst hbc; intro hbp; omega
          · exact hc b (by omega)
        · refine j_iconst (v := nI 0) dX7_fits_54 rfl rfl ?_
          refine j_iret dX7_fits_55 rfl rfl ?_
          exact hN (fun q => absurd (q c (by omega) (by omega)) (by omega))
  refine j_iconst (v := nI 0) dX7_fits_0 rfl rfl ?_
  refine j_istore_n (L' := [.ref 1, .int (nI p), .int (nI k), .int (nI 0), jU]) dX7_fits_1 rfl rfl rfl (by decide) rfl ?_
  exact loop (v 0 5) 0 _ (by omega) (fun b hb => absurd hb (by omega))
set_option maxHeartbeats 4000000 in
set_option maxRecDepth 100000 in
theorem c_kindsThatFit {X : jX} {d n : Nat} {I : HI} {J : HJ} {i0 i1 : Option Nat} {Q : jPost} {v : VT} {yb : Nat} (hV : VC 1 I v) (hW : WF yb v) (hyb : yb ≤ 2 ^ 20) {p : Nat} (hp : p < v 0 3) (hQ : Q (some (.int (nI (bitsOf (fun k => decide (fitK v p k)) 6)))) n I J (Pg i0 i1)) : Cj X (d + 4) 0 0 mX7_kindsThatFit [.ref 1, .int (nI p)] n I J (Pg i0 i1) Q := by
  refine Cj.intro rfl (Nat.le_of_ble_eq_true rfl) (L := [.ref 1, .int (nI p), jU, jU]) rfl ?_
  obtain ⟨⟨w0, w1, w2, w3, w4, w5, w6⟩, wp, wk, wc, wj⟩ := id hW
  have loop : ∀ r k e : Nat, k + r = 6 → e = bitsOf (fun k => decide (fitK v p k)) k → Rj X (d + 4) 0 0 mX7_kindsThatFit Q 4 [.ref 1, .int (nI p), .int (nI e), .int (nI k)] [] n I J (Pg i0 i1) := by
    intro r
    induction r with
    | zero =>
      intro k e hkr he
      refine j_iload_n dX7_kindsThatFit_4 rfl rfl rfl ?_
      refine j_bipush (v := nI 6) dX7_kindsThatFit_5 rfl rfl ?_
      refine j_icmpgeN (tgt := 31) dX7_kindsThatFit_7 rfl rfl (by omega) (by decide) (fun h1 => ?_) (fun h1 => by exfalso; omega)
      refine j_iload_n dX7_kindsThatFit_31 rfl rfl rfl ?_
      refine j_iret dX7_kindsThatFit_32 rfl rfl ?_
      have hk : k = 6 := by omega
      subst hk; subst he; exact hQ
    | succ r ih =>
      intro k e hkr he
      refine j_iload_n dX7_kindsThatFit_4 rfl rfl rfl ?_
      refine j_bipush (v := nI 6) dX7_kindsThatFit_5 rfl rfl ?_
      refine j_icmpgeN (tgt := 31) dX7_kindsThatFit_7 rfl rfl (by omega) (by decide) (fun h1 => by exfalso; omega) (fun h1 => ?_)
      refine j_aload_n dX7_kindsThatFit_10 rfl rfl rfl ?_
      refine j_iload_n dX7_kindsThatFit_11 rfl rfl rfl ?_
      refine j_iload_n dX7_kindsThatFit_12 rfl rfl rfl ?_
      refine j_callSw (As := [.ref 1, .int (nI p), .int (nI k)]) dX7_kindsThatFit_13 rfl cX7_15 rfl (by decide) rfl rfl (c_fits hV hW hyb (by omega) (by omega) (fun g2 => ?_) (fun g2 => ?_))
      · show Rj _ _ _ _ _ _ 16 [.ref 1, .int (nI p), .int (nI e), .int (nI k)] [.int (nI 1)] n I J (Pg i0 i1)
        refine j_ifeqN (tgt := 25) dX7_kindsThatFit_16 rfl rfl (by decide) (fun h3 => by exfalso; omega) (fun h3 => ?_)
        refine j_iload_n dX7_kindsThatFit_19 rfl rfl rfl ?_
        refine j_iconst (v := nI 1) dX7_kindsThatFit_20 rfl rfl ?_
        refine j_iload_n dX7_kindsThatFit_21 rfl rfl rfl ?_
        refine j_ishlN (c := 2 ^ k) dX7_kindsThatFit_22 rfl (by omega) (Nat.one_mul _) ?_
        refine j_iorN (c := e ||| (2 ^ k)) dX7_kindsThatFit_23 rfl rfl ?_
        refine j_istore_n (L' := [.ref 1, .int (nI p), .int (nI (e ||| (2 ^ k))), .int (nI k)]) dX7_kindsThatFit_24 rfl rfl rfl (by decide) rfl ?_
        refine j_iincN (L' := [.ref 1, .int (nI p), .int (nI (e ||| (2 ^ k))), .int (nI (k + 1))]) dX7_kindsThatFit_25 rfl rfl (b := 1) rfl rfl rfl (by decide) rfl ?_
        refine j_goto (tgt := 4) dX7_kindsThatFit_28 rfl ?_
        refine ih (k + 1) _ (by omega) ?_
        rw [he]; simp only [bitsOf]; rw [if_pos (decide_eq_true (by assumption))]
      · show Rj _ _ _ _ _ _ 16 [.ref 1, .int (nI p), .int (nI e), .int (nI k)] [.int (nI 0)] n I J (Pg i0 i1)
        refine j_ifeqN (tgt := 25) dX7_kindsThatFit_16 rfl rfl (by decide) (fun h4 => ?_) (fun h4 => by exfalso; omega)
        refine j_iincN (L' := [.ref 1, .int (nI p), .int (nI e), .int (nI (k + 1))]) dX7_kindsThatFit_25 rfl rfl (b := 1) rfl rfl rfl (by decide) rfl ?_
        refine j_goto (tgt := 4) dX7_kindsThatFit_28 rfl ?_
        refine ih (k + 1) _ (by omega) ?_
        rw [he]; simp only [bitsOf]; rw [if_neg (by rw [decide_eq_false (by assumption)]; decide)]
  refine j_iconst (v := nI 0) dX7_kindsThatFit_0 rfl rfl ?_
  refine j_istore_n (L' := [.ref 1, .int (nI p), .int (nI 0), jU]) dX7_kindsThatFit_1 rfl rfl rfl (by decide) rfl ?_
  refine j_iconst (v := nI 0) dX7_kindsThatFit_2 rfl rfl ?_
  refine j_istore_n (L' := [.ref 1, .int (nI p), .int (nI 0), .int (nI 0)]) dX7_kindsThatFit_3 rfl rfl rfl (by decide) rfl ?_
  exact loop 6 0 0 rfl rfl
def swH (v : VT) (i j c : Nat) : Nat := if v 6 c = i then j else if v 6 c = j then i else v 6 c
abbrev swF (v : VT) (i j : Nat) : Prop := ∀ c, c < v 0 5 → lft (v 1 (v 6 c)) (v 0 1) (v 0 2) (v 0 0) (v 2 (swH v i j c)) (v 7 c) = v 8 c
theorem swH_lt {v : VT} {i j c : Nat} (hi : i < v 0 3) (hj : j < v 0 3) (hc : v 6 c < v 0 3) : swH v i j c < v 0 3 := by
  unfold swH
  split
  · exact hj
  · split
    · exact hi
    · exact hc
set_option maxHeartbeats 4000000 in
set_option maxRecDepth 100000 in
theorem c_fitsSwapped {X : jX} {d n : Nat} {I : HI} {J : HJ} {i0 i1 : Option Nat} {Q : jPost} {v : VT} {yb : Nat} (hV : VC 1 I v) (hW : WF yb v) (hyb : yb ≤ 2 ^ 20) {i j : Nat} (hi : i < v 0 3) (hj : j < v 0 3) (hT : swF v i j → Q (some (.int (nI 1))) n I J (Pg i0 i1)) (hN : ¬ swF v i j → Q (some (.int (nI 0))) n I J (Pg i0 i1)) : Cj X (d + 3) 0 0 mX7_fitsSwapped [.ref 1, .int (nI i), .int (nI j)] n I J (Pg i0 i1) Q := by
  refine Cj.intro rfl (Nat.le_of_ble_eq_true rfl) (L := [.ref 1, .int (nI i), .int (nI j), jU, jU, jU, jU]) rfl ?_
  obtain ⟨⟨w0, w1, w2, w3, w4, w5, w6⟩, wp, wk, wc, wj⟩ := id hW
  have loop : ∀ (r c : Nat) (z1 z2 z3 : Value), c + r = v 0 5 → (∀ b, b < c → lft (v 1 (v 6 b)) (v 0 1) (v 0 2) (v 0 0) (v 2 (swH v i j b)) (v 7 b) = v 8 b) → Rj X (d + 3) 0 0 mX7_fitsSwapped Q 2 [.ref 1, .int (nI i), .int (nI j), .int (nI c), z1, z2, z3] [] n I J (Pg i0 i1) := by
    intro r
    induction r with
    | zero =>
      intro c z1 z2 z3 hcr hc
      refine j_iload_n dX7_fitsSwapped_2 rfl rfl rfl ?_
      refine j_aload_n dX7_fitsSwapped_3 rfl rfl rfl ?_
      refine j_getIv (v := nI (v 0 5)) dX7_fitsSwapped_4 rfl fX7_19 rfl (by decide) rfl hV.cnt ?_
      refine j_icmpgeN (tgt := 91) dX7_fitsSwapped_7 rfl rfl (by omega) (by omega) (fun h1 => ?_) (fun h1 => by exfalso; omega)
      refine j_iconst (v := nI 1) dX7_fitsSwapped_91 rfl rfl ?_
      refine j_iret dX7_fitsSwapped_92 rfl rfl ?_
      exact hT (fun b hb => hc b (by omega))
    | succ r ih =>
      intro c z1 z2 z3 hcr hc
      obtain ⟨g1, g2, g3⟩ := wc c (by omega)
      obtain ⟨q1, q2, q3, q4, q5⟩ := wp _ g1
      have g5 := swH_lt hi hj g1
      obtain ⟨p1, p2, p3, p4, p5⟩ := wp _ g5
      have g4 := lft_le (v 1 (v 6 c)) (v 0 1) (v 0 2) (v 7 c) (v 0 0) (v 2 (swH v i j c))
      refine j_iload_n dX7_fitsSwapped_2 rfl rfl rfl ?_
      refine j_aload_n dX7_fitsSwapped_3 rfl rfl rfl ?_
      refine j_getIv (v := nI (v 0 5)) dX7_fitsSwapped_4 rfl fX7_19 rfl (by decide) rfl hV.cnt ?_
      refine j_icmpgeN (tgt := 91) dX7_fitsSwapped_7 rfl rfl (by omega) (by omega) (fun h1 => by exfalso; omega) (fun h1 => ?_)
      refine j_aload_n dX7_fitsSwapped_10 rfl rfl rfl ?_
      refine j_getP (b := 7) dX7_fitsSwapped_11 rfl fX7_25 rfl (by decide) rfl rfl ?_
      refine j_iload_n dX7_fitsSwapped_14 rfl rfl rfl ?_
      refine j_iald (j := c) (v := nI (v 6 c)) dX7_fitsSwapped_15 rfl rfl (by decide) rfl (by omega) (by decide) (hV.cp (by omega)) ?_
      refine j_istore (L' := [.ref 1, .int (nI i), .int (nI j), .int (nI c), .int (nI (v 6 c)), z2, z3]) dX7_fitsSwapped_16 rfl rfl (by decide) rfl ?_
      refine j_iload dX7_fitsSwapped_18 rfl rfl ?_
      refine j_iload_n dX7_fitsSwapped_20 rfl rfl rfl ?_
      suffices K3 : Rj X (d + 3) 0 0 mX7_fitsSwapped Q 40 [.ref 1, .int (nI i), .int (nI j), .int (nI c), .int (nI (v 6 c)), z2, z3] [.int (nI (if (v 6 c) = i then j else (if (v 6 c) = j then i else (v 6 c))))] n I J (Pg i0 i1) by
        refine j_icmpneN (tgt := 28) dX7_fitsSwapped_21 rfl rfl (by omega) (by omega) (fun h2 => ?_) (fun h2 => ?_)
        · refine j_iload dX7_fitsSwapped_28 rfl rfl ?_
          refine j_iload_n dX7_fitsSwapped_30 rfl rfl rfl ?_
          refine j_icmpneN (tgt := 38) dX7_fitsSwapped_31 rfl rfl (by omega) (by omega) (fun h4 => ?_) (fun h4 => ?_)
          · refine j_iload dX7_fitsSwapped_38 rfl rfl ?_
            rw [if_neg h2, if_neg h4] at K3; exact K3
          · refine j_iload_n dX7_fitsSwapped_34 rfl rfl rfl ?_
            refine j_goto (tgt := 40) dX7_fitsSwapped_35 rfl ?_
            rw [if_neg h2, if_pos h4] at K3; exact K3
        · refine j_iload_n dX7_fitsSwapped_24 rfl rfl rfl ?_
          refine j_goto (tgt := 40) dX7_fitsSwapped_25 rfl ?_
          rw [if_pos h2] at K3; exact K3
      show Rj _ _ _ _ _ _ 40 [.ref 1, .int (nI i), .int (nI j), .int (nI c), .int (nI (v 6 c)), z2, z3] [.int (nI (swH v i j c))] n I J (Pg i0 i1)
      refine j_istore (L' := [.ref 1, .int (nI i), .int (nI j), .int (nI c), .int (nI (v 6 c)), .int (nI (swH v i j c)), z3]) dX7_fitsSwapped_40 rfl rfl (by decide) rfl ?_
      refine j_aload_n dX7_fitsSwapped_42 rfl rfl rfl ?_
      refine j_aload_n dX7_fitsSwapped_43 rfl rfl rfl ?_
      refine j_getP (b := 2) dX7_fitsSwapped_44 rfl fX7_83 rfl (by decide) rfl rfl ?_
      refine j_iload dX7_fitsSwapped_47 rfl rfl ?_
      refine j_iald (j := v 6 c) (v := nI (v 1 (v 6 c))) dX7_fitsSwapped_49 rfl rfl (by decide) rfl (by omega) (by decide) (hV.kd (by omega)) ?_
      refine j_aload_n dX7_fitsSwapped_50 rfl rfl rfl ?_
      refine j_getP (b := 3) dX7_fitsSwapped_51 rfl fX7_28 rfl (by decide) rfl rfl ?_
      refine j_iload dX7_fitsSwapped_54 rfl rfl ?_
      refine j_iald (j := swH v i j c) (v := nI (v 2 (swH v i j c))) dX7_fitsSwapped_56 rfl rfl (by decide) rfl (by omega) (by decide) (hV.lv (by omega)) ?_
      refine j_aload_n dX7_fitsSwapped_57 rfl rfl rfl ?_
      refine j_getP (b := 8) dX7_fitsSwapped_58 rfl fX7_31 rfl (by decide) rfl rfl ?_
      refine j_iload_n dX7_fitsSwapped_61 rfl rfl rfl ?_
      refine j_iald (j := c) (v := nI (v 7 c)) dX7_fitsSwapped_62 rfl rfl (by decide) rfl (by omega) (by decide) (hV.cm (by omega)) ?_
      refine j_aload_n dX7_fitsSwapped_63 rfl rfl rfl ?_
      refine j_getIv (v := nI (v 0 2)) dX7_fitsSwapped_64 rfl fX7_34 rfl (by decide) rfl hV.dry ?_
      refine j_callVw (As := [.int (nI (v 1 (v 6 c))), .int (nI (v 2 (swH v i j c))), .int (nI (v 7 c)), .int (nI (v 0 2))]) dX7_fitsSwapped_67 rfl cX7_37 (by decide) rfl rfl (by decide) rfl (by decide) rfl rfl (c_leftAs hV (by omega) (by omega) (by omega) (by omega) (by omega) (by omega) ?_)
      show Rj _ _ _ _ _ _ 70 [.ref 1, .int (nI i), .int (nI j), .int (nI c), .int (nI (v 6 c)), .int (nI (swH v i j c)), z3] [.int (nI (lft (v 1 (v 6 c)) (v 0 1) (v 0 2) (v 0 0) (v 2 (swH v i j c)) (v 7 c)))] n I J (Pg i0 i1)
      refine j_istore (L' := [.ref 1, .int (nI i), .int (nI j), .int (nI c), .int (nI (v 6 c)), .int (nI (swH v i j c)), .int (nI (lft (v 1 (v 6 c)) (v 0 1) (v 0 2) (v 0 0) (v 2 (swH v i j c)) (v 7 c)))]) dX7_fitsSwapped_70 rfl rfl (by decide) rfl ?_
      refine j_iload dX7_fitsSwapped_72 rfl rfl ?_
      refine j_aload_n dX7_fitsSwapped_74 rfl rfl rfl ?_
      refine j_getP (b := 9) dX7_fitsSwapped_75 rfl fX7_41 rfl (by decide) rfl rfl ?_
      refine j_iload_n dX7_fitsSwapped_78 rfl rfl rfl ?_
      refine j_iald (j := c) (v := nI (v 8 c)) dX7_fitsSwapped_79 rfl rfl (by decide) rfl (by omega) (by decide) (hV.cv (by omega)) ?_
      refine j_icmpeqN (tgt := 85) dX7_fitsSwapped_80 rfl rfl (by omega) (by omega) (fun h5 => ?_) (fun h5 => ?_)
      · refine j_iincN (L' := [.ref 1, .int (nI i), .int (nI j), .int (nI (c + 1)), .int (nI (v 6 c)), .int (nI (swH v i j c)), .int (nI (lft (v 1 (v 6 c)) (v 0 1) (v 0 2) (v 0 0) (v 2 (swH v i j c)) (v 7 c)))]) dX7_fitsSwapped_85 rfl rfl (b := 1) rfl rfl rfl (by decide) rfl ?_
        refine j_goto (tgt := 2) dX7_fitsSwapped_88 rfl ?_
        refine ih (c + 1) _ _ _ (by omega) (fun b hb => ?_)
        by_cases hbc : b = c
        · subst hbc; omega
        · exact hc b (by omega)
      · refine j_iconst (v := nI 0) dX7_fitsSwapped_83 rfl rfl ?_
        refine j_iret dX7_fitsSwapped_84 rfl rfl ?_
        exact hN (fun q => absurd (q c (by omega)) (by omega))
  refine j_iconst (v := nI 0) dX7_fitsSwapped_0 rfl rfl ?_
  refine j_istore_n (L' := [.ref 1, .int (nI i), .int (nI j), .int (nI 0), jU, jU, jU]) dX7_fitsSwapped_1 rfl rfl rfl (by decide) rfl ?_
  exact loop (v 0 5) 0 _ _ _ (by omega) (fun b hb => absurd hb (by omega))
/-- the swaps that fit, in order: of i with j, j + 1 .. -/
def swJ (v : VT) (i : Nat) : Nat → Nat → List Nat
  | 0, _ => []
  | r + 1, j => if swF v i j then (10 * i + j) :: swJ v i r (j + 1) else swJ v i r (j + 1)
def swI (v : VT) : Nat → Nat → List Nat
  | 0, _ => []
  | r + 1, i => swJ v i (v 0 3 - (i + 1)) (i + 1) ++ swI v r (i + 1)
def pickL (l : List Nat) (t : Nat) : Int32 := match l[t]? with
  | some x => nI x
  | none => -5
theorem nI_m1 {f : Nat} (hf : f < 2 ^ 31) : ¬ nI f = -1 := by
  intro h
  have h2 := nI_toInt hf
  rw [h] at h2
  have h3 : (-1 : Int32).toInt = -1 := rfl
  omega
theorem swJ_len (v : VT) (i : Nat) : ∀ r j, (swJ v i r j).length ≤ r
  | 0, _ => Nat.le_refl _
  | r + 1, j => by
    have := swJ_len v i r (j + 1)
    unfold swJ
    split
    · simp only [List.length_cons]; omega
    · omega
theorem swI_len (v : VT) : ∀ r i, (swI v r i).length ≤ r * v 0 3
  | 0, _ => by simp [swI]
  | r + 1, i => by
    have h1 := swI_len v r (i + 1)
    have h2 := swJ_len v i (v 0 3 - (i + 1)) (i + 1)
    simp only [swI, List.length_append, Nat.succ_mul]
    omega
theorem swI_len36 {v : VT} (h : v 0 3 ≤ 6) : (swI v (v 0 3) 0).length ≤ 36 := Nat.le_trans (swI_len v _ 0) (Nat.mul_le_mul h h)
theorem swJ_t {v : VT} {i r j : Nat} (h : swF v i j) : swJ v i (r + 1) j = (10 * i + j) :: swJ v i r (j + 1) := by simp only [swJ]; rw [if_pos h]
theorem swJ_f {v : VT} {i r j : Nat} (h : ¬ swF v i j) : swJ v i (r + 1) j = swJ v i r (j + 1) := by simp only [swJ]; rw [if_neg h]
theorem pickL_s (x : Nat) (l : List Nat) {t f : Nat} (h : f + 1 ≤ t) : pickL (x :: l) (t - f) = pickL l (t - (f + 1)) := by
  rw [show t - f = (t - (f + 1)) + 1 by omega]
  rfl
theorem pickL_0 (x : Nat) (l : List Nat) (t : Nat) : pickL (x :: l) (t - t) = nI x := by
  rw [Nat.sub_self]
  rfl
set_option maxHeartbeats 4000000 in
set_option maxRecDepth 100000 in
theorem c_swaps_all {X : jX} {d n : Nat} {I : HI} {J : HJ} {i0 i1 : Option Nat} {Q : jPost} {v : VT} {yb : Nat} (hV : VC 1 I v) (hW : WF yb v) (hyb : yb ≤ 2 ^ 20)  (hQ : Q (some (.int (nI (swI v (v 0 3) 0).length))) n I J (Pg i0 i1)) : Cj X (d + 4) 0 0 mX7_swaps [.ref 1, .int (-1)] n I J (Pg i0 i1) Q := by
  refine Cj.intro rfl (Nat.le_of_ble_eq_true rfl) (L := [.ref 1, .int (-1), jU, jU, jU]) rfl ?_
  obtain ⟨⟨w0, w1, w2, w3, w4, w5, w6⟩, wp, wk, wc, wj⟩ := id hW
  have hln := swI_len36 w3
  have outer : ∀ (r i f : Nat) (z : Value), i + r = v 0 3 → f + (swI v r i).length = (swI v (v 0 3) 0).length → Rj X (d + 4) 0 0 mX7_swaps Q 4 [.ref 1, .int (-1), .int (nI f), .int (nI i), z] [] n I J (Pg i0 i1) := by
    intro r
    induction r with
    | zero =>
      intro i f z hir hf
      refine j_iload_n dX7_swaps_4 rfl rfl rfl ?_
      refine j_aload_n dX7_swaps_5 rfl rfl rfl ?_
      refine j_getIv (v := nI (v 0 3)) dX7_swaps_6 rfl fX7_77 rfl (by decide) rfl hV.pairs ?_
      refine j_icmpgeN (tgt := 64) dX7_swaps_9 rfl rfl (by omega) (by omega) (fun h1 => ?_) (fun h1 => by exfalso; omega)
      refine j_iload_n dX7_swaps_64 rfl rfl rfl ?_
      refine j_iconst (v := (-1)) dX7_swaps_65 rfl rfl ?_
      refine j_icmpne (tgt := 73) dX7_swaps_66 rfl rfl (fun h2 => by exfalso; exact h2 rfl) (fun h2 => ?_)
      refine j_iload_n dX7_swaps_69 rfl rfl rfl ?_
      refine j_goto (tgt := 75) dX7_swaps_70 rfl ?_
      refine j_iret dX7_swaps_75 rfl rfl ?_
      simp only [swI, List.length_nil, Nat.add_zero] at hf
      rw [hf]; exact hQ
    | succ r ih =>
      intro i f z hir hf
      have inner : ∀ (q j f : Nat), j + q = v 0 3 → i < j → f + (swJ v i q j ++ swI v r (i + 1)).length = (swI v (v 0 3) 0).length → Rj X (d + 4) 0 0 mX7_swaps Q 17 [.ref 1, .int (-1), .int (nI f), .int (nI i), .int (nI j)] [] n I J (Pg i0 i1) := by
        intro q
        induction q with
        | zero =>
          intro j f hjq hij hf
          refine j_iload dX7_swaps_17 rfl rfl ?_
          refine j_aload_n dX7_swaps_19 rfl rfl rfl ?_
          refine j_getIv (v := nI (v 0 3)) dX7_swaps_20 rfl fX7_77 rfl (by decide) rfl hV.pairs ?_
          refine j_icmpgeN (tgt := 58) dX7_swaps_23 rfl rfl (by omega) (by omega) (fun h1 => ?_) (fun h1 => by exfalso; omega)
          refine j_iincN (L' := [.ref 1, .int (-1), .int (nI f), .int (nI (i + 1)), .int (nI j)]) dX7_swaps_58 rfl rfl (b := 1) rfl rfl rfl (by decide) rfl ?_
          refine j_goto (tgt := 4) dX7_swaps_61 rfl ?_
          exact ih (i + 1) f _ (by omega) hf
        | succ q ih2 =>
          intro j f hjq hij hf
          refine j_iload dX7_swaps_17 rfl rfl ?_
          refine j_aload_n dX7_swaps_19 rfl rfl rfl ?_
          refine j_getIv (v := nI (v 0 3)) dX7_swaps_20 rfl fX7_77 rfl (by decide) rfl hV.pairs ?_
          refine j_icmpgeN (tgt := 58) dX7_swaps_23 rfl rfl (by omega) (by omega) (fun h1 => by exfalso; omega) (fun h1 => ?_)
          refine j_aload_n dX7_swaps_26 rfl rfl rfl ?_
          refine j_iload_n dX7_swaps_27 rfl rfl rfl ?_
          refine j_iload dX7_swaps_28 rfl rfl ?_
          refine j_callSw (As := [.ref 1, .int (nI i), .int (nI j)]) dX7_swaps_30 rfl cX7_80 rfl (by decide) rfl rfl (c_fitsSwapped hV hW hyb (by omega) (by omega) (fun g2 => ?_) (fun g2 => ?_))
          · show Rj _ _ _ _ _ _ 33 [.ref 1, .int (-1), .int (nI f), .int (nI i), .int (nI j)] [.int (nI 1)] n I J (Pg i0 i1)
            refine j_ifeqN (tgt := 52) dX7_swaps_33 rfl rfl (by decide) (fun h3 => by exfalso; omega) (fun h3 => ?_)
            refine j_iload_n dX7_swaps_36 rfl rfl rfl ?_
            refine j_iload_n dX7_swaps_37 rfl rfl rfl ?_
            refine j_icmpne (tgt := 49) dX7_swaps_38 rfl rfl (fun h4 => ?_) (fun h4 => by exfalso; exact nI_m1 (by omega) h4)
            refine j_iincN (L' := [.ref 1, .int (-1), .int (nI (f + 1)), .int (nI i), .int (nI j)]) dX7_swaps_49 rfl rfl (b := 1) rfl rfl rfl (by decide) rfl ?_
            refine j_iincN (L' := [.ref 1, .int (-1), .int (nI (f + 1)), .int (nI i), .int (nI (j + 1))]) dX7_swaps_52 rfl rfl (b := 1) rfl rfl rfl (by decide) rfl ?_
            refine j_goto (tgt := 17) dX7_swaps_55 rfl ?_
            refine ih2 (j + 1) _ (by omega) (by omega) ?_
            rw [swJ_t (by assumption)] at hf
            simp only [List.cons_append, List.length_cons] at hf
            omega
          · show Rj _ _ _ _ _ _ 33 [.ref 1, .int (-1), .int (nI f), .int (nI i), .int (nI j)] [.int (nI 0)] n I J (Pg i0 i1)
            refine j_ifeqN (tgt := 52) dX7_swaps_33 rfl rfl (by decide) (fun h5 => ?_) (fun h5 => by exfalso; omega)
            refine j_iincN (L' := [.ref 1, .int (-1), .int (nI f), .int (nI i), .int (nI (j + 1))]) dX7_swaps_52 rfl rfl (b := 1) rfl rfl rfl (by decide) rfl ?_
            refine j_goto (tgt := 17) dX7_swaps_55 rfl ?_
            refine ih2 (j + 1) _ (by omega) (by omega) ?_
            rw [swJ_f (by assumption)] at hf
            exact hf
      refine j_iload_n dX7_swaps_4 rfl rfl rfl ?_
      refine j_aload_n dX7_swaps_5 rfl rfl rfl ?_
      refine j_getIv (v := nI (v 0 3)) dX7_swaps_6 rfl fX7_77 rfl (by decide) rfl hV.pairs ?_
      refine j_icmpgeN (tgt := 64) dX7_swaps_9 rfl rfl (by omega) (by omega) (fun h1 => by exfalso; omega) (fun h1 => ?_)
      refine j_iload_n dX7_swaps_12 rfl rfl rfl ?_
      refine j_iconst (v := nI 1) dX7_swaps_13 rfl rfl ?_
      refine j_iaddN (c := i + 1) dX7_swaps_14 rfl rfl ?_
      refine j_istore (L' := [.ref 1, .int (-1), .int (nI f), .int (nI i), .int (nI (i + 1))]) dX7_swaps_15 rfl rfl (by decide) rfl ?_
      exact inner (v 0 3 - (i + 1)) (i + 1) f (by omega) (by omega) hf
  refine j_iconst (v := nI 0) dX7_swaps_0 rfl rfl ?_
  refine j_istore_n (L' := [.ref 1, .int (-1), .int (nI 0), jU, jU]) dX7_swaps_1 rfl rfl rfl (by decide) rfl ?_
  refine j_iconst (v := nI 0) dX7_swaps_2 rfl rfl ?_
  refine j_istore_n (L' := [.ref 1, .int (-1), .int (nI 0), .int (nI 0), jU]) dX7_swaps_3 rfl rfl rfl (by decide) rfl ?_
  exact outer (v 0 3) 0 0 _ (by omega) (by simp)
set_option maxHeartbeats 4000000 in
set_option maxRecDepth 100000 in
theorem c_swaps_k {X : jX} {d n : Nat} {I : HI} {J : HJ} {i0 i1 : Option Nat} {Q : jPost} {v : VT} {yb : Nat} (hV : VC 1 I v) (hW : WF yb v) (hyb : yb ≤ 2 ^ 20) {kk : Nat} (hkk : kk < 2 ^ 31) (hQ : Q (some (.int (pickL (swI v (v 0 3) 0) kk))) n I J (Pg i0 i1)) : Cj X (d + 4) 0 0 mX7_swaps [.ref 1, .int (nI kk)] n I J (Pg i0 i1) Q := by
  refine Cj.intro rfl (Nat.le_of_ble_eq_true rfl) (L := [.ref 1, .int (nI kk), jU, jU, jU]) rfl ?_
  obtain ⟨⟨w0, w1, w2, w3, w4, w5, w6⟩, wp, wk, wc, wj⟩ := id hW
  have outer : ∀ (r i f : Nat) (z : Value), i + r = v 0 3 → (pickL (swI v r i) (kk - f) = pickL (swI v (v 0 3) 0) kk ∧ f ≤ kk) → Rj X (d + 4) 0 0 mX7_swaps Q 4 [.ref 1, .int (nI kk), .int (nI f), .int (nI i), z] [] n I J (Pg i0 i1) := by
    intro r
    induction r with
    | zero =>
      intro i f z hir hf
      refine j_iload_n dX7_swaps_4 rfl rfl rfl ?_
      refine j_aload_n dX7_swaps_5 rfl rfl rfl ?_
      refine j_getIv (v := nI (v 0 3)) dX7_swaps_6 rfl fX7_77 rfl (by decide) rfl hV.pairs ?_
      refine j_icmpgeN (tgt := 64) dX7_swaps_9 rfl rfl (by omega) (by omega) (fun h1 => ?_) (fun h1 => by exfalso; omega)
      refine j_iload_n dX7_swaps_64 rfl rfl rfl ?_
      refine j_iconst (v := (-1)) dX7_swaps_65 rfl rfl ?_
      refine j_icmpne (tgt := 73) dX7_swaps_66 rfl rfl (fun h2 => ?_) (fun h2 => by exfalso; exact nI_m1 hkk h2)
      refine j_bipush (v := (-5)) dX7_swaps_73 rfl rfl ?_
      refine j_iret dX7_swaps_75 rfl rfl ?_
      rw [← hf.1] at hQ; exact hQ
    | succ r ih =>
      intro i f z hir hf
      have inner : ∀ (q j f : Nat), j + q = v 0 3 → i < j → (pickL (swJ v i q j ++ swI v r (i + 1)) (kk - f) = pickL (swI v (v 0 3) 0) kk ∧ f ≤ kk) → Rj X (d + 4) 0 0 mX7_swaps Q 17 [.ref 1, .int (nI kk), .int (nI f), .int (nI i), .int (nI j)] [] n I J (Pg i0 i1) := by
        intro q
        induction q with
        | zero =>
          intro j f hjq hij hf
          refine j_iload dX7_swaps_17 rfl rfl ?_
          refine j_aload_n dX7_swaps_19 rfl rfl rfl ?_
          refine j_getIv (v := nI (v 0 3)) dX7_swaps_20 rfl fX7_77 rfl (by decide) rfl hV.pairs ?_
          refine j_icmpgeN (tgt := 58) dX7_swaps_23 rfl rfl (by omega) (by omega) (fun h1 => ?_) (fun h1 => by exfalso; omega)
          refine j_iincN (L' := [.ref 1, .int (nI kk), .int (nI f), .int (nI (i + 1)), .int (nI j)]) dX7_swaps_58 rfl rfl (b := 1) rfl rfl rfl (by decide) rfl ?_
          refine j_goto (tgt := 4) dX7_swaps_61 rfl ?_
          exact ih (i + 1) f _ (by omega) hf
        | succ q ih2 =>
          intro j f hjq hij hf
          refine j_iload dX7_swaps_17 rfl rfl ?_
          refine j_aload_n dX7_swaps_19 rfl rfl rfl ?_
          refine j_getIv (v := nI (v 0 3)) dX7_swaps_20 rfl fX7_77 rfl (by decide) rfl hV.pairs ?_
          refine j_icmpgeN (tgt := 58) dX7_swaps_23 rfl rfl (by omega) (by omega) (fun h1 => by exfalso; omega) (fun h1 => ?_)
          refine j_aload_n dX7_swaps_26 rfl rfl rfl ?_
          refine j_iload_n dX7_swaps_27 rfl rfl rfl ?_
          refine j_iload dX7_swaps_28 rfl rfl ?_
          refine j_callSw (As := [.ref 1, .int (nI i), .int (nI j)]) dX7_swaps_30 rfl cX7_80 rfl (by decide) rfl rfl (c_fitsSwapped hV hW hyb (by omega) (by omega) (fun g2 => ?_) (fun g2 => ?_))
          · show Rj _ _ _ _ _ _ 33 [.ref 1, .int (nI kk), .int (nI f), .int (nI i), .int (nI j)] [.int (nI 1)] n I J (Pg i0 i1)
            refine j_ifeqN (tgt := 52) dX7_swaps_33 rfl rfl (by decide) (fun h3 => by exfalso; omega) (fun h3 => ?_)
            refine j_iload_n dX7_swaps_36 rfl rfl rfl ?_
            refine j_iload_n dX7_swaps_37 rfl rfl rfl ?_
            refine j_icmpneN (tgt := 49) dX7_swaps_38 rfl rfl (by omega) (by omega) (fun h4 => ?_) (fun h4 => ?_)
            · refine j_iincN (L' := [.ref 1, .int (nI kk), .int (nI (f + 1)), .int (nI i), .int (nI j)]) dX7_swaps_49 rfl rfl (b := 1) rfl rfl rfl (by decide) rfl ?_
              refine j_iincN (L' := [.ref 1, .int (nI kk), .int (nI (f + 1)), .int (nI i), .int (nI (j + 1))]) dX7_swaps_52 rfl rfl (b := 1) rfl rfl rfl (by decide) rfl ?_
              refine j_goto (tgt := 17) dX7_swaps_55 rfl ?_
              refine ih2 (j + 1) _ (by omega) (by omega) ?_
              obtain ⟨hf1, hf2⟩ := hf
              rw [swJ_t (by assumption), List.cons_append, pickL_s _ _ (by omega)] at hf1
              exact ⟨hf1, by omega⟩
            · refine j_bipush (v := nI 10) dX7_swaps_41 rfl rfl ?_
              refine j_iload_n dX7_swaps_43 rfl rfl rfl ?_
              refine j_imulN (c := 10 * i) dX7_swaps_44 rfl rfl ?_
              refine j_iload dX7_swaps_45 rfl rfl ?_
              refine j_iaddN (c := (10 * i) + j) dX7_swaps_47 rfl rfl ?_
              refine j_iret dX7_swaps_48 rfl rfl ?_
              obtain ⟨hf1, hf2⟩ := hf
              rw [swJ_t (by assumption)] at hf1
              have hfk : f = kk := by assumption
              subst hfk
              rw [List.cons_append, pickL_0] at hf1
              rw [← hf1] at hQ; exact hQ
          · show Rj _ _ _ _ _ _ 33 [.ref 1, .int (nI kk), .int (nI f), .int (nI i), .int (nI j)] [.int (nI 0)] n I J (Pg i0 i1)
            refine j_ifeqN (tgt := 52) dX7_swaps_33 rfl rfl (by decide) (fun h5 => ?_) (fun h5 => by exfalso; omega)
            refine j_iincN (L' := [.ref 1, .int (nI kk), .int (nI f), .int (nI i), .int (nI (j + 1))]) dX7_swaps_52 rfl rfl (b := 1) rfl rfl rfl (by decide) rfl ?_
            refine j_goto (tgt := 17) dX7_swaps_55 rfl ?_
            refine ih2 (j + 1) _ (by omega) (by omega) ?_
            rw [swJ_f (by assumption)] at hf
            exact hf
      refine j_iload_n dX7_swaps_4 rfl rfl rfl ?_
      refine j_aload_n dX7_swaps_5 rfl rfl rfl ?_
      refine j_getIv (v := nI (v 0 3)) dX7_swaps_6 rfl fX7_77 rfl (by decide) rfl hV.pairs ?_
      refine j_icmpgeN (tgt := 64) dX7_swaps_9 rfl rfl (by omega) (by omega) (fun h1 => by exfalso; omega) (fun h1 => ?_)
      refine j_iload_n dX7_swaps_12 rfl rfl rfl ?_
      refine j_iconst (v := nI 1) dX7_swaps_13 rfl rfl ?_
      refine j_iaddN (c := i + 1) dX7_swaps_14 rfl rfl ?_
      refine j_istore (L' := [.ref 1, .int (nI kk), .int (nI f), .int (nI i), .int (nI (i + 1))]) dX7_swaps_15 rfl rfl (by decide) rfl ?_
      exact inner (v 0 3 - (i + 1)) (i + 1) f (by omega) (by omega) hf
  refine j_iconst (v := nI 0) dX7_swaps_0 rfl rfl ?_
  refine j_istore_n (L' := [.ref 1, .int (nI kk), .int (nI 0), jU, jU]) dX7_swaps_1 rfl rfl rfl (by decide) rfl ?_
  refine j_iconst (v := nI 0) dX7_swaps_2 rfl rfl ?_
  refine j_istore_n (L' := [.ref 1, .int (nI kk), .int (nI 0), .int (nI 0), jU]) dX7_swaps_3 rfl rfl rfl (by decide) rfl ?_
  exact outer (v 0 3) 0 0 _ (by omega) ⟨rfl, Nat.zero_le _⟩
/-- what is left, were 'more' put to it in each year -/
def lwm (k da dr more : Nat) : Nat → Nat → Nat → Nat
  | _, l, 0 => l
  | y, l, m + 1 => if l = 0 then 0 else lwm k da dr more (y + 1) (min 60 (l + more) - gos k y da dr) m
theorem lwm_0 (k da dr more : Nat) : ∀ m y, lwm k da dr more y 0 m = 0
  | 0, _ => rfl
  | m + 1, y => by simp [lwm]
theorem lwm_le (k da dr more : Nat) : ∀ m y l, l ≤ 60 → lwm k da dr more y l m ≤ 60
  | 0, _, _, h => h
  | m + 1, y, l, h => by
    unfold lwm
    split
    · omega
    · exact lwm_le k da dr more m (y + 1) _ (by omega)
theorem mn60 {l : Nat} (hl : l < 2 ^ 30) : (if nI l < nI 60 then nI l else nI 60) = nI (min 60 l) := by
  by_cases h : l < 60
  · rw [if_pos ((nI_ltI (by omega) (by omega)).mpr h), Nat.min_eq_right (by omega)]
  · rw [if_neg (fun q => h ((nI_ltI (by omega) (by omega)).mp q)), Nat.min_eq_left (by omega)]
abbrev pbF (v : VT) (p : Nat) : Prop := ∀ c, c < v 0 5 → lwm (v 1 (v 6 c)) (v 0 1) (v 0 2) (if v 6 c = p then 1 else 0) (v 0 0) (v 2 (v 6 c)) (v 7 c) = v 8 c
set_option maxHeartbeats 4000000 in
set_option maxRecDepth 100000 in
theorem c_leftWithMore {X : jX} {d n : Nat} {I : HI} {J : HJ} {i0 i1 : Option Nat} {Q : jPost} {v : VT} {yb : Nat} (hV : VC 1 I v) (hW : WF yb v) (hyb : yb ≤ 2 ^ 20) {p m w : Nat} (hp : p < v 0 3) (hm : m ≤ 60) (hw : w ≤ 1) (hQ : Q (some (.int (nI (lwm (v 1 p) (v 0 1) (v 0 2) w (v 0 0) (v 2 p) m)))) n I J (Pg i0 i1)) : Cj X (d + 3) 0 0 mX7_leftWithMore [.ref 1, .int (nI p), .int (nI m), .int (nI w)] n I J (Pg i0 i1) Q := by
  refine Cj.intro rfl (Nat.le_of_ble_eq_true rfl) (L := [.ref 1, .int (nI p), .int (nI m), .int (nI w), jU, jU]) rfl ?_
  obtain ⟨⟨w0, w1, w2, w3, w4, w5, w6⟩, wp, wk, wc, wj⟩ := id hW
  obtain ⟨q1, q2, q3, q4, q5⟩ := wp p hp
  have loop : ∀ r y l : Nat, y + r = m → l ≤ 60 → lwm (v 1 p) (v 0 1) (v 0 2) w (v 0 0 + y) l r = lwm (v 1 p) (v 0 1) (v 0 2) w (v 0 0) (v 2 p) m → Rj X (d + 3) 0 0 mX7_leftWithMore Q 11 [.ref 1, .int (nI p), .int (nI m), .int (nI w), .int (nI l), .int (nI y)] [] n I J (Pg i0 i1) := by
    intro r
    induction r with
    | zero =>
      intro y l hyr hl hr
      refine j_iload dX7_leftWithMore_11 rfl rfl ?_
      refine j_iload_n dX7_leftWithMore_13 rfl rfl rfl ?_
      refine j_icmpgeN (tgt := 46) dX7_leftWithMore_14 rfl rfl (by omega) (by omega) (fun h1 => ?_) (fun h1 => by exfalso; omega)
      refine j_iload dX7_leftWithMore_46 rfl rfl ?_
      refine j_iret dX7_leftWithMore_48 rfl rfl ?_
      rw [← hr] at hQ; exact hQ
    | succ r ih =>
      intro y l hyr hl hr
      refine j_iload dX7_leftWithMore_11 rfl rfl ?_
      refine j_iload_n dX7_leftWithMore_13 rfl rfl rfl ?_
      refine j_icmpgeN (tgt := 46) dX7_leftWithMore_14 rfl rfl (by omega) (by omega) (fun h1 => by exfalso; omega) (fun h1 => ?_)
      refine j_iload dX7_leftWithMore_17 rfl rfl ?_
      refine j_ifleN (tgt := 46) dX7_leftWithMore_19 rfl rfl (by omega) (fun h2 => ?_) (fun h2 => ?_)
      · refine j_iload dX7_leftWithMore_46 rfl rfl ?_
        refine j_iret dX7_leftWithMore_48 rfl rfl ?_
        have h0 : l = 0 := by omega
        subst h0
        rw [lwm_0] at hr
        rw [← hr] at hQ; exact hQ
      · refine j_aload_n dX7_leftWithMore_22 rfl rfl rfl ?_
        refine j_bipush (v := nI 60) dX7_leftWithMore_23 rfl rfl ?_
        refine j_iload dX7_leftWithMore_25 rfl rfl ?_
        refine j_iload_n dX7_leftWithMore_27 rfl rfl rfl ?_
        refine j_iaddN (c := l + w) dX7_leftWithMore_28 rfl rfl ?_
        refine j_min dX7_leftWithMore_29 rfl cX7_94 (by decide) ?_
        refine j_val (mn60 (by omega)) ?_
        refine j_iload_n dX7_leftWithMore_32 rfl rfl rfl ?_
        refine j_iload dX7_leftWithMore_33 rfl rfl ?_
        refine j_callVw (As := [.int (nI (min 60 (l + w))), .int (nI p), .int (nI y)]) dX7_leftWithMore_35 rfl cX7_97 (by decide) rfl rfl (by decide) rfl (by decide) rfl rfl (c_leftInYear hV (by omega) (by omega) (by omega) (by omega) (by omega) (by omega) (by omega) ?_)
        show Rj _ _ _ _ _ _ 38 [.ref 1, .int (nI p), .int (nI m), .int (nI w), .int (nI l), .int (nI y)] [.int (nI ((min 60 (l + w)) - gos (v 1 p) (v 0 0 + y) (v 0 1) (v 0 2)))] n I J (Pg i0 i1)
        refine j_istore (L' := [.ref 1, .int (nI p), .int (nI m), .int (nI w), .int (nI ((min 60 (l + w)) - gos (v 1 p) (v 0 0 + y) (v 0 1) (v 0 2))), .int (nI y)]) dX7_leftWithMore_38 rfl rfl (by decide) rfl ?_
        refine j_iincN (L' := [.ref 1, .int (nI p), .int (nI m), .int (nI w), .int (nI ((min 60 (l + w)) - gos (v 1 p) (v 0 0 + y) (v 0 1) (v 0 2))), .int (nI (y + 1))]) dX7_leftWithMore_40 rfl rfl (b := 1) rfl rfl rfl (by decide) rfl ?_
        refine j_goto (tgt := 11) dX7_leftWithMore_43 rfl ?_
        refine ih (y + 1) _ (by omega) (by omega) ?_
        rw [← hr]
        conv => rhs; unfold lwm
        rw [if_neg (by omega)]
        rfl
  refine j_aload_n dX7_leftWithMore_0 rfl rfl rfl ?_
  refine j_getP (b := 3) dX7_leftWithMore_1 rfl fX7_28 rfl (by decide) rfl rfl ?_
  refine j_iload_n dX7_leftWithMore_4 rfl rfl rfl ?_
  refine j_iald (j := p) (v := nI (v 2 p)) dX7_leftWithMore_5 rfl rfl (by decide) rfl (by omega) (by decide) (hV.lv (by omega)) ?_
  refine j_istore (L' := [.ref 1, .int (nI p), .int (nI m), .int (nI w), .int (nI (v 2 p)), jU]) dX7_leftWithMore_6 rfl rfl (by decide) rfl ?_
  refine j_iconst (v := nI 0) dX7_leftWithMore_8 rfl rfl ?_
  refine j_istore (L' := [.ref 1, .int (nI p), .int (nI m), .int (nI w), .int (nI (v 2 p)), .int (nI 0)]) dX7_leftWithMore_9 rfl rfl (by decide) rfl ?_
  exact loop m 0 _ (by omega) q2 rfl
set_option maxHeartbeats 4000000 in
set_option maxRecDepth 100000 in
theorem c_fitsPutBack {X : jX} {d n : Nat} {I : HI} {J : HJ} {i0 i1 : Option Nat} {Q : jPost} {v : VT} {yb : Nat} (hV : VC 1 I v) (hW : WF yb v) (hyb : yb ≤ 2 ^ 20) {p : Nat} (hp : p < v 0 3) (hT : pbF v p → Q (some (.int (nI 1))) n I J (Pg i0 i1)) (hN : ¬ pbF v p → Q (some (.int (nI 0))) n I J (Pg i0 i1)) : Cj X (d + 4) 0 0 mX7_fitsPutBack [.ref 1, .int (nI p)] n I J (Pg i0 i1) Q := by
  refine Cj.intro rfl (Nat.le_of_ble_eq_true rfl) (L := [.ref 1, .int (nI p), jU, jU, jU]) rfl ?_
  obtain ⟨⟨w0, w1, w2, w3, w4, w5, w6⟩, wp, wk, wc, wj⟩ := id hW
  have loop : ∀ (r c : Nat) (z1 z2 : Value), c + r = v 0 5 → (∀ b, b < c → lwm (v 1 (v 6 b)) (v 0 1) (v 0 2) (if v 6 b = p then 1 else 0) (v 0 0) (v 2 (v 6 b)) (v 7 b) = v 8 b) → Rj X (d + 4) 0 0 mX7_fitsPutBack Q 2 [.ref 1, .int (nI p), .int (nI c), z1, z2] [] n I J (Pg i0 i1) := by
    intro r
    induction r with
    | zero =>
      intro c z1 z2 hcr hc
      refine j_iload_n dX7_fitsPutBack_2 rfl rfl rfl ?_
      refine j_aload_n dX7_fitsPutBack_3 rfl rfl rfl ?_
      refine j_getIv (v := nI (v 0 5)) dX7_fitsPutBack_4 rfl fX7_19 rfl (by decide) rfl hV.cnt ?_
      refine j_icmpgeN (tgt := 59) dX7_fitsPutBack_7 rfl rfl (by omega) (by omega) (fun h1 => ?_) (fun h1 => by exfalso; omega)
      refine j_iconst (v := nI 1) dX7_fitsPutBack_59 rfl rfl ?_
      refine j_iret dX7_fitsPutBack_60 rfl rfl ?_
      exact hT (fun b hb => hc b (by omega))
    | succ r ih =>
      intro c z1 z2 hcr hc
      obtain ⟨g1, g2, g3⟩ := wc c (by omega)
      obtain ⟨q1, q2, q3, q4, q5⟩ := wp _ g1
      have g5 : (if v 6 c = p then 1 else 0) ≤ 1 := by split <;> omega
      have g4 := lwm_le (v 1 (v 6 c)) (v 0 1) (v 0 2) (if v 6 c = p then 1 else 0) (v 7 c) (v 0 0) (v 2 (v 6 c)) q2
      refine j_iload_n dX7_fitsPutBack_2 rfl rfl rfl ?_
      refine j_aload_n dX7_fitsPutBack_3 rfl rfl rfl ?_
      refine j_getIv (v := nI (v 0 5)) dX7_fitsPutBack_4 rfl fX7_19 rfl (by decide) rfl hV.cnt ?_
      refine j_icmpgeN (tgt := 59) dX7_fitsPutBack_7 rfl rfl (by omega) (by omega) (fun h1 => by exfalso; omega) (fun h1 => ?_)
      refine j_aload_n dX7_fitsPutBack_10 rfl rfl rfl ?_
      refine j_getP (b := 7) dX7_fitsPutBack_11 rfl fX7_25 rfl (by decide) rfl rfl ?_
      refine j_iload_n dX7_fitsPutBack_14 rfl rfl rfl ?_
      refine j_iald (j := c) (v := nI (v 6 c)) dX7_fitsPutBack_15 rfl rfl (by decide) rfl (by omega) (by decide) (hV.cp (by omega)) ?_
      refine j_istore_n (L' := [.ref 1, .int (nI p), .int (nI c), .int (nI (v 6 c)), z2]) dX7_fitsPutBack_16 rfl rfl rfl (by decide) rfl ?_
      refine j_iload_n dX7_fitsPutBack_17 rfl rfl rfl ?_
      refine j_iload_n dX7_fitsPutBack_18 rfl rfl rfl ?_
      suffices K3 : Rj X (d + 4) 0 0 mX7_fitsPutBack Q 27 [.ref 1, .int (nI p), .int (nI c), .int (nI (v 6 c)), z2] [.int (bI ((v 6 c) = p))] n I J (Pg i0 i1) by
        refine j_icmpneN (tgt := 26) dX7_fitsPutBack_19 rfl rfl (by omega) (by omega) (fun h2 => ?_) (fun h2 => ?_)
        · refine j_iconst (v := nI 0) dX7_fitsPutBack_26 rfl rfl ?_
          rw [bI_f h2] at K3; exact K3
        · refine j_iconst (v := nI 1) dX7_fitsPutBack_22 rfl rfl ?_
          refine j_goto (tgt := 27) dX7_fitsPutBack_23 rfl ?_
          rw [bI_t h2] at K3; exact K3
      refine j_val (show bI (v 6 c = p) = nI (if v 6 c = p then 1 else 0) by unfold bI; split <;> rfl) ?_
      refine j_istore (L' := [.ref 1, .int (nI p), .int (nI c), .int (nI (v 6 c)), .int (nI (if v 6 c = p then 1 else 0))]) dX7_fitsPutBack_27 rfl rfl (by decide) rfl ?_
      refine j_aload_n dX7_fitsPutBack_29 rfl rfl rfl ?_
      refine j_iload_n dX7_fitsPutBack_30 rfl rfl rfl ?_
      refine j_aload_n dX7_fitsPutBack_31 rfl rfl rfl ?_
      refine j_getP (b := 8) dX7_fitsPutBack_32 rfl fX7_31 rfl (by decide) rfl rfl ?_
      refine j_iload_n dX7_fitsPutBack_35 rfl rfl rfl ?_
      refine j_iald (j := c) (v := nI (v 7 c)) dX7_fitsPutBack_36 rfl rfl (by decide) rfl (by omega) (by decide) (hV.cm (by omega)) ?_
      refine j_iload dX7_fitsPutBack_37 rfl rfl ?_
      refine j_callSw (As := [.ref 1, .int (nI (v 6 c)), .int (nI (v 7 c)), .int (nI (if v 6 c = p then 1 else 0))]) dX7_fitsPutBack_39 rfl cX7_90 rfl (by decide) rfl rfl (c_leftWithMore hV hW hyb (by omega) (by omega) (by omega) ?_)
      show Rj _ _ _ _ _ _ 42 [.ref 1, .int (nI p), .int (nI c), .int (nI (v 6 c)), .int (nI (if v 6 c = p then 1 else 0))] [.int (nI (lwm (v 1 (v 6 c)) (v 0 1) (v 0 2) (if v 6 c = p then 1 else 0) (v 0 0) (v 2 (v 6 c)) (v 7 c)))] n I J (Pg i0 i1)
      refine j_aload_n dX7_fitsPutBack_42 rfl rfl rfl ?_
      refine j_getP (b := 9) dX7_fitsPutBack_43 rfl fX7_41 rfl (by decide) rfl rfl ?_
      refine j_iload_n dX7_fitsPutBack_46 rfl rfl rfl ?_
      refine j_iald (j := c) (v := nI (v 8 c)) dX7_fitsPutBack_47 rfl rfl (by decide) rfl (by omega) (by decide) (hV.cv (by omega)) ?_
      refine j_icmpeqN (tgt := 53) dX7_fitsPutBack_48 rfl rfl (by omega) (by omega) (fun h4 => ?_) (fun h4 => ?_)
      · refine j_iincN (L' := [.ref 1, .int (nI p), .int (nI (c + 1)), .int (nI (v 6 c)), .int (nI (if v 6 c = p then 1 else 0))]) dX7_fitsPutBack_53 rfl rfl (b := 1) rfl rfl rfl (by decide) rfl ?_
        refine j_goto (tgt := 2) dX7_fitsPutBack_56 rfl ?_
        refine ih (c + 1) _ _ (by omega) (fun b hb => ?_)
        by_cases hbc : b = c
        · subst hbc; omega
        · exact hc b (by omega)
      · refine j_iconst (v := nI 0) dX7_fitsPutBack_51 rfl rfl ?_
        refine j_iret dX7_fitsPutBack_52 rfl rfl ?_
        exact hN (fun q => absurd (q c (by omega)) (by omega))
  refine j_iconst (v := nI 0) dX7_fitsPutBack_0 rfl rfl ?_
  refine j_istore_n (L' := [.ref 1, .int (nI p), .int (nI 0), jU, jU]) dX7_fitsPutBack_1 rfl rfl rfl (by decide) rfl ?_
  exact loop (v 0 5) 0 _ _ (by omega) (fun b hb => absurd hb (by omega))
set_option maxHeartbeats 4000000 in
set_option maxRecDepth 100000 in
theorem c_pairsPutBack {X : jX} {d n : Nat} {I : HI} {J : HJ} {i0 i1 : Option Nat} {Q : jPost} {v : VT} {yb : Nat} (hV : VC 1 I v) (hW : WF yb v) (hyb : yb ≤ 2 ^ 20) (hQ : Q (some (.int (nI (bitsOf (fun p => decide (pbF v p)) (v 0 3))))) n I J (Pg i0 i1)) : Cj X (d + 5) 0 0 mX7_pairsPutBack [.ref 1] n I J (Pg i0 i1) Q := by
  refine Cj.intro rfl (Nat.le_of_ble_eq_true rfl) (L := [.ref 1, jU, jU]) rfl ?_
  obtain ⟨⟨w0, w1, w2, w3, w4, w5, w6⟩, wp, wk, wc, wj⟩ := id hW
  have loop : ∀ r p e : Nat, p + r = v 0 3 → e = bitsOf (fun p => decide (pbF v p)) p → Rj X (d + 5) 0 0 mX7_pairsPutBack Q 4 [.ref 1, .int (nI e), .int (nI p)] [] n I J (Pg i0 i1) := by
    intro r
    induction r with
    | zero =>
      intro p e hpr he
      refine j_iload_n dX7_pairsPutBack_4 rfl rfl rfl ?_
      refine j_aload_n dX7_pairsPutBack_5 rfl rfl rfl ?_
      refine j_getIv (v := nI (v 0 3)) dX7_pairsPutBack_6 rfl fX7_77 rfl (by decide) rfl hV.pairs ?_
      refine j_icmpgeN (tgt := 32) dX7_pairsPutBack_9 rfl rfl (by omega) (by omega) (fun h1 => ?_) (fun h1 => by exfalso; omega)
      refine j_iload_n dX7_pairsPutBack_32 rfl rfl rfl ?_
      refine j_iret dX7_pairsPutBack_33 rfl rfl ?_
      have hp : p = v 0 3 := by omega
      subst hp; subst he; exact hQ
    | succ r ih =>
      intro p e hpr he
      refine j_iload_n dX7_pairsPutBack_4 rfl rfl rfl ?_
      refine j_aload_n dX7_pairsPutBack_5 rfl rfl rfl ?_
      refine j_getIv (v := nI (v 0 3)) dX7_pairsPutBack_6 rfl fX7_77 rfl (by decide) rfl hV.pairs ?_
      refine j_icmpgeN (tgt := 32) dX7_pairsPutBack_9 rfl rfl (by omega) (by omega) (fun h1 => by exfalso; omega) (fun h1 => ?_)
      refine j_aload_n dX7_pairsPutBack_12 rfl rfl rfl ?_
      refine j_iload_n dX7_pairsPutBack_13 rfl rfl rfl ?_
      refine j_callSw (As := [.ref 1, .int (nI p)]) dX7_pairsPutBack_14 rfl cX7_86 rfl (by decide) rfl rfl (c_fitsPutBack hV hW hyb (by omega) (fun g2 => ?_) (fun g2 => ?_))
      · show Rj _ _ _ _ _ _ 17 [.ref 1, .int (nI e), .int (nI p)] [.int (nI 1)] n I J (Pg i0 i1)
        refine j_ifeqN (tgt := 26) dX7_pairsPutBack_17 rfl rfl (by decide) (fun h3 => by exfalso; omega) (fun h3 => ?_)
        refine j_iload_n dX7_pairsPutBack_20 rfl rfl rfl ?_
        refine j_iconst (v := nI 1) dX7_pairsPutBack_21 rfl rfl ?_
        refine j_iload_n dX7_pairsPutBack_22 rfl rfl rfl ?_
        refine j_ishlN (c := 2 ^ p) dX7_pairsPutBack_23 rfl (by omega) (Nat.one_mul _) ?_
        refine j_iorN (c := e ||| (2 ^ p)) dX7_pairsPutBack_24 rfl rfl ?_
        refine j_istore_n (L' := [.ref 1, .int (nI (e ||| (2 ^ p))), .int (nI p)]) dX7_pairsPutBack_25 rfl rfl rfl (by decide) rfl ?_
        refine j_iincN (L' := [.ref 1, .int (nI (e ||| (2 ^ p))), .int (nI (p + 1))]) dX7_pairsPutBack_26 rfl rfl (b := 1) rfl rfl rfl (by decide) rfl ?_
        refine j_goto (tgt := 4) dX7_pairsPutBack_29 rfl ?_
        refine ih (p + 1) _ (by omega) ?_
        rw [he]; simp only [bitsOf]; rw [if_pos (decide_eq_true (by assumption))]
      · show Rj _ _ _ _ _ _ 17 [.ref 1, .int (nI e), .int (nI p)] [.int (nI 0)] n I J (Pg i0 i1)
        refine j_ifeqN (tgt := 26) dX7_pairsPutBack_17 rfl rfl (by decide) (fun h4 => ?_) (fun h4 => by exfalso; omega)
        refine j_iincN (L' := [.ref 1, .int (nI e), .int (nI (p + 1))]) dX7_pairsPutBack_26 rfl rfl (b := 1) rfl rfl rfl (by decide) rfl ?_
        refine j_goto (tgt := 4) dX7_pairsPutBack_29 rfl ?_
        refine ih (p + 1) _ (by omega) ?_
        rw [he]; simp only [bitsOf]; rw [if_neg (by rw [decide_eq_false (by assumption)]; decide)]
  refine j_iconst (v := nI 0) dX7_pairsPutBack_0 rfl rfl ?_
  refine j_istore_n (L' := [.ref 1, .int (nI 0), jU]) dX7_pairsPutBack_1 rfl rfl rfl (by decide) rfl ?_
  refine j_iconst (v := nI 0) dX7_pairsPutBack_2 rfl rfl ?_
  refine j_istore_n (L' := [.ref 1, .int (nI 0), .int (nI 0)]) dX7_pairsPutBack_3 rfl rfl rfl (by decide) rfl ?_
  exact loop (v 0 3) 0 0 (by omega) rfl
