/-- the token that begins at f stands now -/
def TF (I : HI) (tx : Nat → Nat) (tl f : Nat) : Prop := TS I (tkK tx tl f) f (tkE tx tl f) (tkN tx tl f) ∧ f ≤ tl
def nx (tx : Nat → Nat) (tl f : Nat) : Nat := tkF tx tl (tkE tx tl f)
theorem nx_le {tx : Nat → Nat} {tl f : Nat} (h : f ≤ tl) : nx tx tl f ≤ tl ∧ f ≤ nx tx tl f ∧ (f < tl → f < nx tx tl f) := by
  have h1 := tkE_le (tx := tx) h
  have h2 := tkF_le (tx := tx) (b := tkE tx tl f) h1.2.1
  unfold nx
  omega
theorem numV_2 {tx : Nat → Nat} {f : Nat} : ∀ r, r ≤ 2 → (∀ i, f ≤ i → i < f + r → tx i ≤ 57) → numV tx r f 0 ≤ 99
  | 0, _, _ => by simp [numV]
  | 1, _, h => by have := h f (by omega) (by omega); simp only [numV]; omega
  | 2, _, h => by have h1 := h f (by omega) (by omega); have h2 := h (f + 1) (by omega) (by omega); simp only [numV]; omega
  | r + 3, h, _ => by omega
theorem tkK_le (tx : Nat → Nat) (tl f : Nat) : tkK tx tl f ≤ 4 := by
  unfold tkK
  split
  · omega
  · split
    · omega
    · split
      · split <;> omega
      · split <;> omega
theorem tkN_le {tx : Nat → Nat} {tl f : Nat} (h : tkK tx tl f = 2) : tkN tx tl f ≤ 99 := by
  unfold tkN
  unfold tkK at h
  split at h
  · omega
  · next h1 =>
    split at h
    · omega
    · next h2 =>
      split at h
      · next h3 =>
        split at h
        · next h4 =>
          refine numV_2 _ h4 (fun i hi1 hi2 => ?_)
          have he : tkE tx tl f = runE tx tl 48 57 (tl - f) f := by unfold tkE; rw [if_neg h1, if_neg h2, if_pos h3]
          rw [he] at hi2
          have := runE_ge tx tl 48 57 (tl - f) f
          exact (runE_in tx tl 48 57 (tl - f) f i hi1 (by omega)).2
        · omega
      · split at h <;> omega
theorem tkK_lt {tx : Nat → Nat} {tl f : Nat} (h : ¬ tkK tx tl f = 0) : f < tl := by
  unfold tkK at h
  split at h
  · omega
  · omega
/-- a word that is the i-th text constant -/
abbrev isW (tx : Nat → Nat) (tl f i : Nat) : Prop := tkE tx tl f - f = jv_len.getD i 0 ∧ ∀ k, k < jv_len.getD i 0 → tx (f + k) = chS i k
set_option maxHeartbeats 4000000 in
set_option maxRecDepth 100000 in
theorem c_takeSemicolon {X : jX} {d n : Nat} {I : HI} {J : HJ} {i0 i1 : Option Nat} {Q : jPost} {tl f : Nat} {tx : Nat → Nat} (hR : RS I tl tx) (hT : TF I tx tl f) (hQ1 : tkK tx tl (nx tx tl f) = 3 → ∀ I', TF I' tx tl (nx tx tl f) → Rst I I' → Q (some (.int (nI 1))) n I' J (Pg i0 i1)) (hQ0 : ¬ tkK tx tl (nx tx tl f) = 3 → ∀ I', TF I' tx tl (nx tx tl f) → Rst I I' → Q (some (.int (nI 0))) n I' J (Pg i0 i1)) : Cj X (d + 2) 0 0 mX6_takeSemicolon [.ref 13] n I J (Pg i0 i1) Q := by
  refine Cj.intro rfl (Nat.le_of_ble_eq_true rfl) (L := [.ref 13]) rfl ?_
  refine j_aload_n dX6_takeSemicolon_0 rfl rfl rfl ?_
  refine j_callVw (As := []) dX6_takeSemicolon_1 rfl cX6_41 (by decide) rfl rfl (by decide) rfl (by decide) rfl rfl (c_takeToken hR hT.1.2.2.1 (tkE_le hT.2).2.1 (fun I1 t1 t2 => ?_))
  show Rj _ _ _ _ _ _ 4 [.ref 13] [] n I1 J (Pg i0 i1)
  have hT1 : TF I1 tx tl (nx tx tl f) := ⟨t1, (nx_le hT.2).1⟩
  have hR1 := hR.next t2
  have hk4 := tkK_le tx tl (nx tx tl f)
  obtain ⟨g, hg⟩ : ∃ g, nx tx tl f = g := ⟨_, rfl⟩
  rw [hg] at hT1 hk4 hQ1 hQ0
  have hgl := hT1.2
  refine j_aload_n dX6_takeSemicolon_4 rfl rfl rfl ?_
  refine j_getIv (v := nI (tkK tx tl g)) dX6_takeSemicolon_5 rfl fX6_26 rfl (by decide) rfl hT1.1.1 ?_
  refine j_iconst (v := nI 3) dX6_takeSemicolon_8 rfl rfl ?_
  suffices K2 : Rj X (d + 2) 0 0 mX6_takeSemicolon Q 17 [.ref 13] [.int (bI ((tkK tx tl g) = 3))] n I1 J (Pg i0 i1) by
    refine j_icmpneN (tgt := 16) dX6_takeSemicolon_9 rfl rfl (by omega) (by decide) (fun h1 => ?_) (fun h1 => ?_)
    · refine j_iconst (v := nI 0) dX6_takeSemicolon_16 rfl rfl ?_
      rw [bI_f h1] at K2; exact K2
    · refine j_iconst (v := nI 1) dX6_takeSemicolon_12 rfl rfl ?_
      refine j_goto (tgt := 17) dX6_takeSemicolon_13 rfl ?_
      rw [bI_t h1] at K2; exact K2
  refine j_iret dX6_takeSemicolon_17 rfl (bI_nar _) ?_
  by_cases q : tkK tx tl g = 3
  · rw [bI_t q]; exact hQ1 q _ hT1 t2
  · rw [bI_f q]; exact hQ0 q _ hT1 t2
set_option maxHeartbeats 4000000 in
set_option maxRecDepth 100000 in
theorem c_takeNumber {X : jX} {d n : Nat} {I : HI} {J : HJ} {i0 i1 : Option Nat} {Q : jPost} {tl f : Nat} {tx : Nat → Nat} (hR : RS I tl tx) (hT : TF I tx tl f) {lo hi : Nat} (hlo : lo ≤ 99) (hhi : hi ≤ 99) (hQ1 : (tkK tx tl (nx tx tl f) = 2 ∧ lo ≤ tkN tx tl (nx tx tl f) ∧ tkN tx tl (nx tx tl f) ≤ hi) → ∀ I', TF I' tx tl (nx tx tl f) → Rst I I' → Q (some (.int (nI 1))) n I' J (Pg i0 i1)) (hQ0 : ¬ (tkK tx tl (nx tx tl f) = 2 ∧ lo ≤ tkN tx tl (nx tx tl f) ∧ tkN tx tl (nx tx tl f) ≤ hi) → ∀ I', TF I' tx tl (nx tx tl f) → Rst I I' → Q (some (.int (nI 0))) n I' J (Pg i0 i1)) : Cj X (d + 2) 0 0 mX6_takeNumber [.ref 13, .int (nI lo), .int (nI hi)] n I J (Pg i0 i1) Q := by
  refine Cj.intro rfl (Nat.le_of_ble_eq_true rfl) (L := [.ref 13, .int (nI lo), .int (nI hi)]) rfl ?_
  refine j_aload_n dX6_takeNumber_0 rfl rfl rfl ?_
  refine j_callVw (As := []) dX6_takeNumber_1 rfl cX6_41 (by decide) rfl rfl (by decide) rfl (by decide) rfl rfl (c_takeToken hR hT.1.2.2.1 (tkE_le hT.2).2.1 (fun I1 t1 t2 => ?_))
  show Rj _ _ _ _ _ _ 4 [.ref 13, .int (nI lo), .int (nI hi)] [] n I1 J (Pg i0 i1)
  have hT1 : TF I1 tx tl (nx tx tl f) := ⟨t1, (nx_le hT.2).1⟩
  have hR1 := hR.next t2
  have hk4 := tkK_le tx tl (nx tx tl f)
  obtain ⟨g, hg⟩ : ∃ g, nx tx tl f = g := ⟨_, rfl⟩
  rw [hg] at hT1 hk4 hQ1 hQ0
  have hgl := hT1.2
  refine j_aload_n dX6_takeNumber_4 rfl rfl rfl ?_
  refine j_getIv (v := nI (tkK tx tl g)) dX6_takeNumber_5 rfl fX6_26 rfl (by decide) rfl hT1.1.1 ?_
  refine j_iconst (v := nI 2) dX6_takeNumber_8 rfl rfl ?_
  refine j_icmpneN (tgt := 28) dX6_takeNumber_9 rfl rfl (by omega) (by decide) (fun h1 => ?_) (fun h1 => ?_)
  · refine j_iconst (v := nI 0) dX6_takeNumber_28 rfl rfl ?_
    refine j_iret dX6_takeNumber_29 rfl rfl ?_
    exact hQ0 (by omega) _ hT1 t2
  · refine j_aload_n dX6_takeNumber_12 rfl rfl rfl ?_
    refine j_getIv (v := nI (tkN tx tl g)) dX6_takeNumber_13 rfl fX6_35 rfl (by decide) rfl (hT1.1.2.2.2 (by assumption)) ?_
    refine j_iload_n dX6_takeNumber_16 rfl rfl rfl ?_
    refine j_iload_n dX6_takeNumber_17 rfl rfl rfl ?_
    refine j_callSNw (As := [.int (nI (tkN tx tl g)), .int (nI lo), .int (nI hi)]) dX6_takeNumber_18 rfl cX6_107 rfl (by decide) rfl rfl (c_within (fun w2 => ?_) (fun w2 => ?_))
    · have hn99 := tkN_le (by assumption : tkK tx tl g = 2)
      rw [inR_N (by omega) (by omega) (by omega)] at w2
      show Rj _ _ _ _ _ _ 21 [.ref 13, .int (nI lo), .int (nI hi)] [.int (nI 1)] n I1 J (Pg i0 i1)
      refine j_ifeqN (tgt := 28) dX6_takeNumber_21 rfl rfl (by decide) (fun h3 => by exfalso; omega) (fun h3 => ?_)
      refine j_iconst (v := nI 1) dX6_takeNumber_24 rfl rfl ?_
      refine j_goto (tgt := 29) dX6_takeNumber_25 rfl ?_
      refine j_iret dX6_takeNumber_29 rfl rfl ?_
      exact hQ1 (by omega) _ hT1 t2
    · have hn99 := tkN_le (by assumption : tkK tx tl g = 2)
      rw [inR_N (by omega) (by omega) (by omega)] at w2
      show Rj _ _ _ _ _ _ 21 [.ref 13, .int (nI lo), .int (nI hi)] [.int (nI 0)] n I1 J (Pg i0 i1)
      refine j_ifeqN (tgt := 28) dX6_takeNumber_21 rfl rfl (by decide) (fun h4 => ?_) (fun h4 => by exfalso; omega)
      refine j_iconst (v := nI 0) dX6_takeNumber_28 rfl rfl ?_
      refine j_iret dX6_takeNumber_29 rfl rfl ?_
      exact hQ0 (by omega) _ hT1 t2
/-- years up to a semicolon: they, and where it ends -/
def yrs (tx : Nat → Nat) (tl : Nat) : Nat → Nat → Nat → Option Nat × Nat
  | 0, f, _ => (none, f)
  | r + 1, f, ys => if tkK tx tl (nx tx tl f) = 3 then (some ys, nx tx tl f) else if tkK tx tl (nx tx tl f) = 2 ∧ tkN tx tl (nx tx tl f) < 12 then yrs tx tl r (nx tx tl f) (ys ||| 2 ^ tkN tx tl (nx tx tl f)) else (none, nx tx tl f)
set_option maxHeartbeats 4000000 in
set_option maxRecDepth 100000 in
theorem c_takeYears {X : jX} {d n : Nat} {I : HI} {J : HJ} {i0 i1 : Option Nat} {Q : jPost} {tl f : Nat} {tx : Nat → Nat} (hR : RS I tl tx) (hT : TF I tx tl f) {T : Option Nat × Nat} (hY : yrs tx tl 151 f 0 = T) (hQ1 : ∀ ys g, T = (some ys, g) → ∀ I', TF I' tx tl g → Rst I I' → Q (some (.int (nI ys))) n I' J (Pg i0 i1)) (hQ0 : ∀ g, T = (none, g) → ∀ I', TF I' tx tl g → Rst I I' → Q (some (.int (-1))) n I' J (Pg i0 i1)) : Cj X (d + 2) 0 0 mX6_takeYears [.ref 13] n I J (Pg i0 i1) Q := by
  refine Cj.intro rfl (Nat.le_of_ble_eq_true rfl) (L := [.ref 13, jU, jU]) rfl ?_
  have loop : ∀ (r q f ys : Nat) (I1 : HI), q + r = 151 → RS I1 tl tx → TF I1 tx tl f → Rst I I1 → yrs tx tl r f ys = T → Rj X (d + 2) 0 0 mX6_takeYears Q 4 [.ref 13, .int (nI ys), .int (nI q)] [] n I1 J (Pg i0 i1) := by
    intro r
    induction r with
    | zero =>
      intro q f ys I1 hqr hR hT hO hr
      refine j_iload_n dX6_takeYears_4 rfl rfl rfl ?_
      refine j_sipush (v := nI 150) dX6_takeYears_5 rfl rfl ?_
      refine j_icmpgtN (tgt := 59) dX6_takeYears_8 rfl rfl (by omega) (by decide) (fun h1 => ?_) (fun h1 => by exfalso; omega)
      refine j_iconst (v := (-1)) dX6_takeYears_59 rfl rfl ?_
      refine j_iret dX6_takeYears_60 rfl rfl ?_
      simp only [yrs] at hr
      exact hQ0 _ hr.symm _ hT hO
    | succ r ih =>
      intro q f ys I1 hqr hR hT hO hr
      refine j_iload_n dX6_takeYears_4 rfl rfl rfl ?_
      refine j_sipush (v := nI 150) dX6_takeYears_5 rfl rfl ?_
      refine j_icmpgtN (tgt := 59) dX6_takeYears_8 rfl rfl (by omega) (by decide) (fun h1 => by exfalso; omega) (fun h1 => ?_)
      refine j_aload_n dX6_takeYears_11 rfl rfl rfl ?_
      refine j_callVw (As := []) dX6_takeYears_12 rfl cX6_41 (by decide) rfl rfl (by decide) rfl (by decide) rfl rfl (c_takeToken hR hT.1.2.2.1 (tkE_le hT.2).2.1 (fun I2 t1 t2 => ?_))
      show Rj _ _ _ _ _ _ 15 [.ref 13, .int (nI ys), .int (nI q)] [] n I2 J (Pg i0 i1)
      have hT2 : TF I2 tx tl (nx tx tl f) := ⟨t1, (nx_le hT.2).1⟩
      have hR2 := hR.next t2
      have hk4 := tkK_le tx tl (nx tx tl f)
      obtain ⟨g, hg⟩ : ∃ g, nx tx tl f = g := ⟨_, rfl⟩
      rw [hg] at hT2 hk4
      have hgl := hT2.2
      unfold yrs at hr
      rw [hg] at hr
      refine j_aload_n dX6_takeYears_15 rfl rfl rfl ?_
      refine j_getIv (v := nI (tkK tx tl g)) dX6_takeYears_16 rfl fX6_26 rfl (by decide) rfl hT2.1.1 ?_
      refine j_iconst (v := nI 3) dX6_takeYears_19 rfl rfl ?_
      refine j_icmpneN (tgt := 25) dX6_takeYears_20 rfl rfl (by omega) (by decide) (fun h2 => ?_) (fun h2 => ?_)
      · refine j_aload_n dX6_takeYears_25 rfl rfl rfl ?_
        refine j_getIv (v := nI (tkK tx tl g)) dX6_takeYears_26 rfl fX6_26 rfl (by decide) rfl hT2.1.1 ?_
        refine j_iconst (v := nI 2) dX6_takeYears_29 rfl rfl ?_
        refine j_icmpneN (tgt := 42) dX6_takeYears_30 rfl rfl (by omega) (by decide) (fun h3 => ?_) (fun h3 => ?_)
        · refine j_iconst (v := (-1)) dX6_takeYears_42 rfl rfl ?_
          refine j_iret dX6_takeYears_43 rfl rfl ?_
          rw [if_neg (by omega), if_neg (by omega)] at hr
          exact hQ0 _ hr.symm _ hT2 (hO.trans t2)
        · have hn99 := tkN_le (by assumption : tkK tx tl g = 2)
          refine j_aload_n dX6_takeYears_33 rfl rfl rfl ?_
          refine j_getIv (v := nI (tkN tx tl g)) dX6_takeYears_34 rfl fX6_35 rfl (by decide) rfl (hT2.1.2.2.2 (by assumption)) ?_
          refine j_bipush (v := nI 12) dX6_takeYears_37 rfl rfl ?_
          refine j_icmpltN (tgt := 44) dX6_takeYears_39 rfl rfl (by omega) (by decide) (fun h4 => ?_) (fun h4 => ?_)
          · refine j_iload_n dX6_takeYears_44 rfl rfl rfl ?_
            refine j_iconst (v := nI 1) dX6_takeYears_45 rfl rfl ?_
            refine j_aload_n dX6_takeYears_46 rfl rfl rfl ?_
            refine j_getIv (v := nI (tkN tx tl g)) dX6_takeYears_47 rfl fX6_35 rfl (by decide) rfl (hT2.1.2.2.2 (by assumption)) ?_
            refine j_ishlN (c := 2 ^ (tkN tx tl g)) dX6_takeYears_50 rfl (by omega) (Nat.one_mul _) ?_
            refine j_iorN (c := ys ||| (2 ^ (tkN tx tl g))) dX6_takeYears_51 rfl rfl ?_
            refine j_istore_n (L' := [.ref 13, .int (nI (ys ||| (2 ^ (tkN tx tl g)))), .int (nI q)]) dX6_takeYears_52 rfl rfl rfl (by decide) rfl ?_
            refine j_iincN (L' := [.ref 13, .int (nI (ys ||| (2 ^ (tkN tx tl g)))), .int (nI (q + 1))]) dX6_takeYears_53 rfl rfl (b := 1) rfl rfl rfl (by decide) rfl ?_
            refine j_goto (tgt := 4) dX6_takeYears_56 rfl ?_
            rw [if_neg (by omega), if_pos ⟨by assumption, by omega⟩] at hr
            exact ih (q + 1) g _ _ (by omega) hR2 hT2 (hO.trans t2) hr
          · refine j_iconst (v := (-1)) dX6_takeYears_42 rfl rfl ?_
            refine j_iret dX6_takeYears_43 rfl rfl ?_
            rw [if_neg (by omega), if_neg (by omega)] at hr
            exact hQ0 _ hr.symm _ hT2 (hO.trans t2)
      · refine j_iload_n dX6_takeYears_23 rfl rfl rfl ?_
        refine j_iret dX6_takeYears_24 rfl rfl ?_
        rw [if_pos (by assumption)] at hr
        exact hQ1 _ _ hr.symm _ hT2 (hO.trans t2)
  refine j_iconst (v := nI 0) dX6_takeYears_0 rfl rfl ?_
  refine j_istore_n (L' := [.ref 13, .int (nI 0), jU]) dX6_takeYears_1 rfl rfl rfl (by decide) rfl ?_
  refine j_iconst (v := nI 0) dX6_takeYears_2 rfl rfl ?_
  refine j_istore_n (L' := [.ref 13, .int (nI 0), .int (nI 0)]) dX6_takeYears_3 rfl rfl rfl (by decide) rfl ?_
  exact loop 151 0 f 0 I rfl hR hT Rst.rf hY
set_option maxHeartbeats 4000000 in
set_option maxRecDepth 100000 in
theorem c_isWord0 {X : jX} {d n : Nat} {I : HI} {J : HJ} {i0 i1 : Option Nat} {Q : jPost} {tl f : Nat} {tx : Nat → Nat} (hR : RS I tl tx) (hT : TF I tx tl f) (hQ1 : isW tx tl f 0 → Q (some (.int (nI 1))) n I J (Pg i0 i1)) (hQ0 : ¬ isW tx tl f 0 → Q (some (.int (nI 0))) n I J (Pg i0 i1)) : Cj X (d + 4) 0 0 mX6_isWord [.ref 13, .ref 1000] n I J (Pg i0 i1) Q := by
  refine Cj.intro rfl (Nat.le_of_ble_eq_true rfl) (L := [.ref 13, .ref 1000, jU]) rfl ?_
  obtain ⟨-, -, h150, h127⟩ := id hR
  have hel := tkE_le (tx := tx) hT.2
  have htl := hT.2
  by_cases hl : tkE tx tl f - f = 6
  · have hloop : Rj X (d + 4) 0 0 mX6_isWord Q 20 [.ref 13, .ref 1000, .int (nI 0)] [] n I J (Pg i0 i1) := by
      have loop : ∀ r k : Nat, k + r = 6 → (∀ j, j < k → tx (f + j) = chS 0 j) → Rj X (d + 4) 0 0 mX6_isWord Q 20 [.ref 13, .ref 1000, .int (nI k)] [] n I J (Pg i0 i1) := by
        intro r
        induction r with
        | zero =>
          intro k hkr hc
          refine j_iload_n dX6_isWord_20 rfl rfl rfl ?_
          refine j_aload_n dX6_isWord_21 rfl rfl rfl ?_
          refine j_callVSw (i := 0) (As := []) (by decide) dX6_isWord_22 rfl cX6_118 rfl rfl (Nat.le_of_ble_eq_true rfl) rfl rfl (c_len0 ?_)
          show Rj _ _ _ _ _ _ 25 [.ref 13, .ref 1000, .int (nI k)] [.int (nI 6), .int (nI k)] n I J (Pg i0 i1)
          refine j_icmpgeN (tgt := 55) dX6_isWord_25 rfl rfl (by omega) (by decide) (fun h1 => ?_) (fun h1 => by exfalso; omega)
          refine j_iconst (v := nI 1) dX6_isWord_55 rfl rfl ?_
          refine j_iret dX6_isWord_56 rfl rfl ?_
          exact hQ1 ⟨hl, fun j hj => hc j (by have : j < 6 := hj; omega)⟩
        | succ r ih =>
          intro k hkr hc
          have hch := (chS_ok 0 (by decide) k (show k < 6 by omega)).2
          have h7 := h127 (f + k) (by omega)
          refine j_iload_n dX6_isWord_20 rfl rfl rfl ?_
          refine j_aload_n dX6_isWord_21 rfl rfl rfl ?_
          refine j_callVSw (i := 0) (As := []) (by decide) dX6_isWord_22 rfl cX6_118 rfl rfl (Nat.le_of_ble_eq_true rfl) rfl rfl (c_len0 ?_)
          show Rj _ _ _ _ _ _ 25 [.ref 13, .ref 1000, .int (nI k)] [.int (nI 6), .int (nI k)] n I J (Pg i0 i1)
          refine j_icmpgeN (tgt := 55) dX6_isWord_25 rfl rfl (by omega) (by decide) (fun h1 => by exfalso; omega) (fun h1 => ?_)
          refine j_aload_n dX6_isWord_28 rfl rfl rfl ?_
          refine j_getP (b := 14) dX6_isWord_29 rfl fX6_9 rfl (by decide) rfl rfl ?_
          refine j_aload_n dX6_isWord_32 rfl rfl rfl ?_
          refine j_getIv (v := nI f) dX6_isWord_33 rfl fX6_29 rfl (by decide) rfl hT.1.2.1 ?_
          refine j_iload_n dX6_isWord_36 rfl rfl rfl ?_
          refine j_iaddN (c := f + k) dX6_isWord_37 rfl rfl ?_
          refine j_bald (j := f + k) (v := nI (tx (f + k))) dX6_isWord_38 rfl rfl (by decide) rfl (by omega) (by decide) (hR.2.1 (f + k) (by omega)) ?_
          refine j_aload_n dX6_isWord_39 rfl rfl rfl ?_
          refine j_iload_n dX6_isWord_40 rfl rfl rfl ?_
          refine j_callVSw (i := 0) (As := [.int (nI k)]) (by decide) dX6_isWord_41 rfl cX6_122 rfl rfl (Nat.le_of_ble_eq_true rfl) rfl rfl (c_chr0 (by omega) ?_)
          show Rj _ _ _ _ _ _ 44 [.ref 13, .ref 1000, .int (nI k)] [.int (nI (chS 0 k)), .int (nI (tx (f + k)))] n I J (Pg i0 i1)
          refine j_icmpeqN (tgt := 49) dX6_isWord_44 rfl rfl (by omega) (by omega) (fun h2 => ?_) (fun h2 => ?_)
          · refine j_iincN (L' := [.ref 13, .ref 1000, .int (nI (k + 1))]) dX6_isWord_49 rfl rfl (b := 1) rfl rfl rfl (by decide) rfl ?_
            refine j_goto (tgt := 20) dX6_isWord_52 rfl ?_
            refine ih (k + 1) (by omega) (fun j hj => ?_)
            by_cases e : j = k
            · subst e; assumption
            · exact hc j (by omega)
          · refine j_iconst (v := nI 0) dX6_isWord_47 rfl rfl ?_
            refine j_iret dX6_isWord_48 rfl rfl ?_
            exact hQ0 (fun q => absurd (q.2 k (show k < 6 by omega)) (by assumption))
      exact loop 6 0 rfl (fun j hj => absurd hj (by omega))
    refine j_aload_n dX6_isWord_0 rfl rfl rfl ?_
    refine j_getIv (v := nI (tkE tx tl f)) dX6_isWord_1 rfl fX6_32 rfl (by decide) rfl hT.1.2.2.1 ?_
    refine j_aload_n dX6_isWord_4 rfl rfl rfl ?_
    refine j_getIv (v := nI f) dX6_isWord_5 rfl fX6_29 rfl (by decide) rfl hT.1.2.1 ?_
    refine j_isubN (c := (tkE tx tl f) - f) dX6_isWord_8 rfl (by omega) rfl ?_
    refine j_aload_n dX6_isWord_9 rfl rfl rfl ?_
    refine j_callVSw (i := 0) (As := []) (by decide) dX6_isWord_10 rfl cX6_118 rfl rfl (Nat.le_of_ble_eq_true rfl) rfl rfl (c_len0 ?_)
    show Rj _ _ _ _ _ _ 13 [.ref 13, .ref 1000, jU] [.int (nI 6), .int (nI ((tkE tx tl f) - f))] n I J (Pg i0 i1)
    refine j_icmpeqN (tgt := 18) dX6_isWord_13 rfl rfl (by omega) (by decide) (fun h1 => ?_) (fun h1 => by exfalso; omega)
    refine j_iconst (v := nI 0) dX6_isWord_18 rfl rfl ?_
    refine j_istore_n (L' := [.ref 13, .ref 1000, .int (nI 0)]) dX6_isWord_19 rfl rfl rfl (by decide) rfl ?_
    exact hloop
  · have hne : ¬ isW tx tl f 0 := fun q => hl q.1
    refine j_aload_n dX6_isWord_0 rfl rfl rfl ?_
    refine j_getIv (v := nI (tkE tx tl f)) dX6_isWord_1 rfl fX6_32 rfl (by decide) rfl hT.1.2.2.1 ?_
    refine j_aload_n dX6_isWord_4 rfl rfl rfl ?_
    refine j_getIv (v := nI f) dX6_isWord_5 rfl fX6_29 rfl (by decide) rfl hT.1.2.1 ?_
    refine j_isubN (c := (tkE tx tl f) - f) dX6_isWord_8 rfl (by omega) rfl ?_
    refine j_aload_n dX6_isWord_9 rfl rfl rfl ?_
    refine j_callVSw (i := 0) (As := []) (by decide) dX6_isWord_10 rfl cX6_118 rfl rfl (Nat.le_of_ble_eq_true rfl) rfl rfl (c_len0 ?_)
    show Rj _ _ _ _ _ _ 13 [.ref 13, .ref 1000, jU] [.int (nI 6), .int (nI ((tkE tx tl f) - f))] n I J (Pg i0 i1)
    refine j_icmpeqN (tgt := 18) dX6_isWord_13 rfl rfl (by omega) (by decide) (fun h1 => by exfalso; omega) (fun h1 => ?_)
    refine j_iconst (v := nI 0) dX6_isWord_16 rfl rfl ?_
    refine j_iret dX6_isWord_17 rfl rfl ?_
    exact hQ0 hne
set_option maxHeartbeats 4000000 in
set_option maxRecDepth 100000 in
theorem c_isWord1 {X : jX} {d n : Nat} {I : HI} {J : HJ} {i0 i1 : Option Nat} {Q : jPost} {tl f : Nat} {tx : Nat → Nat} (hR : RS I tl tx) (hT : TF I tx tl f) (hQ1 : isW tx tl f 1 → Q (some (.int (nI 1))) n I J (Pg i0 i1)) (hQ0 : ¬ isW tx tl f 1 → Q (some (.int (nI 0))) n I J (Pg i0 i1)) : Cj X (d + 4) 0 0 mX6_isWord [.ref 13, .ref 1001] n I J (Pg i0 i1) Q := by
  refine Cj.intro rfl (Nat.le_of_ble_eq_true rfl) (L := [.ref 13, .ref 1001, jU]) rfl ?_
  obtain ⟨-, -, h150, h127⟩ := id hR
  have hel := tkE_le (tx := tx) hT.2
  have htl := hT.2
  by_cases hl : tkE tx tl f - f = 4
  · have hloop : Rj X (d + 4) 0 0 mX6_isWord Q 20 [.ref 13, .ref 1001, .int (nI 0)] [] n I J (Pg i0 i1) := by
      have loop : ∀ r k : Nat, k + r = 4 → (∀ j, j < k → tx (f + j) = chS 1 j) → Rj X (d + 4) 0 0 mX6_isWord Q 20 [.ref 13, .ref 1001, .int (nI k)] [] n I J (Pg i0 i1) := by
        intro r
        induction r with
        | zero =>
          intro k hkr hc
          refine j_iload_n dX6_isWord_20 rfl rfl rfl ?_
          refine j_aload_n dX6_isWord_21 rfl rfl rfl ?_
          refine j_callVSw (i := 1) (As := []) (by decide) dX6_isWord_22 rfl cX6_118 rfl rfl (Nat.le_of_ble_eq_true rfl) rfl rfl (c_len1 ?_)
          show Rj _ _ _ _ _ _ 25 [.ref 13, .ref 1001, .int (nI k)] [.int (nI 4), .int (nI k)] n I J (Pg i0 i1)
          refine j_icmpgeN (tgt := 55) dX6_isWord_25 rfl rfl (by omega) (by decide) (fun h1 => ?_) (fun h1 => by exfalso; omega)
          refine j_iconst (v := nI 1) dX6_isWord_55 rfl rfl ?_
          refine j_iret dX6_isWord_56 rfl rfl ?_
          exact hQ1 ⟨hl, fun j hj => hc j (by have : j < 4 := hj; omega)⟩
        | succ r ih =>
          intro k hkr hc
          have hch := (chS_ok 1 (by decide) k (show k < 4 by omega)).2
          have h7 := h127 (f + k) (by omega)
          refine j_iload_n dX6_isWord_20 rfl rfl rfl ?_
          refine j_aload_n dX6_isWord_21 rfl rfl rfl ?_
          refine j_callVSw (i := 1) (As := []) (by decide) dX6_isWord_22 rfl cX6_118 rfl rfl (Nat.le_of_ble_eq_true rfl) rfl rfl (c_len1 ?_)
          show Rj _ _ _ _ _ _ 25 [.ref 13, .ref 1001, .int (nI k)] [.int (nI 4), .int (nI k)] n I J (Pg i0 i1)
          refine j_icmpgeN (tgt := 55) dX6_isWord_25 rfl rfl (by omega) (by decide) (fun h1 => by exfalso; omega) (fun h1 => ?_)
          refine j_aload_n dX6_isWord_28 rfl rfl rfl ?_
          refine j_getP (b := 14) dX6_isWord_29 rfl fX6_9 rfl (by decide) rfl rfl ?_
          refine j_aload_n dX6_isWord_32 rfl rfl rfl ?_
          refine j_getIv (v := nI f) dX6_isWord_33 rfl fX6_29 rfl (by decide) rfl hT.1.2.1 ?_
          refine j_iload_n dX6_isWord_36 rfl rfl rfl ?_
          refine j_iaddN (c := f + k) dX6_isWord_37 rfl rfl ?_
          refine j_bald (j := f + k) (v := nI (tx (f + k))) dX6_isWord_38 rfl rfl (by decide) rfl (by omega) (by decide) (hR.2.1 (f + k) (by omega)) ?_
          refine j_aload_n dX6_isWord_39 rfl rfl rfl ?_
          refine j_iload_n dX6_isWord_40 rfl rfl rfl ?_
          refine j_callVSw (i := 1) (As := [.int (nI k)]) (by decide) dX6_isWord_41 rfl cX6_122 rfl rfl (Nat.le_of_ble_eq_true rfl) rfl rfl (c_chr1 (by omega) ?_)
          show Rj _ _ _ _ _ _ 44 [.ref 13, .ref 1001, .int (nI k)] [.int (nI (chS 1 k)), .int (nI (tx (f + k)))] n I J (Pg i0 i1)
          refine j_icmpeqN (tgt := 49) dX6_isWord_44 rfl rfl (by omega) (by omega) (fun h2 => ?_) (fun h2 => ?_)
          · refine j_iincN (L' := [.ref 13, .ref 1001, .int (nI (k + 1))]) dX6_isWord_49 rfl rfl (b := 1) rfl rfl rfl (by decide) rfl ?_
            refine j_goto (tgt := 20) dX6_isWord_52 rfl ?_
            refine ih (k + 1) (by omega) (fun j hj => ?_)
            by_cases e : j = k
            · subst e; assumption
            · exact hc j (by omega)
          · refine j_iconst (v := nI 0) dX6_isWord_47 rfl rfl ?_
            refine j_iret dX6_isWord_48 rfl rfl ?_
            exact hQ0 (fun q => absurd (q.2 k (show k < 4 by omega)) (by assumption))
      exact loop 4 0 rfl (fun j hj => absurd hj (by omega))
    refine j_aload_n dX6_isWord_0 rfl rfl rfl ?_
    refine j_getIv (v := nI (tkE tx tl f)) dX6_isWord_1 rfl fX6_32 rfl (by decide) rfl hT.1.2.2.1 ?_
    refine j_aload_n dX6_isWord_4 rfl rfl rfl ?_
    refine j_getIv (v := nI f) dX6_isWord_5 rfl fX6_29 rfl (by decide) rfl hT.1.2.1 ?_
    refine j_isubN (c := (tkE tx tl f) - f) dX6_isWord_8 rfl (by omega) rfl ?_
    refine j_aload_n dX6_isWord_9 rfl rfl rfl ?_
    refine j_callVSw (i := 1) (As := []) (by decide) dX6_isWord_10 rfl cX6_118 rfl rfl (Nat.le_of_ble_eq_true rfl) rfl rfl (c_len1 ?_)
    show Rj _ _ _ _ _ _ 13 [.ref 13, .ref 1001, jU] [.int (nI 4), .int (nI ((tkE tx tl f) - f))] n I J (Pg i0 i1)
    refine j_icmpeqN (tgt := 18) dX6_isWord_13 rfl rfl (by omega) (by decide) (fun h1 => ?_) (fun h1 => by exfalso; omega)
    refine j_iconst (v := nI 0) dX6_isWord_18 rfl rfl ?_
    refine j_istore_n (L' := [.ref 13, .ref 1001, .int (nI 0)]) dX6_isWord_19 rfl rfl rfl (by decide) rfl ?_
    exact hloop
  · have hne : ¬ isW tx tl f 1 := fun q => hl q.1
    refine j_aload_n dX6_isWord_0 rfl rfl rfl ?_
    refine j_getIv (v := nI (tkE tx tl f)) dX6_isWord_1 rfl fX6_32 rfl (by decide) rfl hT.1.2.2.1 ?_
    refine j_aload_n dX6_isWord_4 rfl rfl rfl ?_
    refine j_getIv (v := nI f) dX6_isWord_5 rfl fX6_29 rfl (by decide) rfl hT.1.2.1 ?_
    refine j_isubN (c := (tkE tx tl f) - f) dX6_isWord_8 rfl (by omega) rfl ?_
    refine j_aload_n dX6_isWord_9 rfl rfl rfl ?_
    refine j_callVSw (i := 1) (As := []) (by decide) dX6_isWord_10 rfl cX6_118 rfl rfl (Nat.le_of_ble_eq_true rfl) rfl rfl (c_len1 ?_)
    show Rj _ _ _ _ _ _ 13 [.ref 13, .ref 1001, jU] [.int (nI 4), .int (nI ((tkE tx tl f) - f))] n I J (Pg i0 i1)
    refine j_icmpeqN (tgt := 18) dX6_isWord_13 rfl rfl (by omega) (by decide) (fun h1 => by exfalso; omega) (fun h1 => ?_)
    refine j_iconst (v := nI 0) dX6_isWord_16 rfl rfl ?_
    refine j_iret dX6_isWord_17 rfl rfl ?_
    exact hQ0 hne
set_option maxHeartbeats 4000000 in
set_option maxRecDepth 100000 in
theorem c_isWord2 {X : jX} {d n : Nat} {I : HI} {J : HJ} {i0 i1 : Option Nat} {Q : jPost} {tl f : Nat} {tx : Nat → Nat} (hR : RS I tl tx) (hT : TF I tx tl f) (hQ1 : isW tx tl f 2 → Q (some (.int (nI 1))) n I J (Pg i0 i1)) (hQ0 : ¬ isW tx tl f 2 → Q (some (.int (nI 0))) n I J (Pg i0 i1)) : Cj X (d + 4) 0 0 mX6_isWord [.ref 13, .ref 1002] n I J (Pg i0 i1) Q := by
  refine Cj.intro rfl (Nat.le_of_ble_eq_true rfl) (L := [.ref 13, .ref 1002, jU]) rfl ?_
  obtain ⟨-, -, h150, h127⟩ := id hR
  have hel := tkE_le (tx := tx) hT.2
  have htl := hT.2
  by_cases hl : tkE tx tl f - f = 3
  · have hloop : Rj X (d + 4) 0 0 mX6_isWord Q 20 [.ref 13, .ref 1002, .int (nI 0)] [] n I J (Pg i0 i1) := by
      have loop : ∀ r k : Nat, k + r = 3 → (∀ j, j < k → tx (f + j) = chS 2 j) → Rj X (d + 4) 0 0 mX6_isWord Q 20 [.ref 13, .ref 1002, .int (nI k)] [] n I J (Pg i0 i1) := by
        intro r
        induction r with
        | zero =>
          intro k hkr hc
          refine j_iload_n dX6_isWord_20 rfl rfl rfl ?_
          refine j_aload_n dX6_isWord_21 rfl rfl rfl ?_
          refine j_callVSw (i := 2) (As := []) (by decide) dX6_isWord_22 rfl cX6_118 rfl rfl (Nat.le_of_ble_eq_true rfl) rfl rfl (c_len2 ?_)
          show Rj _ _ _ _ _ _ 25 [.ref 13, .ref 1002, .int (nI k)] [.int (nI 3), .int (nI k)] n I J (Pg i0 i1)
          refine j_icmpgeN (tgt := 55) dX6_isWord_25 rfl rfl (by omega) (by decide) (fun h1 => ?_) (fun h1 => by exfalso; omega)
          refine j_iconst (v := nI 1) dX6_isWord_55 rfl rfl ?_
          refine j_iret dX6_isWord_56 rfl rfl ?_
          exact hQ1 ⟨hl, fun j hj => hc j (by have : j < 3 := hj; omega)⟩
        | succ r ih =>
          intro k hkr hc
          have hch := (chS_ok 2 (by decide) k (show k < 3 by omega)).2
          have h7 := h127 (f + k) (by omega)
          refine j_iload_n dX6_isWord_20 rfl rfl rfl ?_
          refine j_aload_n dX6_isWord_21 rfl rfl rfl ?_
          refine j_callVSw (i := 2) (As := []) (by decide) dX6_isWord_22 rfl cX6_118 rfl rfl (Nat.le_of_ble_eq_true rfl) rfl rfl (c_len2 ?_)
          show Rj _ _ _ _ _ _ 25 [.ref 13, .ref 1002, .int (nI k)] [.int (nI 3), .int (nI k)] n I J (Pg i0 i1)
          refine j_icmpgeN (tgt := 55) dX6_isWord_25 rfl rfl (by omega) (by decide) (fun h1 => by exfalso; omega) (fun h1 => ?_)
          refine j_aload_n dX6_isWord_28 rfl rfl rfl ?_
          refine j_getP (b := 14) dX6_isWord_29 rfl fX6_9 rfl (by decide) rfl rfl ?_
          refine j_aload_n dX6_isWord_32 rfl rfl rfl ?_
          refine j_getIv (v := nI f) dX6_isWord_33 rfl fX6_29 rfl (by decide) rfl hT.1.2.1 ?_
          refine j_iload_n dX6_isWord_36 rfl rfl rfl ?_
          refine j_iaddN (c := f + k) dX6_isWord_37 rfl rfl ?_
          refine j_bald (j := f + k) (v := nI (tx (f + k))) dX6_isWord_38 rfl rfl (by decide) rfl (by omega) (by decide) (hR.2.1 (f + k) (by omega)) ?_
          refine j_aload_n dX6_isWord_39 rfl rfl rfl ?_
          refine j_iload_n dX6_isWord_40 rfl rfl rfl ?_
          refine j_callVSw (i := 2) (As := [.int (nI k)]) (by decide) dX6_isWord_41 rfl cX6_122 rfl rfl (Nat.le_of_ble_eq_true rfl) rfl rfl (c_chr2 (by omega) ?_)
          show Rj _ _ _ _ _ _ 44 [.ref 13, .ref 1002, .int (nI k)] [.int (nI (chS 2 k)), .int (nI (tx (f + k)))] n I J (Pg i0 i1)
          refine j_icmpeqN (tgt := 49) dX6_isWord_44 rfl rfl (by omega) (by omega) (fun h2 => ?_) (fun h2 => ?_)
          · refine j_iincN (L' := [.ref 13, .ref 1002, .int (nI (k + 1))]) dX6_isWord_49 rfl rfl (b := 1) rfl rfl rfl (by decide) rfl ?_
            refine j_goto (tgt := 20) dX6_isWord_52 rfl ?_
            refine ih (k + 1) (by omega) (fun j hj => ?_)
            by_cases e : j = k
            · subst e; assumption
            · exact hc j (by omega)
          · refine j_iconst (v := nI 0) dX6_isWord_47 rfl rfl ?_
            refine j_iret dX6_isWord_48 rfl rfl ?_
            exact hQ0 (fun q => absurd (q.2 k (show k < 3 by omega)) (by assumption))
      exact loop 3 0 rfl (fun j hj => absurd hj (by omega))
    refine j_aload_n dX6_isWord_0 rfl rfl rfl ?_
    refine j_getIv (v := nI (tkE tx tl f)) dX6_isWord_1 rfl fX6_32 rfl (by decide) rfl hT.1.2.2.1 ?_
    refine j_aload_n dX6_isWord_4 rfl rfl rfl ?_
    refine j_getIv (v := nI f) dX6_isWord_5 rfl fX6_29 rfl (by decide) rfl hT.1.2.1 ?_
    refine j_isubN (c := (tkE tx tl f) - f) dX6_isWord_8 rfl (by omega) rfl ?_
    refine j_aload_n dX6_isWord_9 rfl rfl rfl ?_
    refine j_callVSw (i := 2) (As := []) (by decide) dX6_isWord_10 rfl cX6_118 rfl rfl (Nat.le_of_ble_eq_true rfl) rfl rfl (c_len2 ?_)
    show Rj _ _ _ _ _ _ 13 [.ref 13, .ref 1002, jU] [.int (nI 3), .int (nI ((tkE tx tl f) - f))] n I J (Pg i0 i1)
    refine j_icmpeqN (tgt := 18) dX6_isWord_13 rfl rfl (by omega) (by decide) (fun h1 => ?_) (fun h1 => by exfalso; omega)
    refine j_iconst (v := nI 0) dX6_isWord_18 rfl rfl ?_
    refine j_istore_n (L' := [.ref 13, .ref 1002, .int (nI 0)]) dX6_isWord_19 rfl rfl rfl (by decide) rfl ?_
    exact hloop
  · have hne : ¬ isW tx tl f 2 := fun q => hl q.1
    refine j_aload_n dX6_isWord_0 rfl rfl rfl ?_
    refine j_getIv (v := nI (tkE tx tl f)) dX6_isWord_1 rfl fX6_32 rfl (by decide) rfl hT.1.2.2.1 ?_
    refine j_aload_n dX6_isWord_4 rfl rfl rfl ?_
    refine j_getIv (v := nI f) dX6_isWord_5 rfl fX6_29 rfl (by decide) rfl hT.1.2.1 ?_
    refine j_isubN (c := (tkE tx tl f) - f) dX6_isWord_8 rfl (by omega) rfl ?_
    refine j_aload_n dX6_isWord_9 rfl rfl rfl ?_
    refine j_callVSw (i := 2) (As := []) (by decide) dX6_isWord_10 rfl cX6_118 rfl rfl (Nat.le_of_ble_eq_true rfl) rfl rfl (c_len2 ?_)
    show Rj _ _ _ _ _ _ 13 [.ref 13, .ref 1002, jU] [.int (nI 3), .int (nI ((tkE tx tl f) - f))] n I J (Pg i0 i1)
    refine j_icmpeqN (tgt := 18) dX6_isWord_13 rfl rfl (by omega) (by decide) (fun h1 => by exfalso; omega) (fun h1 => ?_)
    refine j_iconst (v := nI 0) dX6_isWord_16 rfl rfl ?_
    refine j_iret dX6_isWord_17 rfl rfl ?_
    exact hQ0 hne
set_option maxHeartbeats 4000000 in
set_option maxRecDepth 100000 in
theorem c_isWord3 {X : jX} {d n : Nat} {I : HI} {J : HJ} {i0 i1 : Option Nat} {Q : jPost} {tl f : Nat} {tx : Nat → Nat} (hR : RS I tl tx) (hT : TF I tx tl f) (hQ1 : isW tx tl f 3 → Q (some (.int (nI 1))) n I J (Pg i0 i1)) (hQ0 : ¬ isW tx tl f 3 → Q (some (.int (nI 0))) n I J (Pg i0 i1)) : Cj X (d + 4) 0 0 mX6_isWord [.ref 13, .ref 1003] n I J (Pg i0 i1) Q := by
  refine Cj.intro rfl (Nat.le_of_ble_eq_true rfl) (L := [.ref 13, .ref 1003, jU]) rfl ?_
  obtain ⟨-, -, h150, h127⟩ := id hR
  have hel := tkE_le (tx := tx) hT.2
  have htl := hT.2
  by_cases hl : tkE tx tl f - f = 4
  · have hloop : Rj X (d + 4) 0 0 mX6_isWord Q 20 [.ref 13, .ref 1003, .int (nI 0)] [] n I J (Pg i0 i1) := by
      have loop : ∀ r k : Nat, k + r = 4 → (∀ j, j < k → tx (f + j) = chS 3 j) → Rj X (d + 4) 0 0 mX6_isWord Q 20 [.ref 13, .ref 1003, .int (nI k)] [] n I J (Pg i0 i1) := by
        intro r
        induction r with
        | zero =>
          intro k hkr hc
          refine j_iload_n dX6_isWord_20 rfl rfl rfl ?_
          refine j_aload_n dX6_isWord_21 rfl rfl rfl ?_
          refine j_callVSw (i := 3) (As := []) (by decide) dX6_isWord_22 rfl cX6_118 rfl rfl (Nat.le_of_ble_eq_true rfl) rfl rfl (c_len3 ?_)
          show Rj _ _ _ _ _ _ 25 [.ref 13, .ref 1003, .int (nI k)] [.int (nI 4), .int (nI k)] n I J (Pg i0 i1)
          refine j_icmpgeN (tgt := 55) dX6_isWord_25 rfl rfl (by omega) (by decide) (fun h1 => ?_) (fun h1 => by exfalso; omega)
          refine j_iconst (v := nI 1) dX6_isWord_55 rfl rfl ?_
          refine j_iret dX6_isWord_56 rfl rfl ?_
          exact hQ1 ⟨hl, fun j hj => hc j (by have : j < 4 := hj; omega)⟩
        | succ r ih =>
          intro k hkr hc
          have hch := (chS_ok 3 (by decide) k (show k < 4 by omega)).2
          have h7 := h127 (f + k) (by omega)
          refine j_iload_n dX6_isWord_20 rfl rfl rfl ?_
          refine j_aload_n dX6_isWord_21 rfl rfl rfl ?_
          refine j_callVSw (i := 3) (As := []) (by decide) dX6_isWord_22 rfl cX6_118 rfl rfl (Nat.le_of_ble_eq_true rfl) rfl rfl (c_len3 ?_)
          show Rj _ _ _ _ _ _ 25 [.ref 13, .ref 1003, .int (nI k)] [.int (nI 4), .int (nI k)] n I J (Pg i0 i1)
          refine j_icmpgeN (tgt := 55) dX6_isWord_25 rfl rfl (by omega) (by decide) (fun h1 => by exfalso; omega) (fun h1 => ?_)
          refine j_aload_n dX6_isWord_28 rfl rfl rfl ?_
          refine j_getP (b := 14) dX6_isWord_29 rfl fX6_9 rfl (by decide) rfl rfl ?_
          refine j_aload_n dX6_isWord_32 rfl rfl rfl ?_
          refine j_getIv (v := nI f) dX6_isWord_33 rfl fX6_29 rfl (by decide) rfl hT.1.2.1 ?_
          refine j_iload_n dX6_isWord_36 rfl rfl rfl ?_
          refine j_iaddN (c := f + k) dX6_isWord_37 rfl rfl ?_
          refine j_bald (j := f + k) (v := nI (tx (f + k))) dX6_isWord_38 rfl rfl (by decide) rfl (by omega) (by decide) (hR.2.1 (f + k) (by omega)) ?_
          refine j_aload_n dX6_isWord_39 rfl rfl rfl ?_
          refine j_iload_n dX6_isWord_40 rfl rfl rfl ?_
          refine j_callVSw (i := 3) (As := [.int (nI k)]) (by decide) dX6_isWord_41 rfl cX6_122 rfl rfl (Nat.le_of_ble_eq_true rfl) rfl rfl (c_chr3 (by omega) ?_)
          show Rj _ _ _ _ _ _ 44 [.ref 13, .ref 1003, .int (nI k)] [.int (nI (chS 3 k)), .int (nI (tx (f + k)))] n I J (Pg i0 i1)
          refine j_icmpeqN (tgt := 49) dX6_isWord_44 rfl rfl (by omega) (by omega) (fun h2 => ?_) (fun h2 => ?_)
          · refine j_iincN (L' := [.ref 13, .ref 1003, .int (nI (k + 1))]) dX6_isWord_49 rfl rfl (b := 1) rfl rfl rfl (by decide) rfl ?_
            refine j_goto (tgt := 20) dX6_isWord_52 rfl ?_
            refine ih (k + 1) (by omega) (fun j hj => ?_)
            by_cases e : j = k
            · subst e; assumption
            · exact hc j (by omega)
          · refine j_iconst (v := nI 0) dX6_isWord_47 rfl rfl ?_
            refine j_iret dX6_isWord_48 rfl rfl ?_
            exact hQ0 (fun q => absurd (q.2 k (show k < 4 by omega)) (by assumption))
      exact loop 4 0 rfl (fun j hj => absurd hj (by omega))
    refine j_aload_n dX6_isWord_0 rfl rfl rfl ?_
    refine j_getIv (v := nI (tkE tx tl f)) dX6_isWord_1 rfl fX6_32 rfl (by decide) rfl hT.1.2.2.1 ?_
    refine j_aload_n dX6_isWord_4 rfl rfl rfl ?_
    refine j_getIv (v := nI f) dX6_isWord_5 rfl fX6_29 rfl (by decide) rfl hT.1.2.1 ?_
    refine j_isubN (c := (tkE tx tl f) - f) dX6_isWord_8 rfl (by omega) rfl ?_
    refine j_aload_n dX6_isWord_9 rfl rfl rfl ?_
    refine j_callVSw (i := 3) (As := []) (by decide) dX6_isWord_10 rfl cX6_118 rfl rfl (Nat.le_of_ble_eq_true rfl) rfl rfl (c_len3 ?_)
    show Rj _ _ _ _ _ _ 13 [.ref 13, .ref 1003, jU] [.int (nI 4), .int (nI ((tkE tx tl f) - f))] n I J (Pg i0 i1)
    refine j_icmpeqN (tgt := 18) dX6_isWord_13 rfl rfl (by omega) (by decide) (fun h1 => ?_) (fun h1 => by exfalso; omega)
    refine j_iconst (v := nI 0) dX6_isWord_18 rfl rfl ?_
    refine j_istore_n (L' := [.ref 13, .ref 1003, .int (nI 0)]) dX6_isWord_19 rfl rfl rfl (by decide) rfl ?_
    exact hloop
  · have hne : ¬ isW tx tl f 3 := fun q => hl q.1
    refine j_aload_n dX6_isWord_0 rfl rfl rfl ?_
    refine j_getIv (v := nI (tkE tx tl f)) dX6_isWord_1 rfl fX6_32 rfl (by decide) rfl hT.1.2.2.1 ?_
    refine j_aload_n dX6_isWord_4 rfl rfl rfl ?_
    refine j_getIv (v := nI f) dX6_isWord_5 rfl fX6_29 rfl (by decide) rfl hT.1.2.1 ?_
    refine j_isubN (c := (tkE tx tl f) - f) dX6_isWord_8 rfl (by omega) rfl ?_
    refine j_aload_n dX6_isWord_9 rfl rfl rfl ?_
    refine j_callVSw (i := 3) (As := []) (by decide) dX6_isWord_10 rfl cX6_118 rfl rfl (Nat.le_of_ble_eq_true rfl) rfl rfl (c_len3 ?_)
    show Rj _ _ _ _ _ _ 13 [.ref 13, .ref 1003, jU] [.int (nI 4), .int (nI ((tkE tx tl f) - f))] n I J (Pg i0 i1)
    refine j_icmpeqN (tgt := 18) dX6_isWord_13 rfl rfl (by omega) (by decide) (fun h1 => by exfalso; omega) (fun h1 => ?_)
    refine j_iconst (v := nI 0) dX6_isWord_16 rfl rfl ?_
    refine j_iret dX6_isWord_17 rfl rfl ?_
    exact hQ0 hne
set_option maxHeartbeats 4000000 in
set_option maxRecDepth 100000 in
theorem c_isWord4 {X : jX} {d n : Nat} {I : HI} {J : HJ} {i0 i1 : Option Nat} {Q : jPost} {tl f : Nat} {tx : Nat → Nat} (hR : RS I tl tx) (hT : TF I tx tl f) (hQ1 : isW tx tl f 4 → Q (some (.int (nI 1))) n I J (Pg i0 i1)) (hQ0 : ¬ isW tx tl f 4 → Q (some (.int (nI 0))) n I J (Pg i0 i1)) : Cj X (d + 4) 0 0 mX6_isWord [.ref 13, .ref 1004] n I J (Pg i0 i1) Q := by
  refine Cj.intro rfl (Nat.le_of_ble_eq_true rfl) (L := [.ref 13, .ref 1004, jU]) rfl ?_
  obtain ⟨-, -, h150, h127⟩ := id hR
  have hel := tkE_le (tx := tx) hT.2
  have htl := hT.2
  by_cases hl : tkE tx tl f - f = 3
  · have hloop : Rj X (d + 4) 0 0 mX6_isWord Q 20 [.ref 13, .ref 1004, .int (nI 0)] [] n I J (Pg i0 i1) := by
      have loop : ∀ r k : Nat, k + r = 3 → (∀ j, j < k → tx (f + j) = chS 4 j) → Rj X (d + 4) 0 0 mX6_isWord Q 20 [.ref 13, .ref 1004, .int (nI k)] [] n I J (Pg i0 i1) := by
        intro r
        induction r with
        | zero =>
          intro k hkr hc
          refine j_iload_n dX6_isWord_20 rfl rfl rfl ?_
          refine j_aload_n dX6_isWord_21 rfl rfl rfl ?_
          refine j_callVSw (i := 4) (As := []) (by decide) dX6_isWord_22 rfl cX6_118 rfl rfl (Nat.le_of_ble_eq_true rfl) rfl rfl (c_len4 ?_)
          show Rj _ _ _ _ _ _ 25 [.ref 13, .ref 1004, .int (nI k)] [.int (nI 3), .int (nI k)] n I J (Pg i0 i1)
          refine j_icmpgeN (tgt := 55) dX6_isWord_25 rfl rfl (by omega) (by decide) (fun h1 => ?_) (fun h1 => by exfalso; omega)
          refine j_iconst (v := nI 1) dX6_isWord_55 rfl rfl ?_
          refine j_iret dX6_isWord_56 rfl rfl ?_
          exact hQ1 ⟨hl, fun j hj => hc j (by have : j < 3 := hj; omega)⟩
        | succ r ih =>
          intro k hkr hc
          have hch := (chS_ok 4 (by decide) k (show k < 3 by omega)).2
          have h7 := h127 (f + k) (by omega)
          refine j_iload_n dX6_isWord_20 rfl rfl rfl ?_
          refine j_aload_n dX6_isWord_21 rfl rfl rfl ?_
          refine j_callVSw (i := 4) (As := []) (by decide) dX6_isWord_22 rfl cX6_118 rfl rfl (Nat.le_of_ble_eq_true rfl) rfl rfl (c_len4 ?_)
          show Rj _ _ _ _ _ _ 25 [.ref 13, .ref 1004, .int (nI k)] [.int (nI 3), .int (nI k)] n I J (Pg i0 i1)
          refine j_icmpgeN (tgt := 55) dX6_isWord_25 rfl rfl (by omega) (by decide) (fun h1 => by exfalso; omega) (fun h1 => ?_)
          refine j_aload_n dX6_isWord_28 rfl rfl rfl ?_
          refine j_getP (b := 14) dX6_isWord_29 rfl fX6_9 rfl (by decide) rfl rfl ?_
          refine j_aload_n dX6_isWord_32 rfl rfl rfl ?_
          refine j_getIv (v := nI f) dX6_isWord_33 rfl fX6_29 rfl (by decide) rfl hT.1.2.1 ?_
          refine j_iload_n dX6_isWord_36 rfl rfl rfl ?_
          refine j_iaddN (c := f + k) dX6_isWord_37 rfl rfl ?_
          refine j_bald (j := f + k) (v := nI (tx (f + k))) dX6_isWord_38 rfl rfl (by decide) rfl (by omega) (by decide) (hR.2.1 (f + k) (by omega)) ?_
          refine j_aload_n dX6_isWord_39 rfl rfl rfl ?_
          refine j_iload_n dX6_isWord_40 rfl rfl rfl ?_
          refine j_callVSw (i := 4) (As := [.int (nI k)]) (by decide) dX6_isWord_41 rfl cX6_122 rfl rfl (Nat.le_of_ble_eq_true rfl) rfl rfl (c_chr4 (by omega) ?_)
          show Rj _ _ _ _ _ _ 44 [.ref 13, .ref 1004, .int (nI k)] [.int (nI (chS 4 k)), .int (nI (tx (f + k)))] n I J (Pg i0 i1)
          refine j_icmpeqN (tgt := 49) dX6_isWord_44 rfl rfl (by omega) (by omega) (fun h2 => ?_) (fun h2 => ?_)
          · refine j_iincN (L' := [.ref 13, .ref 1004, .int (nI (k + 1))]) dX6_isWord_49 rfl rfl (b := 1) rfl rfl rfl (by decide) rfl ?_
            refine j_goto (tgt := 20) dX6_isWord_52 rfl ?_
            refine ih (k + 1) (by omega) (fun j hj => ?_)
            by_cases e : j = k
            · subst e; assumption
            · exact hc j (by omega)
          · refine j_iconst (v := nI 0) dX6_isWord_47 rfl rfl ?_
            refine j_iret dX6_isWord_48 rfl rfl ?_
            exact hQ0 (fun q => absurd (q.2 k (show k < 3 by omega)) (by assumption))
      exact loop 3 0 rfl (fun j hj => absurd hj (by omega))
    refine j_aload_n dX6_isWord_0 rfl rfl rfl ?_
    refine j_getIv (v := nI (tkE tx tl f)) dX6_isWord_1 rfl fX6_32 rfl (by decide) rfl hT.1.2.2.1 ?_
    refine j_aload_n dX6_isWord_4 rfl rfl rfl ?_
    refine j_getIv (v := nI f) dX6_isWord_5 rfl fX6_29 rfl (by decide) rfl hT.1.2.1 ?_
    refine j_isubN (c := (tkE tx tl f) - f) dX6_isWord_8 rfl (by omega) rfl ?_
    refine j_aload_n dX6_isWord_9 rfl rfl rfl ?_
    refine j_callVSw (i := 4) (As := []) (by decide) dX6_isWord_10 rfl cX6_118 rfl rfl (Nat.le_of_ble_eq_true rfl) rfl rfl (c_len4 ?_)
    show Rj _ _ _ _ _ _ 13 [.ref 13, .ref 1004, jU] [.int (nI 3), .int (nI ((tkE tx tl f) - f))] n I J (Pg i0 i1)
    refine j_icmpeqN (tgt := 18) dX6_isWord_13 rfl rfl (by omega) (by decide) (fun h1 => ?_) (fun h1 => by exfalso; omega)
    refine j_iconst (v := nI 0) dX6_isWord_18 rfl rfl ?_
    refine j_istore_n (L' := [.ref 13, .ref 1004, .int (nI 0)]) dX6_isWord_19 rfl rfl rfl (by decide) rfl ?_
    exact hloop
  · have hne : ¬ isW tx tl f 4 := fun q => hl q.1
    refine j_aload_n dX6_isWord_0 rfl rfl rfl ?_
    refine j_getIv (v := nI (tkE tx tl f)) dX6_isWord_1 rfl fX6_32 rfl (by decide) rfl hT.1.2.2.1 ?_
    refine j_aload_n dX6_isWord_4 rfl rfl rfl ?_
    refine j_getIv (v := nI f) dX6_isWord_5 rfl fX6_29 rfl (by decide) rfl hT.1.2.1 ?_
    refine j_isubN (c := (tkE tx tl f) - f) dX6_isWord_8 rfl (by omega) rfl ?_
    refine j_aload_n dX6_isWord_9 rfl rfl rfl ?_
    refine j_callVSw (i := 4) (As := []) (by decide) dX6_isWord_10 rfl cX6_118 rfl rfl (Nat.le_of_ble_eq_true rfl) rfl rfl (c_len4 ?_)
    show Rj _ _ _ _ _ _ 13 [.ref 13, .ref 1004, jU] [.int (nI 3), .int (nI ((tkE tx tl f) - f))] n I J (Pg i0 i1)
    refine j_icmpeqN (tgt := 18) dX6_isWord_13 rfl rfl (by omega) (by decide) (fun h1 => by exfalso; omega) (fun h1 => ?_)
    refine j_iconst (v := nI 0) dX6_isWord_16 rfl rfl ?_
    refine j_iret dX6_isWord_17 rfl rfl ?_
    exact hQ0 hne
