set_option maxHeartbeats 4000000 in
set_option maxRecDepth 100000 in
theorem c_mnote0 {X : jX} {d n : Nat} {I : HI} {J : HJ} {i0 i1 : Option Nat} {Q : jPost} {m : Nat} (hm6 : I 34 6 = nI m) (hm8 : m ≤ 8) (hQ : ∀ b (g : Nat → Int32), b = min 7 m → (∀ i, i < 63 → i ≠ 6 → g i = I 34 i) → g 6 = nI (b + 1) → (∀ i, 63 ≤ i → i < 63 + 13 * b → g i = I 34 (i + 13 * (m - b))) → g (63 + 13 * b) = I 34 2 → (∀ q, q < 6 → g (64 + 13 * b + q) = I 34 (13 + q) ∧ g (70 + 13 * b + q) = I 34 (25 + q)) → Q none n (ur I 34 g) J (Pg i0 i1)) : Cj X d 0 0 mX10_note [.ref 33] n I J (Pg i0 i1) Q := by
  refine Cj.intro rfl (Nat.le_of_ble_eq_true rfl) (L := [.ref 33, jU, jU]) rfl ?_
  have fin : ∀ (b : Nat) (z : Value) (g : Nat → Int32), b ≤ 7 → b = min 7 m → (∀ i, i < 63 → i ≠ 6 → g i = I 34 i) → g 6 = nI b → (∀ i, 63 ≤ i → i < 63 + 13 * b → g i = I 34 (i + 13 * (m - b))) → Rj X d 0 0 mX10_note Q 54 [.ref 33, z, jU] [] n (ur I 34 g) J (Pg i0 i1) := by
    intro b z g hb7 hb hB h6 hS
    have l2 : ∀ (r p : Nat) (g : Nat → Int32), p + r = 6 → (∀ i, i < 63 → i ≠ 6 → g i = I 34 i) → g 6 = nI b → (∀ i, 63 ≤ i → i < 63 + 13 * b → g i = I 34 (i + 13 * (m - b))) → g (63 + 13 * b) = I 34 2 → (∀ q, q < p → g (64 + 13 * b + q) = I 34 (13 + q) ∧ g (70 + 13 * b + q) = I 34 (25 + q)) → Rj X d 0 0 mX10_note Q 82 [.ref 33, .int (nI (63 + (13 * b))), .int (nI p)] [] n (ur I 34 g) J (Pg i0 i1) := by
      intro r
      induction r with
      | zero =>
        intro p g hpr hB h6 hS hY hP
        refine j_iload_n dX10_note_82 rfl rfl rfl ?_
        refine j_bipush (v := nI 6) dX10_note_83 rfl rfl ?_
        refine j_icmpgeN (tgt := 133) dX10_note_85 rfl rfl (by omega) (by decide) (fun h1 => ?_) (fun h1 => by exfalso; omega)
        refine j_aload_n dX10_note_133 rfl rfl rfl ?_
        refine j_getP (b := 34) dX10_note_134 rfl fX10_7 rfl (by decide) rfl rfl ?_
        refine j_bipush (v := nI 6) dX10_note_137 rfl rfl ?_
        refine j_dup2 dX10_note_139 rfl rfl rfl ?_
        refine j_iald (j := 6) (v := nI b) dX10_note_140 rfl rfl (by decide) rfl (by decide) (by decide) h6 ?_
        refine j_iconst (v := nI 1) dX10_note_141 rfl rfl ?_
        refine j_iaddN (c := b + 1) dX10_note_142 rfl rfl ?_
        refine j_iast (j := 6) dX10_note_143 rfl rfl (by decide) rfl (by decide) (by decide) ?_
        refine j_vret dX10_note_144 rfl ?_
        rw [u2_ur]
        refine hQ b _ hb (fun i k1 k2 => ?_) ?_ (fun i k1 k2 => ?_) ?_ (fun q hq => ?_)
        · show (if _ then _ else g _) = _; rw [if_neg (by omega)]; exact hB i k1 k2
        · rfl
        · show (if _ then _ else g _) = _; rw [if_neg (by omega)]; exact hS i k1 k2
        · show (if _ then _ else g _) = _; rw [if_neg (by omega)]; exact hY
        · refine ⟨?_, ?_⟩
          · show (if _ then _ else g _) = _; rw [if_neg (by omega)]; exact (hP q (by omega)).1
          · show (if _ then _ else g _) = _; rw [if_neg (by omega)]; exact (hP q (by omega)).2
      | succ r ih =>
        intro p g hpr hB h6 hS hY hP
        refine j_iload_n dX10_note_82 rfl rfl rfl ?_
        refine j_bipush (v := nI 6) dX10_note_83 rfl rfl ?_
        refine j_icmpgeN (tgt := 133) dX10_note_85 rfl rfl (by omega) (by decide) (fun h1 => by exfalso; omega) (fun h1 => ?_)
        refine j_aload_n dX10_note_88 rfl rfl rfl ?_
        refine j_getP (b := 34) dX10_note_89 rfl fX10_7 rfl (by decide) rfl rfl ?_
        refine j_iload_n dX10_note_92 rfl rfl rfl ?_
        refine j_iconst (v := nI 1) dX10_note_93 rfl rfl ?_
        refine j_iaddN (c := (63 + (13 * b)) + 1) dX10_note_94 rfl rfl ?_
        refine j_iload_n dX10_note_95 rfl rfl rfl ?_
        refine j_iaddN (c := ((63 + (13 * b)) + 1) + p) dX10_note_96 rfl rfl ?_
        refine j_aload_n dX10_note_97 rfl rfl rfl ?_
        refine j_getP (b := 34) dX10_note_98 rfl fX10_7 rfl (by decide) rfl rfl ?_
        refine j_bipush (v := nI 13) dX10_note_101 rfl rfl ?_
        refine j_iload_n dX10_note_103 rfl rfl rfl ?_
        refine j_iaddN (c := 13 + p) dX10_note_104 rfl rfl ?_
        refine j_iald (j := 13 + p) (v := g (13 + p)) dX10_note_105 rfl rfl (by decide) rfl (by omega) (by decide) rfl ?_
        refine j_iast (j := ((63 + (13 * b)) + 1) + p) dX10_note_106 rfl rfl (by decide) rfl (by omega) (by decide) ?_
        refine j_aload_n dX10_note_107 rfl rfl rfl ?_
        refine j_getP (b := 34) dX10_note_108 rfl fX10_7 rfl (by decide) rfl rfl ?_
        refine j_iload_n dX10_note_111 rfl rfl rfl ?_
        refine j_bipush (v := nI 7) dX10_note_112 rfl rfl ?_
        refine j_iaddN (c := (63 + (13 * b)) + 7) dX10_note_114 rfl rfl ?_
        refine j_iload_n dX10_note_115 rfl rfl rfl ?_
        refine j_iaddN (c := ((63 + (13 * b)) + 7) + p) dX10_note_116 rfl rfl ?_
        refine j_aload_n dX10_note_117 rfl rfl rfl ?_
        refine j_getP (b := 34) dX10_note_118 rfl fX10_7 rfl (by decide) rfl rfl ?_
        refine j_bipush (v := nI 25) dX10_note_121 rfl rfl ?_
        refine j_iload_n dX10_note_123 rfl rfl rfl ?_
        refine j_iaddN (c := 25 + p) dX10_note_124 rfl rfl ?_
        refine j_iald (j := 25 + p) (v := g (25 + p)) dX10_note_125 rfl rfl (by decide) rfl (by omega) (by decide) (by rw [u2_ne2 _ _ _ (by omega)]; rfl) ?_
        refine j_iast (j := ((63 + (13 * b)) + 7) + p) dX10_note_126 rfl rfl (by decide) rfl (by omega) (by decide) ?_
        refine j_iincN (L' := [.ref 33, .int (nI (63 + (13 * b))), .int (nI (p + 1))]) dX10_note_127 rfl rfl (b := 1) rfl rfl rfl (by decide) rfl ?_
        refine j_goto (tgt := 82) dX10_note_130 rfl ?_
        rw [u2_ur, u2_ur]
        refine ih (p + 1) _ (by omega) (fun i k1 k2 => ?_) ?_ (fun i k1 k2 => ?_) ?_ (fun q hq => ?_)
        · show (if _ then _ else if _ then _ else g _) = _; rw [if_neg (by omega), if_neg (by omega)]; exact hB i k1 k2
        · show (if _ then _ else if _ then _ else g _) = _; rw [if_neg (by omega), if_neg (by omega)]; exact h6
        · show (if _ then _ else if _ then _ else g _) = _; rw [if_neg (by omega), if_neg (by omega)]; exact hS i k1 k2
        · show (if _ then _ else if _ then _ else g _) = _; rw [if_neg (by omega), if_neg (by omega)]; exact hY
        · by_cases e : q = p
          · subst e
            refine ⟨?_, ?_⟩
            · show (if _ then _ else if _ then _ else g _) = _; rw [if_neg (by omega), if_pos (by omega)]; exact hB _ (by omega) (by omega)
            · show (if _ then _ else if _ then _ else g _) = _; rw [if_pos (by omega)]; exact hB _ (by omega) (by omega)
          · refine ⟨?_, ?_⟩
            · show (if _ then _ else if _ then _ else g _) = _; rw [if_neg (by omega), if_neg (by omega)]; exact (hP q (by omega)).1
            · show (if _ then _ else if _ then _ else g _) = _; rw [if_neg (by omega), if_neg (by omega)]; exact (hP q (by omega)).2
    refine j_bipush (v := nI 63) dX10_note_54 rfl rfl ?_
    refine j_bipush (v := nI 13) dX10_note_56 rfl rfl ?_
    refine j_aload_n dX10_note_58 rfl rfl rfl ?_
    refine j_getP (b := 34) dX10_note_59 rfl fX10_7 rfl (by decide) rfl rfl ?_
    refine j_bipush (v := nI 6) dX10_note_62 rfl rfl ?_
    refine j_iald (j := 6) (v := nI b) dX10_note_64 rfl rfl (by decide) rfl (by decide) (by decide) h6 ?_
    refine j_imulN (c := 13 * b) dX10_note_65 rfl rfl ?_
    refine j_iaddN (c := 63 + (13 * b)) dX10_note_66 rfl rfl ?_
    refine j_istore_n (L' := [.ref 33, .int (nI (63 + (13 * b))), jU]) dX10_note_67 rfl rfl rfl (by decide) rfl ?_
    refine j_aload_n dX10_note_68 rfl rfl rfl ?_
    refine j_getP (b := 34) dX10_note_69 rfl fX10_7 rfl (by decide) rfl rfl ?_
    refine j_iload_n dX10_note_72 rfl rfl rfl ?_
    refine j_aload_n dX10_note_73 rfl rfl rfl ?_
    refine j_getP (b := 34) dX10_note_74 rfl fX10_7 rfl (by decide) rfl rfl ?_
    refine j_iconst (v := nI 2) dX10_note_77 rfl rfl ?_
    refine j_iald (j := 2) (v := g 2) dX10_note_78 rfl rfl (by decide) rfl (by decide) (by decide) rfl ?_
    refine j_iast (j := 63 + (13 * b)) dX10_note_79 rfl rfl (by decide) rfl (by omega) (by decide) ?_
    refine j_iconst (v := nI 0) dX10_note_80 rfl rfl ?_
    refine j_istore_n (L' := [.ref 33, .int (nI (63 + (13 * b))), .int (nI 0)]) dX10_note_81 rfl rfl rfl (by decide) rfl ?_
    rw [u2_ur]
    refine l2 6 0 _ (by omega) (fun i k1 k2 => ?_) ?_ (fun i k1 k2 => ?_) ?_ (fun q hq => absurd hq (Nat.not_lt_zero _))
    · show (if _ then _ else g _) = _; rw [if_neg (by omega)]; exact hB i k1 k2
    · show (if _ then _ else g _) = _; rw [if_neg (by omega)]; exact h6
    · show (if _ then _ else g _) = _; rw [if_neg (by omega)]; exact hS i k1 k2
    · show (if _ then _ else g _) = _; rw [if_pos (by omega)]; exact hB 2 (by omega) (by omega)
  have sh : ∀ (r k : Nat) (g : Nat → Int32), k + r = 154 → 63 ≤ k → m = 8 → (∀ i, i < 63 → g i = I 34 i) → (∀ i, 63 ≤ i → i < k → g i = I 34 (i + 13)) → (∀ i, k ≤ i → g i = I 34 i) → Rj X d 0 0 mX10_note Q 15 [.ref 33, .int (nI k), jU] [] n (ur I 34 g) J (Pg i0 i1) := by
    intro r
    induction r with
    | zero =>
      intro k g hkr hk h8 hA hD hU
      refine j_iload_n dX10_note_15 rfl rfl rfl ?_
      refine j_sipush (v := nI 154) dX10_note_16 rfl rfl ?_
      refine j_icmpgeN (tgt := 43) dX10_note_19 rfl rfl (by omega) (by decide) (fun h1 => ?_) (fun h1 => by exfalso; omega)
      have hg6 : g 6 = nI 8 := by rw [hA 6 (by omega), hm6, h8]
      refine j_aload_n dX10_note_43 rfl rfl rfl ?_
      refine j_getP (b := 34) dX10_note_44 rfl fX10_7 rfl (by decide) rfl rfl ?_
      refine j_bipush (v := nI 6) dX10_note_47 rfl rfl ?_
      refine j_dup2 dX10_note_49 rfl rfl rfl ?_
      refine j_iald (j := 6) (v := nI 8) dX10_note_50 rfl rfl (by decide) rfl (by decide) (by decide) hg6 ?_
      refine j_iconst (v := nI 1) dX10_note_51 rfl rfl ?_
      refine j_isubN (c := 7) dX10_note_52 rfl (by omega) rfl ?_
      refine j_iast (j := 6) dX10_note_53 rfl rfl (by decide) rfl (by decide) (by decide) ?_
      subst h8
      rw [u2_ur]
      refine fin 7 _ _ (by omega) (by omega) (fun i k1 k2 => ?_) rfl (fun i k1 k2 => ?_)
      · show (if _ then _ else g _) = _; rw [if_neg (by omega)]; exact hA i k1
      · show (if _ then _ else g _) = _; rw [if_neg (by omega)]; exact hD i k1 (by omega)
    | succ r ih =>
      intro k g hkr hk h8 hA hD hU
      refine j_iload_n dX10_note_15 rfl rfl rfl ?_
      refine j_sipush (v := nI 154) dX10_note_16 rfl rfl ?_
      refine j_icmpgeN (tgt := 43) dX10_note_19 rfl rfl (by omega) (by decide) (fun h1 => by exfalso; omega) (fun h1 => ?_)
      refine j_aload_n dX10_note_22 rfl rfl rfl ?_
      refine j_getP (b := 34) dX10_note_23 rfl fX10_7 rfl (by decide) rfl rfl ?_
      refine j_iload_n dX10_note_26 rfl rfl rfl ?_
      refine j_aload_n dX10_note_27 rfl rfl rfl ?_
      refine j_getP (b := 34) dX10_note_28 rfl fX10_7 rfl (by decide) rfl rfl ?_
      refine j_iload_n dX10_note_31 rfl rfl rfl ?_
      refine j_bipush (v := nI 13) dX10_note_32 rfl rfl ?_
      refine j_iaddN (c := k + 13) dX10_note_34 rfl rfl ?_
      refine j_iald (j := k + 13) (v := g (k + 13)) dX10_note_35 rfl rfl (by decide) rfl (by omega) (by decide) rfl ?_
      refine j_iast (j := k) dX10_note_36 rfl rfl (by decide) rfl (by omega) (by decide) ?_
      refine j_iincN (L' := [.ref 33, .int (nI (k + 1)), jU]) dX10_note_37 rfl rfl (b := 1) rfl rfl rfl (by decide) rfl ?_
      refine j_goto (tgt := 15) dX10_note_40 rfl ?_
      rw [u2_ur]
      refine ih (k + 1) _ (by omega) (by omega) h8 (fun i k1 => ?_) (fun i k1 k2 => ?_) (fun i k1 => ?_)
      · show (if _ then _ else g _) = _; rw [if_neg (by omega)]; exact hA i k1
      · show (if _ then _ else g _) = _
        by_cases e : i = k
        · rw [if_pos e, e]; exact hU _ (by omega)
        · rw [if_neg e]; exact hD i k1 (by omega)
      · show (if _ then _ else g _) = _; rw [if_neg (by omega)]; exact hU i (by omega)
  refine j_aload_n dX10_note_0 rfl rfl rfl ?_
  refine j_getP (b := 34) dX10_note_1 rfl fX10_7 rfl (by decide) rfl rfl ?_
  refine j_bipush (v := nI 6) dX10_note_4 rfl rfl ?_
  refine j_iald (j := 6) (v := nI m) dX10_note_6 rfl rfl (by decide) rfl (by decide) (by decide) hm6 ?_
  refine j_bipush (v := nI 8) dX10_note_7 rfl rfl ?_
  refine j_icmpneN (tgt := 54) dX10_note_9 rfl rfl (by omega) (by decide) (fun h1 => ?_) (fun h1 => ?_)
  · rw [← ur_self I 34]
    exact fin m _ _ (by omega) (by omega) (fun i _ _ => rfl) hm6 (fun i _ _ => by rw [Nat.sub_self]; rfl)
  · refine j_bipush (v := nI 63) dX10_note_12 rfl rfl ?_
    refine j_istore_n (L' := [.ref 33, .int (nI 63), jU]) dX10_note_14 rfl rfl rfl (by decide) rfl ?_
    rw [← ur_self I 34]
    exact sh 91 63 _ (by omega) (by omega) (by assumption) (fun i _ => rfl) (fun i k1 k2 => absurd k1 (by omega)) (fun i _ => rfl)
theorem VM.chg {I I' : HI} {v w : VT} (h : VM 34 0 I v) (h0 : ∀ i, i ≠ 0 → i < 6 → w 0 i = v 0 i) (hy : I' 34 2 = nI (w 0 0)) (h6 : I' 34 6 = nI (w 0 6)) (h3 : v 0 3 ≤ 6) (h4 : v 0 4 ≤ 8) (h5 : v 0 5 ≤ 8)
    (hp : ∀ p, p < v 0 3 → I' 34 (7 + p) = nI (w 1 p) ∧ I' 34 (13 + p) = nI (w 2 p) ∧ I' 34 (19 + p) = nI (w 3 p) ∧ I' 34 (25 + p) = nI (w 4 p) - 1) (hf : ∀ f i, 5 ≤ f → f < 10 → w f i = v f i) (he : ∀ i, i ≠ 2 → i ≠ 6 → (i < 7 ∨ 31 ≤ i) → i < 63 → I' 34 i = I 34 i)
    (hb : ∀ j, j < w 0 6 → I' 34 (63 + 13 * (w 0 6 - 1 - j)) = nI (w (10 + j) 0) ∧ ∀ p, p < v 0 3 → I' 34 (64 + 13 * (w 0 6 - 1 - j) + p) = nI (w (10 + j) (1 + p)) ∧ I' 34 (70 + 13 * (w 0 6 - 1 - j) + p) = nI (w (10 + j) (7 + p)) - 1) : VM 34 0 I' w := by
  obtain ⟨⟨s0, s1, s2, s3, s4, s5, s6⟩, c1, c2, c3, c7⟩ := h
  have e3 := h0 3 (by omega) (by omega)
  have e4 := h0 4 (by omega) (by omega)
  have e5 := h0 5 (by omega) (by omega)
  refine ⟨⟨?_, ?_, hy, ?_, ?_, ?_, h6⟩, fun p hq => ?_, fun p hq => ?_, fun p hq => ?_, fun j hj => ?_⟩
  · rw [he _ (by omega) (by omega) (by omega) (by omega), e3]; exact s0
  · rw [he _ (by omega) (by omega) (by omega) (by omega), e4]; exact s1
  · rw [he _ (by omega) (by omega) (by omega) (by omega), h0 1 (by omega) (by omega)]; exact s3
  · rw [he _ (by omega) (by omega) (by omega) (by omega), h0 2 (by omega) (by omega)]; exact s4
  · rw [he _ (by omega) (by omega) (by omega) (by omega), e5]; exact s5
  · rw [e3] at hq
    have := hp p hq
    simp only [Nat.zero_add]
    exact this
  · rw [e4] at hq
    rw [he _ (by omega) (by omega) (by omega) (by omega), hf 5 p (by omega) (by omega)]; exact c2 p hq
  · rw [e5] at hq
    rw [he (0 + 39 + 3 * p) (by omega) (by omega) (by omega) (by omega), he (0 + 40 + 3 * p) (by omega) (by omega) (by omega) (by omega), he (0 + 41 + 3 * p) (by omega) (by omega) (by omega) (by omega), hf 6 p (by omega) (by omega), hf 7 p (by omega) (by omega), hf 8 p (by omega) (by omega)]
    exact c3 p hq
  · have := hb j hj
    simp only [Nat.zero_add]
    exact ⟨this.1, fun p hq => this.2 p (by omega)⟩
theorem VM_push {I : HI} {g : Nat → Int32} {v : VT} {b : Nat} (h : VM 34 0 I v) (h3 : v 0 3 ≤ 6) (h4 : v 0 4 ≤ 8) (h5 : v 0 5 ≤ 8) (h6 : v 0 6 ≤ 8) (hb : b = min 7 (v 0 6)) (hB : ∀ i, i < 63 → i ≠ 6 → g i = I 34 i) (hg : g 6 = nI (b + 1)) (hS : ∀ i, 63 ≤ i → i < 63 + 13 * b → g i = I 34 (i + 13 * (v 0 6 - b))) (hY : g (63 + 13 * b) = I 34 2) (hP : ∀ q, q < 6 → g (64 + 13 * b + q) = I 34 (13 + q) ∧ g (70 + 13 * b + q) = I 34 (25 + q)) : VM 34 0 (ur I 34 g) (vPush v) := by
  have w6 : vPush v 0 6 = b + 1 := by show min 8 (v 0 6 + 1) = b + 1; omega
  have k2 : ∀ f i, 1 ≤ f → f < 10 → vPush v f i = v f i := fun f i q1 q2 => by unfold vPush; rw [if_neg (by omega), if_neg (by omega), if_neg (by omega)]
  refine h.chg (fun i q1 q2 => ?_) ?_ ?_ h3 h4 h5 (fun p hp => ?_) (fun f i q1 q2 => k2 f i (by omega) q2) (fun i q1 q2 q3 q4 => ?_) (fun j hj => ?_)
  · show (if i = 6 then _ else v 0 i) = _
    rw [if_neg (by omega)]
  · rw [ur_row, hB 2 (by omega) (by omega)]; exact h.my
  · rw [ur_row, w6]; exact hg
  · rw [ur_row, k2 1 p (by omega) (by omega), k2 2 p (by omega) (by omega), k2 3 p (by omega) (by omega), k2 4 p (by omega) (by omega), hB _ (by omega) (by omega), hB _ (by omega) (by omega), hB _ (by omega) (by omega), hB _ (by omega) (by omega)]
    exact ⟨h.kd hp, h.lv hp, h.sn hp, h.en hp⟩
  · rw [ur_row]; exact hB i q4 q2
  · rw [w6] at hj ⊢
    rw [ur_row]
    cases j with
    | zero =>
      rw [show b + 1 - 1 - 0 = b by omega]
      refine ⟨?_, fun p hp => ?_⟩
      · rw [hY]; exact h.my
      · rw [(hP p (by omega)).1, (hP p (by omega)).2]
        refine ⟨?_, ?_⟩
        · rw [h.lv hp]
          show _ = nI (if 1 + p = 0 then _ else if 1 + p < 7 then v 2 (1 + p - 1) else _)
          rw [if_neg (by omega), if_pos (by omega), show 1 + p - 1 = p by omega]
        · rw [h.en hp]
          show _ = nI (if 7 + p = 0 then _ else if 7 + p < 7 then _ else v 4 (7 + p - 7)) - 1
          rw [if_neg (by omega), if_neg (by omega), show 7 + p - 7 = p by omega]
    | succ k =>
      have c7 := h.2.2.2.2 k (by omega)
      have ew : ∀ i, vPush v (10 + (k + 1)) i = v (10 + k) i := fun i => by
        unfold vPush
        rw [if_neg (by omega), if_neg (by omega), if_pos (by omega), show 10 + (k + 1) - 1 = 10 + k by omega]
      rw [ew, hS _ (by omega) (by omega), show 63 + 13 * (b + 1 - 1 - (k + 1)) + 13 * (v 0 6 - b) = 0 + 63 + 13 * (v 0 6 - 1 - k) by omega]
      refine ⟨c7.1, fun p hp => ?_⟩
      rw [ew, ew, hS _ (by omega) (by omega), hS _ (by omega) (by omega), show 64 + 13 * (b + 1 - 1 - (k + 1)) + p + 13 * (v 0 6 - b) = 0 + 64 + 13 * (v 0 6 - 1 - k) + p by omega, show 70 + 13 * (b + 1 - 1 - (k + 1)) + p + 13 * (v 0 6 - b) = 0 + 70 + 13 * (v 0 6 - 1 - k) + p by omega]
      exact c7.2 p hp
theorem c_mnote {X : jX} {d n : Nat} {I : HI} {J : HJ} {i0 i1 : Option Nat} {Q : jPost} {v : VT} {yb : Nat} (hM : VM 34 0 I v) (hW : WF yb v) (hQ : ∀ I1, VM 34 0 I1 (vPush v) → (∀ a, a ≠ 34 → I1 a = I a) → Q none n I1 J (Pg i0 i1)) : Cj X d 0 0 mX10_note [.ref 33] n I J (Pg i0 i1) Q :=
  c_mnote0 hM.mb hW.1.2.2.2.2.2.2 (fun b g k1 k2 k3 k4 k5 k6 => hQ _ (VM_push hM hW.1.2.2.2.1 hW.1.2.2.2.2.1 hW.1.2.2.2.2.2.1 hW.1.2.2.2.2.2.2 k1 k2 k3 k4 k5 k6) (fun a ha => ur_ne _ _ ha))
