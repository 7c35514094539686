theorem endY_rng (k da dr : Nat) : ∀ f y l, endY k da dr f y l = 0 ∨ ∃ z, z < f ∧ endY k da dr f y l = y + z + 1
  | 0, _, _ => Or.inl rfl
  | f + 1, y, l => by
    unfold endY
    split
    · exact Or.inl rfl
    · split
      · exact Or.inr ⟨0, by omega, rfl⟩
      · rcases endY_rng k da dr f (y + 1) (l - gos k y da dr) with h | ⟨z, h1, h2⟩
        · exact Or.inl h
        · exact Or.inr ⟨z + 1, by omega, by omega⟩
theorem endY_eq (k da dr : Nat) : ∀ f yr l y, y < f → (endY k da dr f yr l = yr + y + 1 ↔ 0 < lft k da dr yr l y ∧ lft k da dr yr l y - gos k (yr + y) da dr = 0)
  | 0, _, _, _, h => absurd h (Nat.not_lt_zero _)
  | f + 1, yr, l, y, h => by
    unfold endY
    split
    · next h0 =>
      subst h0
      rw [lft_0]
      constructor
      · intro q; omega
      · intro q; omega
    · next h0 =>
      split
      · next h1 =>
        cases y with
        | zero =>
          show _ ↔ 0 < l ∧ l - gos k (yr + 0) da dr = 0
          rw [Nat.add_zero]
          constructor
          · intro _; exact ⟨by omega, h1⟩
          · intro _; rfl
        | succ y =>
          show _ ↔ 0 < lft k da dr (yr + 1) (l - gos k yr da dr) y ∧ _
          rw [h1, lft_0]
          constructor
          · intro q; omega
          · intro q; omega
      · next h1 =>
        cases y with
        | zero =>
          show _ ↔ 0 < l ∧ l - gos k (yr + 0) da dr = 0
          rw [Nat.add_zero]
          have := endY_rng k da dr f (yr + 1) (l - gos k yr da dr)
          constructor
          · intro q
            rcases this with h2 | ⟨z, h2, h3⟩ <;> omega
          · intro q; exact absurd q.2 h1
        | succ y =>
          have := endY_eq k da dr f (yr + 1) (l - gos k yr da dr) y (by omega)
          rw [show yr + (y + 1) + 1 = yr + 1 + y + 1 by omega, show yr + (y + 1) = yr + 1 + y by omega]
          exact this
abbrev enY (v : VT) (p : Nat) : Nat := endY (v 1 p) (v 0 1) (v 0 2) 99 (v 0 0) (v 2 p)
theorem endB_bits (v : VT) (y : Nat) (h : y < 99) : ∀ np, endB v y (fun p => lft (v 1 p) (v 0 1) (v 0 2) (v 0 0) (v 2 p) y) np = bitsOf (fun q => decide (enY v q = v 0 0 + y + 1)) np
  | 0 => rfl
  | np + 1 => by
    have h1 := endB_bits v y h np
    have h2 := endY_eq (v 1 np) (v 0 1) (v 0 2) 99 (v 0 0) (v 2 np) y h
    unfold endB bitsOf
    rw [h1]
    by_cases q : enY v np = v 0 0 + y + 1
    · rw [if_pos (h2.mp q), if_pos (by simp [q])]
    · rw [if_neg (fun z => q (h2.mpr z)), if_neg (by simp [q])]
theorem pc6_or : ∀ k : Fin 6, ∀ a : Fin 64, a.1 < 2 ^ k.1 → pc6 (a.1 ||| 2 ^ k.1) = pc6 a.1 + 1 := by decide +kernel
theorem pc6_zero : ∀ a : Fin 64, ∀ k : Fin 6, a.1 / 2 ^ k.1 % 2 = 1 → 1 ≤ pc6 a.1 := by decide +kernel
theorem pc6_bits (f : Nat → Bool) : ∀ n, n ≤ 6 → 1 ≤ pc6 (bitsOf f n) → ∃ q, q < n ∧ f q = true
  | 0, _, h => absurd h (by simp [bitsOf, pc6])
  | n + 1, h6, h => by
    unfold bitsOf at h
    by_cases q : f n = true
    · exact ⟨n, by omega, q⟩
    · rw [if_neg q] at h
      obtain ⟨a, h1, h2⟩ := pc6_bits f n (by omega) h
      exact ⟨a, by omega, h2⟩
def tgI (c eb E : Nat → Nat) (yr p A B ms : Nat) : Prop :=
  (A = 0 ∧ B = 0 ∧ ms = 1 ∧ ∀ q, q < p → ∀ y, y < 99 → E q = yr + y + 1 → c y ≤ 1) ∨
  (∃ y, y < 99 ∧ A = yr + y + 1 ∧ B = eb y + 1 ∧ ms = c y ∧ 2 ≤ ms ∧ ∀ q, q < p → ∀ z, z < 99 → E q = yr + z + 1 → c z ≤ ms ∧ (c z = ms → y ≤ z))
def tgS (c eb : Nat → Nat) (yr n A B : Nat) : Prop :=
  (A = 0 ∧ B = 0 ∧ ∀ y, y < n → c y ≤ 1) ∨ (∃ y, y < n ∧ A = yr + y + 1 ∧ B = eb y + 1 ∧ 2 ≤ c y ∧ ∀ z, z < n → c z ≤ c y ∧ (c z = c y → y ≤ z))
theorem tgS_uniq {c eb : Nat → Nat} {yr n A B A' B' : Nat} (h : tgS c eb yr n A B) (h' : tgS c eb yr n A' B') : A = A' ∧ B = B' := by
  rcases h with ⟨a1, a2, a3⟩ | ⟨y, a0, a1, a2, a3, a4⟩
  · rcases h' with ⟨b1, b2, b3⟩ | ⟨z, b0, b1, b2, b3, b4⟩
    · omega
    · have := a3 z b0; omega
  · rcases h' with ⟨b1, b2, b3⟩ | ⟨z, b0, b1, b2, b3, b4⟩
    · have := b3 y a0; omega
    · have k1 := a4 z b0
      have k2 := b4 y a0
      have e : y = z := by omega
      subst e
      omega
theorem tog_S (eb : Nat → Nat) (yr : Nat) : ∀ r y ms a b, ((a = 0 ∧ b = 0 ∧ ms = 1 ∧ ∀ z, z < y → pc6 (eb z) ≤ 1) ∨ (∃ x, x < y ∧ a = yr + x + 1 ∧ b = eb x + 1 ∧ ms = pc6 (eb x) ∧ 2 ≤ ms ∧ ∀ z, z < y → pc6 (eb z) ≤ pc6 (eb x) ∧ (pc6 (eb z) = pc6 (eb x) → x ≤ z))) → tgS (fun y => pc6 (eb y)) eb yr (y + r) (tog eb yr r y ms a b).1 (tog eb yr r y ms a b).2
  | 0, y, ms, a, b, h => by
    unfold tog
    rcases h with ⟨h1, h2, h3, h4⟩ | ⟨x, h1, h2, h3, h4, h5, h6⟩
    · exact Or.inl ⟨h1, h2, h4⟩
    · exact Or.inr ⟨x, h1, h2, h3, by show 2 ≤ pc6 (eb x); omega, h6⟩
  | r + 1, y, ms, a, b, h => by
    unfold tog
    rw [show y + (r + 1) = y + 1 + r by omega]
    by_cases q : ms < pc6 (eb y)
    · rw [if_pos q]
      refine tog_S eb yr r (y + 1) _ _ _ (Or.inr ⟨y, by omega, rfl, rfl, rfl, ?_, fun z hz => ?_⟩)
      · rcases h with ⟨h1, h2, h3, h4⟩ | ⟨x, h1, h2, h3, h4, h5, h6⟩ <;> omega
      · by_cases e : z = y
        · subst e; omega
        · rcases h with ⟨h1, h2, h3, h4⟩ | ⟨x, h1, h2, h3, h4, h5, h6⟩
          · have := h4 z (by omega); omega
          · have := h6 z (by omega); omega
    · rw [if_neg q]
      refine tog_S eb yr r (y + 1) _ _ _ ?_
      rcases h with ⟨h1, h2, h3, h4⟩ | ⟨x, h1, h2, h3, h4, h5, h6⟩
      · refine Or.inl ⟨h1, h2, h3, fun z hz => ?_⟩
        by_cases e : z = y
        · subst e; omega
        · exact h4 z (by omega)
      · refine Or.inr ⟨x, by omega, h2, h3, h4, h5, fun z hz => ?_⟩
        by_cases e : z = y
        · subst e; omega
        · exact h6 z (by omega)
theorem tgI_0 {c eb E : Nat → Nat} {yr : Nat} : tgI c eb E yr 0 0 0 1 := Or.inl ⟨rfl, rfl, rfl, fun q hq => absurd hq (Nat.not_lt_zero _)⟩
theorem tgI_keep {c eb E : Nat → Nat} {yr p A B ms : Nat} (h : tgI c eb E yr p A B ms) (k : ∀ y, y < 99 → E p = yr + y + 1 → c y ≤ 1 ∨ (c y ≤ ms ∧ (c y = ms → A ≤ E p))) : tgI c eb E yr (p + 1) A B ms := by
  rcases h with ⟨h1, h2, h3, h4⟩ | ⟨x, h1, h2, h3, h4, h5, h6⟩
  · refine Or.inl ⟨h1, h2, h3, fun q hq y hy hE => ?_⟩
    by_cases e : q = p
    · subst e
      have := k y hy hE
      omega
    · exact h4 q (by omega) y hy hE
  · refine Or.inr ⟨x, h1, h2, h3, h4, h5, fun q hq y hy hE => ?_⟩
    by_cases e : q = p
    · subst e
      have := k y hy hE
      omega
    · exact h6 q (by omega) y hy hE
theorem tgI_take {c eb E : Nat → Nat} {yr p A B ms y n : Nat} (h : tgI c eb E yr p A B ms) (hy : y < 99) (hE : E p = yr + y + 1) (hn : n = c y) (h2 : 1 < n) (hb : ms < n ∨ n = ms ∧ E p < A) : tgI c eb E yr (p + 1) (E p) (eb y + 1) n := by
  refine Or.inr ⟨y, hy, hE, rfl, hn, h2, fun q hq z hz hq2 => ?_⟩
  by_cases e : q = p
  · subst e
    have : z = y := by omega
    subst this
    omega
  · rcases h with ⟨h1, h2, h3, h4⟩ | ⟨x, h1, h2, h3, h4, h5, h6⟩
    · have := h4 q (by omega) z hz hq2
      omega
    · have := h6 q (by omega) z hz hq2
      omega
theorem m1_toInt {a : Nat} (h : a < 2 ^ 30) : (nI a - 1).toInt = (a : Int) - 1 := by
  cases a with
  | zero => rfl
  | succ a => rw [nI_pred, nI_toInt (by omega)]; omega
theorem m1_eq {a b : Nat} (h : a < 2 ^ 30) (h2 : b < 2 ^ 30) : nI a - 1 = nI b - 1 ↔ a = b := by
  constructor
  · intro q
    have h3 := m1_toInt h
    have h4 := m1_toInt h2
    rw [q] at h3
    omega
  · intro q; rw [q]
theorem m1_lt {a b : Nat} (h : a < 2 ^ 30) (h2 : b < 2 ^ 30) : nI a - 1 < nI b - 1 ↔ a < b := by
  rw [Int32.lt_iff_toInt_lt, m1_toInt h, m1_toInt h2]
  omega
theorem m1_le {a b : Nat} (h : a < 2 ^ 30) (h2 : b < 2 ^ 30) : nI a - 1 ≤ nI b - 1 ↔ a ≤ b := by
  rw [Int32.le_iff_toInt_le, m1_toInt h, m1_toInt h2]
  omega
set_option maxHeartbeats 4000000 in
set_option maxRecDepth 100000 in
theorem g_together {X : jX} {d n : Nat} {I : HI} {J : HJ} {i0 i1 : Option Nat} {Q : jPost} {S : SS} {yb : Nat} (hm : MI S I J) (hW : WF yb S.v) (hyb : yb ≤ 2 ^ 12) {a : Int32} (hQ : MP Q (oTog S a) n I J (Pg i0 i1)) : Cj X (d + 5) 0 0 mX10_together [.ref 33, .int a] n I J (Pg i0 i1) Q := by
  refine Cj.intro rfl (Nat.le_of_ble_eq_true rfl) (L := [.ref 33, .int a, jU, jU, jU, jU, jU, jU, jU, jU]) rfl ?_
  obtain ⟨⟨w0, w1, w2, w3, w4, w5, w6⟩, wp, wk, wc, wb⟩ := id hW
  by_cases ha : inR a (nI 0) (nI 1)
  · obtain ⟨ja, rfl, hal, hau⟩ := inR_nat (by decide) (by decide) ha
    have inner : ∀ (r q st nn p ep A B ms : Nat), q + r = S.v 0 3 → p < S.v 0 3 → A < 2 ^ 30 → ms < 2 ^ 30 → ep = enY S.v p → tgI (fun y => pc6 (ebY S.v y)) (ebY S.v) (enY S.v) (S.v 0 0) p A B ms → st = bitsOf (fun i => decide (enY S.v i = ep)) q → nn = pc6 st → (∀ (A2 B2 ms2 : Nat) (z6 z7 z8 z9 : Value), tgI (fun y => pc6 (ebY S.v y)) (ebY S.v) (enY S.v) (S.v 0 0) (p + 1) A2 B2 ms2 → A2 < 2 ^ 30 → ms2 < 2 ^ 30 → Rj X (d + 5) 0 0 mX10_together Q 26 [.ref 33, .int (nI ja), .int (nI A2 - 1), .int (nI B2 - 1), .int (nI ms2), .int (nI (p + 1)), z6, z7, z8, z9] [] n I J (Pg i0 i1)) → Rj X (d + 5) 0 0 mX10_together Q 54 [.ref 33, .int (nI ja), .int (nI A - 1), .int (nI B - 1), .int (nI ms), .int (nI p), .int (nI ep - 1), .int (nI st), .int (nI nn), .int (nI q)] [] n I J (Pg i0 i1) := by
      intro r
      induction r with
      | zero =>
        intro q st nn p ep A B ms hqr hp hA hms hep hI hs hn hk
        have hst : st < 2 ^ q := by rw [hs]; exact bitsOf_lt _ _
        have hpq : 2 ^ q ≤ 2 ^ 6 := Nat.pow_le_pow_right (by omega) (by omega)
        have hnb : nn ≤ 6 := by rw [hn]; unfold pc6; omega
        have hEp : enY S.v p ≤ S.v 0 0 + 99 := endY_le _ _ _ _ _ _
        refine j_iload dX10_together_54 rfl rfl ?_
        refine j_aload_n dX10_together_56 rfl rfl rfl ?_
        refine j_getP (b := 34) dX10_together_57 rfl fX10_7 rfl (by decide) rfl rfl ?_
        refine j_iconst (v := nI 0) dX10_together_60 rfl rfl ?_
        refine j_iald (j := 0) (v := nI (S.v 0 3)) dX10_together_61 rfl rfl (by decide) rfl (by decide) (by decide) hm.v.mp ?_
        refine j_icmpgeN (tgt := 94) dX10_together_62 rfl rfl (by omega) (by omega) (fun h1 => ?_) (fun h1 => by exfalso; omega)
        refine j_iload dX10_together_94 rfl rfl ?_
        refine j_iload dX10_together_96 rfl rfl ?_
        suffices K3 : Rj X (d + 5) 0 0 mX10_together Q 119 [.ref 33, .int (nI ja), .int (nI A - 1), .int (nI B - 1), .int (nI ms), .int (nI p), .int (nI ep - 1), .int (nI st), .int (nI nn), .int (nI q)] [.int (bI ((ms < nn) ∨ ((nn = ms) ∧ (¬ ((nI A - 1) ≤ (nI ep - 1))))))] n I J (Pg i0 i1) by
          refine j_icmpgtN (tgt := 114) dX10_together_98 rfl rfl (by omega) (by omega) (fun h2 => ?_) (fun h2 => ?_)
          · refine j_iconst (v := nI 1) dX10_together_114 rfl rfl ?_
            refine j_goto (tgt := 119) dX10_together_115 rfl ?_
            rw [bI_t (Or.inl h2)] at K3; exact K3
          · refine j_iload dX10_together_101 rfl rfl ?_
            refine j_iload dX10_together_103 rfl rfl ?_
            refine j_icmpneN (tgt := 118) dX10_together_105 rfl rfl (by omega) (by omega) (fun h4 => ?_) (fun h4 => ?_)
            · refine j_iconst (v := nI 0) dX10_together_118 rfl rfl ?_
              rw [bI_f (fun q => q.elim h2 (fun q => h4 q.1))] at K3; exact K3
            · refine j_iload dX10_together_108 rfl rfl ?_
              refine j_iload_n dX10_together_110 rfl rfl rfl ?_
              refine j_icmpge (tgt := 118) dX10_together_111 rfl rfl (fun h5 => ?_) (fun h5 => ?_)
              · refine j_iconst (v := nI 0) dX10_together_118 rfl rfl ?_
                rw [bI_f (fun q => q.elim h2 (fun q => (fun q => q h5) q.2))] at K3; exact K3
              · refine j_iconst (v := nI 1) dX10_together_114 rfl rfl ?_
                refine j_goto (tgt := 119) dX10_together_115 rfl ?_
                rw [bI_t (Or.inr ⟨h4, h5⟩)] at K3; exact K3
        refine j_istore (L' := [.ref 33, .int (nI ja), .int (nI A - 1), .int (nI B - 1), .int (nI ms), .int (nI p), .int (nI ep - 1), .int (nI st), .int (nI nn), .int (bI ((ms < nn) ∨ ((nn = ms) ∧ (¬ ((nI A - 1) ≤ (nI ep - 1))))))]) dX10_together_119 rfl rfl (by decide) rfl ?_
        refine j_iload dX10_together_121 rfl rfl ?_
        refine j_iconst (v := (-1)) dX10_together_123 rfl rfl ?_
        refine j_icmpeq (tgt := 148) dX10_together_124 rfl rfl (fun h6 => ?_) (fun h6 => ?_)
        · refine j_iincN (L' := [.ref 33, .int (nI ja), .int (nI A - 1), .int (nI B - 1), .int (nI ms), .int (nI (p + 1)), .int (nI ep - 1), .int (nI st), .int (nI nn), .int (bI ((ms < nn) ∨ ((nn = ms) ∧ (¬ ((nI A - 1) ≤ (nI ep - 1))))))]) dX10_together_148 rfl rfl (b := 1) rfl rfl rfl (by decide) rfl ?_
          refine j_goto (tgt := 26) dX10_together_151 rfl ?_
          refine hk A B ms _ _ _ _ (tgI_keep hI (fun y hy hE => ?_)) hA hms
          have e1 : st = ebY S.v y := by rw [hs, show q = S.v 0 3 by omega, hep, hE]; exact (endB_bits S.v y hy _).symm
          have e2 : nn = pc6 (ebY S.v y) := by rw [hn, e1]
          simp only [← e2]
          first
            | (exfalso; have := (m1_eq (a := ep) (b := 0) (by omega) (by omega)).mp (by assumption); omega)
            | (left; omega)
            | (right
               have hb : ¬ (ms < nn ∨ nn = ms ∧ ¬ nI A - 1 ≤ nI ep - 1) := by assumption
               rw [m1_le hA (by omega)] at hb
               omega)
        · refine j_iload dX10_together_127 rfl rfl ?_
          refine j_iconst (v := nI 1) dX10_together_129 rfl rfl ?_
          refine j_icmpleN (tgt := 148) dX10_together_130 rfl rfl (by omega) (by decide) (fun h7 => ?_) (fun h7 => ?_)
          · refine j_iincN (L' := [.ref 33, .int (nI ja), .int (nI A - 1), .int (nI B - 1), .int (nI ms), .int (nI (p + 1)), .int (nI ep - 1), .int (nI st), .int (nI nn), .int (bI ((ms < nn) ∨ ((nn = ms) ∧ (¬ ((nI A - 1) ≤ (nI ep - 1))))))]) dX10_together_148 rfl rfl (b := 1) rfl rfl rfl (by decide) rfl ?_
            refine j_goto (tgt := 26) dX10_together_151 rfl ?_
            refine hk A B ms _ _ _ _ (tgI_keep hI (fun y hy hE => ?_)) hA hms
            have e1 : st = ebY S.v y := by rw [hs, show q = S.v 0 3 by omega, hep, hE]; exact (endB_bits S.v y hy _).symm
            have e2 : nn = pc6 (ebY S.v y) := by rw [hn, e1]
            simp only [← e2]
            first
              | (exfalso; have := (m1_eq (a := ep) (b := 0) (by omega) (by omega)).mp (by assumption); omega)
              | (left; omega)
              | (right
                 have hb : ¬ (ms < nn ∨ nn = ms ∧ ¬ nI A - 1 ≤ nI ep - 1) := by assumption
                 rw [m1_le hA (by omega)] at hb
                 omega)
          · refine j_iload dX10_together_133 rfl rfl ?_
            refine j_ifeqB (tgt := 148) dX10_together_135 rfl rfl (fun h8 => ?_) (fun h8 => ?_)
            · refine j_iincN (L' := [.ref 33, .int (nI ja), .int (nI A - 1), .int (nI B - 1), .int (nI ms), .int (nI (p + 1)), .int (nI ep - 1), .int (nI st), .int (nI nn), .int (bI ((ms < nn) ∨ ((nn = ms) ∧ (¬ ((nI A - 1) ≤ (nI ep - 1))))))]) dX10_together_148 rfl rfl (b := 1) rfl rfl rfl (by decide) rfl ?_
              refine j_goto (tgt := 26) dX10_together_151 rfl ?_
              refine hk A B ms _ _ _ _ (tgI_keep hI (fun y hy hE => ?_)) hA hms
              have e1 : st = ebY S.v y := by rw [hs, show q = S.v 0 3 by omega, hep, hE]; exact (endB_bits S.v y hy _).symm
              have e2 : nn = pc6 (ebY S.v y) := by rw [hn, e1]
              simp only [← e2]
              first
                | (exfalso; have := (m1_eq (a := ep) (b := 0) (by omega) (by omega)).mp (by assumption); omega)
                | (left; omega)
                | (right
                   have hb : ¬ (ms < nn ∨ nn = ms ∧ ¬ nI A - 1 ≤ nI ep - 1) := by assumption
                   rw [m1_le hA (by omega)] at hb
                   omega)
            · refine j_iload dX10_together_138 rfl rfl ?_
              refine j_istore_n (L' := [.ref 33, .int (nI ja), .int (nI ep - 1), .int (nI B - 1), .int (nI ms), .int (nI p), .int (nI ep - 1), .int (nI st), .int (nI nn), .int (bI ((ms < nn) ∨ ((nn = ms) ∧ (¬ ((nI A - 1) ≤ (nI ep - 1))))))]) dX10_together_140 rfl rfl rfl (by decide) rfl ?_
              refine j_iload dX10_together_141 rfl rfl ?_
              refine j_istore_n (L' := [.ref 33, .int (nI ja), .int (nI ep - 1), .int (nI st), .int (nI ms), .int (nI p), .int (nI ep - 1), .int (nI st), .int (nI nn), .int (bI ((ms < nn) ∨ ((nn = ms) ∧ (¬ ((nI A - 1) ≤ (nI ep - 1))))))]) dX10_together_143 rfl rfl rfl (by decide) rfl ?_
              refine j_iload dX10_together_144 rfl rfl ?_
              refine j_istore (L' := [.ref 33, .int (nI ja), .int (nI ep - 1), .int (nI st), .int (nI nn), .int (nI p), .int (nI ep - 1), .int (nI st), .int (nI nn), .int (bI ((ms < nn) ∨ ((nn = ms) ∧ (¬ ((nI A - 1) ≤ (nI ep - 1))))))]) dX10_together_146 rfl rfl (by decide) rfl ?_
              refine j_iincN (L' := [.ref 33, .int (nI ja), .int (nI ep - 1), .int (nI st), .int (nI nn), .int (nI (p + 1)), .int (nI ep - 1), .int (nI st), .int (nI nn), .int (bI ((ms < nn) ∨ ((nn = ms) ∧ (¬ ((nI A - 1) ≤ (nI ep - 1))))))]) dX10_together_148 rfl rfl (b := 1) rfl rfl rfl (by decide) rfl ?_
              refine j_goto (tgt := 26) dX10_together_151 rfl ?_
              have hz : ¬ ep = 0 := fun z => absurd ((m1_eq (a := ep) (b := 0) (by omega) (by omega)).mpr z) (by assumption)
              have hb : ms < nn ∨ nn = ms ∧ ¬ nI A - 1 ≤ nI ep - 1 := by assumption
              rw [m1_le hA (by omega)] at hb
              obtain ⟨y, hy, hE⟩ := (endY_rng (S.v 1 p) (S.v 0 1) (S.v 0 2) 99 (S.v 0 0) (S.v 2 p)).resolve_left (by rw [hep] at hz; exact hz)
              have e1 : st = ebY S.v y := by rw [hs, show q = S.v 0 3 by omega, hep]; show bitsOf (fun i => decide (enY S.v i = endY (S.v 1 p) (S.v 0 1) (S.v 0 2) 99 (S.v 0 0) (S.v 2 p))) _ = _; rw [hE]; exact (endB_bits S.v y hy _).symm
              have e2 : nn = pc6 (ebY S.v y) := by rw [hn, e1]
              rw [← nI_pred st, e1, hep]
              rw [hep] at hb
              exact hk _ _ _ _ _ _ _ (tgI_take hI hy hE e2 (by omega) (by omega)) (by omega) (by omega)
      | succ r ih =>
        intro q st nn p ep A B ms hqr hp hA hms hep hI hs hn hk
        have hst : st < 2 ^ q := by rw [hs]; exact bitsOf_lt _ _
        have hpq : 2 ^ q ≤ 2 ^ 6 := Nat.pow_le_pow_right (by omega) (by omega)
        have hnb : nn ≤ 6 := by rw [hn]; unfold pc6; omega
        have hEp : enY S.v p ≤ S.v 0 0 + 99 := endY_le _ _ _ _ _ _
        refine j_iload dX10_together_54 rfl rfl ?_
        refine j_aload_n dX10_together_56 rfl rfl rfl ?_
        refine j_getP (b := 34) dX10_together_57 rfl fX10_7 rfl (by decide) rfl rfl ?_
        refine j_iconst (v := nI 0) dX10_together_60 rfl rfl ?_
        refine j_iald (j := 0) (v := nI (S.v 0 3)) dX10_together_61 rfl rfl (by decide) rfl (by decide) (by decide) hm.v.mp ?_
        refine j_icmpgeN (tgt := 94) dX10_together_62 rfl rfl (by omega) (by omega) (fun h1 => by exfalso; omega) (fun h1 => ?_)
        refine j_aload_n dX10_together_65 rfl rfl rfl ?_
        refine j_iload dX10_together_66 rfl rfl ?_
        refine j_callVw (As := [.int (nI q)]) dX10_together_68 rfl cX10_145 (by decide) rfl rfl (by decide) rfl (by decide) rfl rfl (c_mendOf hm.v hW hyb (by omega) ?_)
        have hElq : enY S.v q ≤ S.v 0 0 + 99 := endY_le _ _ _ _ _ _
        show Rj _ _ _ _ _ _ 71 [.ref 33, .int (nI ja), .int (nI A - 1), .int (nI B - 1), .int (nI ms), .int (nI p), .int (nI ep - 1), .int (nI st), .int (nI nn), .int (nI q)] [.int (nI (enY S.v q) - 1)] n I J (Pg i0 i1)
        refine j_iload dX10_together_71 rfl rfl ?_
        refine j_icmpne (tgt := 88) dX10_together_73 rfl rfl (fun h2 => ?_) (fun h2 => ?_)
        · refine j_iincN (L' := [.ref 33, .int (nI ja), .int (nI A - 1), .int (nI B - 1), .int (nI ms), .int (nI p), .int (nI ep - 1), .int (nI st), .int (nI nn), .int (nI (q + 1))]) dX10_together_88 rfl rfl (b := 1) rfl rfl rfl (by decide) rfl ?_
          refine j_goto (tgt := 54) dX10_together_91 rfl ?_
          have hq1 : ¬ enY S.v q = ep := fun z => absurd ((m1_eq (by omega) (by omega)).mpr z) (by assumption)
          have hb1 : bitsOf (fun i => decide (enY S.v i = ep)) (q + 1) = st := by rw [hs]; show (if decide (enY S.v q = ep) = true then _ else _) = _; rw [if_neg (by simp [hq1])]
          exact ih (q + 1) _ _ p ep A B ms (by omega) hp hA hms hep hI hb1.symm hn hk
        · refine j_iload dX10_together_76 rfl rfl ?_
          refine j_iconst (v := nI 1) dX10_together_78 rfl rfl ?_
          refine j_iload dX10_together_79 rfl rfl ?_
          refine j_ishlN (c := 2 ^ q) dX10_together_81 rfl (by omega) (Nat.one_mul _) ?_
          refine j_iorN (c := st ||| (2 ^ q)) dX10_together_82 rfl rfl ?_
          refine j_istore (L' := [.ref 33, .int (nI ja), .int (nI A - 1), .int (nI B - 1), .int (nI ms), .int (nI p), .int (nI ep - 1), .int (nI (st ||| (2 ^ q))), .int (nI nn), .int (nI q)]) dX10_together_83 rfl rfl (by decide) rfl ?_
          refine j_iincN (L' := [.ref 33, .int (nI ja), .int (nI A - 1), .int (nI B - 1), .int (nI ms), .int (nI p), .int (nI ep - 1), .int (nI (st ||| (2 ^ q))), .int (nI (nn + 1)), .int (nI q)]) dX10_together_85 rfl rfl (b := 1) rfl rfl rfl (by decide) rfl ?_
          refine j_iincN (L' := [.ref 33, .int (nI ja), .int (nI A - 1), .int (nI B - 1), .int (nI ms), .int (nI p), .int (nI ep - 1), .int (nI (st ||| (2 ^ q))), .int (nI (nn + 1)), .int (nI (q + 1))]) dX10_together_88 rfl rfl (b := 1) rfl rfl rfl (by decide) rfl ?_
          refine j_goto (tgt := 54) dX10_together_91 rfl ?_
          have hq1 : enY S.v q = ep := (m1_eq (by omega) (by omega)).mp (by assumption)
          have hb1 : bitsOf (fun i => decide (enY S.v i = ep)) (q + 1) = st ||| 2 ^ q := by rw [hs]; show (if decide (enY S.v q = ep) = true then _ else _) = _; rw [if_pos (by simp [hq1])]
          refine ih (q + 1) _ _ p ep A B ms (by omega) hp hA hms hep hI hb1.symm ?_ hk
          rw [hn]
          exact (pc6_or ⟨q, by omega⟩ ⟨st, by omega⟩ hst).symm
    have outer : ∀ (r p A B ms : Nat) (z6 z7 z8 z9 : Value), p + r = S.v 0 3 → A < 2 ^ 30 → ms < 2 ^ 30 → tgI (fun y => pc6 (ebY S.v y)) (ebY S.v) (enY S.v) (S.v 0 0) p A B ms → Rj X (d + 5) 0 0 mX10_together Q 26 [.ref 33, .int (nI ja), .int (nI A - 1), .int (nI B - 1), .int (nI ms), .int (nI p), z6, z7, z8, z9] [] n I J (Pg i0 i1) := by
      intro r
      induction r with
      | zero =>
        intro p A B ms z6 z7 z8 z9 hpr hA hms hI
        refine j_iload dX10_together_26 rfl rfl ?_
        refine j_aload_n dX10_together_28 rfl rfl rfl ?_
        refine j_getP (b := 34) dX10_together_29 rfl fX10_7 rfl (by decide) rfl rfl ?_
        refine j_iconst (v := nI 0) dX10_together_32 rfl rfl ?_
        refine j_iald (j := 0) (v := nI (S.v 0 3)) dX10_together_33 rfl rfl (by decide) rfl (by decide) (by decide) hm.v.mp ?_
        refine j_icmpgeN (tgt := 154) dX10_together_34 rfl rfl (by omega) (by omega) (fun h1 => ?_) (fun h1 => by exfalso; omega)
        refine j_iload_n dX10_together_154 rfl rfl rfl ?_
        refine j_ifneN (tgt := 162) dX10_together_155 rfl rfl (by omega) (fun h2 => ?_) (fun h2 => ?_)
        · refine j_iload_n dX10_together_162 rfl rfl rfl ?_
          refine j_iret dX10_together_163 rfl rfl ?_
          have hT := tog_S (ebY S.v) (S.v 0 0) 99 0 1 0 0 (Or.inl ⟨rfl, rfl, rfl, fun z hz => absurd hz (Nat.not_lt_zero _)⟩)
          have hU := tgS_uniq (A := A) (B := B) ?_ hT
          · have e : oTog S (nI ja) = (S, nI B - 1) := by
              unfold oTog
              rw [if_pos (by exact ha), tN_nI (show ja < 2 ^ 30 by omega), ← hU.1, ← hU.2]
              rw [if_neg (by assumption)]
            rw [e] at hQ
            exact hQ _ _ hm CF.rf
          · rcases hI with ⟨k1, k2, k3, k4⟩ | ⟨x, k1, k2, k3, k4, k5, k6⟩
            · refine Or.inl ⟨k1, k2, fun y hy => ?_⟩
              by_cases hc : pc6 (ebY S.v y) ≤ 1
              · exact hc
              · have e1 : ebY S.v y = _ := endB_bits S.v y (by omega) _
                obtain ⟨q, hq1, hq2⟩ := pc6_bits _ _ w3 (show 1 ≤ pc6 (bitsOf (fun q => decide (enY S.v q = S.v 0 0 + y + 1)) (S.v 0 3)) by rw [← e1]; omega)
                exact k4 q (by omega) y (by omega) (of_decide_eq_true hq2)
            · have k4 : ms = pc6 (ebY S.v x) := k4
              refine Or.inr ⟨x, by omega, k2, k3, by show 2 ≤ pc6 (ebY S.v x); rw [← k4]; exact k5, fun z hz => ?_⟩
              by_cases hc : 1 ≤ pc6 (ebY S.v z)
              · have e1 : ebY S.v z = _ := endB_bits S.v z (by omega) _
                obtain ⟨q, hq1, hq2⟩ := pc6_bits _ _ w3 (show 1 ≤ pc6 (bitsOf (fun q => decide (enY S.v q = S.v 0 0 + z + 1)) (S.v 0 3)) by rw [← e1]; exact hc)
                have := k6 q (by omega) z (by omega) (of_decide_eq_true hq2)
                simp only [← k4]
                exact this
              · show pc6 (ebY S.v z) ≤ pc6 (ebY S.v x) ∧ (pc6 (ebY S.v z) = pc6 (ebY S.v x) → x ≤ z)
                rw [← k4]
                omega
        · refine j_iload_n dX10_together_158 rfl rfl rfl ?_
          refine j_goto (tgt := 163) dX10_together_159 rfl ?_
          refine j_iret dX10_together_163 rfl rfl ?_
          have hT := tog_S (ebY S.v) (S.v 0 0) 99 0 1 0 0 (Or.inl ⟨rfl, rfl, rfl, fun z hz => absurd hz (Nat.not_lt_zero _)⟩)
          have hU := tgS_uniq (A := A) (B := B) ?_ hT
          · have e : oTog S (nI ja) = (S, nI A - 1) := by
              unfold oTog
              rw [if_pos (by exact ha), tN_nI (show ja < 2 ^ 30 by omega), ← hU.1, ← hU.2]
              rw [if_pos (by assumption)]
            rw [e] at hQ
            exact hQ _ _ hm CF.rf
          · rcases hI with ⟨k1, k2, k3, k4⟩ | ⟨x, k1, k2, k3, k4, k5, k6⟩
            · refine Or.inl ⟨k1, k2, fun y hy => ?_⟩
              by_cases hc : pc6 (ebY S.v y) ≤ 1
              · exact hc
              · have e1 : ebY S.v y = _ := endB_bits S.v y (by omega) _
                obtain ⟨q, hq1, hq2⟩ := pc6_bits _ _ w3 (show 1 ≤ pc6 (bitsOf (fun q => decide (enY S.v q = S.v 0 0 + y + 1)) (S.v 0 3)) by rw [← e1]; omega)
                exact k4 q (by omega) y (by omega) (of_decide_eq_true hq2)
            · have k4 : ms = pc6 (ebY S.v x) := k4
              refine Or.inr ⟨x, by omega, k2, k3, by show 2 ≤ pc6 (ebY S.v x); rw [← k4]; exact k5, fun z hz => ?_⟩
              by_cases hc : 1 ≤ pc6 (ebY S.v z)
              · have e1 : ebY S.v z = _ := endB_bits S.v z (by omega) _
                obtain ⟨q, hq1, hq2⟩ := pc6_bits _ _ w3 (show 1 ≤ pc6 (bitsOf (fun q => decide (enY S.v q = S.v 0 0 + z + 1)) (S.v 0 3)) by rw [← e1]; exact hc)
                have := k6 q (by omega) z (by omega) (of_decide_eq_true hq2)
                simp only [← k4]
                exact this
              · show pc6 (ebY S.v z) ≤ pc6 (ebY S.v x) ∧ (pc6 (ebY S.v z) = pc6 (ebY S.v x) → x ≤ z)
                rw [← k4]
                omega
      | succ r ih =>
        intro p A B ms z6 z7 z8 z9 hpr hA hms hI
        refine j_iload dX10_together_26 rfl rfl ?_
        refine j_aload_n dX10_together_28 rfl rfl rfl ?_
        refine j_getP (b := 34) dX10_together_29 rfl fX10_7 rfl (by decide) rfl rfl ?_
        refine j_iconst (v := nI 0) dX10_together_32 rfl rfl ?_
        refine j_iald (j := 0) (v := nI (S.v 0 3)) dX10_together_33 rfl rfl (by decide) rfl (by decide) (by decide) hm.v.mp ?_
        refine j_icmpgeN (tgt := 154) dX10_together_34 rfl rfl (by omega) (by omega) (fun h1 => by exfalso; omega) (fun h1 => ?_)
        refine j_aload_n dX10_together_37 rfl rfl rfl ?_
        refine j_iload dX10_together_38 rfl rfl ?_
        refine j_callVw (As := [.int (nI p)]) dX10_together_40 rfl cX10_145 (by decide) rfl rfl (by decide) rfl (by decide) rfl rfl (c_mendOf hm.v hW hyb (by omega) ?_)
        have hElp : enY S.v p ≤ S.v 0 0 + 99 := endY_le _ _ _ _ _ _
        show Rj _ _ _ _ _ _ 43 [.ref 33, .int (nI ja), .int (nI A - 1), .int (nI B - 1), .int (nI ms), .int (nI p), z6, z7, z8, z9] [.int (nI (enY S.v p) - 1)] n I J (Pg i0 i1)
        refine j_istore (L' := [.ref 33, .int (nI ja), .int (nI A - 1), .int (nI B - 1), .int (nI ms), .int (nI p), .int (nI (enY S.v p) - 1), z7, z8, z9]) dX10_together_43 rfl rfl (by decide) rfl ?_
        refine j_iconst (v := nI 0) dX10_together_45 rfl rfl ?_
        refine j_istore (L' := [.ref 33, .int (nI ja), .int (nI A - 1), .int (nI B - 1), .int (nI ms), .int (nI p), .int (nI (enY S.v p) - 1), .int (nI 0), z8, z9]) dX10_together_46 rfl rfl (by decide) rfl ?_
        refine j_iconst (v := nI 0) dX10_together_48 rfl rfl ?_
        refine j_istore (L' := [.ref 33, .int (nI ja), .int (nI A - 1), .int (nI B - 1), .int (nI ms), .int (nI p), .int (nI (enY S.v p) - 1), .int (nI 0), .int (nI 0), z9]) dX10_together_49 rfl rfl (by decide) rfl ?_
        refine j_iconst (v := nI 0) dX10_together_51 rfl rfl ?_
        refine j_istore (L' := [.ref 33, .int (nI ja), .int (nI A - 1), .int (nI B - 1), .int (nI ms), .int (nI p), .int (nI (enY S.v p) - 1), .int (nI 0), .int (nI 0), .int (nI 0)]) dX10_together_52 rfl rfl (by decide) rfl ?_
        exact inner (S.v 0 3) 0 0 0 p _ A B ms (by omega) (by omega) hA hms rfl hI rfl rfl (fun A2 B2 ms2 z6 z7 z8 z9 k1 k2 k3 => ih (p + 1) A2 B2 ms2 z6 z7 z8 z9 (by omega) k2 k3 k1)
    refine j_iload_n dX10_together_0 rfl rfl rfl ?_
    refine j_iconst (v := nI 0) dX10_together_1 rfl rfl ?_
    refine j_iconst (v := nI 1) dX10_together_2 rfl rfl ?_
    refine j_callSw (As := [.int (nI ja), .int (nI 0), .int (nI 1)]) dX10_together_3 rfl cX10_50 rfl (by decide) rfl rfl (c_min (fun _ => ?_) (fun q => absurd ha q))
    show Rj _ _ _ _ _ _ 6 [.ref 33, .int (nI ja), jU, jU, jU, jU, jU, jU, jU, jU] [.int (nI 1)] n I J (Pg i0 i1)
    refine j_ifneN (tgt := 16) dX10_together_6 rfl rfl (by decide) (fun h1 => ?_) (fun h1 => by exfalso; omega)
    refine j_iconst (v := (-1)) dX10_together_16 rfl rfl ?_
    refine j_istore_n (L' := [.ref 33, .int (nI ja), .int (-1), jU, jU, jU, jU, jU, jU, jU]) dX10_together_17 rfl rfl rfl (by decide) rfl ?_
    refine j_iconst (v := (-1)) dX10_together_18 rfl rfl ?_
    refine j_istore_n (L' := [.ref 33, .int (nI ja), .int (-1), .int (-1), jU, jU, jU, jU, jU, jU]) dX10_together_19 rfl rfl rfl (by decide) rfl ?_
    refine j_iconst (v := nI 1) dX10_together_20 rfl rfl ?_
    refine j_istore (L' := [.ref 33, .int (nI ja), .int (-1), .int (-1), .int (nI 1), jU, jU, jU, jU, jU]) dX10_together_21 rfl rfl (by decide) rfl ?_
    refine j_iconst (v := nI 0) dX10_together_23 rfl rfl ?_
    refine j_istore (L' := [.ref 33, .int (nI ja), .int (-1), .int (-1), .int (nI 1), .int (nI 0), jU, jU, jU, jU]) dX10_together_24 rfl rfl (by decide) rfl ?_
    exact outer (S.v 0 3) 0 0 0 1 _ _ _ _ (by omega) (by omega) (by omega) tgI_0
  · skip
    refine j_iload_n dX10_together_0 rfl rfl rfl ?_
    refine j_iconst (v := nI 0) dX10_together_1 rfl rfl ?_
    refine j_iconst (v := nI 1) dX10_together_2 rfl rfl ?_
    refine j_callSw (As := [.int a, .int (nI 0), .int (nI 1)]) dX10_together_3 rfl cX10_50 rfl (by decide) rfl rfl (c_min (fun q => absurd q ha) (fun _ => ?_))
    show Rj _ _ _ _ _ _ 6 [.ref 33, .int a, jU, jU, jU, jU, jU, jU, jU, jU] [.int (nI 0)] n I J (Pg i0 i1)
    refine j_ifneN (tgt := 16) dX10_together_6 rfl rfl (by decide) (fun h1 => by exfalso; omega) (fun h1 => ?_)
    refine j_aload_n dX10_together_9 rfl rfl rfl ?_
    refine j_bipush (v := (-2)) dX10_together_10 rfl rfl ?_
    refine j_callVw (As := [.int (-2)]) dX10_together_12 rfl cX10_54 (by decide) rfl rfl (by decide) rfl (by decide) rfl rfl (c_mbad ?_)
    show Rj _ _ _ _ _ _ 15 [.ref 33, .int a, jU, jU, jU, jU, jU, jU, jU, jU] [.int (-2)] n (u2 I 39 0 (I 39 0 + nI 1)) J (Pg i0 i1)
    refine j_iret dX10_together_15 rfl rfl ?_
    have e : oTog S a = (S.bad, -2) := by unfold oTog; rw [if_neg (by first | exact ha | exact fun q => ha q.1 | exact fun q => hb q.2 | exact fun q => hb q.2.1 | exact fun q => hc q.2.2 | exact fun q => ha q.1.1 | exact fun q => hb q.1.2.1 | exact fun q => q.1.2.2 (congrArg nI (by assumption)) | exact fun q => hc q.2.1 | exact fun q => he q.2.2)]
    rw [e] at hQ
    exact hQ _ _ hm.bad (CF.u2 (by omega) (by omega))
