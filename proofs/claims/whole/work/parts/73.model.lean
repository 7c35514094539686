theorem MI.scr {S : SS} {I I' : HI} {J J' : HJ} (h : MI S I J) (he : ∀ a, 34 ≤ a → a ≤ 39 → a ≠ 35 → I' a = I a) (h4 : I' 33 4 = I 33 4) (hj : J' 33 12 = J 33 12) (hj2 : J' 33 13 = J 33 13) : MI S I' J' := by
  refine ⟨h.1.congr (he 34 (by omega) (by omega) (by omega)), ?_, ?_, ?_, h.2.2.2.2.1.congr (he 36 (by omega) (by omega) (by omega)) (he 37 (by omega) (by omega) (by omega)), h.2.2.2.2.2.congr (he 36 (by omega) (by omega) (by omega)) (he 37 (by omega) (by omega) (by omega))⟩
  · rw [h4, he 38 (by omega) (by omega) (by omega)]; exact h.2.1
  · rw [he 39 (by omega) (by omega) (by omega)]; exact h.2.2.1
  · rw [hj, hj2]; exact h.2.2.2.1
theorem m1_neg {a : Nat} (h : a < 2 ^ 30) : nI a - 1 < 0 ↔ a = 0 := by
  have h2 : (0 : Int32).toInt = 0 := rfl
  rw [Int32.lt_iff_toInt_lt, m1_toInt h, h2]
  omega
theorem m1_leN {a b : Nat} (h : a < 2 ^ 30) (h2 : b < 2 ^ 29) : nI a - 1 ≤ nI b ↔ a ≤ b + 1 := by
  rw [← nI_pred b]
  exact m1_le h (by omega)
theorem lft_sG (v : VT) (p : Nat) : ∀ t l, lft (v 1 p) (v 0 1) (v 0 2) (v 0 0) l t = l - sG v p t
  | 0, l => rfl
  | t + 1, l => by
    rw [lft_succ, lft_sG v p t l]
    show _ = l - (sG v p t + gos (v 1 p) (v 0 0 + t) (v 0 1) (v 0 2))
    omega
def gLf (nA nB : Nat) (q : Nat × Nat × Nat × Nat) (s : Nat × Nat × Nat) : Nat × Nat × Nat := if (s.1 = 0 ∨ q.1 + q.2.1 + 1 < s.1) ∧ nA ≤ q.1 ∧ nB ≤ q.2.1 then (q.1 + q.2.1 + 1, q.2.2.1 + 1, q.2.2.2 + 1) else s
def gEn (fl : Nat → Nat) (nA nB : Nat) : Nat → Nat → Nat → Nat → Nat → Nat → Nat × Nat × Nat → Nat × Nat × Nat
  | 0, _, gA, gB, tA, tB, s => gLf nA nB (gA, gB, tA, tB) s
  | r + 1, k, gA, gB, tA, tB, s => gEn fl nA nB r (k + 1) gA (gB + fl k) tA (tB ||| 2 ^ k) (gEn fl nA nB r (k + 1) (gA + fl k) gB (tA ||| 2 ^ k) tB (gEn fl nA nB r (k + 1) gA gB tA tB s))
def gIn (fl : Nat → Nat) (c : Nat) : Nat → Nat → Nat → Nat → Nat → Nat → Nat × Nat × Nat × Nat
  | 0, _, gA, gB, tA, tB => (gA, gB, tA, tB)
  | r + 1, k, gA, gB, tA, tB => if c / 3 ^ r % 3 = 1 then gIn fl c r (k + 1) (gA + fl k) gB (tA ||| 2 ^ k) tB else if c / 3 ^ r % 3 = 2 then gIn fl c r (k + 1) gA (gB + fl k) tA (tB ||| 2 ^ k) else gIn fl c r (k + 1) gA gB tA tB
def gRun (f : Nat → Nat × Nat × Nat → Nat × Nat × Nat) : Nat → Nat → Nat × Nat × Nat → Nat × Nat × Nat
  | 0, _, s => s
  | n + 1, c, s => gRun f n (c + 1) (f c s)
theorem gRun_add (f : Nat → Nat × Nat × Nat → Nat × Nat × Nat) : ∀ a b c s, gRun f (a + b) c s = gRun f b (c + a) (gRun f a c s)
  | 0, b, c, s => by rw [Nat.zero_add]; rfl
  | a + 1, b, c, s => by
    rw [show a + 1 + b = a + b + 1 by omega]
    show gRun f (a + b) (c + 1) (f c s) = gRun f b (c + (a + 1)) (gRun f a (c + 1) (f c s))
    rw [gRun_add f a b (c + 1) (f c s), show c + 1 + a = c + (a + 1) by omega]
theorem gRun_congr {f g : Nat → Nat × Nat × Nat → Nat × Nat × Nat} : ∀ n c s, (∀ x, c ≤ x → x < c + n → ∀ t, f x t = g x t) → gRun f n c s = gRun g n c s
  | 0, _, _, _ => rfl
  | n + 1, c, s, h => by
    show gRun f n (c + 1) (f c s) = gRun g n (c + 1) (g c s)
    rw [h c (by omega) (by omega) s]
    exact gRun_congr n (c + 1) _ (fun x h1 h2 t => h x (by omega) (by omega) t)
theorem gEn_keep (fl : Nat → Nat) (nA nB : Nat) : ∀ r k gA gB tA tB s, ¬ s.1 = 0 → s.1 ≤ gA + gB + 1 → gEn fl nA nB r k gA gB tA tB s = s
  | 0, k, gA, gB, tA, tB, s, h1, h2 => by
    unfold gEn gLf
    rw [if_neg (fun q => q.1.elim h1 (fun z => by have : gA + gB + 1 < s.1 := z; omega))]
  | r + 1, k, gA, gB, tA, tB, s, h1, h2 => by
    unfold gEn
    rw [gEn_keep fl nA nB r (k + 1) gA gB tA tB s h1 h2, gEn_keep fl nA nB r (k + 1) (gA + fl k) gB _ tB s h1 (by omega), gEn_keep fl nA nB r (k + 1) gA (gB + fl k) tA _ s h1 (by omega)]
theorem gEn_take (fl : Nat → Nat) (nA nB : Nat) : ∀ r k gA gB tA tB s, (s.1 = 0 ∨ gA + gB + 1 < s.1) → nA ≤ gA → nB ≤ gB → gEn fl nA nB r k gA gB tA tB s = (gA + gB + 1, tA + 1, tB + 1)
  | 0, k, gA, gB, tA, tB, s, h1, h2, h3 => by
    unfold gEn gLf
    rw [if_pos (by exact ⟨h1, h2, h3⟩)]
  | r + 1, k, gA, gB, tA, tB, s, h1, h2, h3 => by
    unfold gEn
    rw [gEn_take fl nA nB r (k + 1) gA gB tA tB s h1 h2 h3, gEn_keep fl nA nB r (k + 1) (gA + fl k) gB _ tB _ (by show ¬ gA + gB + 1 = 0; omega) (by show gA + gB + 1 ≤ _; omega), gEn_keep fl nA nB r (k + 1) gA (gB + fl k) tA _ _ (by show ¬ gA + gB + 1 = 0; omega) (by show gA + gB + 1 ≤ _; omega)]
theorem shr_gEn (fl : Nat → Nat) (nA nB : Nat) : ∀ r k gA gB tA tB s, shr fl nA nB r k gA gB tA tB s = gEn fl nA nB r k gA gB tA tB s
  | 0, k, gA, gB, tA, tB, s => by
    unfold shr
    split
    · next h => rw [gEn_keep fl nA nB 0 k gA gB tA tB s h.1 h.2]
    · split
      · next h h2 => rw [gEn_take fl nA nB 0 k gA gB tA tB s (by omega) h2.1 h2.2]
      · next h h2 =>
        unfold gEn gLf
        rw [if_neg (fun q => h2 q.2)]
  | r + 1, k, gA, gB, tA, tB, s => by
    unfold shr
    split
    · next h => rw [gEn_keep fl nA nB (r + 1) k gA gB tA tB s h.1 h.2]
    · split
      · next h h2 => rw [gEn_take fl nA nB (r + 1) k gA gB tA tB s (by omega) h2.1 h2.2]
      · rw [shr_gEn fl nA nB r, shr_gEn fl nA nB r, shr_gEn fl nA nB r]
        rfl
theorem dig3 {M d w x : Nat} (hw : 0 < w) (hd : d < 3) (h1 : (3 * M + d) * w ≤ x) (h2 : x < (3 * M + d) * w + w) : x / w % 3 = d := by
  have : x / w = 3 * M + d := by
    rw [Nat.div_eq_iff hw]
    omega
  rw [this]
  omega
theorem gEn_run (fl : Nat → Nat) (nA nB : Nat) : ∀ r k gA gB tA tB s M, gEn fl nA nB r k gA gB tA tB s = gRun (fun c t => gLf nA nB (gIn fl c r k gA gB tA tB) t) (3 ^ r) (M * 3 ^ r) s
  | 0, k, gA, gB, tA, tB, s, M => rfl
  | r + 1, k, gA, gB, tA, tB, s, M => by
    have hw : 0 < 3 ^ r := Nat.pow_pos (by decide)
    have e0 : M * 3 ^ (r + 1) = (3 * M + 0) * 3 ^ r := by rw [Nat.pow_succ, Nat.add_zero, Nat.mul_comm 3 M, Nat.mul_assoc, Nat.mul_comm 3 (3 ^ r)]
    have e1 : (3 * M + 0) * 3 ^ r + 3 ^ r = (3 * M + 1) * 3 ^ r := by rw [Nat.add_zero]; exact (Nat.succ_mul (3 * M) (3 ^ r)).symm
    have e2 : (3 * M + 1) * 3 ^ r + 3 ^ r = (3 * M + 2) * 3 ^ r := (Nat.succ_mul _ _).symm
    rw [show 3 ^ (r + 1) = 3 ^ r + 3 ^ r + 3 ^ r by rw [Nat.pow_succ]; omega, gRun_add, gRun_add]
    rw [show M * (3 ^ r + 3 ^ r + 3 ^ r) = (3 * M + 0) * 3 ^ r by rw [← e0, Nat.pow_succ]; congr 1; omega]
    rw [← Nat.add_assoc, e1, e2]
    unfold gEn
    rw [gEn_run fl nA nB r (k + 1) gA gB tA tB s (3 * M + 0), gEn_run fl nA nB r (k + 1) (gA + fl k) gB (tA ||| 2 ^ k) tB _ (3 * M + 1), gEn_run fl nA nB r (k + 1) gA (gB + fl k) tA (tB ||| 2 ^ k) _ (3 * M + 2)]
    rw [gRun_congr (g := fun c t => gLf nA nB (gIn fl c (r + 1) k gA gB tA tB) t) (3 ^ r) ((3 * M + 0) * 3 ^ r) s (fun x h1 h2 t => ?_)]
    rw [gRun_congr (g := fun c t => gLf nA nB (gIn fl c (r + 1) k gA gB tA tB) t) (3 ^ r) ((3 * M + 1) * 3 ^ r) _ (fun x h1 h2 t => ?_)]
    rw [gRun_congr (g := fun c t => gLf nA nB (gIn fl c (r + 1) k gA gB tA tB) t) (3 ^ r) ((3 * M + 2) * 3 ^ r) _ (fun x h1 h2 t => ?_)]
    · have hd := dig3 hw (by omega) h1 h2
      simp only [gIn, hd, if_neg (show ¬ 2 = 1 by omega), if_pos]
    · have hd := dig3 hw (by omega) h1 h2
      simp only [gIn, hd, if_pos]
    · have hd := dig3 hw (by omega) h1 h2
      simp only [gIn, hd, if_neg (show ¬ 0 = 1 by omega), if_neg (show ¬ 0 = 2 by omega)]
theorem nedF_iff (v : VT) (p t g : Nat) : 0 < lft (v 1 p) (v 0 1) (v 0 2) (v 0 0) (v 2 p + g) t ↔ nedF v p t ≤ g := by
  rw [lft_sG]
  unfold nedF
  omega
set_option maxHeartbeats 4000000 in
set_option maxRecDepth 100000 in
theorem g_drought {X : jX} {d n : Nat} {I : HI} {J : HJ} {i0 i1 : Option Nat} {Q : jPost} {S : SS} {yb : Nat} (hm : MI S I J) (hW : WF yb S.v) (hyb : yb ≤ 2 ^ 12) {a : Int32} (hQ : MP Q (oDrt S a) n I J (Pg i0 i1)) : Cj X (d + 3) 0 0 mX10_drought [.ref 33, .int a] n I J (Pg i0 i1) Q := by
  refine Cj.intro rfl (Nat.le_of_ble_eq_true rfl) (L := [.ref 33, .int a, jU, jU, jU, jU, jU]) rfl ?_
  obtain ⟨⟨w0, w1, w2, w3, w4, w5, w6⟩, wp, wk, wc, wb⟩ := id hW
  by_cases ha : inR a (nI 0) (nI 60)
  · obtain ⟨ja, rfl, hal, hau⟩ := inR_nat (by decide) (by decide) ha
    have inner : ∀ (r p sm y wc few r0 : Nat), p + r = S.v 0 3 → y < 12 → wc ≤ 12 → few ≤ 360 → sm = sumN (fun p => lft (S.v 1 p) (S.v 0 1) (S.v 0 2 ||| 2 ^ y) (S.v 0 0) (S.v 2 p) ja) p → (∀ (wc2 few2 : Nat) (z5 z6 : Value), wc2 ≤ 12 → few2 ≤ 360 → drt (S.v 0 2) (lbD S.v ja) r0 (y + 1) wc2 few2 = drt (S.v 0 2) (lbD S.v ja) (r0 + 1) y wc few → Rj X (d + 3) 0 0 mX10_drought Q 24 [.ref 33, .int (nI ja), .int (nI wc2 - 1), .int (nI few2), .int (nI (y + 1)), z5, z6] [] n I J (Pg i0 i1)) → Rj X (d + 3) 0 0 mX10_drought Q 37 [.ref 33, .int (nI ja), .int (nI wc - 1), .int (nI few), .int (nI y), .int (nI sm), .int (nI p)] [] n I J (Pg i0 i1) := by
      intro r
      induction r with
      | zero =>
        intro p sm y wc few r0 hpr hy hwc hfew hsm hk
        refine j_iload dX10_drought_37 rfl rfl ?_
        refine j_aload_n dX10_drought_39 rfl rfl rfl ?_
        refine j_getP (b := 34) dX10_drought_40 rfl fX10_7 rfl (by decide) rfl rfl ?_
        refine j_iconst (v := nI 0) dX10_drought_43 rfl rfl ?_
        refine j_iald (j := 0) (v := nI (S.v 0 3)) dX10_drought_44 rfl rfl (by decide) rfl (by decide) (by decide) hm.v.mp ?_
        refine j_icmpgeN (tgt := 95) dX10_drought_45 rfl rfl (by omega) (by omega) (fun h1 => ?_) (fun h1 => by exfalso; omega)
        have hsm2 : sm = lbD S.v ja y := by rw [hsm, show p = S.v 0 3 by omega]; rfl
        have hs3 : sm ≤ 360 := by rw [hsm2]; exact lbD_le w3 (fun q hq => (wp q hq).2.1)
        refine j_aload_n dX10_drought_95 rfl rfl rfl ?_
        refine j_getP (b := 34) dX10_drought_96 rfl fX10_7 rfl (by decide) rfl rfl ?_
        refine j_iconst (v := nI 4) dX10_drought_99 rfl rfl ?_
        refine j_iald (j := 4) (v := nI (S.v 0 2)) dX10_drought_100 rfl rfl (by decide) rfl (by decide) (by decide) hm.v.mr ?_
        refine j_iload dX10_drought_101 rfl rfl ?_
        refine j_callSw (As := [.int (nI (S.v 0 2)), .int (nI y)]) dX10_drought_103 rfl cX10_123 rfl (by decide) rfl rfl (c_mhas (by omega) (by omega) (fun g2 => ?_) (fun g2 => ?_))
        · show Rj _ _ _ _ _ _ 106 [.ref 33, .int (nI ja), .int (nI wc - 1), .int (nI few), .int (nI y), .int (nI sm), .int (nI p)] [.int (nI 1)] n I J (Pg i0 i1)
          refine j_ifneN (tgt := 125) dX10_drought_106 rfl rfl (by decide) (fun h3 => ?_) (fun h3 => by exfalso; omega)
          refine j_iincN (L' := [.ref 33, .int (nI ja), .int (nI wc - 1), .int (nI few), .int (nI (y + 1)), .int (nI sm), .int (nI p)]) dX10_drought_125 rfl rfl (b := 1) rfl rfl rfl (by decide) rfl ?_
          refine j_goto (tgt := 24) dX10_drought_128 rfl ?_
          refine hk wc few _ _ hwc hfew ?_
          show _ = (if _ then _ else _)
          rw [if_neg]
          rintro ⟨k1, k2⟩
          first
            | omega
            | (rw [m1_neg (by omega)] at *; rw [← hsm2] at k2; omega)
        · show Rj _ _ _ _ _ _ 106 [.ref 33, .int (nI ja), .int (nI wc - 1), .int (nI few), .int (nI y), .int (nI sm), .int (nI p)] [.int (nI 0)] n I J (Pg i0 i1)
          refine j_ifneN (tgt := 125) dX10_drought_106 rfl rfl (by decide) (fun h4 => by exfalso; omega) (fun h4 => ?_)
          refine j_iload_n dX10_drought_109 rfl rfl rfl ?_
          refine j_iflt (tgt := 119) dX10_drought_110 rfl rfl (fun h5 => ?_) (fun h5 => ?_)
          · refine j_iload dX10_drought_119 rfl rfl ?_
            refine j_istore_n (L' := [.ref 33, .int (nI ja), .int (nI y), .int (nI few), .int (nI y), .int (nI sm), .int (nI p)]) dX10_drought_121 rfl rfl rfl (by decide) rfl ?_
            refine j_iload dX10_drought_122 rfl rfl ?_
            refine j_istore_n (L' := [.ref 33, .int (nI ja), .int (nI y), .int (nI sm), .int (nI y), .int (nI sm), .int (nI p)]) dX10_drought_124 rfl rfl rfl (by decide) rfl ?_
            refine j_iincN (L' := [.ref 33, .int (nI ja), .int (nI y), .int (nI sm), .int (nI (y + 1)), .int (nI sm), .int (nI p)]) dX10_drought_125 rfl rfl (b := 1) rfl rfl rfl (by decide) rfl ?_
            refine j_goto (tgt := 24) dX10_drought_128 rfl ?_
            rw [← nI_pred y]
            refine hk (y + 1) sm _ _ (by omega) (by omega) ?_
            show _ = (if _ then _ else _)
            rw [if_pos, hsm2]
            refine ⟨(Nat.mod_two_eq_zero_or_one _).resolve_right (by assumption), ?_⟩
            rw [← hsm2]
            first
              | exact Or.inl ((m1_neg (by omega)).mp (by assumption))
              | exact Or.inr (by omega)
          · refine j_iload dX10_drought_113 rfl rfl ?_
            refine j_iload_n dX10_drought_115 rfl rfl rfl ?_
            refine j_icmpgeN (tgt := 125) dX10_drought_116 rfl rfl (by omega) (by omega) (fun h6 => ?_) (fun h6 => ?_)
            · refine j_iincN (L' := [.ref 33, .int (nI ja), .int (nI wc - 1), .int (nI few), .int (nI (y + 1)), .int (nI sm), .int (nI p)]) dX10_drought_125 rfl rfl (b := 1) rfl rfl rfl (by decide) rfl ?_
              refine j_goto (tgt := 24) dX10_drought_128 rfl ?_
              refine hk wc few _ _ hwc hfew ?_
              show _ = (if _ then _ else _)
              rw [if_neg]
              rintro ⟨k1, k2⟩
              first
                | omega
                | (rw [m1_neg (by omega)] at *; rw [← hsm2] at k2; omega)
            · refine j_iload dX10_drought_119 rfl rfl ?_
              refine j_istore_n (L' := [.ref 33, .int (nI ja), .int (nI y), .int (nI few), .int (nI y), .int (nI sm), .int (nI p)]) dX10_drought_121 rfl rfl rfl (by decide) rfl ?_
              refine j_iload dX10_drought_122 rfl rfl ?_
              refine j_istore_n (L' := [.ref 33, .int (nI ja), .int (nI y), .int (nI sm), .int (nI y), .int (nI sm), .int (nI p)]) dX10_drought_124 rfl rfl rfl (by decide) rfl ?_
              refine j_iincN (L' := [.ref 33, .int (nI ja), .int (nI y), .int (nI sm), .int (nI (y + 1)), .int (nI sm), .int (nI p)]) dX10_drought_125 rfl rfl (b := 1) rfl rfl rfl (by decide) rfl ?_
              refine j_goto (tgt := 24) dX10_drought_128 rfl ?_
              rw [← nI_pred y]
              refine hk (y + 1) sm _ _ (by omega) (by omega) ?_
              show _ = (if _ then _ else _)
              rw [if_pos, hsm2]
              refine ⟨(Nat.mod_two_eq_zero_or_one _).resolve_right (by assumption), ?_⟩
              rw [← hsm2]
              first
                | exact Or.inl ((m1_neg (by omega)).mp (by assumption))
                | exact Or.inr (by omega)
      | succ r ih =>
        intro p sm y wc few r0 hpr hy hwc hfew hsm hk
        refine j_iload dX10_drought_37 rfl rfl ?_
        refine j_aload_n dX10_drought_39 rfl rfl rfl ?_
        refine j_getP (b := 34) dX10_drought_40 rfl fX10_7 rfl (by decide) rfl rfl ?_
        refine j_iconst (v := nI 0) dX10_drought_43 rfl rfl ?_
        refine j_iald (j := 0) (v := nI (S.v 0 3)) dX10_drought_44 rfl rfl (by decide) rfl (by decide) (by decide) hm.v.mp ?_
        refine j_icmpgeN (tgt := 95) dX10_drought_45 rfl rfl (by omega) (by omega) (fun h1 => by exfalso; omega) (fun h1 => ?_)
        obtain ⟨q1, q2, q3, q4, q5⟩ := wp p (by omega)
        have hor : S.v 0 2 ||| 2 ^ y ≤ 4095 := or12 w2 hy
        have hs6 : sm ≤ 60 * p := by rw [hsm]; exact sumN_60 p (fun q hq => Nat.le_trans (lft_le _ _ _ _ _ _) (wp q (by omega)).2.1)
        have hpw : 2 ^ y ≤ 2 ^ 12 := Nat.pow_le_pow_right (by omega) (by omega)
        refine j_iload dX10_drought_48 rfl rfl ?_
        refine j_aload_n dX10_drought_50 rfl rfl rfl ?_
        refine j_aload_n dX10_drought_51 rfl rfl rfl ?_
        refine j_getP (b := 34) dX10_drought_52 rfl fX10_7 rfl (by decide) rfl rfl ?_
        refine j_bipush (v := nI 7) dX10_drought_55 rfl rfl ?_
        refine j_iload dX10_drought_57 rfl rfl ?_
        refine j_iaddN (c := 7 + p) dX10_drought_59 rfl rfl ?_
        refine j_iald (j := 7 + p) (v := nI (S.v 1 p)) dX10_drought_60 rfl rfl (by decide) rfl (by omega) (by decide) (hm.v.kd (by omega)) ?_
        refine j_aload_n dX10_drought_61 rfl rfl rfl ?_
        refine j_getP (b := 34) dX10_drought_62 rfl fX10_7 rfl (by decide) rfl rfl ?_
        refine j_bipush (v := nI 13) dX10_drought_65 rfl rfl ?_
        refine j_iload dX10_drought_67 rfl rfl ?_
        refine j_iaddN (c := 13 + p) dX10_drought_69 rfl rfl ?_
        refine j_iald (j := 13 + p) (v := nI (S.v 2 p)) dX10_drought_70 rfl rfl (by decide) rfl (by omega) (by decide) (hm.v.lv (by omega)) ?_
        refine j_iload_n dX10_drought_71 rfl rfl rfl ?_
        refine j_aload_n dX10_drought_72 rfl rfl rfl ?_
        refine j_getP (b := 34) dX10_drought_73 rfl fX10_7 rfl (by decide) rfl rfl ?_
        refine j_iconst (v := nI 4) dX10_drought_76 rfl rfl ?_
        refine j_iald (j := 4) (v := nI (S.v 0 2)) dX10_drought_77 rfl rfl (by decide) rfl (by decide) (by decide) hm.v.mr ?_
        refine j_iconst (v := nI 1) dX10_drought_78 rfl rfl ?_
        refine j_iload dX10_drought_79 rfl rfl ?_
        refine j_ishlN (c := 2 ^ y) dX10_drought_81 rfl (by omega) (Nat.one_mul _) ?_
        refine j_iorN (c := (S.v 0 2) ||| (2 ^ y)) dX10_drought_82 rfl rfl ?_
        refine j_callVw (As := [.int (nI (S.v 1 p)), .int (nI (S.v 2 p)), .int (nI ja), .int (nI ((S.v 0 2) ||| (2 ^ y)))]) dX10_drought_83 rfl cX10_130 (by decide) rfl rfl (by decide) rfl (Nat.le_of_ble_eq_true rfl) rfl rfl (c_mleftOf hm.v q1 (by omega) (by omega) (by omega) w1 hor ?_)
        have hll := lft_le (S.v 1 p) (S.v 0 1) (S.v 0 2 ||| 2 ^ y) ja (S.v 0 0) (S.v 2 p)
        show Rj _ _ _ _ _ _ 86 [.ref 33, .int (nI ja), .int (nI wc - 1), .int (nI few), .int (nI y), .int (nI sm), .int (nI p)] [.int (nI (lft (S.v 1 p) (S.v 0 1) (S.v 0 2 ||| 2 ^ y) (S.v 0 0) (S.v 2 p) ja)), .int (nI sm)] n I J (Pg i0 i1)
        refine j_iaddN (c := sm + (lft (S.v 1 p) (S.v 0 1) (S.v 0 2 ||| 2 ^ y) (S.v 0 0) (S.v 2 p) ja)) dX10_drought_86 rfl rfl ?_
        refine j_istore (L' := [.ref 33, .int (nI ja), .int (nI wc - 1), .int (nI few), .int (nI y), .int (nI (sm + (lft (S.v 1 p) (S.v 0 1) (S.v 0 2 ||| 2 ^ y) (S.v 0 0) (S.v 2 p) ja))), .int (nI p)]) dX10_drought_87 rfl rfl (by decide) rfl ?_
        refine j_iincN (L' := [.ref 33, .int (nI ja), .int (nI wc - 1), .int (nI few), .int (nI y), .int (nI (sm + (lft (S.v 1 p) (S.v 0 1) (S.v 0 2 ||| 2 ^ y) (S.v 0 0) (S.v 2 p) ja))), .int (nI (p + 1))]) dX10_drought_89 rfl rfl (b := 1) rfl rfl rfl (by decide) rfl ?_
        refine j_goto (tgt := 37) dX10_drought_92 rfl ?_
        exact ih (p + 1) _ y wc few r0 (by omega) hy hwc hfew (by rw [hsm]; rfl) hk
    have outer : ∀ (r y wc few T : Nat) (z5 z6 : Value), y + r = 12 → wc ≤ 12 → few ≤ 360 → drt (S.v 0 2) (lbD S.v ja) r y wc few = T → MP Q (S, nI T - 1) n I J (Pg i0 i1) → Rj X (d + 3) 0 0 mX10_drought Q 24 [.ref 33, .int (nI ja), .int (nI wc - 1), .int (nI few), .int (nI y), z5, z6] [] n I J (Pg i0 i1) := by
      intro r
      induction r with
      | zero =>
        intro y wc few T z5 z6 hyr hwc hfew hT hQ
        refine j_iload dX10_drought_24 rfl rfl ?_
        refine j_bipush (v := nI 12) dX10_drought_26 rfl rfl ?_
        refine j_icmpgeN (tgt := 131) dX10_drought_28 rfl rfl (by omega) (by decide) (fun h1 => ?_) (fun h1 => by exfalso; omega)
        refine j_iload_n dX10_drought_131 rfl rfl rfl ?_
        refine j_iret dX10_drought_132 rfl rfl ?_
        subst hT
        exact hQ _ _ hm CF.rf
      | succ r ih =>
        intro y wc few T z5 z6 hyr hwc hfew hT hQ
        refine j_iload dX10_drought_24 rfl rfl ?_
        refine j_bipush (v := nI 12) dX10_drought_26 rfl rfl ?_
        refine j_icmpgeN (tgt := 131) dX10_drought_28 rfl rfl (by omega) (by decide) (fun h1 => by exfalso; omega) (fun h1 => ?_)
        refine j_iconst (v := nI 0) dX10_drought_31 rfl rfl ?_
        refine j_istore (L' := [.ref 33, .int (nI ja), .int (nI wc - 1), .int (nI few), .int (nI y), .int (nI 0), z6]) dX10_drought_32 rfl rfl (by decide) rfl ?_
        refine j_iconst (v := nI 0) dX10_drought_34 rfl rfl ?_
        refine j_istore (L' := [.ref 33, .int (nI ja), .int (nI wc - 1), .int (nI few), .int (nI y), .int (nI 0), .int (nI 0)]) dX10_drought_35 rfl rfl (by decide) rfl ?_
        exact inner (S.v 0 3) 0 0 y wc few r (by omega) (by omega) hwc hfew rfl (fun wc2 few2 z5 z6 k1 k2 k3 => ih (y + 1) wc2 few2 T z5 z6 (by omega) k1 k2 (k3.trans hT) hQ)
    refine j_iload_n dX10_drought_0 rfl rfl rfl ?_
    refine j_iconst (v := nI 0) dX10_drought_1 rfl rfl ?_
    refine j_bipush (v := nI 60) dX10_drought_2 rfl rfl ?_
    refine j_callSw (As := [.int (nI ja), .int (nI 0), .int (nI 60)]) dX10_drought_4 rfl cX10_50 rfl (by decide) rfl rfl (c_min (fun _ => ?_) (fun q => absurd ha q))
    show Rj _ _ _ _ _ _ 7 [.ref 33, .int (nI ja), jU, jU, jU, jU, jU] [.int (nI 1)] n I J (Pg i0 i1)
    refine j_ifneN (tgt := 17) dX10_drought_7 rfl rfl (by decide) (fun h1 => ?_) (fun h1 => by exfalso; omega)
    refine j_iconst (v := (-1)) dX10_drought_17 rfl rfl ?_
    refine j_istore_n (L' := [.ref 33, .int (nI ja), .int (-1), jU, jU, jU, jU]) dX10_drought_18 rfl rfl rfl (by decide) rfl ?_
    refine j_iconst (v := nI 0) dX10_drought_19 rfl rfl ?_
    refine j_istore_n (L' := [.ref 33, .int (nI ja), .int (-1), .int (nI 0), jU, jU, jU]) dX10_drought_20 rfl rfl rfl (by decide) rfl ?_
    refine j_iconst (v := nI 0) dX10_drought_21 rfl rfl ?_
    refine j_istore (L' := [.ref 33, .int (nI ja), .int (-1), .int (nI 0), .int (nI 0), jU, jU]) dX10_drought_22 rfl rfl (by decide) rfl ?_
    have e : oDrt S (nI ja) = (S, nI (drt (S.v 0 2) (lbD S.v ja) 12 0 0 0) - 1) := by unfold oDrt; rw [if_pos (by exact ha), tN_nI (show ja < 2 ^ 30 by omega)]
    rw [e] at hQ
    exact outer 12 0 0 0 _ _ _ (by omega) (by omega) (by omega) rfl hQ
  · skip
    refine j_iload_n dX10_drought_0 rfl rfl rfl ?_
    refine j_iconst (v := nI 0) dX10_drought_1 rfl rfl ?_
    refine j_bipush (v := nI 60) dX10_drought_2 rfl rfl ?_
    refine j_callSw (As := [.int a, .int (nI 0), .int (nI 60)]) dX10_drought_4 rfl cX10_50 rfl (by decide) rfl rfl (c_min (fun q => absurd q ha) (fun _ => ?_))
    show Rj _ _ _ _ _ _ 7 [.ref 33, .int a, jU, jU, jU, jU, jU] [.int (nI 0)] n I J (Pg i0 i1)
    refine j_ifneN (tgt := 17) dX10_drought_7 rfl rfl (by decide) (fun h1 => by exfalso; omega) (fun h1 => ?_)
    refine j_aload_n dX10_drought_10 rfl rfl rfl ?_
    refine j_bipush (v := (-2)) dX10_drought_11 rfl rfl ?_
    refine j_callVw (As := [.int (-2)]) dX10_drought_13 rfl cX10_54 (by decide) rfl rfl (by decide) rfl (by decide) rfl rfl (c_mbad ?_)
    show Rj _ _ _ _ _ _ 16 [.ref 33, .int a, jU, jU, jU, jU, jU] [.int (-2)] n (u2 I 39 0 (I 39 0 + nI 1)) J (Pg i0 i1)
    refine j_iret dX10_drought_16 rfl rfl ?_
    have e : oDrt S a = (S.bad, -2) := by unfold oDrt; rw [if_neg (by first | exact ha | exact fun q => ha q.1 | exact fun q => hb q.2 | exact fun q => hb q.2.1 | exact fun q => hc q.2.2 | exact fun q => ha q.1.1 | exact fun q => hb q.1.2.1 | exact fun q => q.1.2.2 (congrArg nI (by assumption)) | exact fun q => hc q.2.1 | exact fun q => he q.2.2)]
    rw [e] at hQ
    exact hQ _ _ hm.bad (CF.u2 (by omega) (by omega))
