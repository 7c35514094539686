def sG (v : VT) (p t : Nat) : Nat := sumN (fun y => gos (v 1 p) (v 0 0 + y) (v 0 1) (v 0 2)) t
theorem sG_le (v : VT) (p t : Nat) : sG v p t ≤ t * 5 := sumN_le t (fun y _ => gos_le _ _ _ _)
def nedF (v : VT) (p t : Nat) : Nat := sG v p t + 1 - v 2 p
/-- rows by kin: nothing, a, b; the least so far, and who bring it (each and 1; 0: none) -/
def shr (fl : Nat → Nat) (nA nB : Nat) : Nat → Nat → Nat → Nat → Nat → Nat → Nat × Nat × Nat → Nat × Nat × Nat
  | 0, _, gA, gB, tA, tB, s => if ¬ s.1 = 0 ∧ s.1 ≤ gA + gB + 1 then s else if nA ≤ gA ∧ nB ≤ gB then (gA + gB + 1, tA + 1, tB + 1) else s
  | r + 1, k, gA, gB, tA, tB, s => if ¬ s.1 = 0 ∧ s.1 ≤ gA + gB + 1 then s else if nA ≤ gA ∧ nB ≤ gB then (gA + gB + 1, tA + 1, tB + 1) else
    shr fl nA nB r (k + 1) gA (gB + fl k) tA (tB ||| 2 ^ k) (shr fl nA nB r (k + 1) (gA + fl k) gB (tA ||| 2 ^ k) tB (shr fl nA nB r (k + 1) gA gB tA tB s))
theorem shr_le (fl : Nat → Nat) (nA nB N : Nat) (hfl : ∀ k, k < N → fl k ≤ 20) (hN : N ≤ 8) : ∀ r k gA gB tA tB s, k + r = N → gA ≤ 20 * k → gB ≤ 20 * k → s.1 ≤ 400 → (shr fl nA nB r k gA gB tA tB s).1 ≤ 400
  | 0, k, gA, gB, tA, tB, s, h1, h2, h3, h4 => by
    unfold shr
    split
    · exact h4
    · split
      · show gA + gB + 1 ≤ 400
        omega
      · exact h4
  | r + 1, k, gA, gB, tA, tB, s, h1, h2, h3, h4 => by
    have hf := hfl k (by omega)
    unfold shr
    split
    · exact h4
    · split
      · show gA + gB + 1 ≤ 400
        omega
      · exact shr_le fl nA nB N hfl hN r (k + 1) _ _ _ _ _ (by omega) (by omega) (by omega) (shr_le fl nA nB N hfl hN r (k + 1) _ _ _ _ _ (by omega) (by omega) (by omega) (shr_le fl nA nB N hfl hN r (k + 1) _ _ _ _ _ (by omega) (by omega) (by omega) h4))
/-- Gifts' cell: what was found -/
def gH (I : HI) (a b c : Int32) : HI := u2 (u2 (u2 I 29 2 a) 29 3 b) 29 4 c
theorem gH_1 (I : HI) (a b c x : Int32) : u2 (gH I a b c) 29 2 x = gH I x b c := by
  funext q j
  unfold gH
  by_cases h1 : q = 29
  · subst h1
    by_cases h2 : j = 2 <;> by_cases h3 : j = 3 <;> by_cases h4 : j = 4 <;> simp [u2, h2, h3, h4]
  · simp [u2, h1]
theorem gH_2 (I : HI) (a b c x : Int32) : u2 (gH I a b c) 29 3 x = gH I a x c := by
  funext q j
  unfold gH
  by_cases h1 : q = 29
  · subst h1
    by_cases h2 : j = 2 <;> by_cases h3 : j = 3 <;> by_cases h4 : j = 4 <;> simp [u2, h2, h3, h4]
  · simp [u2, h1]
theorem gH_3 (I : HI) (a b c x : Int32) : u2 (gH I a b c) 29 4 x = gH I a b x := by
  funext q j
  unfold gH
  by_cases h1 : q = 29
  · subst h1
    by_cases h2 : j = 2 <;> by_cases h3 : j = 3 <;> by_cases h4 : j = 4 <;> simp [u2, h2, h3, h4]
  · simp [u2, h1]
theorem gH_ne (I : HI) (a b c : Int32) {q : Nat} (h : q ≠ 29) : gH I a b c q = I q := by
  unfold gH
  rw [u2_ne _ _ _ h, u2_ne _ _ _ h, u2_ne _ _ _ h]
set_option maxHeartbeats 4000000 in
set_option maxRecDepth 100000 in
theorem c_flourNeeded {X : jX} {d n : Nat} {I : HI} {J : HJ} {i0 i1 : Option Nat} {Q : jPost} {v : VT} {yb : Nat} (hV : VC 1 I v) (hW : WF yb v) (hyb : yb ≤ 2 ^ 20) {p t : Nat} (hp : p < v 0 3) (ht : t ≤ 60) (hQ : Q (some (.int (nI (nedF v p t)))) n I J (Pg i0 i1)) : Cj X (d + 1) 0 0 mX3_flourNeeded [.ref 1, .int (nI p), .int (nI t)] n I J (Pg i0 i1) Q := by
  refine Cj.intro rfl (Nat.le_of_ble_eq_true rfl) (L := [.ref 1, .int (nI p), .int (nI t), jU, jU]) rfl ?_
  obtain ⟨⟨w0, w1, w2, w3, w4, w5, w6⟩, wp, wk, wc, wj⟩ := id hW
  obtain ⟨q1, q2, q3, q4, q5⟩ := wp p hp
  have loop : ∀ r y a : Nat, y + r = t → a = sG v p y → Rj X (d + 1) 0 0 mX3_flourNeeded Q 5 [.ref 1, .int (nI p), .int (nI t), .int (nI a), .int (nI y)] [] n I J (Pg i0 i1) := by
    intro r
    induction r with
    | zero =>
      intro y a hyr ha
      have hs := sG_le v p y
      refine j_iload dX3_flourNeeded_5 rfl rfl ?_
      refine j_iload_n dX3_flourNeeded_7 rfl rfl rfl ?_
      refine j_icmpgeN (tgt := 44) dX3_flourNeeded_8 rfl rfl (by omega) (by omega) (fun h1 => ?_) (fun h1 => by exfalso; omega)
      refine j_iconst (v := nI 0) dX3_flourNeeded_44 rfl rfl ?_
      refine j_iload_n dX3_flourNeeded_45 rfl rfl rfl ?_
      refine j_iconst (v := nI 1) dX3_flourNeeded_46 rfl rfl ?_
      refine j_iaddN (c := a + 1) dX3_flourNeeded_47 rfl rfl ?_
      refine j_aload_n dX3_flourNeeded_48 rfl rfl rfl ?_
      refine j_getP (b := 3) dX3_flourNeeded_49 rfl fX3_56 rfl (by decide) rfl rfl ?_
      refine j_iload_n dX3_flourNeeded_52 rfl rfl rfl ?_
      refine j_iald (j := p) (v := nI (v 2 p)) dX3_flourNeeded_53 rfl rfl (by decide) rfl (by omega) (by decide) (hV.lv (by omega)) ?_
      refine j_isub dX3_flourNeeded_54 rfl ?_
      refine j_max dX3_flourNeeded_55 rfl cX3_59 (by decide) ?_
      refine j_iret dX3_flourNeeded_58 rfl rfl ?_
      have hy : y = t := by omega
      subst hy; subst ha
      rw [mx0 (by omega) (by omega)]; exact hQ
    | succ r ih =>
      intro y a hyr ha
      have hs := sG_le v p y
      have hg := gos_le (v 1 p) (v 0 0 + y) (v 0 1) (v 0 2)
      refine j_iload dX3_flourNeeded_5 rfl rfl ?_
      refine j_iload_n dX3_flourNeeded_7 rfl rfl rfl ?_
      refine j_icmpgeN (tgt := 44) dX3_flourNeeded_8 rfl rfl (by omega) (by omega) (fun h1 => by exfalso; omega) (fun h1 => ?_)
      refine j_iload_n dX3_flourNeeded_11 rfl rfl rfl ?_
      refine j_aload_n dX3_flourNeeded_12 rfl rfl rfl ?_
      refine j_getP (b := 2) dX3_flourNeeded_13 rfl fX3_35 rfl (by decide) rfl rfl ?_
      refine j_iload_n dX3_flourNeeded_16 rfl rfl rfl ?_
      refine j_iald (j := p) (v := nI (v 1 p)) dX3_flourNeeded_17 rfl rfl (by decide) rfl (by omega) (by decide) (hV.kd (by omega)) ?_
      refine j_aload_n dX3_flourNeeded_18 rfl rfl rfl ?_
      refine j_getIv (v := nI (v 0 0)) dX3_flourNeeded_19 rfl fX3_41 rfl (by decide) rfl hV.year ?_
      refine j_iload dX3_flourNeeded_22 rfl rfl ?_
      refine j_iaddN (c := (v 0 0) + y) dX3_flourNeeded_24 rfl rfl ?_
      refine j_aload_n dX3_flourNeeded_25 rfl rfl rfl ?_
      refine j_getIv (v := nI (v 0 1)) dX3_flourNeeded_26 rfl fX3_44 rfl (by decide) rfl hV.damp ?_
      refine j_aload_n dX3_flourNeeded_29 rfl rfl rfl ?_
      refine j_getIv (v := nI (v 0 2)) dX3_flourNeeded_30 rfl fX3_47 rfl (by decide) rfl hV.dry ?_
      refine j_callSw (As := [.int (nI (v 1 p)), .int (nI ((v 0 0) + y)), .int (nI (v 0 1)), .int (nI (v 0 2))]) dX3_flourNeeded_33 rfl cX3_50 rfl (Nat.le_of_ble_eq_true rfl) rfl rfl (c_goes (by omega) (by omega) (by omega) (by omega) ?_)
      show Rj _ _ _ _ _ _ 36 [.ref 1, .int (nI p), .int (nI t), .int (nI a), .int (nI y)] [.int (nI (gos (v 1 p) ((v 0 0) + y) (v 0 1) (v 0 2))), .int (nI a)] n I J (Pg i0 i1)
      refine j_iaddN (c := a + (gos (v 1 p) ((v 0 0) + y) (v 0 1) (v 0 2))) dX3_flourNeeded_36 rfl rfl ?_
      refine j_istore_n (L' := [.ref 1, .int (nI p), .int (nI t), .int (nI (a + (gos (v 1 p) ((v 0 0) + y) (v 0 1) (v 0 2)))), .int (nI y)]) dX3_flourNeeded_37 rfl rfl rfl (by decide) rfl ?_
      refine j_iincN (L' := [.ref 1, .int (nI p), .int (nI t), .int (nI (a + (gos (v 1 p) ((v 0 0) + y) (v 0 1) (v 0 2)))), .int (nI (y + 1))]) dX3_flourNeeded_38 rfl rfl (b := 1) rfl rfl rfl (by decide) rfl ?_
      refine j_goto (tgt := 5) dX3_flourNeeded_41 rfl ?_
      exact ih (y + 1) _ (by omega) (by rw [ha]; rfl)
  refine j_iconst (v := nI 0) dX3_flourNeeded_0 rfl rfl ?_
  refine j_istore_n (L' := [.ref 1, .int (nI p), .int (nI t), .int (nI 0), jU]) dX3_flourNeeded_1 rfl rfl rfl (by decide) rfl ?_
  refine j_iconst (v := nI 0) dX3_flourNeeded_2 rfl rfl ?_
  refine j_istore (L' := [.ref 1, .int (nI p), .int (nI t), .int (nI 0), .int (nI 0)]) dX3_flourNeeded_3 rfl rfl (by decide) rfl ?_
  exact loop t 0 0 (by omega) rfl
set_option maxHeartbeats 4000000 in
set_option maxRecDepth 100000 in
theorem c_share {X : jX} {d n : Nat} {I : HI} {J : HJ} {i0 i1 : Option Nat} {v : VT} {yb : Nat} (hV : VC 1 I v) (hW : WF yb v) (hyb : yb ≤ 2 ^ 20) {nA nB : Nat} (hA : I 29 0 = nI nA) (hB : I 29 1 = nI nB) (hnA : nA ≤ 400) (hnB : nB ≤ 400) : ∀ (r k gA gB tA tB le la lb : Nat) {Q : jPost}, k + r = v 0 4 → gA ≤ 20 * k → gB ≤ 20 * k → le ≤ 400 → Q none n (gH I (nI (shr (v 5) nA nB r k gA gB tA tB (le, la, lb)).1 - 1) (nI (shr (v 5) nA nB r k gA gB tA tB (le, la, lb)).2.1 - 1) (nI (shr (v 5) nA nB r k gA gB tA tB (le, la, lb)).2.2 - 1)) J (Pg i0 i1) → Cj X (d + r) 0 0 mX3_share [.ref 29, .ref 1, .int (nI k), .int (nI gA), .int (nI gB), .int (nI tA), .int (nI tB)] n (gH I (nI le - 1) (nI la - 1) (nI lb - 1)) J (Pg i0 i1) Q := by
  obtain ⟨⟨w0, w1, w2, w3, w4, w5, w6⟩, wp, wk, wc, wj⟩ := id hW
  have hfl : ∀ k, k < v 0 4 → v 5 k ≤ 20 := fun k hk => (wk k hk).2
  intro r
  induction r with
  | zero =>
    intro k gA gB tA tB le la lb Q hkr hgA hgB hle hQ
    refine Cj.intro rfl (Nat.le_of_ble_eq_true rfl) (L := [.ref 29, .ref 1, .int (nI k), .int (nI gA), .int (nI gB), .int (nI tA), .int (nI tB), jU]) rfl ?_
    cases le with
    | zero =>
      have hV2 : VC 1 (gH I (nI 0 - 1) (nI la - 1) (nI lb - 1)) v := hV.congr (fun i hi => gH_ne I _ _ _ (by omega))
      refine j_aload_n dX3_share_0 rfl rfl rfl ?_
      refine j_getIv (v := (-1)) dX3_share_1 rfl fX3_18 rfl (by decide) rfl rfl ?_
      refine j_iconst (v := (-1)) dX3_share_4 rfl rfl ?_
      refine j_icmpeq (tgt := 20) dX3_share_5 rfl rfl (fun h1 => ?_) (fun h1 => by exfalso; exact h1 rfl)
      refine j_iload_n dX3_share_20 rfl rfl rfl ?_
      refine j_aload_n dX3_share_21 rfl rfl rfl ?_
      refine j_getIv (v := nI nA) dX3_share_22 rfl fX3_9 rfl (by decide) rfl hA ?_
      refine j_icmpltN (tgt := 58) dX3_share_25 rfl rfl (by omega) (by omega) (fun h2 => ?_) (fun h2 => ?_)
      · refine j_iload_n dX3_share_58 rfl rfl rfl ?_
        refine j_iflt (tgt := 76) dX3_share_59 rfl rfl (fun q => absurd q (nI_pos (by omega))) (fun _ => ?_)
        refine j_iload_n dX3_share_62 rfl rfl rfl ?_
        refine j_aload_n dX3_share_63 rfl rfl rfl ?_
        refine j_getIv (v := nI (v 0 4)) dX3_share_64 rfl fX3_65 rfl (by decide) rfl hV2.kin ?_
        refine j_icmpgeN (tgt := 76) dX3_share_67 rfl rfl (by omega) (by omega) (fun h3 => ?_) (fun h3 => by exfalso; omega)
        refine j_vret dX3_share_76 rfl ?_
        unfold shr at hQ
        rw [if_neg (by simp), if_neg (by omega)] at hQ
        exact hQ
      · refine j_iload dX3_share_28 rfl rfl ?_
        refine j_aload_n dX3_share_30 rfl rfl rfl ?_
        refine j_getIv (v := nI nB) dX3_share_31 rfl fX3_15 rfl (by decide) rfl hB ?_
        refine j_icmpltN (tgt := 58) dX3_share_34 rfl rfl (by omega) (by omega) (fun h4 => ?_) (fun h4 => ?_)
        · refine j_iload_n dX3_share_58 rfl rfl rfl ?_
          refine j_iflt (tgt := 76) dX3_share_59 rfl rfl (fun q => absurd q (nI_pos (by omega))) (fun _ => ?_)
          refine j_iload_n dX3_share_62 rfl rfl rfl ?_
          refine j_aload_n dX3_share_63 rfl rfl rfl ?_
          refine j_getIv (v := nI (v 0 4)) dX3_share_64 rfl fX3_65 rfl (by decide) rfl hV2.kin ?_
          refine j_icmpgeN (tgt := 76) dX3_share_67 rfl rfl (by omega) (by omega) (fun h5 => ?_) (fun h5 => by exfalso; omega)
          refine j_vret dX3_share_76 rfl ?_
          unfold shr at hQ
          rw [if_neg (by simp), if_neg (by omega)] at hQ
          exact hQ
        · refine j_aload_n dX3_share_37 rfl rfl rfl ?_
          refine j_iload_n dX3_share_38 rfl rfl rfl ?_
          refine j_iload dX3_share_39 rfl rfl ?_
          refine j_iaddN (c := gA + gB) dX3_share_41 rfl rfl ?_
          refine j_putI dX3_share_42 rfl fX3_18 rfl (by decide) rfl rfl ?_
          refine j_aload_n dX3_share_45 rfl rfl rfl ?_
          refine j_iload dX3_share_46 rfl rfl ?_
          refine j_putI dX3_share_48 rfl fX3_21 rfl (by decide) rfl rfl ?_
          refine j_aload_n dX3_share_51 rfl rfl rfl ?_
          refine j_iload dX3_share_52 rfl rfl ?_
          refine j_putI dX3_share_54 rfl fX3_24 rfl (by decide) rfl rfl ?_
          refine j_vret dX3_share_57 rfl ?_
          rw [show nI (gA + gB) = nI (gA + gB + 1) - 1 from (nI_pred _).symm, show nI tA = nI (tA + 1) - 1 from (nI_pred _).symm, show nI tB = nI (tB + 1) - 1 from (nI_pred _).symm, gH_1, gH_2, gH_3]
          unfold shr at hQ
          rw [if_neg (by simp), if_pos ⟨by omega, by omega⟩] at hQ
          exact hQ
    | succ e =>
      have hV2 : VC 1 (gH I (nI (e + 1) - 1) (nI la - 1) (nI lb - 1)) v := hV.congr (fun i hi => gH_ne I _ _ _ (by omega))
      refine j_aload_n dX3_share_0 rfl rfl rfl ?_
      refine j_getIv (v := nI e) dX3_share_1 rfl fX3_18 rfl (by decide) rfl (nI_pred e) ?_
      refine j_iconst (v := (-1)) dX3_share_4 rfl rfl ?_
      refine j_icmpeq (tgt := 20) dX3_share_5 rfl rfl (fun h1 => by exfalso; exact nI_m1 (by omega) h1) (fun h1 => ?_)
      refine j_iload_n dX3_share_8 rfl rfl rfl ?_
      refine j_iload dX3_share_9 rfl rfl ?_
      refine j_iaddN (c := gA + gB) dX3_share_11 rfl rfl ?_
      refine j_aload_n dX3_share_12 rfl rfl rfl ?_
      refine j_getIv (v := nI e) dX3_share_13 rfl fX3_18 rfl (by decide) rfl (nI_pred e) ?_
      refine j_icmpltN (tgt := 20) dX3_share_16 rfl rfl (by omega) (by omega) (fun h2 => ?_) (fun h2 => ?_)
      · refine j_iload_n dX3_share_20 rfl rfl rfl ?_
        refine j_aload_n dX3_share_21 rfl rfl rfl ?_
        refine j_getIv (v := nI nA) dX3_share_22 rfl fX3_9 rfl (by decide) rfl hA ?_
        refine j_icmpltN (tgt := 58) dX3_share_25 rfl rfl (by omega) (by omega) (fun h3 => ?_) (fun h3 => ?_)
        · refine j_iload_n dX3_share_58 rfl rfl rfl ?_
          refine j_iflt (tgt := 76) dX3_share_59 rfl rfl (fun q => absurd q (nI_pos (by omega))) (fun _ => ?_)
          refine j_iload_n dX3_share_62 rfl rfl rfl ?_
          refine j_aload_n dX3_share_63 rfl rfl rfl ?_
          refine j_getIv (v := nI (v 0 4)) dX3_share_64 rfl fX3_65 rfl (by decide) rfl hV2.kin ?_
          refine j_icmpgeN (tgt := 76) dX3_share_67 rfl rfl (by omega) (by omega) (fun h4 => ?_) (fun h4 => by exfalso; omega)
          refine j_vret dX3_share_76 rfl ?_
          unfold shr at hQ
          rw [if_neg (fun q => absurd q.2 (by show ¬ e + 1 ≤ gA + gB + 1; omega)), if_neg (by omega)] at hQ
          exact hQ
        · refine j_iload dX3_share_28 rfl rfl ?_
          refine j_aload_n dX3_share_30 rfl rfl rfl ?_
          refine j_getIv (v := nI nB) dX3_share_31 rfl fX3_15 rfl (by decide) rfl hB ?_
          refine j_icmpltN (tgt := 58) dX3_share_34 rfl rfl (by omega) (by omega) (fun h5 => ?_) (fun h5 => ?_)
          · refine j_iload_n dX3_share_58 rfl rfl rfl ?_
            refine j_iflt (tgt := 76) dX3_share_59 rfl rfl (fun q => absurd q (nI_pos (by omega))) (fun _ => ?_)
            refine j_iload_n dX3_share_62 rfl rfl rfl ?_
            refine j_aload_n dX3_share_63 rfl rfl rfl ?_
            refine j_getIv (v := nI (v 0 4)) dX3_share_64 rfl fX3_65 rfl (by decide) rfl hV2.kin ?_
            refine j_icmpgeN (tgt := 76) dX3_share_67 rfl rfl (by omega) (by omega) (fun h6 => ?_) (fun h6 => by exfalso; omega)
            refine j_vret dX3_share_76 rfl ?_
            unfold shr at hQ
            rw [if_neg (fun q => absurd q.2 (by show ¬ e + 1 ≤ gA + gB + 1; omega)), if_neg (by omega)] at hQ
            exact hQ
          · refine j_aload_n dX3_share_37 rfl rfl rfl ?_
            refine j_iload_n dX3_share_38 rfl rfl rfl ?_
            refine j_iload dX3_share_39 rfl rfl ?_
            refine j_iaddN (c := gA + gB) dX3_share_41 rfl rfl ?_
            refine j_putI dX3_share_42 rfl fX3_18 rfl (by decide) rfl rfl ?_
            refine j_aload_n dX3_share_45 rfl rfl rfl ?_
            refine j_iload dX3_share_46 rfl rfl ?_
            refine j_putI dX3_share_48 rfl fX3_21 rfl (by decide) rfl rfl ?_
            refine j_aload_n dX3_share_51 rfl rfl rfl ?_
            refine j_iload dX3_share_52 rfl rfl ?_
            refine j_putI dX3_share_54 rfl fX3_24 rfl (by decide) rfl rfl ?_
            refine j_vret dX3_share_57 rfl ?_
            rw [show nI (gA + gB) = nI (gA + gB + 1) - 1 from (nI_pred _).symm, show nI tA = nI (tA + 1) - 1 from (nI_pred _).symm, show nI tB = nI (tB + 1) - 1 from (nI_pred _).symm, gH_1, gH_2, gH_3]
            unfold shr at hQ
            rw [if_neg (fun q => absurd q.2 (by show ¬ e + 1 ≤ gA + gB + 1; omega)), if_pos ⟨by omega, by omega⟩] at hQ
            exact hQ
      · refine j_vret dX3_share_19 rfl ?_
        unfold shr at hQ
        rw [if_pos ⟨by simp, by show e + 1 ≤ gA + gB + 1; omega⟩] at hQ
        exact hQ
  | succ r ih =>
    intro k gA gB tA tB le la lb Q hkr hgA hgB hle hQ
    refine Cj.intro rfl (Nat.le_of_ble_eq_true rfl) (L := [.ref 29, .ref 1, .int (nI k), .int (nI gA), .int (nI gB), .int (nI tA), .int (nI tB), jU]) rfl ?_
    cases le with
    | zero =>
      have hV2 : VC 1 (gH I (nI 0 - 1) (nI la - 1) (nI lb - 1)) v := hV.congr (fun i hi => gH_ne I _ _ _ (by omega))
      obtain ⟨k1, k2⟩ := wk k (by omega)
      obtain ⟨s1, e1⟩ : ∃ s1, shr (v 5) nA nB r (k + 1) gA gB tA tB (0, la, lb) = s1 := ⟨_, rfl⟩
      obtain ⟨s2, e2⟩ : ∃ s2, shr (v 5) nA nB r (k + 1) (gA + v 5 k) gB (tA ||| 2 ^ k) tB s1 = s2 := ⟨_, rfl⟩
      obtain ⟨s3, e3⟩ : ∃ s3, shr (v 5) nA nB r (k + 1) gA (gB + v 5 k) tA (tB ||| 2 ^ k) s2 = s3 := ⟨_, rfl⟩
      have hs1 : s1.1 ≤ 400 := by rw [← e1]; exact shr_le _ _ _ _ hfl w4 r (k + 1) _ _ _ _ _ (by omega) (by omega) (by omega) hle
      have hs2 : s2.1 ≤ 400 := by rw [← e2]; exact shr_le _ _ _ _ hfl w4 r (k + 1) _ _ _ _ _ (by omega) (by omega) (by omega) hs1
      refine j_aload_n dX3_share_0 rfl rfl rfl ?_
      refine j_getIv (v := (-1)) dX3_share_1 rfl fX3_18 rfl (by decide) rfl rfl ?_
      refine j_iconst (v := (-1)) dX3_share_4 rfl rfl ?_
      refine j_icmpeq (tgt := 20) dX3_share_5 rfl rfl (fun h1 => ?_) (fun h1 => by exfalso; exact h1 rfl)
      refine j_iload_n dX3_share_20 rfl rfl rfl ?_
      refine j_aload_n dX3_share_21 rfl rfl rfl ?_
      refine j_getIv (v := nI nA) dX3_share_22 rfl fX3_9 rfl (by decide) rfl hA ?_
      refine j_icmpltN (tgt := 58) dX3_share_25 rfl rfl (by omega) (by omega) (fun h2 => ?_) (fun h2 => ?_)
      · refine j_iload_n dX3_share_58 rfl rfl rfl ?_
        refine j_iflt (tgt := 76) dX3_share_59 rfl rfl (fun q => absurd q (nI_pos (by omega))) (fun _ => ?_)
        refine j_iload_n dX3_share_62 rfl rfl rfl ?_
        refine j_aload_n dX3_share_63 rfl rfl rfl ?_
        refine j_getIv (v := nI (v 0 4)) dX3_share_64 rfl fX3_65 rfl (by decide) rfl hV2.kin ?_
        refine j_icmpgeN (tgt := 76) dX3_share_67 rfl rfl (by omega) (by omega) (fun h3 => by exfalso; omega) (fun h3 => ?_)
        refine j_iload_n dX3_share_70 rfl rfl rfl ?_
        refine j_bipush (v := nI 8) dX3_share_71 rfl rfl ?_
        refine j_icmpltN (tgt := 77) dX3_share_73 rfl rfl (by omega) (by decide) (fun h4 => ?_) (fun h4 => by exfalso; omega)
        refine j_aload_n dX3_share_77 rfl rfl rfl ?_
        refine j_getP (b := 6) dX3_share_78 rfl fX3_68 rfl (by decide) rfl rfl ?_
        refine j_iload_n dX3_share_81 rfl rfl rfl ?_
        refine j_iald (j := k) (v := nI (v 5 k)) dX3_share_82 rfl rfl (by decide) rfl (by omega) (by decide) (hV2.fl (by omega)) ?_
        refine j_istore (L' := [.ref 29, .ref 1, .int (nI k), .int (nI gA), .int (nI gB), .int (nI tA), .int (nI tB), .int (nI (v 5 k))]) dX3_share_83 rfl rfl (by decide) rfl ?_
        refine j_aload_n dX3_share_85 rfl rfl rfl ?_
        refine j_aload_n dX3_share_86 rfl rfl rfl ?_
        refine j_iload_n dX3_share_87 rfl rfl rfl ?_
        refine j_iconst (v := nI 1) dX3_share_88 rfl rfl ?_
        refine j_iaddN (c := k + 1) dX3_share_89 rfl rfl ?_
        refine j_iload_n dX3_share_90 rfl rfl rfl ?_
        refine j_iload dX3_share_91 rfl rfl ?_
        refine j_iload dX3_share_93 rfl rfl ?_
        refine j_iload dX3_share_95 rfl rfl ?_
        refine j_callSw (As := [.ref 29, .ref 1, .int (nI (k + 1)), .int (nI gA), .int (nI gB), .int (nI tA), .int (nI tB)]) dX3_share_97 rfl cX3_31 rfl (by decide) rfl rfl (ih (k + 1) gA gB tA tB 0 la lb (by omega) (by omega) (by omega) hle ?_)
        rw [show shr (v 5) nA nB r (k + 1) gA gB tA tB (0, la, lb) = s1 from e1]
        show Rj _ _ _ _ _ _ 100 [.ref 29, .ref 1, .int (nI k), .int (nI gA), .int (nI gB), .int (nI tA), .int (nI tB), .int (nI (v 5 k))] [] n (gH I (nI s1.1 - 1) (nI s1.2.1 - 1) (nI s1.2.2 - 1)) J (Pg i0 i1)
        refine j_aload_n dX3_share_100 rfl rfl rfl ?_
        refine j_aload_n dX3_share_101 rfl rfl rfl ?_
        refine j_iload_n dX3_share_102 rfl rfl rfl ?_
        refine j_iconst (v := nI 1) dX3_share_103 rfl rfl ?_
        refine j_iaddN (c := k + 1) dX3_share_104 rfl rfl ?_
        refine j_iload_n dX3_share_105 rfl rfl rfl ?_
        refine j_iload dX3_share_106 rfl rfl ?_
        refine j_iaddN (c := gA + (v 5 k)) dX3_share_108 rfl rfl ?_
        refine j_iload dX3_share_109 rfl rfl ?_
        refine j_iload dX3_share_111 rfl rfl ?_
        refine j_iconst (v := nI 1) dX3_share_113 rfl rfl ?_
        refine j_iload_n dX3_share_114 rfl rfl rfl ?_
        refine j_ishlN (c := 2 ^ k) dX3_share_115 rfl (by omega) (Nat.one_mul _) ?_
        refine j_iorN (c := tA ||| (2 ^ k)) dX3_share_116 rfl rfl ?_
        refine j_iload dX3_share_117 rfl rfl ?_
        refine j_callSw (As := [.ref 29, .ref 1, .int (nI (k + 1)), .int (nI (gA + (v 5 k))), .int (nI gB), .int (nI (tA ||| (2 ^ k))), .int (nI tB)]) dX3_share_119 rfl cX3_31 rfl (by decide) rfl rfl (ih (k + 1) (gA + v 5 k) gB (tA ||| 2 ^ k) tB s1.1 s1.2.1 s1.2.2 (by omega) (by omega) (by omega) hs1 ?_)
        rw [show shr (v 5) nA nB r (k + 1) (gA + v 5 k) gB (tA ||| 2 ^ k) tB (s1.1, s1.2.1, s1.2.2) = s2 from e2]
        show Rj _ _ _ _ _ _ 122 [.ref 29, .ref 1, .int (nI k), .int (nI gA), .int (nI gB), .int (nI tA), .int (nI tB), .int (nI (v 5 k))] [] n (gH I (nI s2.1 - 1) (nI s2.2.1 - 1) (nI s2.2.2 - 1)) J (Pg i0 i1)
        refine j_aload_n dX3_share_122 rfl rfl rfl ?_
        refine j_aload_n dX3_share_123 rfl rfl rfl ?_
        refine j_iload_n dX3_share_124 rfl rfl rfl ?_
        refine j_iconst (v := nI 1) dX3_share_125 rfl rfl ?_
        refine j_iaddN (c := k + 1) dX3_share_126 rfl rfl ?_
        refine j_iload_n dX3_share_127 rfl rfl rfl ?_
        refine j_iload dX3_share_128 rfl rfl ?_
        refine j_iload dX3_share_130 rfl rfl ?_
        refine j_iaddN (c := gB + (v 5 k)) dX3_share_132 rfl rfl ?_
        refine j_iload dX3_share_133 rfl rfl ?_
        refine j_iload dX3_share_135 rfl rfl ?_
        refine j_iconst (v := nI 1) dX3_share_137 rfl rfl ?_
        refine j_iload_n dX3_share_138 rfl rfl rfl ?_
        refine j_ishlN (c := 2 ^ k) dX3_share_139 rfl (by omega) (Nat.one_mul _) ?_
        refine j_iorN (c := tB ||| (2 ^ k)) dX3_share_140 rfl rfl ?_
        refine j_callSw (As := [.ref 29, .ref 1, .int (nI (k + 1)), .int (nI gA), .int (nI (gB + (v 5 k))), .int (nI tA), .int (nI (tB ||| (2 ^ k)))]) dX3_share_141 rfl cX3_31 rfl (by decide) rfl rfl (ih (k + 1) gA (gB + v 5 k) tA (tB ||| 2 ^ k) s2.1 s2.2.1 s2.2.2 (by omega) (by omega) (by omega) hs2 ?_)
        rw [show shr (v 5) nA nB r (k + 1) gA (gB + v 5 k) tA (tB ||| 2 ^ k) (s2.1, s2.2.1, s2.2.2) = s3 from e3]
        show Rj _ _ _ _ _ _ 144 [.ref 29, .ref 1, .int (nI k), .int (nI gA), .int (nI gB), .int (nI tA), .int (nI tB), .int (nI (v 5 k))] [] n (gH I (nI s3.1 - 1) (nI s3.2.1 - 1) (nI s3.2.2 - 1)) J (Pg i0 i1)
        refine j_vret dX3_share_144 rfl ?_
        unfold shr at hQ
        rw [if_neg (by simp), if_neg (by omega), e1, e2, e3] at hQ
        exact hQ
      · refine j_iload dX3_share_28 rfl rfl ?_
        refine j_aload_n dX3_share_30 rfl rfl rfl ?_
        refine j_getIv (v := nI nB) dX3_share_31 rfl fX3_15 rfl (by decide) rfl hB ?_
        refine j_icmpltN (tgt := 58) dX3_share_34 rfl rfl (by omega) (by omega) (fun h5 => ?_) (fun h5 => ?_)
        · refine j_iload_n dX3_share_58 rfl rfl rfl ?_
          refine j_iflt (tgt := 76) dX3_share_59 rfl rfl (fun q => absurd q (nI_pos (by omega))) (fun _ => ?_)
          refine j_iload_n dX3_share_62 rfl rfl rfl ?_
          refine j_aload_n dX3_share_63 rfl rfl rfl ?_
          refine j_getIv (v := nI (v 0 4)) dX3_share_64 rfl fX3_65 rfl (by decide) rfl hV2.kin ?_
          refine j_icmpgeN (tgt := 76) dX3_share_67 rfl rfl (by omega) (by omega) (fun h6 => by exfalso; omega) (fun h6 => ?_)
          refine j_iload_n dX3_share_70 rfl rfl rfl ?_
          refine j_bipush (v := nI 8) dX3_share_71 rfl rfl ?_
          refine j_icmpltN (tgt := 77) dX3_share_73 rfl rfl (by omega) (by decide) (fun h7 => ?_) (fun h7 => by exfalso; omega)
          refine j_aload_n dX3_share_77 rfl rfl rfl ?_
          refine j_getP (b := 6) dX3_share_78 rfl fX3_68 rfl (by decide) rfl rfl ?_
          refine j_iload_n dX3_share_81 rfl rfl rfl ?_
          refine j_iald (j := k) (v := nI (v 5 k)) dX3_share_82 rfl rfl (by decide) rfl (by omega) (by decide) (hV2.fl (by omega)) ?_
          refine j_istore (L' := [.ref 29, .ref 1, .int (nI k), .int (nI gA), .int (nI gB), .int (nI tA), .int (nI tB), .int (nI (v 5 k))]) dX3_share_83 rfl rfl (by decide) rfl ?_
          refine j_aload_n dX3_share_85 rfl rfl rfl ?_
          refine j_aload_n dX3_share_86 rfl rfl rfl ?_
          refine j_iload_n dX3_share_87 rfl rfl rfl ?_
          refine j_iconst (v := nI 1) dX3_share_88 rfl rfl ?_
          refine j_iaddN (c := k + 1) dX3_share_89 rfl rfl ?_
          refine j_iload_n dX3_share_90 rfl rfl rfl ?_
          refine j_iload dX3_share_91 rfl rfl ?_
          refine j_iload dX3_share_93 rfl rfl ?_
          refine j_iload dX3_share_95 rfl rfl ?_
          refine j_callSw (As := [.ref 29, .ref 1, .int (nI (k + 1)), .int (nI gA), .int (nI gB), .int (nI tA), .int (nI tB)]) dX3_share_97 rfl cX3_31 rfl (by decide) rfl rfl (ih (k + 1) gA gB tA tB 0 la lb (by omega) (by omega) (by omega) hle ?_)
          rw [show shr (v 5) nA nB r (k + 1) gA gB tA tB (0, la, lb) = s1 from e1]
          show Rj _ _ _ _ _ _ 100 [.ref 29, .ref 1, .int (nI k), .int (nI gA), .int (nI gB), .int (nI tA), .int (nI tB), .int (nI (v 5 k))] [] n (gH I (nI s1.1 - 1) (nI s1.2.1 - 1) (nI s1.2.2 - 1)) J (Pg i0 i1)
          refine j_aload_n dX3_share_100 rfl rfl rfl ?_
          refine j_aload_n dX3_share_101 rfl rfl rfl ?_
          refine j_iload_n dX3_share_102 rfl rfl rfl ?_
          refine j_iconst (v := nI 1) dX3_share_103 rfl rfl ?_
          refine j_iaddN (c := k + 1) dX3_share_104 rfl rfl ?_
          refine j_iload_n dX3_share_105 rfl rfl rfl ?_
          refine j_iload dX3_share_106 rfl rfl ?_
          refine j_iaddN (c := gA + (v 5 k)) dX3_share_108 rfl rfl ?_
          refine j_iload dX3_share_109 rfl rfl ?_
          refine j_iload dX3_share_111 rfl rfl ?_
          refine j_iconst (v := nI 1) dX3_share_113 rfl rfl ?_
          refine j_iload_n dX3_share_114 rfl rfl rfl ?_
          refine j_ishlN (c := 2 ^ k) dX3_share_115 rfl (by omega) (Nat.one_mul _) ?_
          refine j_iorN (c := tA ||| (2 ^ k)) dX3_share_116 rfl rfl ?_
          refine j_iload dX3_share_117 rfl rfl ?_
          refine j_callSw (As := [.ref 29, .ref 1, .int (nI (k + 1)), .int (nI (gA + (v 5 k))), .int (nI gB), .int (nI (tA ||| (2 ^ k))), .int (nI tB)]) dX3_share_119 rfl cX3_31 rfl (by decide) rfl rfl (ih (k + 1) (gA + v 5 k) gB (tA ||| 2 ^ k) tB s1.1 s1.2.1 s1.2.2 (by omega) (by omega) (by omega) hs1 ?_)
          rw [show shr (v 5) nA nB r (k + 1) (gA + v 5 k) gB (tA ||| 2 ^ k) tB (s1.1, s1.2.1, s1.2.2) = s2 from e2]
          show Rj _ _ _ _ _ _ 122 [.ref 29, .ref 1, .int (nI k), .int (nI gA), .int (nI gB), .int (nI tA), .int (nI tB), .int (nI (v 5 k))] [] n (gH I (nI s2.1 - 1) (nI s2.2.1 - 1) (nI s2.2.2 - 1)) J (Pg i0 i1)
          refine j_aload_n dX3_share_122 rfl rfl rfl ?_
          refine j_aload_n dX3_share_123 rfl rfl rfl ?_
          refine j_iload_n dX3_share_124 rfl rfl rfl ?_
          refine j_iconst (v := nI 1) dX3_share_125 rfl rfl ?_
          refine j_iaddN (c := k + 1) dX3_share_126 rfl rfl ?_
          refine j_iload_n dX3_share_127 rfl rfl rfl ?_
          refine j_iload dX3_share_128 rfl rfl ?_
          refine j_iload dX3_share_130 rfl rfl ?_
          refine j_iaddN (c := gB + (v 5 k)) dX3_share_132 rfl rfl ?_
          refine j_iload dX3_share_133 rfl rfl ?_
          refine j_iload dX3_share_135 rfl rfl ?_
          refine j_iconst (v := nI 1) dX3_share_137 rfl rfl ?_
          refine j_iload_n dX3_share_138 rfl rfl rfl ?_
          refine j_ishlN (c := 2 ^ k) dX3_share_139 rfl (by omega) (Nat.one_mul _) ?_
          refine j_iorN (c := tB ||| (2 ^ k)) dX3_share_140 rfl rfl ?_
          refine j_callSw (As := [.ref 29, .ref 1, .int (nI (k + 1)), .int (nI gA), .int (nI (gB + (v 5 k))), .int (nI tA), .int (nI (tB ||| (2 ^ k)))]) dX3_share_141 rfl cX3_31 rfl (by decide) rfl rfl (ih (k + 1) gA (gB + v 5 k) tA (tB ||| 2 ^ k) s2.1 s2.2.1 s2.2.2 (by omega) (by omega) (by omega) hs2 ?_)
          rw [show shr (v 5) nA nB r (k + 1) gA (gB + v 5 k) tA (tB ||| 2 ^ k) (s2.1, s2.2.1, s2.2.2) = s3 from e3]
          show Rj _ _ _ _ _ _ 144 [.ref 29, .ref 1, .int (nI k), .int (nI gA), .int (nI gB), .int (nI tA), .int (nI tB), .int (nI (v 5 k))] [] n (gH I (nI s3.1 - 1) (nI s3.2.1 - 1) (nI s3.2.2 - 1)) J (Pg i0 i1)
          refine j_vret dX3_share_144 rfl ?_
          unfold shr at hQ
          rw [if_neg (by simp), if_neg (by omega), e1, e2, e3] at hQ
          exact hQ
        · refine j_aload_n dX3_share_37 rfl rfl rfl ?_
          refine j_iload_n dX3_share_38 rfl rfl rfl ?_
          refine j_iload dX3_share_39 rfl rfl ?_
          refine j_iaddN (c := gA + gB) dX3_share_41 rfl rfl ?_
          refine j_putI dX3_share_42 rfl fX3_18 rfl (by decide) rfl rfl ?_
          refine j_aload_n dX3_share_45 rfl rfl rfl ?_
          refine j_iload dX3_share_46 rfl rfl ?_
          refine j_putI dX3_share_48 rfl fX3_21 rfl (by decide) rfl rfl ?_
          refine j_aload_n dX3_share_51 rfl rfl rfl ?_
          refine j_iload dX3_share_52 rfl rfl ?_
          refine j_putI dX3_share_54 rfl fX3_24 rfl (by decide) rfl rfl ?_
          refine j_vret dX3_share_57 rfl ?_
          rw [show nI (gA + gB) = nI (gA + gB + 1) - 1 from (nI_pred _).symm, show nI tA = nI (tA + 1) - 1 from (nI_pred _).symm, show nI tB = nI (tB + 1) - 1 from (nI_pred _).symm, gH_1, gH_2, gH_3]
          unfold shr at hQ
          rw [if_neg (by simp), if_pos ⟨by omega, by omega⟩] at hQ
          exact hQ
    | succ e =>
      have hV2 : VC 1 (gH I (nI (e + 1) - 1) (nI la - 1) (nI lb - 1)) v := hV.congr (fun i hi => gH_ne I _ _ _ (by omega))
      obtain ⟨k1, k2⟩ := wk k (by omega)
      obtain ⟨s1, e1⟩ : ∃ s1, shr (v 5) nA nB r (k + 1) gA gB tA tB ((e + 1), la, lb) = s1 := ⟨_, rfl⟩
      obtain ⟨s2, e2⟩ : ∃ s2, shr (v 5) nA nB r (k + 1) (gA + v 5 k) gB (tA ||| 2 ^ k) tB s1 = s2 := ⟨_, rfl⟩
      obtain ⟨s3, e3⟩ : ∃ s3, shr (v 5) nA nB r (k + 1) gA (gB + v 5 k) tA (tB ||| 2 ^ k) s2 = s3 := ⟨_, rfl⟩
      have hs1 : s1.1 ≤ 400 := by rw [← e1]; exact shr_le _ _ _ _ hfl w4 r (k + 1) _ _ _ _ _ (by omega) (by omega) (by omega) hle
      have hs2 : s2.1 ≤ 400 := by rw [← e2]; exact shr_le _ _ _ _ hfl w4 r (k + 1) _ _ _ _ _ (by omega) (by omega) (by omega) hs1
      refine j_aload_n dX3_share_0 rfl rfl rfl ?_
      refine j_getIv (v := nI e) dX3_share_1 rfl fX3_18 rfl (by decide) rfl (nI_pred e) ?_
      refine j_iconst (v := (-1)) dX3_share_4 rfl rfl ?_
      refine j_icmpeq (tgt := 20) dX3_share_5 rfl rfl (fun h1 => by exfalso; exact nI_m1 (by omega) h1) (fun h1 => ?_)
      refine j_iload_n dX3_share_8 rfl rfl rfl ?_
      refine j_iload dX3_share_9 rfl rfl ?_
      refine j_iaddN (c := gA + gB) dX3_share_11 rfl rfl ?_
      refine j_aload_n dX3_share_12 rfl rfl rfl ?_
      refine j_getIv (v := nI e) dX3_share_13 rfl fX3_18 rfl (by decide) rfl (nI_pred e) ?_
      refine j_icmpltN (tgt := 20) dX3_share_16 rfl rfl (by omega) (by omega) (fun h2 => ?_) (fun h2 => ?_)
      · refine j_iload_n dX3_share_20 rfl rfl rfl ?_
        refine j_aload_n dX3_share_21 rfl rfl rfl ?_
        refine j_getIv (v := nI nA) dX3_share_22 rfl fX3_9 rfl (by decide) rfl hA ?_
        refine j_icmpltN (tgt := 58) dX3_share_25 rfl rfl (by omega) (by omega) (fun h3 => ?_) (fun h3 => ?_)
        · refine j_iload_n dX3_share_58 rfl rfl rfl ?_
          refine j_iflt (tgt := 76) dX3_share_59 rfl rfl (fun q => absurd q (nI_pos (by omega))) (fun _ => ?_)
          refine j_iload_n dX3_share_62 rfl rfl rfl ?_
          refine j_aload_n dX3_share_63 rfl rfl rfl ?_
          refine j_getIv (v := nI (v 0 4)) dX3_share_64 rfl fX3_65 rfl (by decide) rfl hV2.kin ?_
          refine j_icmpgeN (tgt := 76) dX3_share_67 rfl rfl (by omega) (by omega) (fun h4 => by exfalso; omega) (fun h4 => ?_)
          refine j_iload_n dX3_share_70 rfl rfl rfl ?_
          refine j_bipush (v := nI 8) dX3_share_71 rfl rfl ?_
          refine j_icmpltN (tgt := 77) dX3_share_73 rfl rfl (by omega) (by decide) (fun h5 => ?_) (fun h5 => by exfalso; omega)
          refine j_aload_n dX3_share_77 rfl rfl rfl ?_
          refine j_getP (b := 6) dX3_share_78 rfl fX3_68 rfl (by decide) rfl rfl ?_
          refine j_iload_n dX3_share_81 rfl rfl rfl ?_
          refine j_iald (j := k) (v := nI (v 5 k)) dX3_share_82 rfl rfl (by decide) rfl (by omega) (by decide) (hV2.fl (by omega)) ?_
          refine j_istore (L' := [.ref 29, .ref 1, .int (nI k), .int (nI gA), .int (nI gB), .int (nI tA), .int (nI tB), .int (nI (v 5 k))]) dX3_share_83 rfl rfl (by decide) rfl ?_
          refine j_aload_n dX3_share_85 rfl rfl rfl ?_
          refine j_aload_n dX3_share_86 rfl rfl rfl ?_
          refine j_iload_n dX3_share_87 rfl rfl rfl ?_
          refine j_iconst (v := nI 1) dX3_share_88 rfl rfl ?_
          refine j_iaddN (c := k + 1) dX3_share_89 rfl rfl ?_
          refine j_iload_n dX3_share_90 rfl rfl rfl ?_
          refine j_iload dX3_share_91 rfl rfl ?_
          refine j_iload dX3_share_93 rfl rfl ?_
          refine j_iload dX3_share_95 rfl rfl ?_
          refine j_callSw (As := [.ref 29, .ref 1, .int (nI (k + 1)), .int (nI gA), .int (nI gB), .int (nI tA), .int (nI tB)]) dX3_share_97 rfl cX3_31 rfl (by decide) rfl rfl (ih (k + 1) gA gB tA tB (e + 1) la lb (by omega) (by omega) (by omega) hle ?_)
          rw [show shr (v 5) nA nB r (k + 1) gA gB tA tB ((e + 1), la, lb) = s1 from e1]
          show Rj _ _ _ _ _ _ 100 [.ref 29, .ref 1, .int (nI k), .int (nI gA), .int (nI gB), .int (nI tA), .int (nI tB), .int (nI (v 5 k))] [] n (gH I (nI s1.1 - 1) (nI s1.2.1 - 1) (nI s1.2.2 - 1)) J (Pg i0 i1)
          refine j_aload_n dX3_share_100 rfl rfl rfl ?_
          refine j_aload_n dX3_share_101 rfl rfl rfl ?_
          refine j_iload_n dX3_share_102 rfl rfl rfl ?_
          refine j_iconst (v := nI 1) dX3_share_103 rfl rfl ?_
          refine j_iaddN (c := k + 1) dX3_share_104 rfl rfl ?_
          refine j_iload_n dX3_share_105 rfl rfl rfl ?_
          refine j_iload dX3_share_106 rfl rfl ?_
          refine j_iaddN (c := gA + (v 5 k)) dX3_share_108 rfl rfl ?_
          refine j_iload dX3_share_109 rfl rfl ?_
          refine j_iload dX3_share_111 rfl rfl ?_
          refine j_iconst (v := nI 1) dX3_share_113 rfl rfl ?_
          refine j_iload_n dX3_share_114 rfl rfl rfl ?_
          refine j_ishlN (c := 2 ^ k) dX3_share_115 rfl (by omega) (Nat.one_mul _) ?_
          refine j_iorN (c := tA ||| (2 ^ k)) dX3_share_116 rfl rfl ?_
          refine j_iload dX3_share_117 rfl rfl ?_
          refine j_callSw (As := [.ref 29, .ref 1, .int (nI (k + 1)), .int (nI (gA + (v 5 k))), .int (nI gB), .int (nI (tA ||| (2 ^ k))), .int (nI tB)]) dX3_share_119 rfl cX3_31 rfl (by decide) rfl rfl (ih (k + 1) (gA + v 5 k) gB (tA ||| 2 ^ k) tB s1.1 s1.2.1 s1.2.2 (by omega) (by omega) (by omega) hs1 ?_)
          rw [show shr (v 5) nA nB r (k + 1) (gA + v 5 k) gB (tA ||| 2 ^ k) tB (s1.1, s1.2.1, s1.2.2) = s2 from e2]
          show Rj _ _ _ _ _ _ 122 [.ref 29, .ref 1, .int (nI k), .int (nI gA), .int (nI gB), .int (nI tA), .int (nI tB), .int (nI (v 5 k))] [] n (gH I (nI s2.1 - 1) (nI s2.2.1 - 1) (nI s2.2.2 - 1)) J (Pg i0 i1)
          refine j_aload_n dX3_share_122 rfl rfl rfl ?_
          refine j_aload_n dX3_share_123 rfl rfl rfl ?_
          refine j_iload_n dX3_share_124 rfl rfl rfl ?_
          refine j_iconst (v := nI 1) dX3_share_125 rfl rfl ?_
          refine j_iaddN (c := k + 1) dX3_share_126 rfl rfl ?_
          refine j_iload_n dX3_share_127 rfl rfl rfl ?_
          refine j_iload dX3_share_128 rfl rfl ?_
          refine j_iload dX3_share_130 rfl rfl ?_
          refine j_iaddN (c := gB + (v 5 k)) dX3_share_132 rfl rfl ?_
          refine j_iload dX3_share_133 rfl rfl ?_
          refine j_iload dX3_share_135 rfl rfl ?_
          refine j_iconst (v := nI 1) dX3_share_137 rfl rfl ?_
          refine j_iload_n dX3_share_138 rfl rfl rfl ?_
          refine j_ishlN (c := 2 ^ k) dX3_share_139 rfl (by omega) (Nat.one_mul _) ?_
          refine j_iorN (c := tB ||| (2 ^ k)) dX3_share_140 rfl rfl ?_
          refine j_callSw (As := [.ref 29, .ref 1, .int (nI (k + 1)), .int (nI gA), .int (nI (gB + (v 5 k))), .int (nI tA), .int (nI (tB ||| (2 ^ k)))]) dX3_share_141 rfl cX3_31 rfl (by decide) rfl rfl (ih (k + 1) gA (gB + v 5 k) tA (tB ||| 2 ^ k) s2.1 s2.2.1 s2.2.2 (by omega) (by omega) (by omega) hs2 ?_)
          rw [show shr (v 5) nA nB r (k + 1) gA (gB + v 5 k) tA (tB ||| 2 ^ k) (s2.1, s2.2.1, s2.2.2) = s3 from e3]
          show Rj _ _ _ _ _ _ 144 [.ref 29, .ref 1, .int (nI k), .int (nI gA), .int (nI gB), .int (nI tA), .int (nI tB), .int (nI (v 5 k))] [] n (gH I (nI s3.1 - 1) (nI s3.2.1 - 1) (nI s3.2.2 - 1)) J (Pg i0 i1)
          refine j_vret dX3_share_144 rfl ?_
          unfold shr at hQ
          rw [if_neg (fun q => absurd q.2 (by show ¬ e + 1 ≤ gA + gB + 1; omega)), if_neg (by omega), e1, e2, e3] at hQ
          exact hQ
        · refine j_iload dX3_share_28 rfl rfl ?_
          refine j_aload_n dX3_share_30 rfl rfl rfl ?_
          refine j_getIv (v := nI nB) dX3_share_31 rfl fX3_15 rfl (by decide) rfl hB ?_
          refine j_icmpltN (tgt := 58) dX3_share_34 rfl rfl (by omega) (by omega) (fun h6 => ?_) (fun h6 => ?_)
          · refine j_iload_n dX3_share_58 rfl rfl rfl ?_
            refine j_iflt (tgt := 76) dX3_share_59 rfl rfl (fun q => absurd q (nI_pos (by omega))) (fun _ => ?_)
            refine j_iload_n dX3_share_62 rfl rfl rfl ?_
            refine j_aload_n dX3_share_63 rfl rfl rfl ?_
            refine j_getIv (v := nI (v 0 4)) dX3_share_64 rfl fX3_65 rfl (by decide) rfl hV2.kin ?_
            refine j_icmpgeN (tgt := 76) dX3_share_67 rfl rfl (by omega) (by omega) (fun h7 => by exfalso; omega) (fun h7 => ?_)
            refine j_iload_n dX3_share_70 rfl rfl rfl ?_
            refine j_bipush (v := nI 8) dX3_share_71 rfl rfl ?_
            refine j_icmpltN (tgt := 77) dX3_share_73 rfl rfl (by omega) (by decide) (fun h8 => ?_) (fun h8 => by exfalso; omega)
            refine j_aload_n dX3_share_77 rfl rfl rfl ?_
            refine j_getP (b := 6) dX3_share_78 rfl fX3_68 rfl (by decide) rfl rfl ?_
            refine j_iload_n dX3_share_81 rfl rfl rfl ?_
            refine j_iald (j := k) (v := nI (v 5 k)) dX3_share_82 rfl rfl (by decide) rfl (by omega) (by decide) (hV2.fl (by omega)) ?_
            refine j_istore (L' := [.ref 29, .ref 1, .int (nI k), .int (nI gA), .int (nI gB), .int (nI tA), .int (nI tB), .int (nI (v 5 k))]) dX3_share_83 rfl rfl (by decide) rfl ?_
            refine j_aload_n dX3_share_85 rfl rfl rfl ?_
            refine j_aload_n dX3_share_86 rfl rfl rfl ?_
            refine j_iload_n dX3_share_87 rfl rfl rfl ?_
            refine j_iconst (v := nI 1) dX3_share_88 rfl rfl ?_
            refine j_iaddN (c := k + 1) dX3_share_89 rfl rfl ?_
            refine j_iload_n dX3_share_90 rfl rfl rfl ?_
            refine j_iload dX3_share_91 rfl rfl ?_
            refine j_iload dX3_share_93 rfl rfl ?_
            refine j_iload dX3_share_95 rfl rfl ?_
            refine j_callSw (As := [.ref 29, .ref 1, .int (nI (k + 1)), .int (nI gA), .int (nI gB), .int (nI tA), .int (nI tB)]) dX3_share_97 rfl cX3_31 rfl (by decide) rfl rfl (ih (k + 1) gA gB tA tB (e + 1) la lb (by omega) (by omega) (by omega) hle ?_)
            rw [show shr (v 5) nA nB r (k + 1) gA gB tA tB ((e + 1), la, lb) = s1 from e1]
            show Rj _ _ _ _ _ _ 100 [.ref 29, .ref 1, .int (nI k), .int (nI gA), .int (nI gB), .int (nI tA), .int (nI tB), .int (nI (v 5 k))] [] n (gH I (nI s1.1 - 1) (nI s1.2.1 - 1) (nI s1.2.2 - 1)) J (Pg i0 i1)
            refine j_aload_n dX3_share_100 rfl rfl rfl ?_
            refine j_aload_n dX3_share_101 rfl rfl rfl ?_
            refine j_iload_n dX3_share_102 rfl rfl rfl ?_
            refine j_iconst (v := nI 1) dX3_share_103 rfl rfl ?_
            refine j_iaddN (c := k + 1) dX3_share_104 rfl rfl ?_
            refine j_iload_n dX3_share_105 rfl rfl rfl ?_
            refine j_iload dX3_share_106 rfl rfl ?_
            refine j_iaddN (c := gA + (v 5 k)) dX3_share_108 rfl rfl ?_
            refine j_iload dX3_share_109 rfl rfl ?_
            refine j_iload dX3_share_111 rfl rfl ?_
            refine j_iconst (v := nI 1) dX3_share_113 rfl rfl ?_
            refine j_iload_n dX3_share_114 rfl rfl rfl ?_
            refine j_ishlN (c := 2 ^ k) dX3_share_115 rfl (by omega) (Nat.one_mul _) ?_
            refine j_iorN (c := tA ||| (2 ^ k)) dX3_share_116 rfl rfl ?_
            refine j_iload dX3_share_117 rfl rfl ?_
            refine j_callSw (As := [.ref 29, .ref 1, .int (nI (k + 1)), .int (nI (gA + (v 5 k))), .int (nI gB), .int (nI (tA ||| (2 ^ k))), .int (nI tB)]) dX3_share_119 rfl cX3_31 rfl (by decide) rfl rfl (ih (k + 1) (gA + v 5 k) gB (tA ||| 2 ^ k) tB s1.1 s1.2.1 s1.2.2 (by omega) (by omega) (by omega) hs1 ?_)
            rw [show shr (v 5) nA nB r (k + 1) (gA + v 5 k) gB (tA ||| 2 ^ k) tB (s1.1, s1.2.1, s1.2.2) = s2 from e2]
            show Rj _ _ _ _ _ _ 122 [.ref 29, .ref 1, .int (nI k), .int (nI gA), .int (nI gB), .int (nI tA), .int (nI tB), .int (nI (v 5 k))] [] n (gH I (nI s2.1 - 1) (nI s2.2.1 - 1) (nI s2.2.2 - 1)) J (Pg i0 i1)
            refine j_aload_n dX3_share_122 rfl rfl rfl ?_
            refine j_aload_n dX3_share_123 rfl rfl rfl ?_
            refine j_iload_n dX3_share_124 rfl rfl rfl ?_
            refine j_iconst (v := nI 1) dX3_share_125 rfl rfl ?_
            refine j_iaddN (c := k + 1) dX3_share_126 rfl rfl ?_
            refine j_iload_n dX3_share_127 rfl rfl rfl ?_
            refine j_iload dX3_share_128 rfl rfl ?_
            refine j_iload dX3_share_130 rfl rfl ?_
            refine j_iaddN (c := gB + (v 5 k)) dX3_share_132 rfl rfl ?_
            refine j_iload dX3_share_133 rfl rfl ?_
            refine j_iload dX3_share_135 rfl rfl ?_
            refine j_iconst (v := nI 1) dX3_share_137 rfl rfl ?_
            refine j_iload_n dX3_share_138 rfl rfl rfl ?_
            refine j_ishlN (c := 2 ^ k) dX3_share_139 rfl (by omega) (Nat.one_mul _) ?_
            refine j_iorN (c := tB ||| (2 ^ k)) dX3_share_140 rfl rfl ?_
            refine j_callSw (As := [.ref 29, .ref 1, .int (nI (k + 1)), .int (nI gA), .int (nI (gB + (v 5 k))), .int (nI tA), .int (nI (tB ||| (2 ^ k)))]) dX3_share_141 rfl cX3_31 rfl (by decide) rfl rfl (ih (k + 1) gA (gB + v 5 k) tA (tB ||| 2 ^ k) s2.1 s2.2.1 s2.2.2 (by omega) (by omega) (by omega) hs2 ?_)
            rw [show shr (v 5) nA nB r (k + 1) gA (gB + v 5 k) tA (tB ||| 2 ^ k) (s2.1, s2.2.1, s2.2.2) = s3 from e3]
            show Rj _ _ _ _ _ _ 144 [.ref 29, .ref 1, .int (nI k), .int (nI gA), .int (nI gB), .int (nI tA), .int (nI tB), .int (nI (v 5 k))] [] n (gH I (nI s3.1 - 1) (nI s3.2.1 - 1) (nI s3.2.2 - 1)) J (Pg i0 i1)
            refine j_vret dX3_share_144 rfl ?_
            unfold shr at hQ
            rw [if_neg (fun q => absurd q.2 (by show ¬ e + 1 ≤ gA + gB + 1; omega)), if_neg (by omega), e1, e2, e3] at hQ
            exact hQ
          · refine j_aload_n dX3_share_37 rfl rfl rfl ?_
            refine j_iload_n dX3_share_38 rfl rfl rfl ?_
            refine j_iload dX3_share_39 rfl rfl ?_
            refine j_iaddN (c := gA + gB) dX3_share_41 rfl rfl ?_
            refine j_putI dX3_share_42 rfl fX3_18 rfl (by decide) rfl rfl ?_
            refine j_aload_n dX3_share_45 rfl rfl rfl ?_
            refine j_iload dX3_share_46 rfl rfl ?_
            refine j_putI dX3_share_48 rfl fX3_21 rfl (by decide) rfl rfl ?_
            refine j_aload_n dX3_share_51 rfl rfl rfl ?_
            refine j_iload dX3_share_52 rfl rfl ?_
            refine j_putI dX3_share_54 rfl fX3_24 rfl (by decide) rfl rfl ?_
            refine j_vret dX3_share_57 rfl ?_
            rw [show nI (gA + gB) = nI (gA + gB + 1) - 1 from (nI_pred _).symm, show nI tA = nI (tA + 1) - 1 from (nI_pred _).symm, show nI tB = nI (tB + 1) - 1 from (nI_pred _).symm, gH_1, gH_2, gH_3]
            unfold shr at hQ
            rw [if_neg (fun q => absurd q.2 (by show ¬ e + 1 ≤ gA + gB + 1; omega)), if_pos ⟨by omega, by omega⟩] at hQ
            exact hQ
      · refine j_vret dX3_share_19 rfl ?_
        unfold shr at hQ
        rw [if_pos ⟨by simp, by show e + 1 ≤ gA + gB + 1; omega⟩] at hQ
        exact hQ
