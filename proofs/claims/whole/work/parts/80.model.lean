theorem VM.shift {b o b' o' : Nat} {I I' : HI} {v : VT} (h : VM b o I v) (h3 : v 0 3 ≤ 6) (h4 : v 0 4 ≤ 8) (h5 : v 0 5 ≤ 8) (h6 : v 0 6 ≤ 8) (he : ∀ k, k < 167 → I' b' (o' + k) = I b (o + k)) : VM b' o' I' v := by
  obtain ⟨⟨s0, s1, s2, s3, s4, s5, s6⟩, c1, c2, c3, c7⟩ := h
  have e0 := he 0 (by omega)
  simp only [Nat.add_zero] at e0
  refine ⟨⟨e0.trans s0, (he 1 (by omega)).trans s1, (he 2 (by omega)).trans s2, (he 3 (by omega)).trans s3, (he 4 (by omega)).trans s4, (he 5 (by omega)).trans s5, (he 6 (by omega)).trans s6⟩, fun p hp => ?_, fun p hp => ?_, fun p hp => ?_, fun j hj => ?_⟩
  · have q := c1 p hp
    have k1 := he (7 + p) (by omega)
    have k2 := he (13 + p) (by omega)
    have k3 := he (19 + p) (by omega)
    have k4 := he (25 + p) (by omega)
    simp only [← Nat.add_assoc] at k1 k2 k3 k4
    rw [k1, k2, k3, k4]
    exact q
  · have q := c2 p hp
    have k1 := he (31 + p) (by omega)
    simp only [← Nat.add_assoc] at k1
    rw [k1]
    exact q
  · have q := c3 p hp
    have k1 := he (39 + 3 * p) (by omega)
    have k2 := he (40 + 3 * p) (by omega)
    have k3 := he (41 + 3 * p) (by omega)
    simp only [← Nat.add_assoc] at k1 k2 k3
    rw [k1, k2, k3]
    exact q
  · have q := c7 j hj
    have k0 := he (63 + 13 * (v 0 6 - 1 - j)) (by omega)
    simp only [← Nat.add_assoc] at k0
    refine ⟨k0.trans q.1, fun p hp => ?_⟩
    have k1 := he (64 + 13 * (v 0 6 - 1 - j) + p) (by omega)
    have k2 := he (70 + 13 * (v 0 6 - 1 - j) + p) (by omega)
    simp only [← Nat.add_assoc] at k1 k2
    rw [k1, k2]
    exact q.2 p hp
set_option maxHeartbeats 4000000 in
set_option maxRecDepth 100000 in
theorem c_mcopy_34_0_36_0 {X : jX} {d n : Nat} {I : HI} {J : HJ} {P : HP} {Q : jPost}  (hQ : ∀ g, (∀ j, j < 167 → g (0 + j) = I 34 (0 + j)) → (∀ j, (j < 0 ∨ 0 + 167 ≤ j) → g j = I 36 j) → Q none n (ur I 36 g) J P) : Cj X d 0 0 mX10_copy [.ref 34, .int (nI 0), .ref 36, .int (nI 0)] n I J P Q := by
  refine Cj.intro rfl (Nat.le_of_ble_eq_true rfl) (L := [.ref 34, .int (nI 0), .ref 36, .int (nI 0), jU]) rfl ?_
  have loop : ∀ (r k : Nat) (g : Nat → Int32), k + r = 167 → (∀ j, j < k → g (0 + j) = I 34 (0 + j)) → (∀ j, (j < 0 ∨ 0 + 167 ≤ j) → g j = I 36 j) → Rj X d 0 0 mX10_copy Q 3 [.ref 34, .int (nI 0), .ref 36, .int (nI 0), .int (nI k)] [] n (ur I 36 g) J P := by
    intro r
    induction r with
    | zero =>
      intro k g hkr h0 hh
      refine j_iload dX10_copy_3 rfl rfl ?_
      refine j_sipush (v := nI 167) dX10_copy_5 rfl rfl ?_
      refine j_icmpgeN (tgt := 29) dX10_copy_8 rfl rfl (by omega) (by decide) (fun h1 => ?_) (fun h1 => by exfalso; omega)
      refine j_vret dX10_copy_29 rfl ?_
      exact hQ _ (fun j hj => h0 j (by omega)) hh
    | succ r ih =>
      intro k g hkr h0 hh
      refine j_iload dX10_copy_3 rfl rfl ?_
      refine j_sipush (v := nI 167) dX10_copy_5 rfl rfl ?_
      refine j_icmpgeN (tgt := 29) dX10_copy_8 rfl rfl (by omega) (by decide) (fun h1 => by exfalso; omega) (fun h1 => ?_)
      refine j_aload_n dX10_copy_11 rfl rfl rfl ?_
      refine j_iload_n dX10_copy_12 rfl rfl rfl ?_
      refine j_iload dX10_copy_13 rfl rfl ?_
      refine j_iaddN (c := 0 + k) dX10_copy_15 rfl rfl ?_
      refine j_aload_n dX10_copy_16 rfl rfl rfl ?_
      refine j_iload_n dX10_copy_17 rfl rfl rfl ?_
      refine j_iload dX10_copy_18 rfl rfl ?_
      refine j_iaddN (c := 0 + k) dX10_copy_20 rfl rfl ?_
      refine j_iald (j := 0 + k) (v := I 34 (0 + k)) dX10_copy_21 rfl rfl (by decide) rfl (by omega) (by decide) rfl ?_
      refine j_iast (j := 0 + k) dX10_copy_22 rfl rfl (by decide) rfl (by omega) (by decide) ?_
      refine j_iincN (L' := [.ref 34, .int (nI 0), .ref 36, .int (nI 0), .int (nI (k + 1))]) dX10_copy_23 rfl rfl (b := 1) rfl rfl rfl (by decide) rfl ?_
      refine j_goto (tgt := 3) dX10_copy_26 rfl ?_
      rw [u2_ur]
      refine ih (k + 1) _ (by omega) (fun j hj => ?_) (fun j hj => ?_)
      · show (if _ then _ else g _) = _
        by_cases e : j = k
        · rw [if_pos (by omega), e]; all_goals (first | rfl | (congr 1; omega))
        · rw [if_neg (by omega)]; exact h0 j (by omega)
      · show (if _ then _ else g _) = _
        rw [if_neg (by omega)]; exact hh j hj
  refine j_iconst (v := nI 0) dX10_copy_0 rfl rfl ?_
  refine j_istore (L' := [.ref 34, .int (nI 0), .ref 36, .int (nI 0), .int (nI 0)]) dX10_copy_1 rfl rfl (by decide) rfl ?_
  rw [← ur_self I 36]
  exact loop 167 0 _ (by omega) (fun k hk => absurd hk (Nat.not_lt_zero _)) (fun k hk => rfl)
set_option maxHeartbeats 4000000 in
set_option maxRecDepth 100000 in
theorem c_mcopy_34_0_36_167 {X : jX} {d n : Nat} {I : HI} {J : HJ} {P : HP} {Q : jPost}  (hQ : ∀ g, (∀ j, j < 167 → g (167 + j) = I 34 (0 + j)) → (∀ j, (j < 167 ∨ 167 + 167 ≤ j) → g j = I 36 j) → Q none n (ur I 36 g) J P) : Cj X d 0 0 mX10_copy [.ref 34, .int (nI 0), .ref 36, .int (nI 167)] n I J P Q := by
  refine Cj.intro rfl (Nat.le_of_ble_eq_true rfl) (L := [.ref 34, .int (nI 0), .ref 36, .int (nI 167), jU]) rfl ?_
  have loop : ∀ (r k : Nat) (g : Nat → Int32), k + r = 167 → (∀ j, j < k → g (167 + j) = I 34 (0 + j)) → (∀ j, (j < 167 ∨ 167 + 167 ≤ j) → g j = I 36 j) → Rj X d 0 0 mX10_copy Q 3 [.ref 34, .int (nI 0), .ref 36, .int (nI 167), .int (nI k)] [] n (ur I 36 g) J P := by
    intro r
    induction r with
    | zero =>
      intro k g hkr h0 hh
      refine j_iload dX10_copy_3 rfl rfl ?_
      refine j_sipush (v := nI 167) dX10_copy_5 rfl rfl ?_
      refine j_icmpgeN (tgt := 29) dX10_copy_8 rfl rfl (by omega) (by decide) (fun h1 => ?_) (fun h1 => by exfalso; omega)
      refine j_vret dX10_copy_29 rfl ?_
      exact hQ _ (fun j hj => h0 j (by omega)) hh
    | succ r ih =>
      intro k g hkr h0 hh
      refine j_iload dX10_copy_3 rfl rfl ?_
      refine j_sipush (v := nI 167) dX10_copy_5 rfl rfl ?_
      refine j_icmpgeN (tgt := 29) dX10_copy_8 rfl rfl (by omega) (by decide) (fun h1 => by exfalso; omega) (fun h1 => ?_)
      refine j_aload_n dX10_copy_11 rfl rfl rfl ?_
      refine j_iload_n dX10_copy_12 rfl rfl rfl ?_
      refine j_iload dX10_copy_13 rfl rfl ?_
      refine j_iaddN (c := 167 + k) dX10_copy_15 rfl rfl ?_
      refine j_aload_n dX10_copy_16 rfl rfl rfl ?_
      refine j_iload_n dX10_copy_17 rfl rfl rfl ?_
      refine j_iload dX10_copy_18 rfl rfl ?_
      refine j_iaddN (c := 0 + k) dX10_copy_20 rfl rfl ?_
      refine j_iald (j := 0 + k) (v := I 34 (0 + k)) dX10_copy_21 rfl rfl (by decide) rfl (by omega) (by decide) rfl ?_
      refine j_iast (j := 167 + k) dX10_copy_22 rfl rfl (by decide) rfl (by omega) (by decide) ?_
      refine j_iincN (L' := [.ref 34, .int (nI 0), .ref 36, .int (nI 167), .int (nI (k + 1))]) dX10_copy_23 rfl rfl (b := 1) rfl rfl rfl (by decide) rfl ?_
      refine j_goto (tgt := 3) dX10_copy_26 rfl ?_
      rw [u2_ur]
      refine ih (k + 1) _ (by omega) (fun j hj => ?_) (fun j hj => ?_)
      · show (if _ then _ else g _) = _
        by_cases e : j = k
        · rw [if_pos (by omega), e]; all_goals (first | rfl | (congr 1; omega))
        · rw [if_neg (by omega)]; exact h0 j (by omega)
      · show (if _ then _ else g _) = _
        rw [if_neg (by omega)]; exact hh j hj
  refine j_iconst (v := nI 0) dX10_copy_0 rfl rfl ?_
  refine j_istore (L' := [.ref 34, .int (nI 0), .ref 36, .int (nI 167), .int (nI 0)]) dX10_copy_1 rfl rfl (by decide) rfl ?_
  rw [← ur_self I 36]
  exact loop 167 0 _ (by omega) (fun k hk => absurd hk (Nat.not_lt_zero _)) (fun k hk => rfl)
set_option maxHeartbeats 4000000 in
set_option maxRecDepth 100000 in
theorem c_mcopy_36_0_34_0 {X : jX} {d n : Nat} {I : HI} {J : HJ} {P : HP} {Q : jPost}  (hQ : ∀ g, (∀ j, j < 167 → g (0 + j) = I 36 (0 + j)) → (∀ j, (j < 0 ∨ 0 + 167 ≤ j) → g j = I 34 j) → Q none n (ur I 34 g) J P) : Cj X d 0 0 mX10_copy [.ref 36, .int (nI 0), .ref 34, .int (nI 0)] n I J P Q := by
  refine Cj.intro rfl (Nat.le_of_ble_eq_true rfl) (L := [.ref 36, .int (nI 0), .ref 34, .int (nI 0), jU]) rfl ?_
  have loop : ∀ (r k : Nat) (g : Nat → Int32), k + r = 167 → (∀ j, j < k → g (0 + j) = I 36 (0 + j)) → (∀ j, (j < 0 ∨ 0 + 167 ≤ j) → g j = I 34 j) → Rj X d 0 0 mX10_copy Q 3 [.ref 36, .int (nI 0), .ref 34, .int (nI 0), .int (nI k)] [] n (ur I 34 g) J P := by
    intro r
    induction r with
    | zero =>
      intro k g hkr h0 hh
      refine j_iload dX10_copy_3 rfl rfl ?_
      refine j_sipush (v := nI 167) dX10_copy_5 rfl rfl ?_
      refine j_icmpgeN (tgt := 29) dX10_copy_8 rfl rfl (by omega) (by decide) (fun h1 => ?_) (fun h1 => by exfalso; omega)
      refine j_vret dX10_copy_29 rfl ?_
      exact hQ _ (fun j hj => h0 j (by omega)) hh
    | succ r ih =>
      intro k g hkr h0 hh
      refine j_iload dX10_copy_3 rfl rfl ?_
      refine j_sipush (v := nI 167) dX10_copy_5 rfl rfl ?_
      refine j_icmpgeN (tgt := 29) dX10_copy_8 rfl rfl (by omega) (by decide) (fun h1 => by exfalso; omega) (fun h1 => ?_)
      refine j_aload_n dX10_copy_11 rfl rfl rfl ?_
      refine j_iload_n dX10_copy_12 rfl rfl rfl ?_
      refine j_iload dX10_copy_13 rfl rfl ?_
      refine j_iaddN (c := 0 + k) dX10_copy_15 rfl rfl ?_
      refine j_aload_n dX10_copy_16 rfl rfl rfl ?_
      refine j_iload_n dX10_copy_17 rfl rfl rfl ?_
      refine j_iload dX10_copy_18 rfl rfl ?_
      refine j_iaddN (c := 0 + k) dX10_copy_20 rfl rfl ?_
      refine j_iald (j := 0 + k) (v := I 36 (0 + k)) dX10_copy_21 rfl rfl (by decide) rfl (by omega) (by decide) rfl ?_
      refine j_iast (j := 0 + k) dX10_copy_22 rfl rfl (by decide) rfl (by omega) (by decide) ?_
      refine j_iincN (L' := [.ref 36, .int (nI 0), .ref 34, .int (nI 0), .int (nI (k + 1))]) dX10_copy_23 rfl rfl (b := 1) rfl rfl rfl (by decide) rfl ?_
      refine j_goto (tgt := 3) dX10_copy_26 rfl ?_
      rw [u2_ur]
      refine ih (k + 1) _ (by omega) (fun j hj => ?_) (fun j hj => ?_)
      · show (if _ then _ else g _) = _
        by_cases e : j = k
        · rw [if_pos (by omega), e]; all_goals (first | rfl | (congr 1; omega))
        · rw [if_neg (by omega)]; exact h0 j (by omega)
      · show (if _ then _ else g _) = _
        rw [if_neg (by omega)]; exact hh j hj
  refine j_iconst (v := nI 0) dX10_copy_0 rfl rfl ?_
  refine j_istore (L' := [.ref 36, .int (nI 0), .ref 34, .int (nI 0), .int (nI 0)]) dX10_copy_1 rfl rfl (by decide) rfl ?_
  rw [← ur_self I 34]
  exact loop 167 0 _ (by omega) (fun k hk => absurd hk (Nat.not_lt_zero _)) (fun k hk => rfl)
set_option maxHeartbeats 4000000 in
set_option maxRecDepth 100000 in
theorem c_mcopy_36_167_34_0 {X : jX} {d n : Nat} {I : HI} {J : HJ} {P : HP} {Q : jPost}  (hQ : ∀ g, (∀ j, j < 167 → g (0 + j) = I 36 (167 + j)) → (∀ j, (j < 0 ∨ 0 + 167 ≤ j) → g j = I 34 j) → Q none n (ur I 34 g) J P) : Cj X d 0 0 mX10_copy [.ref 36, .int (nI 167), .ref 34, .int (nI 0)] n I J P Q := by
  refine Cj.intro rfl (Nat.le_of_ble_eq_true rfl) (L := [.ref 36, .int (nI 167), .ref 34, .int (nI 0), jU]) rfl ?_
  have loop : ∀ (r k : Nat) (g : Nat → Int32), k + r = 167 → (∀ j, j < k → g (0 + j) = I 36 (167 + j)) → (∀ j, (j < 0 ∨ 0 + 167 ≤ j) → g j = I 34 j) → Rj X d 0 0 mX10_copy Q 3 [.ref 36, .int (nI 167), .ref 34, .int (nI 0), .int (nI k)] [] n (ur I 34 g) J P := by
    intro r
    induction r with
    | zero =>
      intro k g hkr h0 hh
      refine j_iload dX10_copy_3 rfl rfl ?_
      refine j_sipush (v := nI 167) dX10_copy_5 rfl rfl ?_
      refine j_icmpgeN (tgt := 29) dX10_copy_8 rfl rfl (by omega) (by decide) (fun h1 => ?_) (fun h1 => by exfalso; omega)
      refine j_vret dX10_copy_29 rfl ?_
      exact hQ _ (fun j hj => h0 j (by omega)) hh
    | succ r ih =>
      intro k g hkr h0 hh
      refine j_iload dX10_copy_3 rfl rfl ?_
      refine j_sipush (v := nI 167) dX10_copy_5 rfl rfl ?_
      refine j_icmpgeN (tgt := 29) dX10_copy_8 rfl rfl (by omega) (by decide) (fun h1 => by exfalso; omega) (fun h1 => ?_)
      refine j_aload_n dX10_copy_11 rfl rfl rfl ?_
      refine j_iload_n dX10_copy_12 rfl rfl rfl ?_
      refine j_iload dX10_copy_13 rfl rfl ?_
      refine j_iaddN (c := 0 + k) dX10_copy_15 rfl rfl ?_
      refine j_aload_n dX10_copy_16 rfl rfl rfl ?_
      refine j_iload_n dX10_copy_17 rfl rfl rfl ?_
      refine j_iload dX10_copy_18 rfl rfl ?_
      refine j_iaddN (c := 167 + k) dX10_copy_20 rfl rfl ?_
      refine j_iald (j := 167 + k) (v := I 36 (167 + k)) dX10_copy_21 rfl rfl (by decide) rfl (by omega) (by decide) rfl ?_
      refine j_iast (j := 0 + k) dX10_copy_22 rfl rfl (by decide) rfl (by omega) (by decide) ?_
      refine j_iincN (L' := [.ref 36, .int (nI 167), .ref 34, .int (nI 0), .int (nI (k + 1))]) dX10_copy_23 rfl rfl (b := 1) rfl rfl rfl (by decide) rfl ?_
      refine j_goto (tgt := 3) dX10_copy_26 rfl ?_
      rw [u2_ur]
      refine ih (k + 1) _ (by omega) (fun j hj => ?_) (fun j hj => ?_)
      · show (if _ then _ else g _) = _
        by_cases e : j = k
        · rw [if_pos (by omega), e]
        · rw [if_neg (by omega)]; exact h0 j (by omega)
      · show (if _ then _ else g _) = _
        rw [if_neg (by omega)]; exact hh j hj
  refine j_iconst (v := nI 0) dX10_copy_0 rfl rfl ?_
  refine j_istore (L' := [.ref 36, .int (nI 167), .ref 34, .int (nI 0), .int (nI 0)]) dX10_copy_1 rfl rfl (by decide) rfl ?_
  rw [← ur_self I 34]
  exact loop 167 0 _ (by omega) (fun k hk => absurd hk (Nat.not_lt_zero _)) (fun k hk => rfl)
set_option maxHeartbeats 4000000 in
set_option maxRecDepth 100000 in
theorem c_mcopy_35_0_34_0 {X : jX} {d n : Nat} {I : HI} {J : HJ} {P : HP} {Q : jPost}  (hQ : ∀ g, (∀ j, j < 167 → g (0 + j) = I 35 (0 + j)) → (∀ j, (j < 0 ∨ 0 + 167 ≤ j) → g j = I 34 j) → Q none n (ur I 34 g) J P) : Cj X d 0 0 mX10_copy [.ref 35, .int (nI 0), .ref 34, .int (nI 0)] n I J P Q := by
  refine Cj.intro rfl (Nat.le_of_ble_eq_true rfl) (L := [.ref 35, .int (nI 0), .ref 34, .int (nI 0), jU]) rfl ?_
  have loop : ∀ (r k : Nat) (g : Nat → Int32), k + r = 167 → (∀ j, j < k → g (0 + j) = I 35 (0 + j)) → (∀ j, (j < 0 ∨ 0 + 167 ≤ j) → g j = I 34 j) → Rj X d 0 0 mX10_copy Q 3 [.ref 35, .int (nI 0), .ref 34, .int (nI 0), .int (nI k)] [] n (ur I 34 g) J P := by
    intro r
    induction r with
    | zero =>
      intro k g hkr h0 hh
      refine j_iload dX10_copy_3 rfl rfl ?_
      refine j_sipush (v := nI 167) dX10_copy_5 rfl rfl ?_
      refine j_icmpgeN (tgt := 29) dX10_copy_8 rfl rfl (by omega) (by decide) (fun h1 => ?_) (fun h1 => by exfalso; omega)
      refine j_vret dX10_copy_29 rfl ?_
      exact hQ _ (fun j hj => h0 j (by omega)) hh
    | succ r ih =>
      intro k g hkr h0 hh
      refine j_iload dX10_copy_3 rfl rfl ?_
      refine j_sipush (v := nI 167) dX10_copy_5 rfl rfl ?_
      refine j_icmpgeN (tgt := 29) dX10_copy_8 rfl rfl (by omega) (by decide) (fun h1 => by exfalso; omega) (fun h1 => ?_)
      refine j_aload_n dX10_copy_11 rfl rfl rfl ?_
      refine j_iload_n dX10_copy_12 rfl rfl rfl ?_
      refine j_iload dX10_copy_13 rfl rfl ?_
      refine j_iaddN (c := 0 + k) dX10_copy_15 rfl rfl ?_
      refine j_aload_n dX10_copy_16 rfl rfl rfl ?_
      refine j_iload_n dX10_copy_17 rfl rfl rfl ?_
      refine j_iload dX10_copy_18 rfl rfl ?_
      refine j_iaddN (c := 0 + k) dX10_copy_20 rfl rfl ?_
      refine j_iald (j := 0 + k) (v := I 35 (0 + k)) dX10_copy_21 rfl rfl (by decide) rfl (by omega) (by decide) rfl ?_
      refine j_iast (j := 0 + k) dX10_copy_22 rfl rfl (by decide) rfl (by omega) (by decide) ?_
      refine j_iincN (L' := [.ref 35, .int (nI 0), .ref 34, .int (nI 0), .int (nI (k + 1))]) dX10_copy_23 rfl rfl (b := 1) rfl rfl rfl (by decide) rfl ?_
      refine j_goto (tgt := 3) dX10_copy_26 rfl ?_
      rw [u2_ur]
      refine ih (k + 1) _ (by omega) (fun j hj => ?_) (fun j hj => ?_)
      · show (if _ then _ else g _) = _
        by_cases e : j = k
        · rw [if_pos (by omega), e]; all_goals (first | rfl | (congr 1; omega))
        · rw [if_neg (by omega)]; exact h0 j (by omega)
      · show (if _ then _ else g _) = _
        rw [if_neg (by omega)]; exact hh j hj
  refine j_iconst (v := nI 0) dX10_copy_0 rfl rfl ?_
  refine j_istore (L' := [.ref 35, .int (nI 0), .ref 34, .int (nI 0), .int (nI 0)]) dX10_copy_1 rfl rfl (by decide) rfl ?_
  rw [← ur_self I 34]
  exact loop 167 0 _ (by omega) (fun k hk => absurd hk (Nat.not_lt_zero _)) (fun k hk => rfl)
theorem MI.img {S : SS} {I I' : HI} {J : HJ} {a b : Option VT} (h : MI S I J) (he : ∀ c, c ≠ 36 → c ≠ 37 → I' c = I c) (h0 : mimK I' 0 a) (h1 : mimK I' 1 b) : MI (S.img a b) I' J := by
  refine ⟨h.1.congr (he 34 (by omega) (by omega)), ?_, ?_, h.2.2.2.1, h0, h1⟩
  · rw [he 33 (by omega) (by omega), he 38 (by omega) (by omega)]; exact h.2.1
  · rw [he 39 (by omega) (by omega)]; exact h.2.2.1
theorem mimK.keep {I I' : HI} {j : Nat} {k : Option VT} (h : mimK I j k) (hb : ∀ u, k = some u → u 0 3 ≤ 6 ∧ u 0 4 ≤ 8 ∧ u 0 5 ≤ 8 ∧ u 0 6 ≤ 8) (h6 : ∀ i, 167 * j ≤ i → i < 167 * j + 167 → I' 36 i = I 36 i) (h7 : I' 37 j = I 37 j) : mimK I' j k := by
  rcases h with ⟨a, b⟩ | ⟨u, a, b, c⟩
  · exact Or.inl ⟨a, by rw [h7]; exact b⟩
  · obtain ⟨q1, q2, q3, q4⟩ := hb u a
    exact Or.inr ⟨u, a, by rw [h7]; exact b, c.shift q1 q2 q3 q4 (fun k hk => h6 _ (by omega) (by omega))⟩
set_option maxHeartbeats 4000000 in
set_option maxRecDepth 100000 in
theorem g_image {X : jX} {d n : Nat} {I : HI} {J : HJ} {i0 i1 : Option Nat} {Q : jPost} {S : SS} {yb : Nat} (hm : MI S I J) (hW : WF yb S.v) (hyb : yb ≤ 2 ^ 12) {a : Int32} (hKb : ∀ u, (S.k0 = some u ∨ S.k1 = some u) → WF yb u) (hQ : MP Q (oImage S a) n I J (Pg i0 i1)) : Cj X (d + 1) 0 0 mX10_image [.ref 33, .int a] n I J (Pg i0 i1) Q := by
  refine Cj.intro rfl (Nat.le_of_ble_eq_true rfl) (L := [.ref 33, .int a]) rfl ?_
  obtain ⟨⟨w0, w1, w2, w3, w4, w5, w6⟩, wp, wk, wc, wb⟩ := id hW
  have hfw : ∀ u, (S.k0 = some u ∨ S.k1 = some u) → u 0 3 ≤ 6 ∧ u 0 4 ≤ 8 ∧ u 0 5 ≤ 8 ∧ u 0 6 ≤ 8 := fun u hu => ⟨(hKb u hu).1.2.2.2.1, (hKb u hu).1.2.2.2.2.1, (hKb u hu).1.2.2.2.2.2.1, (hKb u hu).1.2.2.2.2.2.2⟩
  by_cases ha : inR a (nI 0) (nI 1)
  · obtain ⟨ja, rfl, hal, hau⟩ := inR_nat (by decide) (by decide) ha
    rcases (show ja = 0 ∨ ja = 1 by omega) with rfl | rfl
    · skip
      refine j_iload_n dX10_image_0 rfl rfl rfl ?_
      refine j_iconst (v := nI 0) dX10_image_1 rfl rfl ?_
      refine j_iconst (v := nI 1) dX10_image_2 rfl rfl ?_
      refine j_callSw (As := [.int (nI 0), .int (nI 0), .int (nI 1)]) dX10_image_3 rfl cX10_50 rfl (by decide) rfl rfl (c_min (fun _ => ?_) (fun q => absurd ha q))
      show Rj _ _ _ _ _ _ 6 [.ref 33, .int (nI 0)] [.int (nI 1)] n I J (Pg i0 i1)
      refine j_ifneN (tgt := 16) dX10_image_6 rfl rfl (by decide) (fun h1 => ?_) (fun h1 => by exfalso; omega)
      refine j_aload_n dX10_image_16 rfl rfl rfl ?_
      refine j_getP (b := 34) dX10_image_17 rfl fX10_7 rfl (by decide) rfl rfl ?_
      refine j_iconst (v := nI 0) dX10_image_20 rfl rfl ?_
      refine j_aload_n dX10_image_21 rfl rfl rfl ?_
      refine j_getP (b := 36) dX10_image_22 rfl fX10_16 rfl (by decide) rfl rfl ?_
      refine j_sipush (v := nI 167) dX10_image_25 rfl rfl ?_
      refine j_iload_n dX10_image_28 rfl rfl rfl ?_
      refine j_imulN (c := 0) dX10_image_29 rfl rfl ?_
      refine j_callSw (As := [.ref 34, .int (nI 0), .ref 36, .int (nI 0)]) dX10_image_30 rfl cX10_119 rfl (by decide) rfl rfl (c_mcopy_34_0_36_0 (fun g hg hh => ?_))
      show Rj _ _ _ _ _ _ 33 [.ref 33, .int (nI 0)] [] n (ur I 36 g) J (Pg i0 i1)
      refine j_aload_n dX10_image_33 rfl rfl rfl ?_
      refine j_getP (b := 37) dX10_image_34 rfl fX10_19 rfl (by decide) rfl rfl ?_
      refine j_iload_n dX10_image_37 rfl rfl rfl ?_
      refine j_iconst (v := nI 1) dX10_image_38 rfl rfl ?_
      refine j_zast (j := 0) dX10_image_39 rfl rfl (by decide) rfl (by decide) (by decide) ?_
      refine j_iconst (v := nI 1) dX10_image_40 rfl rfl ?_
      refine j_iret dX10_image_41 rfl rfl ?_
      have e : oImage S (nI 0) = (S.img (some S.v) S.k1, nI 1) := by unfold oImage; rw [if_pos (by exact ha)]; rfl
      rw [e] at hQ
      refine hQ _ _ (hm.img (fun c h1 h2 => by rw [u2_ne _ _ _ h2, ur_ne _ _ h1]) (Or.inr ⟨S.v, rfl, u2_self _ _ _ _, hm.v.shift w3 w4 w5 w6 (fun k hk => by rw [u2_ne _ _ _ (by omega), ur_row]; exact hg k hk)⟩) ((hm.2.2.2.2.2.keep (fun u hu => hfw u (Or.inr hu)) (fun i k1 k2 => by rw [u2_ne _ _ _ (by omega), ur_row]; exact hh i (by omega)) (by rw [u2_ne2 _ _ _ (by omega), ur_ne _ _ (by omega)])))) (fun b hb => ⟨by rw [u2_ne _ _ _ (by omega), ur_ne _ _ (by omega)], rfl⟩)
    · skip
      refine j_iload_n dX10_image_0 rfl rfl rfl ?_
      refine j_iconst (v := nI 0) dX10_image_1 rfl rfl ?_
      refine j_iconst (v := nI 1) dX10_image_2 rfl rfl ?_
      refine j_callSw (As := [.int (nI 1), .int (nI 0), .int (nI 1)]) dX10_image_3 rfl cX10_50 rfl (by decide) rfl rfl (c_min (fun _ => ?_) (fun q => absurd ha q))
      show Rj _ _ _ _ _ _ 6 [.ref 33, .int (nI 1)] [.int (nI 1)] n I J (Pg i0 i1)
      refine j_ifneN (tgt := 16) dX10_image_6 rfl rfl (by decide) (fun h1 => ?_) (fun h1 => by exfalso; omega)
      refine j_aload_n dX10_image_16 rfl rfl rfl ?_
      refine j_getP (b := 34) dX10_image_17 rfl fX10_7 rfl (by decide) rfl rfl ?_
      refine j_iconst (v := nI 0) dX10_image_20 rfl rfl ?_
      refine j_aload_n dX10_image_21 rfl rfl rfl ?_
      refine j_getP (b := 36) dX10_image_22 rfl fX10_16 rfl (by decide) rfl rfl ?_
      refine j_sipush (v := nI 167) dX10_image_25 rfl rfl ?_
      refine j_iload_n dX10_image_28 rfl rfl rfl ?_
      refine j_imulN (c := 167) dX10_image_29 rfl rfl ?_
      refine j_callSw (As := [.ref 34, .int (nI 0), .ref 36, .int (nI 167)]) dX10_image_30 rfl cX10_119 rfl (by decide) rfl rfl (c_mcopy_34_0_36_167 (fun g hg hh => ?_))
      show Rj _ _ _ _ _ _ 33 [.ref 33, .int (nI 1)] [] n (ur I 36 g) J (Pg i0 i1)
      refine j_aload_n dX10_image_33 rfl rfl rfl ?_
      refine j_getP (b := 37) dX10_image_34 rfl fX10_19 rfl (by decide) rfl rfl ?_
      refine j_iload_n dX10_image_37 rfl rfl rfl ?_
      refine j_iconst (v := nI 1) dX10_image_38 rfl rfl ?_
      refine j_zast (j := 1) dX10_image_39 rfl rfl (by decide) rfl (by decide) (by decide) ?_
      refine j_iconst (v := nI 1) dX10_image_40 rfl rfl ?_
      refine j_iret dX10_image_41 rfl rfl ?_
      have e : oImage S (nI 1) = (S.img S.k0 (some S.v), nI 1) := by unfold oImage; rw [if_pos (by exact ha)]; rfl
      rw [e] at hQ
      refine hQ _ _ (hm.img (fun c h1 h2 => by rw [u2_ne _ _ _ h2, ur_ne _ _ h1]) ((hm.2.2.2.2.1.keep (fun u hu => hfw u (Or.inl hu)) (fun i k1 k2 => by rw [u2_ne _ _ _ (by omega), ur_row]; exact hh i (by omega)) (by rw [u2_ne2 _ _ _ (by omega), ur_ne _ _ (by omega)]))) (Or.inr ⟨S.v, rfl, u2_self _ _ _ _, hm.v.shift w3 w4 w5 w6 (fun k hk => by rw [u2_ne _ _ _ (by omega), ur_row]; exact hg k hk)⟩)) (fun b hb => ⟨by rw [u2_ne _ _ _ (by omega), ur_ne _ _ (by omega)], rfl⟩)
  · skip
    refine j_iload_n dX10_image_0 rfl rfl rfl ?_
    refine j_iconst (v := nI 0) dX10_image_1 rfl rfl ?_
    refine j_iconst (v := nI 1) dX10_image_2 rfl rfl ?_
    refine j_callSw (As := [.int a, .int (nI 0), .int (nI 1)]) dX10_image_3 rfl cX10_50 rfl (by decide) rfl rfl (c_min (fun q => absurd q ha) (fun _ => ?_))
    show Rj _ _ _ _ _ _ 6 [.ref 33, .int a] [.int (nI 0)] n I J (Pg i0 i1)
    refine j_ifneN (tgt := 16) dX10_image_6 rfl rfl (by decide) (fun h1 => by exfalso; omega) (fun h1 => ?_)
    refine j_aload_n dX10_image_9 rfl rfl rfl ?_
    refine j_bipush (v := (-2)) dX10_image_10 rfl rfl ?_
    refine j_callVw (As := [.int (-2)]) dX10_image_12 rfl cX10_54 (by decide) rfl rfl (by decide) rfl (by decide) rfl rfl (c_mbad ?_)
    show Rj _ _ _ _ _ _ 15 [.ref 33, .int a] [.int (-2)] n (u2 I 39 0 (I 39 0 + nI 1)) J (Pg i0 i1)
    refine j_iret dX10_image_15 rfl rfl ?_
    have e : oImage S a = (S.bad, -2) := by unfold oImage; rw [if_neg (by first | exact ha | exact fun q => ha q.1 | exact fun q => hb q.2 | exact fun q => hb q.2.1 | exact fun q => hc q.2.2 | exact fun q => ha q.1.1 | exact fun q => hb q.1.2.1 | exact fun q => q.1.2.2 (congrArg nI (by assumption)) | exact fun q => hc q.2.1 | exact fun q => he q.2.2)]
    rw [e] at hQ
    exact hQ _ _ hm.bad (CF.u2 (by omega) (by omega))
set_option maxHeartbeats 4000000 in
set_option maxRecDepth 100000 in
theorem g_from {X : jX} {d n : Nat} {I : HI} {J : HJ} {i0 i1 : Option Nat} {Q : jPost} {S : SS} {yb : Nat} (hm : MI S I J) (hW : WF yb S.v) (hyb : yb ≤ 2 ^ 12) {a : Int32} (hKb : ∀ u, (S.k0 = some u ∨ S.k1 = some u) → WF yb u) (hQ : MP Q (oFrom S a) n I J (Pg i0 i1)) : Cj X (d + 1) 0 0 mX10_from [.ref 33, .int a] n I J (Pg i0 i1) Q := by
  refine Cj.intro rfl (Nat.le_of_ble_eq_true rfl) (L := [.ref 33, .int a]) rfl ?_
  obtain ⟨⟨w0, w1, w2, w3, w4, w5, w6⟩, wp, wk, wc, wb⟩ := id hW
  have hfw : ∀ u, (S.k0 = some u ∨ S.k1 = some u) → u 0 3 ≤ 6 ∧ u 0 4 ≤ 8 ∧ u 0 5 ≤ 8 ∧ u 0 6 ≤ 8 := fun u hu => ⟨(hKb u hu).1.2.2.2.1, (hKb u hu).1.2.2.2.2.1, (hKb u hu).1.2.2.2.2.2.1, (hKb u hu).1.2.2.2.2.2.2⟩
  by_cases ha : inR a (nI 0) (nI 1)
  · obtain ⟨ja, rfl, hal, hau⟩ := inR_nat (by decide) (by decide) ha
    rcases (show ja = 0 ∨ ja = 1 by omega) with rfl | rfl
    · have hE : oFrom S (nI 0) = (match S.k0 with | some u => (S.set u, nI 1) | none => (S.no, -3)) := by unfold oFrom; rw [if_pos (by exact ha)]; rfl
      rw [hE] at hQ
      rcases hm.2.2.2.2.1 with ⟨hk, h37⟩ | ⟨u, hk, h37, hv⟩
      · rw [hk] at hQ
        refine j_iload_n dX10_from_0 rfl rfl rfl ?_
        refine j_iconst (v := nI 0) dX10_from_1 rfl rfl ?_
        refine j_iconst (v := nI 1) dX10_from_2 rfl rfl ?_
        refine j_callSw (As := [.int (nI 0), .int (nI 0), .int (nI 1)]) dX10_from_3 rfl cX10_50 rfl (by decide) rfl rfl (c_min (fun _ => ?_) (fun q => absurd ha q))
        show Rj _ _ _ _ _ _ 6 [.ref 33, .int (nI 0)] [.int (nI 1)] n I J (Pg i0 i1)
        refine j_ifneN (tgt := 16) dX10_from_6 rfl rfl (by decide) (fun h1 => ?_) (fun h1 => by exfalso; omega)
        refine j_aload_n dX10_from_16 rfl rfl rfl ?_
        refine j_getP (b := 37) dX10_from_17 rfl fX10_19 rfl (by decide) rfl rfl ?_
        refine j_iload_n dX10_from_20 rfl rfl rfl ?_
        refine j_zald (j := 0) (v := nI 0) dX10_from_21 rfl rfl (by decide) rfl (by decide) (by decide) h37 ?_
        refine j_ifneN (tgt := 32) dX10_from_22 rfl rfl (by decide) (fun h2 => by exfalso; omega) (fun h2 => ?_)
        refine j_aload_n dX10_from_25 rfl rfl rfl ?_
        refine j_bipush (v := (-3)) dX10_from_26 rfl rfl ?_
        refine j_callVw (As := [.int (-3)]) dX10_from_28 rfl cX10_54 (by decide) rfl rfl (by decide) rfl (by decide) rfl rfl (c_mno ?_)
        show Rj _ _ _ _ _ _ 31 [.ref 33, .int (nI 0)] [.int (-3)] n (u2 I 39 1 (I 39 1 + nI 1)) J (Pg i0 i1)
        refine j_iret dX10_from_31 rfl rfl ?_
        exact hQ _ _ hm.no (CF.u2 (by omega) (by omega))
      · rw [hk] at hQ
        obtain ⟨f3, f4, f5, f6⟩ := hfw u (Or.inl hk)
        refine j_iload_n dX10_from_0 rfl rfl rfl ?_
        refine j_iconst (v := nI 0) dX10_from_1 rfl rfl ?_
        refine j_iconst (v := nI 1) dX10_from_2 rfl rfl ?_
        refine j_callSw (As := [.int (nI 0), .int (nI 0), .int (nI 1)]) dX10_from_3 rfl cX10_50 rfl (by decide) rfl rfl (c_min (fun _ => ?_) (fun q => absurd ha q))
        show Rj _ _ _ _ _ _ 6 [.ref 33, .int (nI 0)] [.int (nI 1)] n I J (Pg i0 i1)
        refine j_ifneN (tgt := 16) dX10_from_6 rfl rfl (by decide) (fun h1 => ?_) (fun h1 => by exfalso; omega)
        refine j_aload_n dX10_from_16 rfl rfl rfl ?_
        refine j_getP (b := 37) dX10_from_17 rfl fX10_19 rfl (by decide) rfl rfl ?_
        refine j_iload_n dX10_from_20 rfl rfl rfl ?_
        refine j_zald (j := 0) (v := nI 1) dX10_from_21 rfl rfl (by decide) rfl (by decide) (by decide) h37 ?_
        refine j_ifneN (tgt := 32) dX10_from_22 rfl rfl (by decide) (fun h2 => ?_) (fun h2 => by exfalso; omega)
        refine j_aload_n dX10_from_32 rfl rfl rfl ?_
        refine j_getP (b := 36) dX10_from_33 rfl fX10_16 rfl (by decide) rfl rfl ?_
        refine j_sipush (v := nI 167) dX10_from_36 rfl rfl ?_
        refine j_iload_n dX10_from_39 rfl rfl rfl ?_
        refine j_imulN (c := 0) dX10_from_40 rfl rfl ?_
        refine j_aload_n dX10_from_41 rfl rfl rfl ?_
        refine j_getP (b := 34) dX10_from_42 rfl fX10_7 rfl (by decide) rfl rfl ?_
        refine j_iconst (v := nI 0) dX10_from_45 rfl rfl ?_
        refine j_callSw (As := [.ref 36, .int (nI 0), .ref 34, .int (nI 0)]) dX10_from_46 rfl cX10_119 rfl (by decide) rfl rfl (c_mcopy_36_0_34_0 (fun g hg hh => ?_))
        show Rj _ _ _ _ _ _ 49 [.ref 33, .int (nI 0)] [] n (ur I 34 g) J (Pg i0 i1)
        refine j_iconst (v := nI 1) dX10_from_49 rfl rfl ?_
        refine j_iret dX10_from_50 rfl rfl ?_
        exact hQ _ _ (hm.one (hv.shift f3 f4 f5 f6 (fun k hk => by rw [ur_row]; exact hg k hk)) (fun a ha => ur_ne _ _ ha)) (CF.ur (by omega) (by omega))
    · have hE : oFrom S (nI 1) = (match S.k1 with | some u => (S.set u, nI 1) | none => (S.no, -3)) := by unfold oFrom; rw [if_pos (by exact ha)]; rfl
      rw [hE] at hQ
      rcases hm.2.2.2.2.2 with ⟨hk, h37⟩ | ⟨u, hk, h37, hv⟩
      · rw [hk] at hQ
        refine j_iload_n dX10_from_0 rfl rfl rfl ?_
        refine j_iconst (v := nI 0) dX10_from_1 rfl rfl ?_
        refine j_iconst (v := nI 1) dX10_from_2 rfl rfl ?_
        refine j_callSw (As := [.int (nI 1), .int (nI 0), .int (nI 1)]) dX10_from_3 rfl cX10_50 rfl (by decide) rfl rfl (c_min (fun _ => ?_) (fun q => absurd ha q))
        show Rj _ _ _ _ _ _ 6 [.ref 33, .int (nI 1)] [.int (nI 1)] n I J (Pg i0 i1)
        refine j_ifneN (tgt := 16) dX10_from_6 rfl rfl (by decide) (fun h1 => ?_) (fun h1 => by exfalso; omega)
        refine j_aload_n dX10_from_16 rfl rfl rfl ?_
        refine j_getP (b := 37) dX10_from_17 rfl fX10_19 rfl (by decide) rfl rfl ?_
        refine j_iload_n dX10_from_20 rfl rfl rfl ?_
        refine j_zald (j := 1) (v := nI 0) dX10_from_21 rfl rfl (by decide) rfl (by decide) (by decide) h37 ?_
        refine j_ifneN (tgt := 32) dX10_from_22 rfl rfl (by decide) (fun h2 => by exfalso; omega) (fun h2 => ?_)
        refine j_aload_n dX10_from_25 rfl rfl rfl ?_
        refine j_bipush (v := (-3)) dX10_from_26 rfl rfl ?_
        refine j_callVw (As := [.int (-3)]) dX10_from_28 rfl cX10_54 (by decide) rfl rfl (by decide) rfl (by decide) rfl rfl (c_mno ?_)
        show Rj _ _ _ _ _ _ 31 [.ref 33, .int (nI 1)] [.int (-3)] n (u2 I 39 1 (I 39 1 + nI 1)) J (Pg i0 i1)
        refine j_iret dX10_from_31 rfl rfl ?_
        exact hQ _ _ hm.no (CF.u2 (by omega) (by omega))
      · rw [hk] at hQ
        obtain ⟨f3, f4, f5, f6⟩ := hfw u (Or.inr hk)
        refine j_iload_n dX10_from_0 rfl rfl rfl ?_
        refine j_iconst (v := nI 0) dX10_from_1 rfl rfl ?_
        refine j_iconst (v := nI 1) dX10_from_2 rfl rfl ?_
        refine j_callSw (As := [.int (nI 1), .int (nI 0), .int (nI 1)]) dX10_from_3 rfl cX10_50 rfl (by decide) rfl rfl (c_min (fun _ => ?_) (fun q => absurd ha q))
        show Rj _ _ _ _ _ _ 6 [.ref 33, .int (nI 1)] [.int (nI 1)] n I J (Pg i0 i1)
        refine j_ifneN (tgt := 16) dX10_from_6 rfl rfl (by decide) (fun h1 => ?_) (fun h1 => by exfalso; omega)
        refine j_aload_n dX10_from_16 rfl rfl rfl ?_
        refine j_getP (b := 37) dX10_from_17 rfl fX10_19 rfl (by decide) rfl rfl ?_
        refine j_iload_n dX10_from_20 rfl rfl rfl ?_
        refine j_zald (j := 1) (v := nI 1) dX10_from_21 rfl rfl (by decide) rfl (by decide) (by decide) h37 ?_
        refine j_ifneN (tgt := 32) dX10_from_22 rfl rfl (by decide) (fun h2 => ?_) (fun h2 => by exfalso; omega)
        refine j_aload_n dX10_from_32 rfl rfl rfl ?_
        refine j_getP (b := 36) dX10_from_33 rfl fX10_16 rfl (by decide) rfl rfl ?_
        refine j_sipush (v := nI 167) dX10_from_36 rfl rfl ?_
        refine j_iload_n dX10_from_39 rfl rfl rfl ?_
        refine j_imulN (c := 167) dX10_from_40 rfl rfl ?_
        refine j_aload_n dX10_from_41 rfl rfl rfl ?_
        refine j_getP (b := 34) dX10_from_42 rfl fX10_7 rfl (by decide) rfl rfl ?_
        refine j_iconst (v := nI 0) dX10_from_45 rfl rfl ?_
        refine j_callSw (As := [.ref 36, .int (nI 167), .ref 34, .int (nI 0)]) dX10_from_46 rfl cX10_119 rfl (by decide) rfl rfl (c_mcopy_36_167_34_0 (fun g hg hh => ?_))
        show Rj _ _ _ _ _ _ 49 [.ref 33, .int (nI 1)] [] n (ur I 34 g) J (Pg i0 i1)
        refine j_iconst (v := nI 1) dX10_from_49 rfl rfl ?_
        refine j_iret dX10_from_50 rfl rfl ?_
        exact hQ _ _ (hm.one (hv.shift f3 f4 f5 f6 (fun k hk => by rw [ur_row]; exact hg k hk)) (fun a ha => ur_ne _ _ ha)) (CF.ur (by omega) (by omega))
  · skip
    refine j_iload_n dX10_from_0 rfl rfl rfl ?_
    refine j_iconst (v := nI 0) dX10_from_1 rfl rfl ?_
    refine j_iconst (v := nI 1) dX10_from_2 rfl rfl ?_
    refine j_callSw (As := [.int a, .int (nI 0), .int (nI 1)]) dX10_from_3 rfl cX10_50 rfl (by decide) rfl rfl (c_min (fun q => absurd q ha) (fun _ => ?_))
    show Rj _ _ _ _ _ _ 6 [.ref 33, .int a] [.int (nI 0)] n I J (Pg i0 i1)
    refine j_ifneN (tgt := 16) dX10_from_6 rfl rfl (by decide) (fun h1 => by exfalso; omega) (fun h1 => ?_)
    refine j_aload_n dX10_from_9 rfl rfl rfl ?_
    refine j_bipush (v := (-2)) dX10_from_10 rfl rfl ?_
    refine j_callVw (As := [.int (-2)]) dX10_from_12 rfl cX10_54 (by decide) rfl rfl (by decide) rfl (by decide) rfl rfl (c_mbad ?_)
    show Rj _ _ _ _ _ _ 15 [.ref 33, .int a] [.int (-2)] n (u2 I 39 0 (I 39 0 + nI 1)) J (Pg i0 i1)
    refine j_iret dX10_from_15 rfl rfl ?_
    have e : oFrom S a = (S.bad, -2) := by unfold oFrom; rw [if_neg (by first | exact ha | exact fun q => ha q.1 | exact fun q => hb q.2 | exact fun q => hb q.2.1 | exact fun q => hc q.2.2 | exact fun q => ha q.1.1 | exact fun q => hb q.1.2.1 | exact fun q => q.1.2.2 (congrArg nI (by assumption)) | exact fun q => hc q.2.1 | exact fun q => he q.2.2)]
    rw [e] at hQ
    exact hQ _ _ hm.bad (CF.u2 (by omega) (by omega))
def gC (v : VT) (k : Nat) : Nat := if k % 3 = 0 then v 6 (k / 3) else if k % 3 = 1 then v 7 (k / 3) else v 8 (k / 3)
def dg1 (v : VT) : Nat → Nat → Int64 → Int64
  | 0, _, m => m
  | r + 1, k, m => dg1 v r (k + 1) (dgS m (lN (gC v k)))
theorem dg1_C (v : VT) : ∀ r p m, dg1 v (3 * r) (3 * p) m = dgC v r p m
  | 0, p, m => rfl
  | r + 1, p, m => by
    rw [show 3 * (r + 1) = 3 * r + 1 + 1 + 1 by omega]
    have g0 : gC v (3 * p) = v 6 p := by unfold gC; rw [if_pos (by omega), show 3 * p / 3 = p by omega]
    have g1 : gC v (3 * p + 1) = v 7 p := by unfold gC; rw [if_neg (by omega), if_pos (by omega), show (3 * p + 1) / 3 = p by omega]
    have g2 : gC v (3 * p + 1 + 1) = v 8 p := by unfold gC; rw [if_neg (by omega), if_neg (by omega), show (3 * p + 1 + 1) / 3 = p by omega]
    show dg1 v (3 * r) (3 * p + 1 + 1 + 1) (dgS (dgS (dgS m (lN (gC v (3 * p)))) (lN (gC v (3 * p + 1)))) (lN (gC v (3 * p + 1 + 1)))) = dgC v r (p + 1) (dgS (dgS (dgS m (lN (v 6 p))) (lN (v 7 p))) (lN (v 8 p)))
    rw [g0, g1, g2, show 3 * p + 1 + 1 + 1 = 3 * (p + 1) by omega, dg1_C v r (p + 1)]
theorem VM.gc {I : HI} {v : VT} (h : VM 34 0 I v) {k : Nat} (hk : k < 3 * v 0 5) : I 34 (39 + k) = nI (gC v k) := by
  have c := h.2.2.2.1 (k / 3) (by omega)
  unfold gC
  by_cases h0 : k % 3 = 0
  · rw [if_pos h0, ← c.1, show 39 + k = 0 + 39 + 3 * (k / 3) by omega]
  · rw [if_neg h0]
    by_cases h1 : k % 3 = 1
    · rw [if_pos h1, ← c.2.1, show 39 + k = 0 + 40 + 3 * (k / 3) by omega]
    · rw [if_neg h1, ← c.2.2, show 39 + k = 0 + 41 + 3 * (k / 3) by omega]
theorem gC_le {yb : Nat} {v : VT} (h : WF yb v) {k : Nat} (hk : k < 3 * v 0 5) : gC v k ≤ 60 := by
  have c := h.2.2.2.1 (k / 3) (by omega)
  have h3 := h.1.2.2.2.1
  unfold gC
  split
  · omega
  · split <;> omega
set_option maxHeartbeats 4000000 in
set_option maxRecDepth 100000 in
theorem c_madd {X : jX} {d n : Nat} {I : HI} {J : HJ} {i0 i1 : Option Nat} {Q : jPost} {mx x : Int64} (hQ : Q none n I (u2 J 33 22 (dgS mx x)) (Pg i0 i1)) : Cj X d 0 0 mX10_add [.ref 33, .long x] n I (u2 J 33 22 mx) (Pg i0 i1) Q := by
  refine Cj.intro rfl (Nat.le_of_ble_eq_true rfl) (L := [.ref 33, .long x, jU]) rfl ?_
  refine j_aload_n dX10_add_0 rfl rfl rfl ?_
  refine j_ldc2 (v := lN 31) dX10_add_1 rfl kX10_193 ?_
  refine j_aload_n dX10_add_4 rfl rfl rfl ?_
  refine j_getJv (v := mx) dX10_add_5 rfl fX10_195 rfl (by decide) rfl (u2_self _ _ _ _) ?_
  refine j_lmul dX10_add_8 rfl ?_
  refine j_lload_n dX10_add_9 rfl rfl rfl ?_
  refine j_ladd dX10_add_10 rfl ?_
  refine j_putJ dX10_add_11 rfl fX10_195 rfl (by decide) rfl rfl ?_
  refine j_vret dX10_add_14 rfl ?_
  rw [u2_u2]
  exact hQ
theorem cntV_ltM {S : SS} {I : HI} {J : HJ} {yb : Nat} (hm : MI S I J) (hW : WF yb S.v) (hyb : yb ≤ 2 ^ 12) (k : Nat) : cntV S k < 2 ^ 31 := by
  obtain ⟨⟨w0, w1, w2, w3, w4, w5, w6⟩, wp, wk, wc, wb⟩ := id hW
  have ht := hm.2.1.2.2.1
  have hs := sumN_60 (f := S.v 2) (S.v 0 3) (fun p hp => (wp p hp).2.1)
  unfold cntV
  split <;> omega
set_option maxHeartbeats 4000000 in
set_option maxRecDepth 100000 in
theorem g_digest {X : jX} {d n : Nat} {I : HI} {J : HJ} {i0 i1 : Option Nat} {Q : jPost} {S : SS} {yb : Nat} (hm : MI S I J) (hW : WF yb S.v) (hyb : yb ≤ 2 ^ 12) (hQ : MPL Q (S, oDigest S) n I J (Pg i0 i1)) : Cj X (d + 1) 0 0 mX10_digest [.ref 33] n I J (Pg i0 i1) Q := by
  refine Cj.intro rfl (Nat.le_of_ble_eq_true rfl) (L := [.ref 33, jU, jU]) rfl ?_
  obtain ⟨⟨w0, w1, w2, w3, w4, w5, w6⟩, wp, wk, wc, wb⟩ := id hW
  have l3 : ∀ (r k : Nat) (mx : Int64) (z2 : Value), k + r = 3 * S.v 0 5 → dgS (dgS (dg1 S.v r k mx) (lN S.up)) (lN S.lo) = oDigest S → Rj X (d + 1) 0 0 mX10_digest Q 137 [.ref 33, .int (nI k), z2] [] n I (u2 J 33 22 mx) (Pg i0 i1) := by
    intro r
    induction r with
    | zero =>
      intro k mx z2 hkr hT
      refine j_iload_n dX10_digest_137 rfl rfl rfl ?_
      refine j_iconst (v := nI 3) dX10_digest_138 rfl rfl ?_
      refine j_aload_n dX10_digest_139 rfl rfl rfl ?_
      refine j_getP (b := 34) dX10_digest_140 rfl fX10_7 rfl (by decide) rfl rfl ?_
      refine j_iconst (v := nI 5) dX10_digest_143 rfl rfl ?_
      refine j_iald (j := 5) (v := nI (S.v 0 5)) dX10_digest_144 rfl rfl (by decide) rfl (by decide) (by decide) hm.v.mc ?_
      refine j_imulN (c := 3 * (S.v 0 5)) dX10_digest_145 rfl rfl ?_
      refine j_icmpgeN (tgt := 169) dX10_digest_146 rfl rfl (by omega) (by omega) (fun h1 => ?_) (fun h1 => by exfalso; omega)
      refine j_aload_n dX10_digest_169 rfl rfl rfl ?_
      refine j_aload_n dX10_digest_170 rfl rfl rfl ?_
      refine j_getJv (v := lN S.up) dX10_digest_171 rfl fX10_170 rfl (by decide) rfl hm.2.2.2.1.1 ?_
      refine j_callVw (As := [.long (lN S.up)]) dX10_digest_174 rfl cX10_200 (by decide) rfl rfl (by decide) rfl (by decide) rfl rfl (c_madd ?_)
      show Rj _ _ _ _ _ _ 177 [.ref 33, .int (nI k), z2] [] n I (u2 J 33 22 (dgS mx (lN S.up))) (Pg i0 i1)
      refine j_aload_n dX10_digest_177 rfl rfl rfl ?_
      refine j_aload_n dX10_digest_178 rfl rfl rfl ?_
      refine j_getJv (v := lN S.lo) dX10_digest_179 rfl fX10_26 rfl (by decide) rfl hm.2.2.2.1.2 ?_
      refine j_callVw (As := [.long (lN S.lo)]) dX10_digest_182 rfl cX10_200 (by decide) rfl rfl (by decide) rfl (by decide) rfl rfl (c_madd ?_)
      show Rj _ _ _ _ _ _ 185 [.ref 33, .int (nI k), z2] [] n I (u2 J 33 22 (dgS (dgS mx (lN S.up)) (lN S.lo))) (Pg i0 i1)
      refine j_aload_n dX10_digest_185 rfl rfl rfl ?_
      refine j_getJv (v := (dgS (dgS mx (lN S.up)) (lN S.lo))) dX10_digest_186 rfl fX10_195 rfl (by decide) rfl (u2_self _ _ _ _) ?_
      refine j_lret dX10_digest_189 rfl ?_
      have hT : dgS (dgS mx (lN S.up)) (lN S.lo) = oDigest S := hT
      rw [← hT] at hQ
      have hM2 : MI S I (u2 J 33 22 (dgS (dgS mx (lN S.up)) (lN S.lo))) := hm.scr (fun _ _ _ _ => rfl) rfl (u2_ne2 _ _ _ (by omega)) (u2_ne2 _ _ _ (by omega))
      exact hQ _ _ hM2 (fun b hb => ⟨rfl, u2_ne _ _ _ (by omega)⟩)
    | succ r ih =>
      intro k mx z2 hkr hT
      have hgl := gC_le hW (show k < 3 * S.v 0 5 by omega)
      refine j_iload_n dX10_digest_137 rfl rfl rfl ?_
      refine j_iconst (v := nI 3) dX10_digest_138 rfl rfl ?_
      refine j_aload_n dX10_digest_139 rfl rfl rfl ?_
      refine j_getP (b := 34) dX10_digest_140 rfl fX10_7 rfl (by decide) rfl rfl ?_
      refine j_iconst (v := nI 5) dX10_digest_143 rfl rfl ?_
      refine j_iald (j := 5) (v := nI (S.v 0 5)) dX10_digest_144 rfl rfl (by decide) rfl (by decide) (by decide) hm.v.mc ?_
      refine j_imulN (c := 3 * (S.v 0 5)) dX10_digest_145 rfl rfl ?_
      refine j_icmpgeN (tgt := 169) dX10_digest_146 rfl rfl (by omega) (by omega) (fun h1 => by exfalso; omega) (fun h1 => ?_)
      refine j_aload_n dX10_digest_149 rfl rfl rfl ?_
      refine j_aload_n dX10_digest_150 rfl rfl rfl ?_
      refine j_getP (b := 34) dX10_digest_151 rfl fX10_7 rfl (by decide) rfl rfl ?_
      refine j_bipush (v := nI 39) dX10_digest_154 rfl rfl ?_
      refine j_iload_n dX10_digest_156 rfl rfl rfl ?_
      refine j_iaddN (c := 39 + k) dX10_digest_157 rfl rfl ?_
      refine j_iald (j := 39 + k) (v := nI (gC S.v k)) dX10_digest_158 rfl rfl (by decide) rfl (by omega) (by decide) (hm.v.gc (by omega)) ?_
      refine j_i2lN dX10_digest_159 rfl (by omega) ?_
      refine j_callVw (As := [.long (lN (gC S.v k))]) dX10_digest_160 rfl cX10_200 (by decide) rfl rfl (by decide) rfl (by decide) rfl rfl (c_madd ?_)
      show Rj _ _ _ _ _ _ 163 [.ref 33, .int (nI k), z2] [] n I (u2 J 33 22 (dgS mx (lN (gC S.v k)))) (Pg i0 i1)
      refine j_iincN (L' := [.ref 33, .int (nI (k + 1)), z2]) dX10_digest_163 rfl rfl (b := 1) rfl rfl rfl (by decide) rfl ?_
      refine j_goto (tgt := 137) dX10_digest_166 rfl ?_
      exact ih (k + 1) _ _ (by omega) hT
  have l2 : ∀ (r k : Nat) (mx : Int64) (z2 : Value), k + r = S.v 0 4 → dgS (dgS (dgC S.v (S.v 0 5) 0 (dgK S.v r k mx)) (lN S.up)) (lN S.lo) = oDigest S → Rj X (d + 1) 0 0 mX10_digest Q 105 [.ref 33, .int (nI k), z2] [] n I (u2 J 33 22 mx) (Pg i0 i1) := by
    intro r
    induction r with
    | zero =>
      intro k mx z2 hkr hT
      refine j_iload_n dX10_digest_105 rfl rfl rfl ?_
      refine j_aload_n dX10_digest_106 rfl rfl rfl ?_
      refine j_getP (b := 34) dX10_digest_107 rfl fX10_7 rfl (by decide) rfl rfl ?_
      refine j_iconst (v := nI 1) dX10_digest_110 rfl rfl ?_
      refine j_iald (j := 1) (v := nI (S.v 0 4)) dX10_digest_111 rfl rfl (by decide) rfl (by decide) (by decide) hm.v.mk ?_
      refine j_icmpgeN (tgt := 135) dX10_digest_112 rfl rfl (by omega) (by omega) (fun h1 => ?_) (fun h1 => by exfalso; omega)
      refine j_iconst (v := nI 0) dX10_digest_135 rfl rfl ?_
      refine j_istore_n (L' := [.ref 33, .int (nI 0), z2]) dX10_digest_136 rfl rfl rfl (by decide) rfl ?_
      exact l3 (3 * S.v 0 5) 0 mx _ (by omega) (by rw [show (0 : Nat) = 3 * 0 from rfl, dg1_C]; exact hT)
    | succ r ih =>
      intro k mx z2 hkr hT
      have hgl := wk k (by omega)
      refine j_iload_n dX10_digest_105 rfl rfl rfl ?_
      refine j_aload_n dX10_digest_106 rfl rfl rfl ?_
      refine j_getP (b := 34) dX10_digest_107 rfl fX10_7 rfl (by decide) rfl rfl ?_
      refine j_iconst (v := nI 1) dX10_digest_110 rfl rfl ?_
      refine j_iald (j := 1) (v := nI (S.v 0 4)) dX10_digest_111 rfl rfl (by decide) rfl (by decide) (by decide) hm.v.mk ?_
      refine j_icmpgeN (tgt := 135) dX10_digest_112 rfl rfl (by omega) (by omega) (fun h1 => by exfalso; omega) (fun h1 => ?_)
      refine j_aload_n dX10_digest_115 rfl rfl rfl ?_
      refine j_aload_n dX10_digest_116 rfl rfl rfl ?_
      refine j_getP (b := 34) dX10_digest_117 rfl fX10_7 rfl (by decide) rfl rfl ?_
      refine j_bipush (v := nI 31) dX10_digest_120 rfl rfl ?_
      refine j_iload_n dX10_digest_122 rfl rfl rfl ?_
      refine j_iaddN (c := 31 + k) dX10_digest_123 rfl rfl ?_
      refine j_iald (j := 31 + k) (v := nI (S.v 5 k)) dX10_digest_124 rfl rfl (by decide) rfl (by omega) (by decide) (hm.v.fl (by omega)) ?_
      refine j_i2lN dX10_digest_125 rfl (by omega) ?_
      refine j_callVw (As := [.long (lN (S.v 5 k))]) dX10_digest_126 rfl cX10_200 (by decide) rfl rfl (by decide) rfl (by decide) rfl rfl (c_madd ?_)
      show Rj _ _ _ _ _ _ 129 [.ref 33, .int (nI k), z2] [] n I (u2 J 33 22 (dgS mx (lN (S.v 5 k)))) (Pg i0 i1)
      refine j_iincN (L' := [.ref 33, .int (nI (k + 1)), z2]) dX10_digest_129 rfl rfl (b := 1) rfl rfl rfl (by decide) rfl ?_
      refine j_goto (tgt := 105) dX10_digest_132 rfl ?_
      exact ih (k + 1) _ _ (by omega) hT
  have l1 : ∀ (r p : Nat) (mx : Int64) (z2 : Value), p + r = S.v 0 3 → dgS (dgS (dgC S.v (S.v 0 5) 0 (dgK S.v (S.v 0 4) 0 (dgP S.v r p mx))) (lN S.up)) (lN S.lo) = oDigest S → Rj X (d + 1) 0 0 mX10_digest Q 55 [.ref 33, .int (nI p), z2] [] n I (u2 J 33 22 mx) (Pg i0 i1) := by
    intro r
    induction r with
    | zero =>
      intro p mx z2 hpr hT
      refine j_iload_n dX10_digest_55 rfl rfl rfl ?_
      refine j_aload_n dX10_digest_56 rfl rfl rfl ?_
      refine j_getP (b := 34) dX10_digest_57 rfl fX10_7 rfl (by decide) rfl rfl ?_
      refine j_iconst (v := nI 0) dX10_digest_60 rfl rfl ?_
      refine j_iald (j := 0) (v := nI (S.v 0 3)) dX10_digest_61 rfl rfl (by decide) rfl (by decide) (by decide) hm.v.mp ?_
      refine j_icmpgeN (tgt := 103) dX10_digest_62 rfl rfl (by omega) (by omega) (fun h1 => ?_) (fun h1 => by exfalso; omega)
      refine j_iconst (v := nI 0) dX10_digest_103 rfl rfl ?_
      refine j_istore_n (L' := [.ref 33, .int (nI 0), z2]) dX10_digest_104 rfl rfl rfl (by decide) rfl ?_
      exact l2 (S.v 0 4) 0 mx _ (by omega) hT
    | succ r ih =>
      intro p mx z2 hpr hT
      obtain ⟨q1, q2, q3, q4, q5⟩ := wp p (by omega)
      refine j_iload_n dX10_digest_55 rfl rfl rfl ?_
      refine j_aload_n dX10_digest_56 rfl rfl rfl ?_
      refine j_getP (b := 34) dX10_digest_57 rfl fX10_7 rfl (by decide) rfl rfl ?_
      refine j_iconst (v := nI 0) dX10_digest_60 rfl rfl ?_
      refine j_iald (j := 0) (v := nI (S.v 0 3)) dX10_digest_61 rfl rfl (by decide) rfl (by decide) (by decide) hm.v.mp ?_
      refine j_icmpgeN (tgt := 103) dX10_digest_62 rfl rfl (by omega) (by omega) (fun h1 => by exfalso; omega) (fun h1 => ?_)
      refine j_iconst (v := nI 0) dX10_digest_65 rfl rfl ?_
      refine j_istore_n (L' := [.ref 33, .int (nI p), .int (nI 0)]) dX10_digest_66 rfl rfl rfl (by decide) rfl ?_
      refine j_iload_n dX10_digest_67 rfl rfl rfl ?_
      refine j_iconst (v := nI 4) dX10_digest_68 rfl rfl ?_
      refine j_icmpgeN (tgt := 97) dX10_digest_69 rfl rfl (by decide) (by decide) (fun h2 => by exfalso; omega) (fun h2 => ?_)
      refine j_aload_n dX10_digest_72 rfl rfl rfl ?_
      refine j_aload_n dX10_digest_73 rfl rfl rfl ?_
      refine j_getP (b := 34) dX10_digest_74 rfl fX10_7 rfl (by decide) rfl rfl ?_
      refine j_bipush (v := nI 7) dX10_digest_77 rfl rfl ?_
      refine j_bipush (v := nI 6) dX10_digest_79 rfl rfl ?_
      refine j_iload_n dX10_digest_81 rfl rfl rfl ?_
      refine j_imulN (c := 0) dX10_digest_82 rfl rfl ?_
      refine j_iaddN (c := 7) dX10_digest_83 rfl rfl ?_
      refine j_iload_n dX10_digest_84 rfl rfl rfl ?_
      refine j_iaddN (c := 7 + p) dX10_digest_85 rfl rfl ?_
      refine j_iald (j := 7 + p) (v := nI (S.v 1 p)) dX10_digest_86 rfl rfl (by decide) rfl (by omega) (by decide) (hm.v.kd (by omega)) ?_
      refine j_i2lN dX10_digest_87 rfl (by omega) ?_
      refine j_callVw (As := [.long (lN (S.v 1 p))]) dX10_digest_88 rfl cX10_200 (by decide) rfl rfl (by decide) rfl (by decide) rfl rfl (c_madd ?_)
      show Rj _ _ _ _ _ _ 91 [.ref 33, .int (nI p), .int (nI 0)] [] n I (u2 J 33 22 (dgS mx (lN (S.v 1 p)))) (Pg i0 i1)
      refine j_iincN (L' := [.ref 33, .int (nI p), .int (nI 1)]) dX10_digest_91 rfl rfl (b := 1) rfl rfl rfl (by decide) rfl ?_
      refine j_goto (tgt := 67) dX10_digest_94 rfl ?_
      refine j_iload_n dX10_digest_67 rfl rfl rfl ?_
      refine j_iconst (v := nI 4) dX10_digest_68 rfl rfl ?_
      refine j_icmpgeN (tgt := 97) dX10_digest_69 rfl rfl (by decide) (by decide) (fun h3 => by exfalso; omega) (fun h3 => ?_)
      refine j_aload_n dX10_digest_72 rfl rfl rfl ?_
      refine j_aload_n dX10_digest_73 rfl rfl rfl ?_
      refine j_getP (b := 34) dX10_digest_74 rfl fX10_7 rfl (by decide) rfl rfl ?_
      refine j_bipush (v := nI 7) dX10_digest_77 rfl rfl ?_
      refine j_bipush (v := nI 6) dX10_digest_79 rfl rfl ?_
      refine j_iload_n dX10_digest_81 rfl rfl rfl ?_
      refine j_imulN (c := 6) dX10_digest_82 rfl rfl ?_
      refine j_iaddN (c := 13) dX10_digest_83 rfl rfl ?_
      refine j_iload_n dX10_digest_84 rfl rfl rfl ?_
      refine j_iaddN (c := 13 + p) dX10_digest_85 rfl rfl ?_
      refine j_iald (j := 13 + p) (v := nI (S.v 2 p)) dX10_digest_86 rfl rfl (by decide) rfl (by omega) (by decide) (hm.v.lv (by omega)) ?_
      refine j_i2lN dX10_digest_87 rfl (by omega) ?_
      refine j_callVw (As := [.long (lN (S.v 2 p))]) dX10_digest_88 rfl cX10_200 (by decide) rfl rfl (by decide) rfl (by decide) rfl rfl (c_madd ?_)
      show Rj _ _ _ _ _ _ 91 [.ref 33, .int (nI p), .int (nI 1)] [] n I (u2 J 33 22 (dgS (dgS mx (lN (S.v 1 p))) (lN (S.v 2 p)))) (Pg i0 i1)
      refine j_iincN (L' := [.ref 33, .int (nI p), .int (nI 2)]) dX10_digest_91 rfl rfl (b := 1) rfl rfl rfl (by decide) rfl ?_
      refine j_goto (tgt := 67) dX10_digest_94 rfl ?_
      refine j_iload_n dX10_digest_67 rfl rfl rfl ?_
      refine j_iconst (v := nI 4) dX10_digest_68 rfl rfl ?_
      refine j_icmpgeN (tgt := 97) dX10_digest_69 rfl rfl (by decide) (by decide) (fun h4 => by exfalso; omega) (fun h4 => ?_)
      refine j_aload_n dX10_digest_72 rfl rfl rfl ?_
      refine j_aload_n dX10_digest_73 rfl rfl rfl ?_
      refine j_getP (b := 34) dX10_digest_74 rfl fX10_7 rfl (by decide) rfl rfl ?_
      refine j_bipush (v := nI 7) dX10_digest_77 rfl rfl ?_
      refine j_bipush (v := nI 6) dX10_digest_79 rfl rfl ?_
      refine j_iload_n dX10_digest_81 rfl rfl rfl ?_
      refine j_imulN (c := 12) dX10_digest_82 rfl rfl ?_
      refine j_iaddN (c := 19) dX10_digest_83 rfl rfl ?_
      refine j_iload_n dX10_digest_84 rfl rfl rfl ?_
      refine j_iaddN (c := 19 + p) dX10_digest_85 rfl rfl ?_
      refine j_iald (j := 19 + p) (v := nI (S.v 3 p)) dX10_digest_86 rfl rfl (by decide) rfl (by omega) (by decide) (hm.v.sn (by omega)) ?_
      refine j_i2lN dX10_digest_87 rfl (by omega) ?_
      refine j_callVw (As := [.long (lN (S.v 3 p))]) dX10_digest_88 rfl cX10_200 (by decide) rfl rfl (by decide) rfl (by decide) rfl rfl (c_madd ?_)
      show Rj _ _ _ _ _ _ 91 [.ref 33, .int (nI p), .int (nI 2)] [] n I (u2 J 33 22 (dgS (dgS (dgS mx (lN (S.v 1 p))) (lN (S.v 2 p))) (lN (S.v 3 p)))) (Pg i0 i1)
      refine j_iincN (L' := [.ref 33, .int (nI p), .int (nI 3)]) dX10_digest_91 rfl rfl (b := 1) rfl rfl rfl (by decide) rfl ?_
      refine j_goto (tgt := 67) dX10_digest_94 rfl ?_
      refine j_iload_n dX10_digest_67 rfl rfl rfl ?_
      refine j_iconst (v := nI 4) dX10_digest_68 rfl rfl ?_
      refine j_icmpgeN (tgt := 97) dX10_digest_69 rfl rfl (by decide) (by decide) (fun h5 => by exfalso; omega) (fun h5 => ?_)
      refine j_aload_n dX10_digest_72 rfl rfl rfl ?_
      refine j_aload_n dX10_digest_73 rfl rfl rfl ?_
      refine j_getP (b := 34) dX10_digest_74 rfl fX10_7 rfl (by decide) rfl rfl ?_
      refine j_bipush (v := nI 7) dX10_digest_77 rfl rfl ?_
      refine j_bipush (v := nI 6) dX10_digest_79 rfl rfl ?_
      refine j_iload_n dX10_digest_81 rfl rfl rfl ?_
      refine j_imulN (c := 18) dX10_digest_82 rfl rfl ?_
      refine j_iaddN (c := 25) dX10_digest_83 rfl rfl ?_
      refine j_iload_n dX10_digest_84 rfl rfl rfl ?_
      refine j_iaddN (c := 25 + p) dX10_digest_85 rfl rfl ?_
      refine j_iald (j := 25 + p) (v := nI (S.v 4 p) - 1) dX10_digest_86 rfl rfl (by decide) rfl (by omega) (by decide) (hm.v.en (by omega)) ?_
      refine j_i2l dX10_digest_87 rfl ?_
      refine j_callVw (As := [.long ((nI (S.v 4 p) - 1 : Int32).toInt64)]) dX10_digest_88 rfl cX10_200 (by decide) rfl rfl (by decide) rfl (by decide) rfl rfl (c_madd ?_)
      show Rj _ _ _ _ _ _ 91 [.ref 33, .int (nI p), .int (nI 3)] [] n I (u2 J 33 22 (dgS (dgS (dgS (dgS mx (lN (S.v 1 p))) (lN (S.v 2 p))) (lN (S.v 3 p))) ((nI (S.v 4 p) - 1 : Int32).toInt64))) (Pg i0 i1)
      refine j_iincN (L' := [.ref 33, .int (nI p), .int (nI 4)]) dX10_digest_91 rfl rfl (b := 1) rfl rfl rfl (by decide) rfl ?_
      refine j_goto (tgt := 67) dX10_digest_94 rfl ?_
      refine j_iload_n dX10_digest_67 rfl rfl rfl ?_
      refine j_iconst (v := nI 4) dX10_digest_68 rfl rfl ?_
      refine j_icmpgeN (tgt := 97) dX10_digest_69 rfl rfl (by decide) (by decide) (fun h6 => ?_) (fun h6 => by exfalso; omega)
      refine j_iincN (L' := [.ref 33, .int (nI (p + 1)), .int (nI 4)]) dX10_digest_97 rfl rfl (b := 1) rfl rfl rfl (by decide) rfl ?_
      refine j_goto (tgt := 55) dX10_digest_100 rfl ?_
      exact ih (p + 1) _ _ (by omega) hT
  refine j_aload_n dX10_digest_0 rfl rfl rfl ?_
  refine j_ldc2 (v := lN 1049) dX10_digest_1 rfl kX10_198 ?_
  refine j_putJ dX10_digest_4 rfl fX10_195 rfl (by decide) rfl rfl ?_
  refine j_iconst (v := nI 0) dX10_digest_7 rfl rfl ?_
  refine j_istore_n (L' := [.ref 33, .int (nI 0), jU]) dX10_digest_8 rfl rfl rfl (by decide) rfl ?_
  have hm2 : MI S I (u2 J 33 22 (lN 1049)) := hm.scr (fun _ _ _ _ => rfl) rfl (u2_ne2 _ _ _ (by omega)) (u2_ne2 _ _ _ (by omega))
  refine j_iload_n dX10_digest_9 rfl rfl rfl ?_
  refine j_bipush (v := nI 7) dX10_digest_10 rfl rfl ?_
  refine j_icmpgeN (tgt := 31) dX10_digest_12 rfl rfl (by decide) (by decide) (fun h1 => by exfalso; omega) (fun h1 => ?_)
  refine j_aload_n dX10_digest_15 rfl rfl rfl ?_
  refine j_aload_n dX10_digest_16 rfl rfl rfl ?_
  refine j_iload_n dX10_digest_17 rfl rfl rfl ?_
  refine j_callVw (As := [.int (nI 0)]) dX10_digest_18 rfl cX10_190 (by decide) rfl rfl (by decide) rfl (by decide) rfl rfl (c_mcountOf hm2 hW hyb (by omega) ?_)
  have hcl0 := cntV_ltM hm hW hyb 0
  show Rj _ _ _ _ _ _ 21 [.ref 33, .int (nI 0), jU] [.int (nI (cntV S 0)), .ref 33] n I (u2 J 33 22 (lN 1049)) (Pg i0 i1)
  refine j_i2lN dX10_digest_21 rfl (by omega) ?_
  refine j_callVw (As := [.long (lN (cntV S 0))]) dX10_digest_22 rfl cX10_200 (by decide) rfl rfl (by decide) rfl (by decide) rfl rfl (c_madd ?_)
  show Rj _ _ _ _ _ _ 25 [.ref 33, .int (nI 0), jU] [] n I (u2 J 33 22 (dgS (lN 1049) (lN (cntV S 0)))) (Pg i0 i1)
  refine j_iincN (L' := [.ref 33, .int (nI 1), jU]) dX10_digest_25 rfl rfl (b := 1) rfl rfl rfl (by decide) rfl ?_
  refine j_goto (tgt := 9) dX10_digest_28 rfl ?_
  have hm2 : MI S I (u2 J 33 22 (dgS (lN 1049) (lN (cntV S 0)))) := hm.scr (fun _ _ _ _ => rfl) rfl (u2_ne2 _ _ _ (by omega)) (u2_ne2 _ _ _ (by omega))
  refine j_iload_n dX10_digest_9 rfl rfl rfl ?_
  refine j_bipush (v := nI 7) dX10_digest_10 rfl rfl ?_
  refine j_icmpgeN (tgt := 31) dX10_digest_12 rfl rfl (by decide) (by decide) (fun h2 => by exfalso; omega) (fun h2 => ?_)
  refine j_aload_n dX10_digest_15 rfl rfl rfl ?_
  refine j_aload_n dX10_digest_16 rfl rfl rfl ?_
  refine j_iload_n dX10_digest_17 rfl rfl rfl ?_
  refine j_callVw (As := [.int (nI 1)]) dX10_digest_18 rfl cX10_190 (by decide) rfl rfl (by decide) rfl (by decide) rfl rfl (c_mcountOf hm2 hW hyb (by omega) ?_)
  have hcl1 := cntV_ltM hm hW hyb 1
  show Rj _ _ _ _ _ _ 21 [.ref 33, .int (nI 1), jU] [.int (nI (cntV S 1)), .ref 33] n I (u2 J 33 22 (dgS (lN 1049) (lN (cntV S 0)))) (Pg i0 i1)
  refine j_i2lN dX10_digest_21 rfl (by omega) ?_
  refine j_callVw (As := [.long (lN (cntV S 1))]) dX10_digest_22 rfl cX10_200 (by decide) rfl rfl (by decide) rfl (by decide) rfl rfl (c_madd ?_)
  show Rj _ _ _ _ _ _ 25 [.ref 33, .int (nI 1), jU] [] n I (u2 J 33 22 (dgS (dgS (lN 1049) (lN (cntV S 0))) (lN (cntV S 1)))) (Pg i0 i1)
  refine j_iincN (L' := [.ref 33, .int (nI 2), jU]) dX10_digest_25 rfl rfl (b := 1) rfl rfl rfl (by decide) rfl ?_
  refine j_goto (tgt := 9) dX10_digest_28 rfl ?_
  have hm2 : MI S I (u2 J 33 22 (dgS (dgS (lN 1049) (lN (cntV S 0))) (lN (cntV S 1)))) := hm.scr (fun _ _ _ _ => rfl) rfl (u2_ne2 _ _ _ (by omega)) (u2_ne2 _ _ _ (by omega))
  refine j_iload_n dX10_digest_9 rfl rfl rfl ?_
  refine j_bipush (v := nI 7) dX10_digest_10 rfl rfl ?_
  refine j_icmpgeN (tgt := 31) dX10_digest_12 rfl rfl (by decide) (by decide) (fun h3 => by exfalso; omega) (fun h3 => ?_)
  refine j_aload_n dX10_digest_15 rfl rfl rfl ?_
  refine j_aload_n dX10_digest_16 rfl rfl rfl ?_
  refine j_iload_n dX10_digest_17 rfl rfl rfl ?_
  refine j_callVw (As := [.int (nI 2)]) dX10_digest_18 rfl cX10_190 (by decide) rfl rfl (by decide) rfl (by decide) rfl rfl (c_mcountOf hm2 hW hyb (by omega) ?_)
  have hcl2 := cntV_ltM hm hW hyb 2
  show Rj _ _ _ _ _ _ 21 [.ref 33, .int (nI 2), jU] [.int (nI (cntV S 2)), .ref 33] n I (u2 J 33 22 (dgS (dgS (lN 1049) (lN (cntV S 0))) (lN (cntV S 1)))) (Pg i0 i1)
  refine j_i2lN dX10_digest_21 rfl (by omega) ?_
  refine j_callVw (As := [.long (lN (cntV S 2))]) dX10_digest_22 rfl cX10_200 (by decide) rfl rfl (by decide) rfl (by decide) rfl rfl (c_madd ?_)
  show Rj _ _ _ _ _ _ 25 [.ref 33, .int (nI 2), jU] [] n I (u2 J 33 22 (dgS (dgS (dgS (lN 1049) (lN (cntV S 0))) (lN (cntV S 1))) (lN (cntV S 2)))) (Pg i0 i1)
  refine j_iincN (L' := [.ref 33, .int (nI 3), jU]) dX10_digest_25 rfl rfl (b := 1) rfl rfl rfl (by decide) rfl ?_
  refine j_goto (tgt := 9) dX10_digest_28 rfl ?_
  have hm2 : MI S I (u2 J 33 22 (dgS (dgS (dgS (lN 1049) (lN (cntV S 0))) (lN (cntV S 1))) (lN (cntV S 2)))) := hm.scr (fun _ _ _ _ => rfl) rfl (u2_ne2 _ _ _ (by omega)) (u2_ne2 _ _ _ (by omega))
  refine j_iload_n dX10_digest_9 rfl rfl rfl ?_
  refine j_bipush (v := nI 7) dX10_digest_10 rfl rfl ?_
  refine j_icmpgeN (tgt := 31) dX10_digest_12 rfl rfl (by decide) (by decide) (fun h4 => by exfalso; omega) (fun h4 => ?_)
  refine j_aload_n dX10_digest_15 rfl rfl rfl ?_
  refine j_aload_n dX10_digest_16 rfl rfl rfl ?_
  refine j_iload_n dX10_digest_17 rfl rfl rfl ?_
  refine j_callVw (As := [.int (nI 3)]) dX10_digest_18 rfl cX10_190 (by decide) rfl rfl (by decide) rfl (by decide) rfl rfl (c_mcountOf hm2 hW hyb (by omega) ?_)
  have hcl3 := cntV_ltM hm hW hyb 3
  show Rj _ _ _ _ _ _ 21 [.ref 33, .int (nI 3), jU] [.int (nI (cntV S 3)), .ref 33] n I (u2 J 33 22 (dgS (dgS (dgS (lN 1049) (lN (cntV S 0))) (lN (cntV S 1))) (lN (cntV S 2)))) (Pg i0 i1)
  refine j_i2lN dX10_digest_21 rfl (by omega) ?_
  refine j_callVw (As := [.long (lN (cntV S 3))]) dX10_digest_22 rfl cX10_200 (by decide) rfl rfl (by decide) rfl (by decide) rfl rfl (c_madd ?_)
  show Rj _ _ _ _ _ _ 25 [.ref 33, .int (nI 3), jU] [] n I (u2 J 33 22 (dgS (dgS (dgS (dgS (lN 1049) (lN (cntV S 0))) (lN (cntV S 1))) (lN (cntV S 2))) (lN (cntV S 3)))) (Pg i0 i1)
  refine j_iincN (L' := [.ref 33, .int (nI 4), jU]) dX10_digest_25 rfl rfl (b := 1) rfl rfl rfl (by decide) rfl ?_
  refine j_goto (tgt := 9) dX10_digest_28 rfl ?_
  have hm2 : MI S I (u2 J 33 22 (dgS (dgS (dgS (dgS (lN 1049) (lN (cntV S 0))) (lN (cntV S 1))) (lN (cntV S 2))) (lN (cntV S 3)))) := hm.scr (fun _ _ _ _ => rfl) rfl (u2_ne2 _ _ _ (by omega)) (u2_ne2 _ _ _ (by omega))
  refine j_iload_n dX10_digest_9 rfl rfl rfl ?_
  refine j_bipush (v := nI 7) dX10_digest_10 rfl rfl ?_
  refine j_icmpgeN (tgt := 31) dX10_digest_12 rfl rfl (by decide) (by decide) (fun h5 => by exfalso; omega) (fun h5 => ?_)
  refine j_aload_n dX10_digest_15 rfl rfl rfl ?_
  refine j_aload_n dX10_digest_16 rfl rfl rfl ?_
  refine j_iload_n dX10_digest_17 rfl rfl rfl ?_
  refine j_callVw (As := [.int (nI 4)]) dX10_digest_18 rfl cX10_190 (by decide) rfl rfl (by decide) rfl (by decide) rfl rfl (c_mcountOf hm2 hW hyb (by omega) ?_)
  have hcl4 := cntV_ltM hm hW hyb 4
  show Rj _ _ _ _ _ _ 21 [.ref 33, .int (nI 4), jU] [.int (nI (cntV S 4)), .ref 33] n I (u2 J 33 22 (dgS (dgS (dgS (dgS (lN 1049) (lN (cntV S 0))) (lN (cntV S 1))) (lN (cntV S 2))) (lN (cntV S 3)))) (Pg i0 i1)
  refine j_i2lN dX10_digest_21 rfl (by omega) ?_
  refine j_callVw (As := [.long (lN (cntV S 4))]) dX10_digest_22 rfl cX10_200 (by decide) rfl rfl (by decide) rfl (by decide) rfl rfl (c_madd ?_)
  show Rj _ _ _ _ _ _ 25 [.ref 33, .int (nI 4), jU] [] n I (u2 J 33 22 (dgS (dgS (dgS (dgS (dgS (lN 1049) (lN (cntV S 0))) (lN (cntV S 1))) (lN (cntV S 2))) (lN (cntV S 3))) (lN (cntV S 4)))) (Pg i0 i1)
  refine j_iincN (L' := [.ref 33, .int (nI 5), jU]) dX10_digest_25 rfl rfl (b := 1) rfl rfl rfl (by decide) rfl ?_
  refine j_goto (tgt := 9) dX10_digest_28 rfl ?_
  have hm2 : MI S I (u2 J 33 22 (dgS (dgS (dgS (dgS (dgS (lN 1049) (lN (cntV S 0))) (lN (cntV S 1))) (lN (cntV S 2))) (lN (cntV S 3))) (lN (cntV S 4)))) := hm.scr (fun _ _ _ _ => rfl) rfl (u2_ne2 _ _ _ (by omega)) (u2_ne2 _ _ _ (by omega))
  refine j_iload_n dX10_digest_9 rfl rfl rfl ?_
  refine j_bipush (v := nI 7) dX10_digest_10 rfl rfl ?_
  refine j_icmpgeN (tgt := 31) dX10_digest_12 rfl rfl (by decide) (by decide) (fun h6 => by exfalso; omega) (fun h6 => ?_)
  refine j_aload_n dX10_digest_15 rfl rfl rfl ?_
  refine j_aload_n dX10_digest_16 rfl rfl rfl ?_
  refine j_iload_n dX10_digest_17 rfl rfl rfl ?_
  refine j_callVw (As := [.int (nI 5)]) dX10_digest_18 rfl cX10_190 (by decide) rfl rfl (by decide) rfl (by decide) rfl rfl (c_mcountOf hm2 hW hyb (by omega) ?_)
  have hcl5 := cntV_ltM hm hW hyb 5
  show Rj _ _ _ _ _ _ 21 [.ref 33, .int (nI 5), jU] [.int (nI (cntV S 5)), .ref 33] n I (u2 J 33 22 (dgS (dgS (dgS (dgS (dgS (lN 1049) (lN (cntV S 0))) (lN (cntV S 1))) (lN (cntV S 2))) (lN (cntV S 3))) (lN (cntV S 4)))) (Pg i0 i1)
  refine j_i2lN dX10_digest_21 rfl (by omega) ?_
  refine j_callVw (As := [.long (lN (cntV S 5))]) dX10_digest_22 rfl cX10_200 (by decide) rfl rfl (by decide) rfl (by decide) rfl rfl (c_madd ?_)
  show Rj _ _ _ _ _ _ 25 [.ref 33, .int (nI 5), jU] [] n I (u2 J 33 22 (dgS (dgS (dgS (dgS (dgS (dgS (lN 1049) (lN (cntV S 0))) (lN (cntV S 1))) (lN (cntV S 2))) (lN (cntV S 3))) (lN (cntV S 4))) (lN (cntV S 5)))) (Pg i0 i1)
  refine j_iincN (L' := [.ref 33, .int (nI 6), jU]) dX10_digest_25 rfl rfl (b := 1) rfl rfl rfl (by decide) rfl ?_
  refine j_goto (tgt := 9) dX10_digest_28 rfl ?_
  have hm2 : MI S I (u2 J 33 22 (dgS (dgS (dgS (dgS (dgS (dgS (lN 1049) (lN (cntV S 0))) (lN (cntV S 1))) (lN (cntV S 2))) (lN (cntV S 3))) (lN (cntV S 4))) (lN (cntV S 5)))) := hm.scr (fun _ _ _ _ => rfl) rfl (u2_ne2 _ _ _ (by omega)) (u2_ne2 _ _ _ (by omega))
  refine j_iload_n dX10_digest_9 rfl rfl rfl ?_
  refine j_bipush (v := nI 7) dX10_digest_10 rfl rfl ?_
  refine j_icmpgeN (tgt := 31) dX10_digest_12 rfl rfl (by decide) (by decide) (fun h7 => by exfalso; omega) (fun h7 => ?_)
  refine j_aload_n dX10_digest_15 rfl rfl rfl ?_
  refine j_aload_n dX10_digest_16 rfl rfl rfl ?_
  refine j_iload_n dX10_digest_17 rfl rfl rfl ?_
  refine j_callVw (As := [.int (nI 6)]) dX10_digest_18 rfl cX10_190 (by decide) rfl rfl (by decide) rfl (by decide) rfl rfl (c_mcountOf hm2 hW hyb (by omega) ?_)
  have hcl6 := cntV_ltM hm hW hyb 6
  show Rj _ _ _ _ _ _ 21 [.ref 33, .int (nI 6), jU] [.int (nI (cntV S 6)), .ref 33] n I (u2 J 33 22 (dgS (dgS (dgS (dgS (dgS (dgS (lN 1049) (lN (cntV S 0))) (lN (cntV S 1))) (lN (cntV S 2))) (lN (cntV S 3))) (lN (cntV S 4))) (lN (cntV S 5)))) (Pg i0 i1)
  refine j_i2lN dX10_digest_21 rfl (by omega) ?_
  refine j_callVw (As := [.long (lN (cntV S 6))]) dX10_digest_22 rfl cX10_200 (by decide) rfl rfl (by decide) rfl (by decide) rfl rfl (c_madd ?_)
  show Rj _ _ _ _ _ _ 25 [.ref 33, .int (nI 6), jU] [] n I (u2 J 33 22 (dgS (dgS (dgS (dgS (dgS (dgS (dgS (lN 1049) (lN (cntV S 0))) (lN (cntV S 1))) (lN (cntV S 2))) (lN (cntV S 3))) (lN (cntV S 4))) (lN (cntV S 5))) (lN (cntV S 6)))) (Pg i0 i1)
  refine j_iincN (L' := [.ref 33, .int (nI 7), jU]) dX10_digest_25 rfl rfl (b := 1) rfl rfl rfl (by decide) rfl ?_
  refine j_goto (tgt := 9) dX10_digest_28 rfl ?_
  have hm2 : MI S I (u2 J 33 22 (dgS (dgS (dgS (dgS (dgS (dgS (dgS (lN 1049) (lN (cntV S 0))) (lN (cntV S 1))) (lN (cntV S 2))) (lN (cntV S 3))) (lN (cntV S 4))) (lN (cntV S 5))) (lN (cntV S 6)))) := hm.scr (fun _ _ _ _ => rfl) rfl (u2_ne2 _ _ _ (by omega)) (u2_ne2 _ _ _ (by omega))
  refine j_iload_n dX10_digest_9 rfl rfl rfl ?_
  refine j_bipush (v := nI 7) dX10_digest_10 rfl rfl ?_
  refine j_icmpgeN (tgt := 31) dX10_digest_12 rfl rfl (by decide) (by decide) (fun h8 => ?_) (fun h8 => by exfalso; omega)
  refine j_aload_n dX10_digest_31 rfl rfl rfl ?_
  refine j_aload_n dX10_digest_32 rfl rfl rfl ?_
  refine j_getP (b := 34) dX10_digest_33 rfl fX10_7 rfl (by decide) rfl rfl ?_
  refine j_iconst (v := nI 3) dX10_digest_36 rfl rfl ?_
  refine j_iald (j := 3) (v := nI (S.v 0 1)) dX10_digest_37 rfl rfl (by decide) rfl (by decide) (by decide) hm.v.ma ?_
  refine j_i2lN dX10_digest_38 rfl (by omega) ?_
  refine j_callVw (As := [.long (lN (S.v 0 1))]) dX10_digest_39 rfl cX10_200 (by decide) rfl rfl (by decide) rfl (by decide) rfl rfl (c_madd ?_)
  show Rj _ _ _ _ _ _ 42 [.ref 33, .int (nI 7), jU] [] n I (u2 J 33 22 (dgS (dgS (dgS (dgS (dgS (dgS (dgS (dgS (lN 1049) (lN (cntV S 0))) (lN (cntV S 1))) (lN (cntV S 2))) (lN (cntV S 3))) (lN (cntV S 4))) (lN (cntV S 5))) (lN (cntV S 6))) (lN (S.v 0 1)))) (Pg i0 i1)
  refine j_aload_n dX10_digest_42 rfl rfl rfl ?_
  refine j_aload_n dX10_digest_43 rfl rfl rfl ?_
  refine j_getP (b := 34) dX10_digest_44 rfl fX10_7 rfl (by decide) rfl rfl ?_
  refine j_iconst (v := nI 4) dX10_digest_47 rfl rfl ?_
  refine j_iald (j := 4) (v := nI (S.v 0 2)) dX10_digest_48 rfl rfl (by decide) rfl (by decide) (by decide) hm.v.mr ?_
  refine j_i2lN dX10_digest_49 rfl (by omega) ?_
  refine j_callVw (As := [.long (lN (S.v 0 2))]) dX10_digest_50 rfl cX10_200 (by decide) rfl rfl (by decide) rfl (by decide) rfl rfl (c_madd ?_)
  show Rj _ _ _ _ _ _ 53 [.ref 33, .int (nI 7), jU] [] n I (u2 J 33 22 (dgS (dgS (dgS (dgS (dgS (dgS (dgS (dgS (dgS (lN 1049) (lN (cntV S 0))) (lN (cntV S 1))) (lN (cntV S 2))) (lN (cntV S 3))) (lN (cntV S 4))) (lN (cntV S 5))) (lN (cntV S 6))) (lN (S.v 0 1))) (lN (S.v 0 2)))) (Pg i0 i1)
  refine j_iconst (v := nI 0) dX10_digest_53 rfl rfl ?_
  refine j_istore_n (L' := [.ref 33, .int (nI 0), jU]) dX10_digest_54 rfl rfl rfl (by decide) rfl ?_
  exact l1 (S.v 0 3) 0 _ _ (by omega) rfl
