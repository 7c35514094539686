/-! tokens -/
theorem u2_u2 {α : Type} (I : Nat → Nat → α) (a k : Nat) (v w : α) : u2 (u2 I a k v) a k w = u2 I a k w := by
  funext b j
  by_cases h : b = a <;> by_cases h2 : j = k <;> simp [u2, h, h2]
theorem u2_id {α : Type} (I : Nat → Nat → α) (a k : Nat) {v : α} (h : I a k = v) : u2 I a k v = I := by
  funext b j
  by_cases e : b = a
  · by_cases e2 : j = k
    · subst e; subst e2; simp [u2, h]
    · simp [u2, e, e2]
  · simp [u2, e]
/-- where a run of signs between lo and hi ends -/
def runE (tx : Nat → Nat) (tl lo hi : Nat) : Nat → Nat → Nat
  | 0, i => i
  | r + 1, i => if i < tl ∧ lo ≤ tx i ∧ tx i ≤ hi then runE tx tl lo hi r (i + 1) else i
theorem runE_ge (tx : Nat → Nat) (tl lo hi : Nat) : ∀ r i, i ≤ runE tx tl lo hi r i ∧ runE tx tl lo hi r i ≤ i + r
  | 0, i => ⟨Nat.le_refl _, Nat.le_refl _⟩
  | r + 1, i => by
    have := runE_ge tx tl lo hi r (i + 1)
    unfold runE
    split <;> omega
theorem runE_in (tx : Nat → Nat) (tl lo hi : Nat) : ∀ r i j, i ≤ j → j < runE tx tl lo hi r i → lo ≤ tx j ∧ tx j ≤ hi
  | 0, i, j, h1, h2 => absurd h2 (by simp only [runE]; omega)
  | r + 1, i, j, h1, h2 => by
    unfold runE at h2
    split at h2
    · next q =>
      by_cases e : j = i
      · subst e; exact q.2
      · exact runE_in tx tl lo hi r (i + 1) j (by omega) h2
    · omega
theorem runE_out (tx : Nat → Nat) (tl lo hi : Nat) : ∀ r i, i + r = tl → runE tx tl lo hi r i < tl → ¬ (lo ≤ tx (runE tx tl lo hi r i) ∧ tx (runE tx tl lo hi r i) ≤ hi)
  | 0, i, h1, h2 => absurd h2 (by simp only [runE]; omega)
  | r + 1, i, h1, h2 => by
    unfold runE at h2 ⊢
    split
    · next q =>
      rw [if_pos q] at h2
      exact runE_out tx tl lo hi r (i + 1) (by omega) h2
    · next q =>
      intro z
      exact q ⟨by omega, z⟩
def numV (tx : Nat → Nat) : Nat → Nat → Nat → Nat
  | 0, _, a => a
  | r + 1, i, a => numV tx r (i + 1) (10 * a + tx i - 48)
/-- the token at f (behind blanks): its kind (0 the end, 1 a word, 2 a number, 3 a semicolon, 4 none), where it ends, its number -/
def tkE (tx : Nat → Nat) (tl f : Nat) : Nat := if tl ≤ f then f else if 97 ≤ tx f ∧ tx f ≤ 122 then runE tx tl 97 122 (tl - f) f else if 48 ≤ tx f ∧ tx f ≤ 57 then runE tx tl 48 57 (tl - f) f else f + 1
def tkK (tx : Nat → Nat) (tl f : Nat) : Nat := if tl ≤ f then 0 else if 97 ≤ tx f ∧ tx f ≤ 122 then 1 else if 48 ≤ tx f ∧ tx f ≤ 57 then (if tkE tx tl f - f ≤ 2 then 2 else 4) else if tx f = 59 then 3 else 4
def tkN (tx : Nat → Nat) (tl f : Nat) : Nat := numV tx (tkE tx tl f - f) f 0
def tkF (tx : Nat → Nat) (tl b : Nat) : Nat := runE tx tl 32 32 (tl - b) b
theorem tkF_le {tx : Nat → Nat} {tl b : Nat} (h : b ≤ tl) : b ≤ tkF tx tl b ∧ tkF tx tl b ≤ tl := by
  have := runE_ge tx tl 32 32 (tl - b) b
  unfold tkF
  omega
theorem tkE_le {tx : Nat → Nat} {tl f : Nat} (h : f ≤ tl) : f ≤ tkE tx tl f ∧ tkE tx tl f ≤ tl ∧ (f < tl → f < tkE tx tl f) := by
  unfold tkE
  by_cases h1 : tl ≤ f
  · rw [if_pos h1]; omega
  · rw [if_neg h1]
    have hr : tl - f = (tl - f - 1) + 1 := by omega
    split
    · next q =>
      have := runE_ge tx tl 97 122 (tl - f - 1) (f + 1)
      rw [hr, runE, if_pos ⟨by omega, q⟩]
      omega
    · split
      · next q =>
        have := runE_ge tx tl 48 57 (tl - f - 1) (f + 1)
        rw [hr, runE, if_pos ⟨by omega, q⟩]
        omega
      · omega
/-- the text -/
def RS (I : HI) (tl : Nat) (tx : Nat → Nat) : Prop := I 13 1 = nI tl ∧ (∀ i, i < tl → I 14 i = nI (tx i)) ∧ tl ≤ 150 ∧ ∀ i, i < tl → tx i ≤ 127
/-- the token that stands now; nm counts only where it is a number -/
def TS (I : HI) (tk f b nm : Nat) : Prop := I 13 3 = nI tk ∧ I 13 4 = nI f ∧ I 13 5 = nI b ∧ (tk = 2 → I 13 6 = nI nm)
def Rst (I I' : HI) : Prop := (∀ a, a ≠ 13 → I' a = I a) ∧ I' 13 1 = I 13 1
theorem Rst.rf {I : HI} : Rst I I := ⟨fun _ _ => rfl, rfl⟩
theorem Rst.trans {I I1 I2 : HI} (h : Rst I I1) (h2 : Rst I1 I2) : Rst I I2 := ⟨fun a ha => (h2.1 a ha).trans (h.1 a ha), h2.2.trans h.2⟩
theorem RS.next {I I' : HI} {tl : Nat} {tx : Nat → Nat} (h : RS I tl tx) (hr : Rst I I') : RS I' tl tx := ⟨hr.2.trans h.1, by rw [hr.1 14 (by omega)]; exact h.2.1, h.2.2⟩
theorem Rst.put {I : HI} {k : Nat} {x : Int32} (hk : k ≠ 1) : Rst I (u2 I 13 k x) := ⟨fun _ ha => u2_ne _ _ _ ha, u2_ne2 _ _ _ (Ne.symm hk)⟩
set_option maxHeartbeats 4000000 in
set_option maxRecDepth 100000 in
theorem c_takeRun {X : jX} {d n : Nat} {I : HI} {J : HJ} {i0 i1 : Option Nat} {Q : jPost} {tl : Nat} {tx : Nat → Nat} (hR : RS I tl tx) {lo hi b : Nat} (hb : I 13 5 = nI b) (hbl : b ≤ tl) (hlo : lo ≤ 127) (hhi : hi ≤ 127) (hQ : Q none n (u2 I 13 5 (nI (runE tx tl lo hi (tl - b) b))) J (Pg i0 i1)) : Cj X d 0 0 mX6_takeRun [.ref 13, .int (nI lo), .int (nI hi)] n I J (Pg i0 i1) Q := by
  refine Cj.intro rfl (Nat.le_of_ble_eq_true rfl) (L := [.ref 13, .int (nI lo), .int (nI hi)]) rfl ?_
  obtain ⟨-, -, h150, h127⟩ := id hR
  generalize hT : runE tx tl lo hi (tl - b) b = T at hQ
  have loop : ∀ r b : Nat, b + r = tl → runE tx tl lo hi r b = T → Rj X d 0 0 mX6_takeRun Q 0 [.ref 13, .int (nI lo), .int (nI hi)] [] n (u2 I 13 5 (nI b)) J (Pg i0 i1) := by
    intro r
    induction r with
    | zero =>
      intro b hbr hr
      refine j_aload_n dX6_takeRun_0 rfl rfl rfl ?_
      refine j_getIv (v := nI b) dX6_takeRun_1 rfl fX6_32 rfl (by decide) rfl rfl ?_
      refine j_aload_n dX6_takeRun_4 rfl rfl rfl ?_
      refine j_getIv (v := nI tl) dX6_takeRun_5 rfl fX6_15 rfl (by decide) rfl hR.1 ?_
      refine j_icmpgeN (tgt := 50) dX6_takeRun_8 rfl rfl (by omega) (by omega) (fun h1 => ?_) (fun h1 => by exfalso; omega)
      refine j_vret dX6_takeRun_50 rfl ?_
      simp only [runE] at hr
      subst hr; exact hQ
    | succ r ih =>
      intro b hbr hr
      have h7 := h127 b (by omega)
      refine j_aload_n dX6_takeRun_0 rfl rfl rfl ?_
      refine j_getIv (v := nI b) dX6_takeRun_1 rfl fX6_32 rfl (by decide) rfl rfl ?_
      refine j_aload_n dX6_takeRun_4 rfl rfl rfl ?_
      refine j_getIv (v := nI tl) dX6_takeRun_5 rfl fX6_15 rfl (by decide) rfl hR.1 ?_
      refine j_icmpgeN (tgt := 50) dX6_takeRun_8 rfl rfl (by omega) (by omega) (fun h1 => by exfalso; omega) (fun h1 => ?_)
      refine j_aload_n dX6_takeRun_11 rfl rfl rfl ?_
      refine j_getP (b := 14) dX6_takeRun_12 rfl fX6_9 rfl (by decide) rfl rfl ?_
      refine j_aload_n dX6_takeRun_15 rfl rfl rfl ?_
      refine j_getIv (v := nI b) dX6_takeRun_16 rfl fX6_32 rfl (by decide) rfl rfl ?_
      refine j_bald (j := b) (v := nI (tx b)) dX6_takeRun_19 rfl rfl (by decide) rfl (by omega) (by decide) (hR.2.1 b (by omega)) ?_
      refine j_iload_n dX6_takeRun_20 rfl rfl rfl ?_
      refine j_icmpltN (tgt := 50) dX6_takeRun_21 rfl rfl (by omega) (by omega) (fun h2 => ?_) (fun h2 => ?_)
      · refine j_vret dX6_takeRun_50 rfl ?_
        unfold runE at hr
        rw [if_neg (by omega)] at hr
        subst hr; exact hQ
      · refine j_aload_n dX6_takeRun_24 rfl rfl rfl ?_
        refine j_getP (b := 14) dX6_takeRun_25 rfl fX6_9 rfl (by decide) rfl rfl ?_
        refine j_aload_n dX6_takeRun_28 rfl rfl rfl ?_
        refine j_getIv (v := nI b) dX6_takeRun_29 rfl fX6_32 rfl (by decide) rfl rfl ?_
        refine j_bald (j := b) (v := nI (tx b)) dX6_takeRun_32 rfl rfl (by decide) rfl (by omega) (by decide) (hR.2.1 b (by omega)) ?_
        refine j_iload_n dX6_takeRun_33 rfl rfl rfl ?_
        refine j_icmpgtN (tgt := 50) dX6_takeRun_34 rfl rfl (by omega) (by omega) (fun h3 => ?_) (fun h3 => ?_)
        · refine j_vret dX6_takeRun_50 rfl ?_
          unfold runE at hr
          rw [if_neg (by omega)] at hr
          subst hr; exact hQ
        · refine j_aload_n dX6_takeRun_37 rfl rfl rfl ?_
          refine j_dup dX6_takeRun_38 rfl rfl ?_
          refine j_getIv (v := nI b) dX6_takeRun_39 rfl fX6_32 rfl (by decide) rfl rfl ?_
          refine j_iconst (v := nI 1) dX6_takeRun_42 rfl rfl ?_
          refine j_iaddN (c := b + 1) dX6_takeRun_43 rfl rfl ?_
          refine j_putI dX6_takeRun_44 rfl fX6_32 rfl (by decide) rfl rfl ?_
          refine j_goto (tgt := 0) dX6_takeRun_47 rfl ?_
          rw [u2_u2]
          refine ih (b + 1) (by omega) ?_
          rw [← hr]; conv => rhs; unfold runE
          rw [if_pos ⟨by omega, by omega, by omega⟩]
  rw [← u2_id I 13 5 hb]
  exact loop (tl - b) b (by omega) hT
set_option maxHeartbeats 4000000 in
set_option maxRecDepth 100000 in
theorem c_setNumber2 {X : jX} {d n : Nat} {I : HI} {J : HJ} {i0 i1 : Option Nat} {Q : jPost} {tl : Nat} {tx : Nat → Nat} (hR : RS I tl tx) {f e : Nat} (hf : I 13 4 = nI f) (he : I 13 5 = nI e) (hfe : f ≤ e) (hel : e ≤ tl) (hdg : ∀ i, f ≤ i → i < e → 48 ≤ tx i ∧ tx i ≤ 57) (h2 : e - f ≤ 2) (hQ : Q none n (u2 (u2 I 13 3 (nI 2)) 13 6 (nI (numV tx (e - f) f 0))) J (Pg i0 i1)) : Cj X d 0 0 mX6_setNumber [.ref 13] n I J (Pg i0 i1) Q := by
  refine Cj.intro rfl (Nat.le_of_ble_eq_true rfl) (L := [.ref 13, jU]) rfl ?_
  obtain ⟨-, -, h150, h127⟩ := id hR
  generalize hT : numV tx (e - f) f 0 = T at hQ
  have hQ2 := hQ
  have loop : ∀ r i nm : Nat, i + r = e → f ≤ i → numV tx r i nm = T → Rj X d 0 0 mX6_setNumber Q 32 [.ref 13, .int (nI i)] [] n (u2 (u2 I 13 3 (nI 2)) 13 6 (nI nm)) J (Pg i0 i1) := by
    intro r
    induction r with
    | zero =>
      intro i nm hir hfi hr
      refine j_iload_n dX6_setNumber_32 rfl rfl rfl ?_
      refine j_aload_n dX6_setNumber_33 rfl rfl rfl ?_
      refine j_getIv (v := nI e) dX6_setNumber_34 rfl fX6_32 rfl (by decide) rfl he ?_
      refine j_icmpgeN (tgt := 75) dX6_setNumber_37 rfl rfl (by omega) (by omega) (fun h1 => ?_) (fun h1 => by exfalso; omega)
      refine j_vret dX6_setNumber_75 rfl ?_
      simp only [numV] at hr
      subst hr; exact hQ2
    | succ r ih =>
      intro i nm hir hfi hr
      have hd := hdg i (by omega) (by omega)
      refine j_iload_n dX6_setNumber_32 rfl rfl rfl ?_
      refine j_aload_n dX6_setNumber_33 rfl rfl rfl ?_
      refine j_getIv (v := nI e) dX6_setNumber_34 rfl fX6_32 rfl (by decide) rfl he ?_
      refine j_icmpgeN (tgt := 75) dX6_setNumber_37 rfl rfl (by omega) (by omega) (fun h1 => by exfalso; omega) (fun h1 => ?_)
      refine j_aload_n dX6_setNumber_40 rfl rfl rfl ?_
      refine j_getIv (v := nI 2) dX6_setNumber_41 rfl fX6_26 rfl (by decide) rfl rfl ?_
      refine j_iconst (v := nI 2) dX6_setNumber_44 rfl rfl ?_
      refine j_icmpneN (tgt := 75) dX6_setNumber_45 rfl rfl (by decide) (by decide) (fun h2 => by exfalso; omega) (fun h2 => ?_)
      refine j_aload_n dX6_setNumber_48 rfl rfl rfl ?_
      refine j_bipush (v := nI 10) dX6_setNumber_49 rfl rfl ?_
      refine j_aload_n dX6_setNumber_51 rfl rfl rfl ?_
      refine j_getIv (v := nI nm) dX6_setNumber_52 rfl fX6_35 rfl (by decide) rfl rfl ?_
      refine j_imulN (c := 10 * nm) dX6_setNumber_55 rfl rfl ?_
      refine j_aload_n dX6_setNumber_56 rfl rfl rfl ?_
      refine j_getP (b := 14) dX6_setNumber_57 rfl fX6_9 rfl (by decide) rfl rfl ?_
      refine j_iload_n dX6_setNumber_60 rfl rfl rfl ?_
      refine j_bald (j := i) (v := nI (tx i)) dX6_setNumber_61 rfl rfl (by decide) rfl (by omega) (by decide) (hR.2.1 i (by omega)) ?_
      refine j_iaddN (c := (10 * nm) + (tx i)) dX6_setNumber_62 rfl rfl ?_
      refine j_bipush (v := nI 48) dX6_setNumber_63 rfl rfl ?_
      refine j_isubN (c := ((10 * nm) + (tx i)) - 48) dX6_setNumber_65 rfl (by omega) rfl ?_
      refine j_putI dX6_setNumber_66 rfl fX6_35 rfl (by decide) rfl rfl ?_
      refine j_iincN (L' := [.ref 13, .int (nI (i + 1))]) dX6_setNumber_69 rfl rfl (b := 1) rfl rfl rfl (by decide) rfl ?_
      refine j_goto (tgt := 32) dX6_setNumber_72 rfl ?_
      rw [u2_u2]
      exact ih (i + 1) _ (by omega) (by omega) hr
  refine j_aload_n dX6_setNumber_0 rfl rfl rfl ?_
  refine j_aload_n dX6_setNumber_1 rfl rfl rfl ?_
  refine j_getIv (v := nI e) dX6_setNumber_2 rfl fX6_32 rfl (by decide) rfl he ?_
  refine j_aload_n dX6_setNumber_5 rfl rfl rfl ?_
  refine j_getIv (v := nI f) dX6_setNumber_6 rfl fX6_29 rfl (by decide) rfl hf ?_
  refine j_isubN (c := e - f) dX6_setNumber_9 rfl (by omega) rfl ?_
  refine j_iconst (v := nI 2) dX6_setNumber_10 rfl rfl ?_
  refine j_icmpgtN (tgt := 18) dX6_setNumber_11 rfl rfl (by omega) (by decide) (fun h1 => by exfalso; omega) (fun h1 => ?_)
  refine j_iconst (v := nI 2) dX6_setNumber_14 rfl rfl ?_
  refine j_goto (tgt := 19) dX6_setNumber_15 rfl ?_
  refine j_putI dX6_setNumber_19 rfl fX6_26 rfl (by decide) rfl rfl ?_
  refine j_aload_n dX6_setNumber_22 rfl rfl rfl ?_
  refine j_iconst (v := nI 0) dX6_setNumber_23 rfl rfl ?_
  refine j_putI dX6_setNumber_24 rfl fX6_35 rfl (by decide) rfl rfl ?_
  refine j_aload_n dX6_setNumber_27 rfl rfl rfl ?_
  refine j_getIv (v := nI f) dX6_setNumber_28 rfl fX6_29 rfl (by decide) rfl hf ?_
  refine j_istore_n (L' := [.ref 13, .int (nI f)]) dX6_setNumber_31 rfl rfl rfl (by decide) rfl ?_
  exact loop (e - f) f 0 (by omega) (Nat.le_refl _) hT
set_option maxHeartbeats 4000000 in
set_option maxRecDepth 100000 in
theorem c_setNumber4 {X : jX} {d n : Nat} {I : HI} {J : HJ} {i0 i1 : Option Nat} {Q : jPost} {tl : Nat} {tx : Nat → Nat} (hR : RS I tl tx) {f e : Nat} (hf : I 13 4 = nI f) (he : I 13 5 = nI e) (hfe : f ≤ e) (hel : e ≤ tl) (hdg : ∀ i, f ≤ i → i < e → 48 ≤ tx i ∧ tx i ≤ 57) (h2 : ¬ e - f ≤ 2) (hQ : Q none n (u2 (u2 I 13 3 (nI 4)) 13 6 (nI 0)) J (Pg i0 i1)) : Cj X d 0 0 mX6_setNumber [.ref 13] n I J (Pg i0 i1) Q := by
  refine Cj.intro rfl (Nat.le_of_ble_eq_true rfl) (L := [.ref 13, jU]) rfl ?_
  obtain ⟨-, -, h150, h127⟩ := id hR
  refine j_aload_n dX6_setNumber_0 rfl rfl rfl ?_
  refine j_aload_n dX6_setNumber_1 rfl rfl rfl ?_
  refine j_getIv (v := nI e) dX6_setNumber_2 rfl fX6_32 rfl (by decide) rfl he ?_
  refine j_aload_n dX6_setNumber_5 rfl rfl rfl ?_
  refine j_getIv (v := nI f) dX6_setNumber_6 rfl fX6_29 rfl (by decide) rfl hf ?_
  refine j_isubN (c := e - f) dX6_setNumber_9 rfl (by omega) rfl ?_
  refine j_iconst (v := nI 2) dX6_setNumber_10 rfl rfl ?_
  refine j_icmpgtN (tgt := 18) dX6_setNumber_11 rfl rfl (by omega) (by decide) (fun h1 => ?_) (fun h1 => by exfalso; omega)
  refine j_iconst (v := nI 4) dX6_setNumber_18 rfl rfl ?_
  refine j_putI dX6_setNumber_19 rfl fX6_26 rfl (by decide) rfl rfl ?_
  refine j_aload_n dX6_setNumber_22 rfl rfl rfl ?_
  refine j_iconst (v := nI 0) dX6_setNumber_23 rfl rfl ?_
  refine j_putI dX6_setNumber_24 rfl fX6_35 rfl (by decide) rfl rfl ?_
  refine j_aload_n dX6_setNumber_27 rfl rfl rfl ?_
  refine j_getIv (v := nI f) dX6_setNumber_28 rfl fX6_29 rfl (by decide) rfl hf ?_
  refine j_istore_n (L' := [.ref 13, .int (nI f)]) dX6_setNumber_31 rfl rfl rfl (by decide) rfl ?_
  refine j_iload_n dX6_setNumber_32 rfl rfl rfl ?_
  refine j_aload_n dX6_setNumber_33 rfl rfl rfl ?_
  refine j_getIv (v := nI e) dX6_setNumber_34 rfl fX6_32 rfl (by decide) rfl he ?_
  refine j_icmpgeN (tgt := 75) dX6_setNumber_37 rfl rfl (by omega) (by omega) (fun h2 => by exfalso; omega) (fun h2 => ?_)
  refine j_aload_n dX6_setNumber_40 rfl rfl rfl ?_
  refine j_getIv (v := nI 4) dX6_setNumber_41 rfl fX6_26 rfl (by decide) rfl rfl ?_
  refine j_iconst (v := nI 2) dX6_setNumber_44 rfl rfl ?_
  refine j_icmpneN (tgt := 75) dX6_setNumber_45 rfl rfl (by decide) (by decide) (fun h3 => ?_) (fun h3 => by exfalso; omega)
  refine j_vret dX6_setNumber_75 rfl ?_
  exact hQ
set_option maxHeartbeats 4000000 in
set_option maxRecDepth 100000 in
theorem c_takeToken {X : jX} {d n : Nat} {I : HI} {J : HJ} {i0 i1 : Option Nat} {Q : jPost} {tl : Nat} {tx : Nat → Nat} (hR : RS I tl tx) {b : Nat} (hb : I 13 5 = nI b) (hbl : b ≤ tl) (hQ : ∀ I', TS I' (tkK tx tl (tkF tx tl b)) (tkF tx tl b) (tkE tx tl (tkF tx tl b)) (tkN tx tl (tkF tx tl b)) → Rst I I' → Q none n I' J (Pg i0 i1)) : Cj X (d + 1) 0 0 mX6_takeToken [.ref 13] n I J (Pg i0 i1) Q := by
  refine Cj.intro rfl (Nat.le_of_ble_eq_true rfl) (L := [.ref 13]) rfl ?_
  obtain ⟨-, -, h150, h127⟩ := id hR
  refine j_aload_n dX6_takeToken_0 rfl rfl rfl ?_
  refine j_bipush (v := nI 32) dX6_takeToken_1 rfl rfl ?_
  refine j_bipush (v := nI 32) dX6_takeToken_3 rfl rfl ?_
  refine j_callVw (As := [.int (nI 32), .int (nI 32)]) dX6_takeToken_5 rfl cX6_111 (by decide) rfl rfl (by decide) rfl (by decide) rfl rfl (c_takeRun hR hb (by omega) (by decide) (by decide) ?_)
  show Rj _ _ _ _ _ _ 8 [.ref 13] [] n (u2 I 13 5 (nI (runE tx tl 32 32 (tl - b) b))) J (Pg i0 i1)
  refine j_aload_n dX6_takeToken_8 rfl rfl rfl ?_
  refine j_aload_n dX6_takeToken_9 rfl rfl rfl ?_
  refine j_getIv (v := nI (runE tx tl 32 32 (tl - b) b)) dX6_takeToken_10 rfl fX6_32 rfl (by decide) rfl rfl ?_
  refine j_putI dX6_takeToken_13 rfl fX6_29 rfl (by decide) rfl rfl ?_
  obtain ⟨f, hfd⟩ : ∃ f, tkF tx tl b = f := ⟨_, rfl⟩
  have hfl := tkF_le (tx := tx) hbl
  rw [hfd] at hfl hQ
  have hfd2 : runE tx tl 32 32 (tl - b) b = f := hfd
  rw [hfd2]
  have hR2 : RS (u2 (u2 I 13 5 (nI f)) 13 4 (nI f)) tl tx := hR.next ((Rst.put (by omega)).trans (Rst.put (by omega)))
  have hEl := tkE_le (tx := tx) hfl.2
  refine j_aload_n dX6_takeToken_16 rfl rfl rfl ?_
  refine j_getIv (v := nI f) dX6_takeToken_17 rfl fX6_32 rfl (by decide) rfl rfl ?_
  refine j_aload_n dX6_takeToken_20 rfl rfl rfl ?_
  refine j_getIv (v := nI tl) dX6_takeToken_21 rfl fX6_15 rfl (by decide) rfl hR.1 ?_
  refine j_icmpltN (tgt := 35) dX6_takeToken_24 rfl rfl (by omega) (by omega) (fun h1 => ?_) (fun h1 => ?_)
  · have h7 := h127 f (by omega)
    refine j_aload_n dX6_takeToken_35 rfl rfl rfl ?_
    refine j_getP (b := 14) dX6_takeToken_36 rfl fX6_9 rfl (by decide) rfl rfl ?_
    refine j_aload_n dX6_takeToken_39 rfl rfl rfl ?_
    refine j_getIv (v := nI f) dX6_takeToken_40 rfl fX6_32 rfl (by decide) rfl rfl ?_
    refine j_bald (j := f) (v := nI (tx f)) dX6_takeToken_43 rfl rfl (by decide) rfl (by omega) (by decide) (hR.2.1 f (by omega)) ?_
    refine j_bipush (v := nI 97) dX6_takeToken_44 rfl rfl ?_
    refine j_bipush (v := nI 122) dX6_takeToken_46 rfl rfl ?_
    refine j_callSNw (As := [.int (nI (tx f)), .int (nI 97), .int (nI 122)]) dX6_takeToken_48 rfl cX6_107 rfl (by decide) rfl rfl (c_within (fun g2 => ?_) (fun g2 => ?_))
    · rw [inR_N (by omega) (by decide) (by decide)] at g2
      show Rj _ _ _ _ _ _ 51 [.ref 13] [.int (nI 1)] n (u2 (u2 I 13 5 (nI f)) 13 4 (nI f)) J (Pg i0 i1)
      refine j_ifeqN (tgt := 70) dX6_takeToken_51 rfl rfl (by decide) (fun h3 => by exfalso; omega) (fun h3 => ?_)
      refine j_aload_n dX6_takeToken_54 rfl rfl rfl ?_
      refine j_bipush (v := nI 97) dX6_takeToken_55 rfl rfl ?_
      refine j_bipush (v := nI 122) dX6_takeToken_57 rfl rfl ?_
      refine j_callVw (As := [.int (nI 97), .int (nI 122)]) dX6_takeToken_59 rfl cX6_111 (by decide) rfl rfl (by decide) rfl (by decide) rfl rfl (c_takeRun hR2 rfl (by omega) (by decide) (by decide) ?_)
      show Rj _ _ _ _ _ _ 62 [.ref 13] [] n (u2 (u2 (u2 I 13 5 (nI f)) 13 4 (nI f)) 13 5 (nI (runE tx tl 97 122 (tl - f) f))) J (Pg i0 i1)
      refine j_aload_n dX6_takeToken_62 rfl rfl rfl ?_
      refine j_iconst (v := nI 1) dX6_takeToken_63 rfl rfl ?_
      refine j_putI dX6_takeToken_64 rfl fX6_26 rfl (by decide) rfl rfl ?_
      refine j_goto (tgt := 137) dX6_takeToken_67 rfl ?_
      refine j_vret dX6_takeToken_137 rfl ?_
      refine hQ _ ⟨?_, ?_, ?_, ?_⟩ ?_
      · show nI 1 = nI (tkK tx tl f); congr 1; unfold tkK; rw [if_neg (by omega), if_pos (by omega)]
      · rfl
      · show nI (runE tx tl 97 122 (tl - f) f) = nI (tkE tx tl f); congr 1; unfold tkE; rw [if_neg (by omega), if_pos (by omega)]
      · intro q; exact absurd q (by unfold tkK; rw [if_neg (by omega), if_pos (by omega)]; decide)
      · exact ((((Rst.rf).trans (Rst.put (by omega))).trans (Rst.put (by omega))).trans (Rst.put (by omega))).trans (Rst.put (by omega))
    · rw [inR_N (by omega) (by decide) (by decide)] at g2
      show Rj _ _ _ _ _ _ 51 [.ref 13] [.int (nI 0)] n (u2 (u2 I 13 5 (nI f)) 13 4 (nI f)) J (Pg i0 i1)
      refine j_ifeqN (tgt := 70) dX6_takeToken_51 rfl rfl (by decide) (fun h4 => ?_) (fun h4 => by exfalso; omega)
      refine j_aload_n dX6_takeToken_70 rfl rfl rfl ?_
      refine j_getP (b := 14) dX6_takeToken_71 rfl fX6_9 rfl (by decide) rfl rfl ?_
      refine j_aload_n dX6_takeToken_74 rfl rfl rfl ?_
      refine j_getIv (v := nI f) dX6_takeToken_75 rfl fX6_32 rfl (by decide) rfl rfl ?_
      refine j_bald (j := f) (v := nI (tx f)) dX6_takeToken_78 rfl rfl (by decide) rfl (by omega) (by decide) (hR.2.1 f (by omega)) ?_
      refine j_bipush (v := nI 48) dX6_takeToken_79 rfl rfl ?_
      refine j_bipush (v := nI 57) dX6_takeToken_81 rfl rfl ?_
      refine j_callSNw (As := [.int (nI (tx f)), .int (nI 48), .int (nI 57)]) dX6_takeToken_83 rfl cX6_107 rfl (by decide) rfl rfl (c_within (fun g5 => ?_) (fun g5 => ?_))
      · rw [inR_N (by omega) (by decide) (by decide)] at g5
        show Rj _ _ _ _ _ _ 86 [.ref 13] [.int (nI 1)] n (u2 (u2 I 13 5 (nI f)) 13 4 (nI f)) J (Pg i0 i1)
        refine j_ifeqN (tgt := 104) dX6_takeToken_86 rfl rfl (by decide) (fun h6 => by exfalso; omega) (fun h6 => ?_)
        refine j_aload_n dX6_takeToken_89 rfl rfl rfl ?_
        refine j_bipush (v := nI 48) dX6_takeToken_90 rfl rfl ?_
        refine j_bipush (v := nI 57) dX6_takeToken_92 rfl rfl ?_
        refine j_callVw (As := [.int (nI 48), .int (nI 57)]) dX6_takeToken_94 rfl cX6_111 (by decide) rfl rfl (by decide) rfl (by decide) rfl rfl (c_takeRun hR2 rfl (by omega) (by decide) (by decide) ?_)
        show Rj _ _ _ _ _ _ 97 [.ref 13] [] n (u2 (u2 (u2 I 13 5 (nI f)) 13 4 (nI f)) 13 5 (nI (runE tx tl 48 57 (tl - f) f))) J (Pg i0 i1)
        have he48 : tkE tx tl f = runE tx tl 48 57 (tl - f) f := by unfold tkE; rw [if_neg (by omega), if_neg (by omega), if_pos (by omega)]
        obtain ⟨e, hee⟩ : ∃ e, runE tx tl 48 57 (tl - f) f = e := ⟨_, rfl⟩
        have hdg : ∀ i, f ≤ i → i < e → 48 ≤ tx i ∧ tx i ≤ 57 := fun i h1 h2 => runE_in tx tl 48 57 (tl - f) f i h1 (by rw [hee]; exact h2)
        rw [hee] at he48
        rw [he48] at hEl
        rw [hee]
        have hR3 : RS (u2 (u2 (u2 I 13 5 (nI f)) 13 4 (nI f)) 13 5 (nI e)) tl tx := hR2.next (Rst.put (by omega))
        have hrst : Rst I (u2 (u2 (u2 I 13 5 (nI f)) 13 4 (nI f)) 13 5 (nI e)) := ((Rst.put (by omega)).trans (Rst.put (by omega))).trans (Rst.put (by omega))
        have hK : tkK tx tl f = if e - f ≤ 2 then 2 else 4 := by unfold tkK; rw [if_neg (by omega), if_neg (by omega), if_pos (by omega), he48]
        have fin : Rj X (d + 1) 0 0 mX6_takeToken Q 97 [.ref 13] [] n (u2 (u2 (u2 I 13 5 (nI f)) 13 4 (nI f)) 13 5 (nI e)) J (Pg i0 i1) := by
          by_cases h2 : e - f ≤ 2
          · rw [if_pos h2] at hK
            refine j_aload_n dX6_takeToken_97 rfl rfl rfl ?_
            refine j_callVw (As := []) dX6_takeToken_98 rfl cX6_115 (by decide) rfl rfl (by decide) rfl (by decide) rfl rfl (c_setNumber2 hR3 rfl rfl (by omega) (by omega) hdg h2 ?_)
            show Rj _ _ _ _ _ _ 101 [.ref 13] [] n (u2 (u2 (u2 (u2 (u2 I 13 5 (nI f)) 13 4 (nI f)) 13 5 (nI e)) 13 3 (nI 2)) 13 6 (nI (numV tx (e - f) f 0))) J (Pg i0 i1)
            refine j_goto (tgt := 137) dX6_takeToken_101 rfl ?_
            refine j_vret dX6_takeToken_137 rfl ?_
            refine hQ _ ⟨?_, ?_, ?_, ?_⟩ (hrst.trans ((Rst.put (by omega)).trans (Rst.put (by omega))))
            · rw [hK]; rfl
            · rfl
            · rw [he48]; rfl
            · intro q; unfold tkN; rw [he48]; rfl
          · rw [if_neg h2] at hK
            refine j_aload_n dX6_takeToken_97 rfl rfl rfl ?_
            refine j_callVw (As := []) dX6_takeToken_98 rfl cX6_115 (by decide) rfl rfl (by decide) rfl (by decide) rfl rfl (c_setNumber4 hR3 rfl rfl (by omega) (by omega) hdg h2 ?_)
            show Rj _ _ _ _ _ _ 101 [.ref 13] [] n (u2 (u2 (u2 (u2 (u2 I 13 5 (nI f)) 13 4 (nI f)) 13 5 (nI e)) 13 3 (nI 4)) 13 6 (nI 0)) J (Pg i0 i1)
            refine j_goto (tgt := 137) dX6_takeToken_101 rfl ?_
            refine j_vret dX6_takeToken_137 rfl ?_
            refine hQ _ ⟨?_, ?_, ?_, ?_⟩ (hrst.trans ((Rst.put (by omega)).trans (Rst.put (by omega))))
            · rw [hK]; rfl
            · rfl
            · rw [he48]; rfl
            · intro q; rw [hK] at q; exact absurd q (by decide)
        exact fin
      · rw [inR_N (by omega) (by decide) (by decide)] at g5
        show Rj _ _ _ _ _ _ 86 [.ref 13] [.int (nI 0)] n (u2 (u2 I 13 5 (nI f)) 13 4 (nI f)) J (Pg i0 i1)
        refine j_ifeqN (tgt := 104) dX6_takeToken_86 rfl rfl (by decide) (fun h7 => ?_) (fun h7 => by exfalso; omega)
        refine j_aload_n dX6_takeToken_104 rfl rfl rfl ?_
        refine j_aload_n dX6_takeToken_105 rfl rfl rfl ?_
        refine j_getP (b := 14) dX6_takeToken_106 rfl fX6_9 rfl (by decide) rfl rfl ?_
        refine j_aload_n dX6_takeToken_109 rfl rfl rfl ?_
        refine j_getIv (v := nI f) dX6_takeToken_110 rfl fX6_32 rfl (by decide) rfl rfl ?_
        refine j_bald (j := f) (v := nI (tx f)) dX6_takeToken_113 rfl rfl (by decide) rfl (by omega) (by decide) (hR.2.1 f (by omega)) ?_
        refine j_bipush (v := nI 59) dX6_takeToken_114 rfl rfl ?_
        suffices K9 : Rj X (d + 1) 0 0 mX6_takeToken Q 124 [.ref 13] [.int (nI (if (tx f) = 59 then 3 else 4)), .ref 13] n (u2 (u2 I 13 5 (nI f)) 13 4 (nI f)) J (Pg i0 i1) by
          refine j_icmpneN (tgt := 123) dX6_takeToken_116 rfl rfl (by omega) (by decide) (fun h8 => ?_) (fun h8 => ?_)
          · refine j_iconst (v := nI 4) dX6_takeToken_123 rfl rfl ?_
            rw [if_neg h8] at K9; exact K9
          · refine j_iconst (v := nI 3) dX6_takeToken_119 rfl rfl ?_
            refine j_goto (tgt := 124) dX6_takeToken_120 rfl ?_
            rw [if_pos h8] at K9; exact K9
        refine j_putI dX6_takeToken_124 rfl fX6_26 rfl (by decide) rfl rfl ?_
        refine j_aload_n dX6_takeToken_127 rfl rfl rfl ?_
        refine j_dup dX6_takeToken_128 rfl rfl ?_
        refine j_getIv (v := nI f) dX6_takeToken_129 rfl fX6_32 rfl (by decide) rfl rfl ?_
        refine j_iconst (v := nI 1) dX6_takeToken_132 rfl rfl ?_
        refine j_iaddN (c := f + 1) dX6_takeToken_133 rfl rfl ?_
        refine j_putI dX6_takeToken_134 rfl fX6_32 rfl (by decide) rfl rfl ?_
        refine j_vret dX6_takeToken_137 rfl ?_
        refine hQ _ ⟨?_, ?_, ?_, ?_⟩ ?_
        · rw [show tkK tx tl f = if (tx f) = 59 then 3 else 4 by unfold tkK; rw [if_neg (by omega), if_neg (by omega), if_neg (by omega)]]; rfl
        · rfl
        · show nI (f + 1) = nI (tkE tx tl f); congr 1; unfold tkE; rw [if_neg (by omega), if_neg (by omega), if_neg (by omega)]
        · intro q; exfalso; unfold tkK at q; rw [if_neg (by omega), if_neg (by omega), if_neg (by omega)] at q; split at q <;> omega
        · exact ((((Rst.rf).trans (Rst.put (by omega))).trans (Rst.put (by omega))).trans (Rst.put (by omega))).trans (Rst.put (by omega))
  · refine j_aload_n dX6_takeToken_27 rfl rfl rfl ?_
    refine j_iconst (v := nI 0) dX6_takeToken_28 rfl rfl ?_
    refine j_putI dX6_takeToken_29 rfl fX6_26 rfl (by decide) rfl rfl ?_
    refine j_goto (tgt := 137) dX6_takeToken_32 rfl ?_
    refine j_vret dX6_takeToken_137 rfl ?_
    refine hQ _ ⟨?_, ?_, ?_, ?_⟩ ?_
    · show nI 0 = nI (tkK tx tl f); congr 1; unfold tkK; rw [if_pos (by omega)]
    · rfl
    · show nI f = nI (tkE tx tl f); congr 1; unfold tkE; rw [if_pos (by omega)]
    · intro q; exact absurd q (by unfold tkK; rw [if_pos (by omega)]; decide)
    · exact (((Rst.rf).trans (Rst.put (by omega))).trans (Rst.put (by omega))).trans (Rst.put (by omega))
