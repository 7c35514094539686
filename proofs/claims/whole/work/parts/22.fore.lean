/-! sums over pairs -/
def sumN (f : Nat → Nat) : Nat → Nat
  | 0 => 0
  | n + 1 => sumN f n + f n
theorem sumN_le {f : Nat → Nat} {b : Nat} : ∀ n, (∀ p, p < n → f p ≤ b) → sumN f n ≤ n * b
  | 0, _ => Nat.zero_le _
  | n + 1, h => by
    have h1 := sumN_le n (fun p hp => h p (by omega))
    have h2 := h n (by omega)
    simp only [sumN, Nat.succ_mul]
    omega
theorem sumN_congr {f g : Nat → Nat} : ∀ n, (∀ p, p < n → f p = g p) → sumN f n = sumN g n
  | 0, _ => rfl
  | n + 1, h => by simp only [sumN]; rw [sumN_congr n (fun p hp => h p (by omega)), h n (by omega)]
set_option maxHeartbeats 4000000 in
set_option maxRecDepth 100000 in
theorem c_allLoaves {X : jX} {d n : Nat} {I : HI} {J : HJ} {i0 i1 : Option Nat} {Q : jPost} {v : VT} {yb : Nat} (hV : VC 1 I v) (hW : WF yb v) (hyb : yb ≤ 2 ^ 20) (hQ : Q (some (.int (nI (sumN (v 2) (v 0 3))))) n I J (Pg i0 i1)) : Cj X d 0 0 mX8_allLoaves [.ref 1] n I J (Pg i0 i1) Q := by
  refine Cj.intro rfl (Nat.le_of_ble_eq_true rfl) (L := [.ref 1, jU, jU]) rfl ?_
  obtain ⟨⟨w0, w1, w2, w3, w4, w5, w6⟩, wp, wk, wc, wj⟩ := id hW
  have loop : ∀ r p a : Nat, p + r = v 0 3 → a = sumN (v 2) p → Rj X d 0 0 mX8_allLoaves Q 4 [.ref 1, .int (nI a), .int (nI p)] [] n I J (Pg i0 i1) := by
    intro r
    induction r with
    | zero =>
      intro p a hpr ha
      refine j_iload_n dX8_allLoaves_4 rfl rfl rfl ?_
      refine j_aload_n dX8_allLoaves_5 rfl rfl rfl ?_
      refine j_getIv (v := nI (v 0 3)) dX8_allLoaves_6 rfl fX8_21 rfl (by decide) rfl hV.pairs ?_
      refine j_icmpgeN (tgt := 27) dX8_allLoaves_9 rfl rfl (by omega) (by omega) (fun h1 => ?_) (fun h1 => by exfalso; omega)
      refine j_iload_n dX8_allLoaves_27 rfl rfl rfl ?_
      refine j_iret dX8_allLoaves_28 rfl rfl ?_
      have hp : p = v 0 3 := by omega
      subst hp; subst ha; exact hQ
    | succ r ih =>
      intro p a hpr ha
      refine j_iload_n dX8_allLoaves_4 rfl rfl rfl ?_
      refine j_aload_n dX8_allLoaves_5 rfl rfl rfl ?_
      refine j_getIv (v := nI (v 0 3)) dX8_allLoaves_6 rfl fX8_21 rfl (by decide) rfl hV.pairs ?_
      refine j_icmpgeN (tgt := 27) dX8_allLoaves_9 rfl rfl (by omega) (by omega) (fun h1 => by exfalso; omega) (fun h1 => ?_)
      refine j_iload_n dX8_allLoaves_12 rfl rfl rfl ?_
      refine j_aload_n dX8_allLoaves_13 rfl rfl rfl ?_
      refine j_getP (b := 3) dX8_allLoaves_14 rfl fX8_34 rfl (by decide) rfl rfl ?_
      refine j_iload_n dX8_allLoaves_17 rfl rfl rfl ?_
      refine j_iald (j := p) (v := nI (v 2 p)) dX8_allLoaves_18 rfl rfl (by decide) rfl (by omega) (by decide) (hV.lv (by omega)) ?_
      refine j_iaddN (c := a + (v 2 p)) dX8_allLoaves_19 rfl rfl ?_
      refine j_istore_n (L' := [.ref 1, .int (nI (a + (v 2 p))), .int (nI p)]) dX8_allLoaves_20 rfl rfl rfl (by decide) rfl ?_
      refine j_iincN (L' := [.ref 1, .int (nI (a + (v 2 p))), .int (nI (p + 1))]) dX8_allLoaves_21 rfl rfl (b := 1) rfl rfl rfl (by decide) rfl ?_
      refine j_goto (tgt := 4) dX8_allLoaves_24 rfl ?_
      exact ih (p + 1) _ (by omega) (by rw [ha]; rfl)
  refine j_iconst (v := nI 0) dX8_allLoaves_0 rfl rfl ?_
  refine j_istore_n (L' := [.ref 1, .int (nI 0), jU]) dX8_allLoaves_1 rfl rfl rfl (by decide) rfl ?_
  refine j_iconst (v := nI 0) dX8_allLoaves_2 rfl rfl ?_
  refine j_istore_n (L' := [.ref 1, .int (nI 0), .int (nI 0)]) dX8_allLoaves_3 rfl rfl rfl (by decide) rfl ?_
  exact loop (v 0 3) 0 0 (by omega) rfl
set_option maxHeartbeats 4000000 in
set_option maxRecDepth 100000 in
theorem c_loavesBehind {X : jX} {d n : Nat} {I : HI} {J : HJ} {i0 i1 : Option Nat} {Q : jPost} {v : VT} {yb : Nat} (hV : VC 1 I v) (hW : WF yb v) (hyb : yb ≤ 2 ^ 20) {m dr : Nat} (hm : m ≤ 60) (hdr : dr ≤ 4095) (hQ : Q (some (.int (nI (sumN (fun p => lft (v 1 p) (v 0 1) dr (v 0 0) (v 2 p) m) (v 0 3))))) n I J (Pg i0 i1)) : Cj X (d + 3) 0 0 mX1_loavesBehind [.ref 1, .int (nI m), .int (nI dr)] n I J (Pg i0 i1) Q := by
  refine Cj.intro rfl (Nat.le_of_ble_eq_true rfl) (L := [.ref 1, .int (nI m), .int (nI dr), jU, jU]) rfl ?_
  obtain ⟨⟨w0, w1, w2, w3, w4, w5, w6⟩, wp, wk, wc, wj⟩ := id hW
  have loop : ∀ r p a : Nat, p + r = v 0 3 → a = sumN (fun p => lft (v 1 p) (v 0 1) dr (v 0 0) (v 2 p) m) p → Rj X (d + 3) 0 0 mX1_loavesBehind Q 5 [.ref 1, .int (nI m), .int (nI dr), .int (nI a), .int (nI p)] [] n I J (Pg i0 i1) := by
    intro r
    induction r with
    | zero =>
      intro p a hpr ha
      refine j_iload dX1_loavesBehind_5 rfl rfl ?_
      refine j_aload_n dX1_loavesBehind_7 rfl rfl rfl ?_
      refine j_getIv (v := nI (v 0 3)) dX1_loavesBehind_8 rfl fX1_57 rfl (by decide) rfl hV.pairs ?_
      refine j_icmpgeN (tgt := 43) dX1_loavesBehind_11 rfl rfl (by omega) (by omega) (fun h1 => ?_) (fun h1 => by exfalso; omega)
      refine j_iload_n dX1_loavesBehind_43 rfl rfl rfl ?_
      refine j_iret dX1_loavesBehind_44 rfl rfl ?_
      have hp : p = v 0 3 := by omega
      subst hp; subst ha; exact hQ
    | succ r ih =>
      intro p a hpr ha
      obtain ⟨q1, q2, q3, q4, q5⟩ := wp p (by omega)
      refine j_iload dX1_loavesBehind_5 rfl rfl ?_
      refine j_aload_n dX1_loavesBehind_7 rfl rfl rfl ?_
      refine j_getIv (v := nI (v 0 3)) dX1_loavesBehind_8 rfl fX1_57 rfl (by decide) rfl hV.pairs ?_
      refine j_icmpgeN (tgt := 43) dX1_loavesBehind_11 rfl rfl (by omega) (by omega) (fun h1 => by exfalso; omega) (fun h1 => ?_)
      refine j_iload_n dX1_loavesBehind_14 rfl rfl rfl ?_
      refine j_aload_n dX1_loavesBehind_15 rfl rfl rfl ?_
      refine j_aload_n dX1_loavesBehind_16 rfl rfl rfl ?_
      refine j_getP (b := 2) dX1_loavesBehind_17 rfl fX1_67 rfl (by decide) rfl rfl ?_
      refine j_iload dX1_loavesBehind_20 rfl rfl ?_
      refine j_iald (j := p) (v := nI (v 1 p)) dX1_loavesBehind_22 rfl rfl (by decide) rfl (by omega) (by decide) (hV.kd (by omega)) ?_
      refine j_aload_n dX1_loavesBehind_23 rfl rfl rfl ?_
      refine j_getP (b := 3) dX1_loavesBehind_24 rfl fX1_31 rfl (by decide) rfl rfl ?_
      refine j_iload dX1_loavesBehind_27 rfl rfl ?_
      refine j_iald (j := p) (v := nI (v 2 p)) dX1_loavesBehind_29 rfl rfl (by decide) rfl (by omega) (by decide) (hV.lv (by omega)) ?_
      refine j_iload_n dX1_loavesBehind_30 rfl rfl rfl ?_
      refine j_iload_n dX1_loavesBehind_31 rfl rfl rfl ?_
      refine j_callVw (As := [.int (nI (v 1 p)), .int (nI (v 2 p)), .int (nI m), .int (nI dr)]) dX1_loavesBehind_32 rfl cX1_70 (by decide) rfl rfl (by decide) rfl (Nat.le_of_ble_eq_true rfl) rfl rfl (c_leftAs hV (by omega) (by omega) (by omega) (by omega) (by omega) (by omega) ?_)
      show Rj _ _ _ _ _ _ 35 [.ref 1, .int (nI m), .int (nI dr), .int (nI a), .int (nI p)] [.int (nI (lft (v 1 p) (v 0 1) dr (v 0 0) (v 2 p) m)), .int (nI a)] n I J (Pg i0 i1)
      refine j_iaddN (c := a + (lft (v 1 p) (v 0 1) dr (v 0 0) (v 2 p) m)) dX1_loavesBehind_35 rfl rfl ?_
      refine j_istore_n (L' := [.ref 1, .int (nI m), .int (nI dr), .int (nI (a + (lft (v 1 p) (v 0 1) dr (v 0 0) (v 2 p) m))), .int (nI p)]) dX1_loavesBehind_36 rfl rfl rfl (by decide) rfl ?_
      refine j_iincN (L' := [.ref 1, .int (nI m), .int (nI dr), .int (nI (a + (lft (v 1 p) (v 0 1) dr (v 0 0) (v 2 p) m))), .int (nI (p + 1))]) dX1_loavesBehind_37 rfl rfl (b := 1) rfl rfl rfl (by decide) rfl ?_
      refine j_goto (tgt := 5) dX1_loavesBehind_40 rfl ?_
      exact ih (p + 1) _ (by omega) (by rw [ha]; rfl)
  refine j_iconst (v := nI 0) dX1_loavesBehind_0 rfl rfl ?_
  refine j_istore_n (L' := [.ref 1, .int (nI m), .int (nI dr), .int (nI 0), jU]) dX1_loavesBehind_1 rfl rfl rfl (by decide) rfl ?_
  refine j_iconst (v := nI 0) dX1_loavesBehind_2 rfl rfl ?_
  refine j_istore (L' := [.ref 1, .int (nI m), .int (nI dr), .int (nI 0), .int (nI 0)]) dX1_loavesBehind_3 rfl rfl (by decide) rfl ?_
  exact loop (v 0 3) 0 0 (by omega) rfl
/-- the year of the end and 1, of the next f years; 0: none -/
def endY (k da dr : Nat) : Nat → Nat → Nat → Nat
  | 0, _, _ => 0
  | f + 1, y, l => if l = 0 then 0 else if l - gos k y da dr = 0 then y + 1 else endY k da dr f (y + 1) (l - gos k y da dr)
theorem endY_le (k da dr : Nat) : ∀ f y l, endY k da dr f y l ≤ y + f
  | 0, _, _ => Nat.zero_le _
  | f + 1, y, l => by
    unfold endY
    have := endY_le k da dr f (y + 1) (l - gos k y da dr)
    split
    · omega
    · split <;> omega
theorem en_z {a : Nat} (ha : a < 2 ^ 31) (h : nI a - 1 = -1) : a = 0 := by
  cases a with
  | zero => rfl
  | succ m =>
    rw [nI_pred] at h
    have h2 := nI_toInt (n := m) (by omega)
    rw [h] at h2
    have h3 : (-1 : Int32).toInt = -1 := rfl
    omega
set_option maxHeartbeats 4000000 in
set_option maxRecDepth 100000 in
theorem c_endOf_go {X : jX} {d n : Nat} {I : HI} {J : HJ} {i0 i1 : Option Nat} {Q : jPost} {v : VT} {yb : Nat} (hV : VC 1 I v) (hW : WF yb v) (hyb : yb ≤ 2 ^ 20) {p : Nat} (hp : p < v 0 3) (he : v 4 p = 0) (hQ : Q (some (.int (nI (endY (v 1 p) (v 0 1) (v 0 2) 99 (v 0 0) (v 2 p)) - 1))) n I J (Pg i0 i1)) : Cj X (d + 3) 0 0 mX1_endOf [.ref 1, .int (nI p)] n I J (Pg i0 i1) Q := by
  refine Cj.intro rfl (Nat.le_of_ble_eq_true rfl) (L := [.ref 1, .int (nI p), jU, jU]) rfl ?_
  obtain ⟨⟨w0, w1, w2, w3, w4, w5, w6⟩, wp, wk, wc, wj⟩ := id hW
  obtain ⟨q1, q2, q3, q4, q5⟩ := wp p hp
  generalize hT : endY (v 1 p) (v 0 1) (v 0 2) 99 (v 0 0) (v 2 p) = T at hQ
  have loop : ∀ r y l : Nat, y + r = 99 → l ≤ 60 → endY (v 1 p) (v 0 1) (v 0 2) r (v 0 0 + y) l = T → Rj X (d + 3) 0 0 mX1_endOf Q 26 [.ref 1, .int (nI p), .int (nI l), .int (nI y)] [] n I J (Pg i0 i1) := by
    intro r
    induction r with
    | zero =>
      intro y l hyr hl hr
      refine j_iload_n dX1_endOf_26 rfl rfl rfl ?_
      refine j_bipush (v := nI 99) dX1_endOf_27 rfl rfl ?_
      refine j_icmpgeN (tgt := 61) dX1_endOf_29 rfl rfl (by omega) (by decide) (fun h1 => ?_) (fun h1 => by exfalso; omega)
      refine j_iconst (v := (-1)) dX1_endOf_61 rfl rfl ?_
      refine j_iret dX1_endOf_62 rfl rfl ?_
      rw [← hr] at hQ; exact hQ
    | succ r ih =>
      intro y l hyr hl hr
      refine j_iload_n dX1_endOf_26 rfl rfl rfl ?_
      refine j_bipush (v := nI 99) dX1_endOf_27 rfl rfl ?_
      refine j_icmpgeN (tgt := 61) dX1_endOf_29 rfl rfl (by omega) (by decide) (fun h1 => by exfalso; omega) (fun h1 => ?_)
      refine j_iload_n dX1_endOf_32 rfl rfl rfl ?_
      refine j_ifleN (tgt := 61) dX1_endOf_33 rfl rfl (by omega) (fun h2 => ?_) (fun h2 => ?_)
      · refine j_iconst (v := (-1)) dX1_endOf_61 rfl rfl ?_
        refine j_iret dX1_endOf_62 rfl rfl ?_
        unfold endY at hr
        rw [if_pos (by omega)] at hr
        rw [← hr] at hQ; exact hQ
      · refine j_aload_n dX1_endOf_36 rfl rfl rfl ?_
        refine j_iload_n dX1_endOf_37 rfl rfl rfl ?_
        refine j_iload_n dX1_endOf_38 rfl rfl rfl ?_
        refine j_iload_n dX1_endOf_39 rfl rfl rfl ?_
        refine j_callVw (As := [.int (nI l), .int (nI p), .int (nI y)]) dX1_endOf_40 rfl cX1_34 (by decide) rfl rfl (by decide) rfl (by decide) rfl rfl (c_leftInYear hV (by omega) (by omega) (by omega) (by omega) (by omega) (by omega) (by omega) ?_)
        show Rj _ _ _ _ _ _ 43 [.ref 1, .int (nI p), .int (nI l), .int (nI y)] [.int (nI (l - gos (v 1 p) (v 0 0 + y) (v 0 1) (v 0 2)))] n I J (Pg i0 i1)
        refine j_istore_n (L' := [.ref 1, .int (nI p), .int (nI (l - gos (v 1 p) (v 0 0 + y) (v 0 1) (v 0 2))), .int (nI y)]) dX1_endOf_43 rfl rfl rfl (by decide) rfl ?_
        refine j_iload_n dX1_endOf_44 rfl rfl rfl ?_
        refine j_ifneN (tgt := 55) dX1_endOf_45 rfl rfl (by omega) (fun h3 => ?_) (fun h3 => ?_)
        · refine j_iincN (L' := [.ref 1, .int (nI p), .int (nI (l - gos (v 1 p) (v 0 0 + y) (v 0 1) (v 0 2))), .int (nI (y + 1))]) dX1_endOf_55 rfl rfl (b := 1) rfl rfl rfl (by decide) rfl ?_
          refine j_goto (tgt := 26) dX1_endOf_58 rfl ?_
          refine ih (y + 1) _ (by omega) (by omega) ?_
          rw [← hr]
          conv => rhs; unfold endY
          rw [if_neg (by omega), if_neg (by omega)]
          rfl
        · refine j_aload_n dX1_endOf_48 rfl rfl rfl ?_
          refine j_getIv (v := nI (v 0 0)) dX1_endOf_49 rfl fX1_38 rfl (by decide) rfl hV.year ?_
          refine j_iload_n dX1_endOf_52 rfl rfl rfl ?_
          refine j_iaddN (c := (v 0 0) + y) dX1_endOf_53 rfl rfl ?_
          refine j_iret dX1_endOf_54 rfl rfl ?_
          unfold endY at hr
          rw [if_neg (by omega), if_pos (by omega)] at hr
          rw [← hr, nI_pred] at hQ; exact hQ
  refine j_aload_n dX1_endOf_0 rfl rfl rfl ?_
  refine j_getP (b := 5) dX1_endOf_1 rfl fX1_26 rfl (by decide) rfl rfl ?_
  refine j_iload_n dX1_endOf_4 rfl rfl rfl ?_
  refine j_iald (j := p) (v := nI (v 4 p) - 1) dX1_endOf_5 rfl rfl (by decide) rfl (by omega) (by decide) (hV.en (by omega)) ?_
  refine j_iconst (v := (-1)) dX1_endOf_6 rfl rfl ?_
  refine j_icmpeq (tgt := 17) dX1_endOf_7 rfl rfl (fun h1 => ?_) (fun h1 => by exfalso; exact h1 (by rw [he]; rfl))
  refine j_aload_n dX1_endOf_17 rfl rfl rfl ?_
  refine j_getP (b := 3) dX1_endOf_18 rfl fX1_31 rfl (by decide) rfl rfl ?_
  refine j_iload_n dX1_endOf_21 rfl rfl rfl ?_
  refine j_iald (j := p) (v := nI (v 2 p)) dX1_endOf_22 rfl rfl (by decide) rfl (by omega) (by decide) (hV.lv (by omega)) ?_
  refine j_istore_n (L' := [.ref 1, .int (nI p), .int (nI (v 2 p)), jU]) dX1_endOf_23 rfl rfl rfl (by decide) rfl ?_
  refine j_iconst (v := nI 0) dX1_endOf_24 rfl rfl ?_
  refine j_istore_n (L' := [.ref 1, .int (nI p), .int (nI (v 2 p)), .int (nI 0)]) dX1_endOf_25 rfl rfl rfl (by decide) rfl ?_
  exact loop 99 0 _ rfl q2 hT
set_option maxHeartbeats 4000000 in
set_option maxRecDepth 100000 in
theorem c_endOf_was {X : jX} {d n : Nat} {I : HI} {J : HJ} {i0 i1 : Option Nat} {Q : jPost} {v : VT} {yb : Nat} (hV : VC 1 I v) (hW : WF yb v) (hyb : yb ≤ 2 ^ 20) {p : Nat} (hp : p < v 0 3) (he : ¬ v 4 p = 0) (hQ : Q (some (.int (nI (v 4 p) - 1))) n I J (Pg i0 i1)) : Cj X (d + 3) 0 0 mX1_endOf [.ref 1, .int (nI p)] n I J (Pg i0 i1) Q := by
  refine Cj.intro rfl (Nat.le_of_ble_eq_true rfl) (L := [.ref 1, .int (nI p), jU, jU]) rfl ?_
  obtain ⟨⟨w0, w1, w2, w3, w4, w5, w6⟩, wp, wk, wc, wj⟩ := id hW
  obtain ⟨q1, q2, q3, q4, q5⟩ := wp p hp
  refine j_aload_n dX1_endOf_0 rfl rfl rfl ?_
  refine j_getP (b := 5) dX1_endOf_1 rfl fX1_26 rfl (by decide) rfl rfl ?_
  refine j_iload_n dX1_endOf_4 rfl rfl rfl ?_
  refine j_iald (j := p) (v := nI (v 4 p) - 1) dX1_endOf_5 rfl rfl (by decide) rfl (by omega) (by decide) (hV.en (by omega)) ?_
  refine j_iconst (v := (-1)) dX1_endOf_6 rfl rfl ?_
  refine j_icmpeq (tgt := 17) dX1_endOf_7 rfl rfl (fun h1 => by exfalso; exact he (en_z (by omega) h1)) (fun h1 => ?_)
  refine j_aload_n dX1_endOf_10 rfl rfl rfl ?_
  refine j_getP (b := 5) dX1_endOf_11 rfl fX1_26 rfl (by decide) rfl rfl ?_
  refine j_iload_n dX1_endOf_14 rfl rfl rfl ?_
  refine j_iald (j := p) (v := nI (v 4 p) - 1) dX1_endOf_15 rfl rfl (by decide) rfl (by omega) (by decide) (hV.en (by omega)) ?_
  refine j_iret dX1_endOf_16 rfl rfl ?_
  exact hQ
theorem u2_ur {α : Type} (I : Nat → Nat → α) (a k : Nat) (f : Nat → α) (v : α) : u2 (ur I a f) a k v = ur I a (fun j => if j = k then v else f j) := by
  funext b j
  by_cases hb : b = a
  · simp [u2, ur, hb]
  · simp [u2, ur, hb]
theorem ur_self {α : Type} (I : Nat → Nat → α) (a : Nat) : ur I a (I a) = I := by
  funext b j
  by_cases hb : b = a
  · subst hb; simp [ur]
  · simp [ur, hb]
theorem ur_ur {α : Type} (I : Nat → Nat → α) (a : Nat) (f g : Nat → α) : ur (ur I a f) a g = ur I a g := by
  funext b j
  by_cases hb : b = a <;> simp [ur, hb]
/-- who end in a year, of the first pairs: bits -/
def endB (v : VT) (y : Nat) (h : Nat → Nat) : Nat → Nat
  | 0 => 0
  | p + 1 => if 0 < h p ∧ h p - gos (v 1 p) (v 0 0 + y) (v 0 1) (v 0 2) = 0 then endB v y h p ||| 2 ^ p else endB v y h p
theorem endB_lt (v : VT) (y : Nat) (h : Nat → Nat) : ∀ n, endB v y h n < 2 ^ n
  | 0 => by simp [endB]
  | p + 1 => by
    have h1 := endB_lt v y h p
    unfold endB
    split
    · exact Nat.or_lt_two_pow (Nat.lt_trans h1 (Nat.pow_lt_pow_right (by omega) (by omega))) (Nat.pow_lt_pow_right (by omega) (by omega))
    · exact Nat.lt_trans h1 (Nat.pow_lt_pow_right (by omega) (by omega))
set_option maxHeartbeats 4000000 in
set_option maxRecDepth 100000 in
theorem c_endingInYear {X : jX} {d n : Nat} {I : HI} {J : HJ} {i0 i1 : Option Nat} {Q : jPost} {v : VT} {yb : Nat} (hV : VC 1 I v) (hW : WF yb v) (hyb : yb ≤ 2 ^ 20) {y : Nat} (hy : y ≤ 99) {h : Nat → Nat} (hh : ∀ p, p < v 0 3 → I 27 p = nI (h p) ∧ h p ≤ 60) (hQ : ∀ f : Nat → Int32, (∀ p, p < v 0 3 → f p = nI (h p - gos (v 1 p) (v 0 0 + y) (v 0 1) (v 0 2))) → Q (some (.int (nI (endB v y h (v 0 3))))) n (ur I 27 f) J (Pg i0 i1)) : Cj X (d + 3) 0 0 mX1_endingInYear [.ref 26, .ref 1, .int (nI y)] n I J (Pg i0 i1) Q := by
  refine Cj.intro rfl (Nat.le_of_ble_eq_true rfl) (L := [.ref 26, .ref 1, .int (nI y), jU, jU]) rfl ?_
  obtain ⟨⟨w0, w1, w2, w3, w4, w5, w6⟩, wp, wk, wc, wj⟩ := id hW
  have loop : ∀ (r p e : Nat) (f : Nat → Int32), p + r = v 0 3 → e = endB v y h p → (∀ q, q < p → f q = nI (h q - gos (v 1 q) (v 0 0 + y) (v 0 1) (v 0 2))) → (∀ q, q < v 0 3 → p ≤ q → f q = nI (h q)) → Rj X (d + 3) 0 0 mX1_endingInYear Q 5 [.ref 26, .ref 1, .int (nI y), .int (nI e), .int (nI p)] [] n (ur I 27 f) J (Pg i0 i1) := by
    intro r
    induction r with
    | zero =>
      intro p e f hpr he hf1 hf2
      have hV2 : VC 1 (ur I 27 f) v := hV.congr (fun i hi => ur_ne I f (by omega))
      refine j_iload dX1_endingInYear_5 rfl rfl ?_
      refine j_aload_n dX1_endingInYear_7 rfl rfl rfl ?_
      refine j_getIv (v := nI (v 0 3)) dX1_endingInYear_8 rfl fX1_57 rfl (by decide) rfl hV2.pairs ?_
      refine j_icmpgeN (tgt := 68) dX1_endingInYear_11 rfl rfl (by omega) (by omega) (fun h1 => ?_) (fun h1 => by exfalso; omega)
      refine j_iload_n dX1_endingInYear_68 rfl rfl rfl ?_
      refine j_iret dX1_endingInYear_69 rfl rfl ?_
      have hp : p = v 0 3 := by omega
      subst hp; subst he; exact hQ f (fun q hq => hf1 q hq)
    | succ r ih =>
      intro p e f hpr he hf1 hf2
      obtain ⟨q1, q2, q3, q4, q5⟩ := wp p (by omega)
      have hb := (hh p (by omega)).2
      have hV2 : VC 1 (ur I 27 f) v := hV.congr (fun i hi => ur_ne I f (by omega))
      refine j_iload dX1_endingInYear_5 rfl rfl ?_
      refine j_aload_n dX1_endingInYear_7 rfl rfl rfl ?_
      refine j_getIv (v := nI (v 0 3)) dX1_endingInYear_8 rfl fX1_57 rfl (by decide) rfl hV2.pairs ?_
      refine j_icmpgeN (tgt := 68) dX1_endingInYear_11 rfl rfl (by omega) (by omega) (fun h1 => by exfalso; omega) (fun h1 => ?_)
      refine j_aload_n dX1_endingInYear_14 rfl rfl rfl ?_
      refine j_getP (b := 27) dX1_endingInYear_15 rfl fX1_9 rfl (by decide) rfl rfl ?_
      refine j_iload dX1_endingInYear_18 rfl rfl ?_
      refine j_iald (j := p) (v := nI (h p)) dX1_endingInYear_20 rfl rfl (by decide) rfl (by omega) (by decide) (by rw [ur_row]; exact hf2 p (by omega) (by omega)) ?_
      refine j_ifleN (tgt := 62) dX1_endingInYear_21 rfl rfl (by omega) (fun h2 => ?_) (fun h2 => ?_)
      · refine j_iincN (L' := [.ref 26, .ref 1, .int (nI y), .int (nI e), .int (nI (p + 1))]) dX1_endingInYear_62 rfl rfl (b := 1) rfl rfl rfl (by decide) rfl ?_
        refine j_goto (tgt := 5) dX1_endingInYear_65 rfl ?_
        refine ih (p + 1) _ _ (by omega) ?_ ?_ ?_
        · rw [he]; simp only [endB]; rw [if_neg (by omega)]
        · intro q hq
          by_cases hqp : q = p
          · subst hqp; rw [hf2 q (by omega) (by omega)]; congr 1; omega
          · exact hf1 q (by omega)
        · intro q hq hpq
          exact hf2 q hq (by omega)
      · refine j_aload_n dX1_endingInYear_24 rfl rfl rfl ?_
        refine j_getP (b := 27) dX1_endingInYear_25 rfl fX1_9 rfl (by decide) rfl rfl ?_
        refine j_iload dX1_endingInYear_28 rfl rfl ?_
        refine j_aload_n dX1_endingInYear_30 rfl rfl rfl ?_
        refine j_aload_n dX1_endingInYear_31 rfl rfl rfl ?_
        refine j_getP (b := 27) dX1_endingInYear_32 rfl fX1_9 rfl (by decide) rfl rfl ?_
        refine j_iload dX1_endingInYear_35 rfl rfl ?_
        refine j_iald (j := p) (v := nI (h p)) dX1_endingInYear_37 rfl rfl (by decide) rfl (by omega) (by decide) (by rw [ur_row]; exact hf2 p (by omega) (by omega)) ?_
        refine j_iload dX1_endingInYear_38 rfl rfl ?_
        refine j_iload_n dX1_endingInYear_40 rfl rfl rfl ?_
        refine j_callVw (As := [.int (nI (h p)), .int (nI p), .int (nI y)]) dX1_endingInYear_41 rfl cX1_34 (by decide) rfl rfl (by decide) rfl (Nat.le_of_ble_eq_true rfl) rfl rfl (c_leftInYear hV2 (by omega) (by omega) (by omega) (by omega) (by omega) (by omega) (by omega) ?_)
        show Rj _ _ _ _ _ _ 44 [.ref 26, .ref 1, .int (nI y), .int (nI e), .int (nI p)] [.int (nI ((h p) - gos (v 1 p) (v 0 0 + y) (v 0 1) (v 0 2))), .int (nI p), .ref 27] n (ur I 27 f) J (Pg i0 i1)
        refine j_iast (j := p) dX1_endingInYear_44 rfl rfl (by decide) rfl (by omega) (by decide) ?_
        refine j_aload_n dX1_endingInYear_45 rfl rfl rfl ?_
        refine j_getP (b := 27) dX1_endingInYear_46 rfl fX1_9 rfl (by decide) rfl rfl ?_
        refine j_iload dX1_endingInYear_49 rfl rfl ?_
        refine j_iald (j := p) (v := nI ((h p) - gos (v 1 p) (v 0 0 + y) (v 0 1) (v 0 2))) dX1_endingInYear_51 rfl rfl (by decide) rfl (by omega) (by decide) (by simp [u2]) ?_
        refine j_ifneN (tgt := 62) dX1_endingInYear_52 rfl rfl (by omega) (fun h3 => ?_) (fun h3 => ?_)
        · refine j_iincN (L' := [.ref 26, .ref 1, .int (nI y), .int (nI e), .int (nI (p + 1))]) dX1_endingInYear_62 rfl rfl (b := 1) rfl rfl rfl (by decide) rfl ?_
          refine j_goto (tgt := 5) dX1_endingInYear_65 rfl ?_
          rw [u2_ur]
          refine ih (p + 1) _ _ (by omega) ?_ ?_ ?_
          · rw [he]; simp only [endB]; rw [if_neg (by omega)]
          · intro q hq
            by_cases hqp : q = p
            · subst hqp; rw [if_pos rfl]
            · rw [if_neg hqp]; exact hf1 q (by omega)
          · intro q hq hpq
            rw [if_neg (by omega)]; exact hf2 q hq (by omega)
        · refine j_iload_n dX1_endingInYear_55 rfl rfl rfl ?_
          refine j_iconst (v := nI 1) dX1_endingInYear_56 rfl rfl ?_
          refine j_iload dX1_endingInYear_57 rfl rfl ?_
          refine j_ishlN (c := 2 ^ p) dX1_endingInYear_59 rfl (by omega) (Nat.one_mul _) ?_
          refine j_iorN (c := e ||| (2 ^ p)) dX1_endingInYear_60 rfl rfl ?_
          refine j_istore_n (L' := [.ref 26, .ref 1, .int (nI y), .int (nI (e ||| (2 ^ p))), .int (nI p)]) dX1_endingInYear_61 rfl rfl rfl (by decide) rfl ?_
          refine j_iincN (L' := [.ref 26, .ref 1, .int (nI y), .int (nI (e ||| (2 ^ p))), .int (nI (p + 1))]) dX1_endingInYear_62 rfl rfl (b := 1) rfl rfl rfl (by decide) rfl ?_
          refine j_goto (tgt := 5) dX1_endingInYear_65 rfl ?_
          rw [u2_ur]
          refine ih (p + 1) _ _ (by omega) ?_ ?_ ?_
          · rw [he]; simp only [endB]; rw [if_pos ⟨by omega, by omega⟩]
          · intro q hq
            by_cases hqp : q = p
            · subst hqp; rw [if_pos rfl]
            · rw [if_neg hqp]; exact hf1 q (by omega)
          · intro q hq hpq
            rw [if_neg (by omega)]; exact hf2 q hq (by omega)
  refine j_iconst (v := nI 0) dX1_endingInYear_0 rfl rfl ?_
  refine j_istore_n (L' := [.ref 26, .ref 1, .int (nI y), .int (nI 0), jU]) dX1_endingInYear_1 rfl rfl rfl (by decide) rfl ?_
  refine j_iconst (v := nI 0) dX1_endingInYear_2 rfl rfl ?_
  refine j_istore (L' := [.ref 26, .ref 1, .int (nI y), .int (nI 0), .int (nI 0)]) dX1_endingInYear_3 rfl rfl (by decide) rfl ?_
  rw [← ur_self I 27]
  exact loop (v 0 3) 0 0 (I 27) (by omega) rfl (fun q hq => absurd hq (by omega)) (fun q hq _ => (hh q hq).1)
