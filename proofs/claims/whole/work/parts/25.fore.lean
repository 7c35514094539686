def pc6 (a : Nat) : Nat := a % 2 + a / 2 % 2 + a / 4 % 2 + a / 8 % 2 + a / 16 % 2 + a / 32 % 2
theorem pc6_le (a : Nat) : pc6 a ≤ 6 := by unfold pc6; omega
/-- who end in the y-th year from now -/
def ebY (v : VT) (y : Nat) : Nat := endB v y (fun p => lft (v 1 p) (v 0 1) (v 0 2) (v 0 0) (v 2 p) y) (v 0 3)
theorem ebY_lt {v : VT} (h : v 0 3 ≤ 6) (y : Nat) : ebY v y < 64 := Nat.lt_of_lt_of_le (endB_lt v y _ _) (Nat.pow_le_pow_right (by omega) h)
/-- the year of the most ends and 1, and which and 1 -/
def tog (eb : Nat → Nat) (yr : Nat) : Nat → Nat → Nat → Nat → Nat → Nat × Nat
  | 0, _, _, a, b => (a, b)
  | r + 1, y, ms, a, b => if ms < pc6 (eb y) then tog eb yr r (y + 1) (pc6 (eb y)) (yr + y + 1) (eb y + 1) else tog eb yr r (y + 1) ms a b
/-- Foresight's cells: what was found, and its row -/
def fsH (I : HI) (a b : Int32) (f : Nat → Int32) : HI := ur (u2 (u2 I 26 2 a) 26 3 b) 27 f
theorem fsH_a (I : HI) (a b x : Int32) (f : Nat → Int32) : u2 (fsH I a b f) 26 2 x = fsH I x b f := by
  funext c j
  unfold fsH
  by_cases h1 : c = 26
  · subst h1
    by_cases h2 : j = 2 <;> by_cases h3 : j = 3 <;> simp [u2, ur, h2, h3]
  · by_cases h2 : c = 27 <;> simp [u2, ur, h1, h2]
theorem fsH_b (I : HI) (a b x : Int32) (f : Nat → Int32) : u2 (fsH I a b f) 26 3 x = fsH I a x f := by
  funext c j
  unfold fsH
  by_cases h1 : c = 26
  · subst h1
    by_cases h2 : j = 2 <;> by_cases h3 : j = 3 <;> simp [u2, ur, h2, h3]
  · by_cases h2 : c = 27 <;> simp [u2, ur, h1, h2]
theorem fsH_f (I : HI) (a b : Int32) (f g : Nat → Int32) : ur (fsH I a b f) 27 g = fsH I a b g := ur_ur _ _ _ _
theorem fsH_ne (I : HI) (a b : Int32) (f : Nat → Int32) {c : Nat} (h1 : c ≠ 26) (h2 : c ≠ 27) : fsH I a b f c = I c := by
  unfold fsH
  rw [ur_ne _ _ h2, u2_ne _ _ _ h1, u2_ne _ _ _ h1]
theorem fsH_row (I : HI) (a b : Int32) (f : Nat → Int32) : fsH I a b f 27 = f := ur_row _ _ _
set_option maxHeartbeats 4000000 in
set_option maxRecDepth 100000 in
theorem c_lookForEnds {X : jX} {d n : Nat} {I : HI} {J : HJ} {i0 i1 : Option Nat} {Q : jPost} {v : VT} {yb : Nat} (hV : VC 1 I v) (hW : WF yb v) (hyb : yb ≤ 2 ^ 20) {T1 T2 : Nat} (hT : tog (ebY v) (v 0 0) 99 0 1 0 0 = (T1, T2)) (hQ : ∀ f, Q none n (fsH I (nI T1 - 1) (nI T2 - 1) f) J (Pg i0 i1)) : Cj X (d + 4) 0 0 mX1_lookForEnds [.ref 26, .ref 1] n I J (Pg i0 i1) Q := by
  refine Cj.intro rfl (Nat.le_of_ble_eq_true rfl) (L := [.ref 26, .ref 1, jU, jU, jU]) rfl ?_
  obtain ⟨⟨w0, w1, w2, w3, w4, w5, w6⟩, wp, wk, wc, wj⟩ := id hW
  have loop : ∀ (r y ms a b : Nat) (f : Nat → Int32) (z : Value), y + r = 99 → ms ≤ 6 → (∀ p, p < v 0 3 → f p = nI (lft (v 1 p) (v 0 1) (v 0 2) (v 0 0) (v 2 p) y)) → tog (ebY v) (v 0 0) r y ms a b = (T1, T2) → Rj X (d + 4) 0 0 mX1_lookForEnds Q 29 [.ref 26, .ref 1, .int (nI ms), .int (nI y), z] [] n (fsH I (nI a - 1) (nI b - 1) f) J (Pg i0 i1) := by
    intro r
    induction r with
    | zero =>
      intro y ms a b f z hyr hms hf hr
      have hV2 : VC 1 (fsH I (nI a - 1) (nI b - 1) f) v := hV.congr (fun i hi => fsH_ne I _ _ f (by omega) (by omega))
      refine j_iload_n dX1_lookForEnds_29 rfl rfl rfl ?_
      refine j_bipush (v := nI 99) dX1_lookForEnds_30 rfl rfl ?_
      refine j_icmpgeN (tgt := 80) dX1_lookForEnds_32 rfl rfl (by omega) (by decide) (fun h1 => ?_) (fun h1 => by exfalso; omega)
      refine j_vret dX1_lookForEnds_80 rfl ?_
      simp only [tog, Prod.mk.injEq] at hr
      obtain ⟨rfl, rfl⟩ := hr
      exact hQ f
    | succ r ih =>
      intro y ms a b f z hyr hms hf hr
      have hV2 : VC 1 (fsH I (nI a - 1) (nI b - 1) f) v := hV.congr (fun i hi => fsH_ne I _ _ f (by omega) (by omega))
      have hel := ebY_lt w3 y
      have hpc := pc6_le (ebY v y)
      refine j_iload_n dX1_lookForEnds_29 rfl rfl rfl ?_
      refine j_bipush (v := nI 99) dX1_lookForEnds_30 rfl rfl ?_
      refine j_icmpgeN (tgt := 80) dX1_lookForEnds_32 rfl rfl (by omega) (by decide) (fun h1 => by exfalso; omega) (fun h1 => ?_)
      refine j_aload_n dX1_lookForEnds_35 rfl rfl rfl ?_
      refine j_aload_n dX1_lookForEnds_36 rfl rfl rfl ?_
      refine j_iload_n dX1_lookForEnds_37 rfl rfl rfl ?_
      refine j_callVw (As := [.ref 1, .int (nI y)]) dX1_lookForEnds_38 rfl cX1_47 (by decide) rfl rfl (by decide) rfl (by decide) rfl rfl (c_endingInYear (h := (fun p => lft (v 1 p) (v 0 1) (v 0 2) (v 0 0) (v 2 p) y)) hV2 hW hyb (by omega) (fun p hp => ⟨by rw [fsH_row]; exact hf p hp, Nat.le_trans (lft_le _ _ _ _ _ _) (wp p hp).2.1⟩) (fun f2 hf2 => ?_))
      rw [fsH_f]
      show Rj _ _ _ _ _ _ 41 [.ref 26, .ref 1, .int (nI ms), .int (nI y), z] [.int (nI (ebY v y))] n (fsH I (nI a - 1) (nI b - 1) f2) J (Pg i0 i1)
      have hf3 : ∀ p, p < v 0 3 → f2 p = nI (lft (v 1 p) (v 0 1) (v 0 2) (v 0 0) (v 2 p) (y + 1)) := by
        intro p hp
        rw [lft_succ]
        exact hf2 p hp
      refine j_istore (L' := [.ref 26, .ref 1, .int (nI ms), .int (nI y), .int (nI (ebY v y))]) dX1_lookForEnds_41 rfl rfl (by decide) rfl ?_
      refine j_iload dX1_lookForEnds_43 rfl rfl ?_
      refine j_callSw (As := [.int (nI (ebY v y))]) dX1_lookForEnds_45 rfl cX1_51 rfl (by decide) rfl rfl (c_bitCount hel ?_)
      show Rj _ _ _ _ _ _ 48 [.ref 26, .ref 1, .int (nI ms), .int (nI y), .int (nI (ebY v y))] [.int (nI (pc6 (ebY v y)))] n (fsH I (nI a - 1) (nI b - 1) f2) J (Pg i0 i1)
      refine j_iload_n dX1_lookForEnds_48 rfl rfl rfl ?_
      refine j_icmpleN (tgt := 74) dX1_lookForEnds_49 rfl rfl (by omega) (by omega) (fun h2 => ?_) (fun h2 => ?_)
      · refine j_iincN (L' := [.ref 26, .ref 1, .int (nI ms), .int (nI (y + 1)), .int (nI (ebY v y))]) dX1_lookForEnds_74 rfl rfl (b := 1) rfl rfl rfl (by decide) rfl ?_
        refine j_goto (tgt := 29) dX1_lookForEnds_77 rfl ?_
        refine ih (y + 1) _ _ _ f2 _ (by omega) (by omega) hf3 ?_
        rw [← hr]; conv => rhs; unfold tog
        rw [if_neg (by omega)]
      · refine j_iload dX1_lookForEnds_52 rfl rfl ?_
        refine j_callSw (As := [.int (nI (ebY v y))]) dX1_lookForEnds_54 rfl cX1_51 rfl (by decide) rfl rfl (c_bitCount hel ?_)
        show Rj _ _ _ _ _ _ 57 [.ref 26, .ref 1, .int (nI ms), .int (nI y), .int (nI (ebY v y))] [.int (nI (pc6 (ebY v y)))] n (fsH I (nI a - 1) (nI b - 1) f2) J (Pg i0 i1)
        refine j_istore_n (L' := [.ref 26, .ref 1, .int (nI (pc6 (ebY v y))), .int (nI y), .int (nI (ebY v y))]) dX1_lookForEnds_57 rfl rfl rfl (by decide) rfl ?_
        refine j_aload_n dX1_lookForEnds_58 rfl rfl rfl ?_
        refine j_aload_n dX1_lookForEnds_59 rfl rfl rfl ?_
        refine j_getIv (v := nI (v 0 0)) dX1_lookForEnds_60 rfl fX1_38 rfl (by decide) rfl hV2.year ?_
        refine j_iload_n dX1_lookForEnds_63 rfl rfl rfl ?_
        refine j_iaddN (c := (v 0 0) + y) dX1_lookForEnds_64 rfl rfl ?_
        refine j_putI dX1_lookForEnds_65 rfl fX1_19 rfl (by decide) rfl rfl ?_
        refine j_aload_n dX1_lookForEnds_68 rfl rfl rfl ?_
        refine j_iload dX1_lookForEnds_69 rfl rfl ?_
        refine j_putI dX1_lookForEnds_71 rfl fX1_23 rfl (by decide) rfl rfl ?_
        refine j_iincN (L' := [.ref 26, .ref 1, .int (nI (pc6 (ebY v y))), .int (nI (y + 1)), .int (nI (ebY v y))]) dX1_lookForEnds_74 rfl rfl (b := 1) rfl rfl rfl (by decide) rfl ?_
        refine j_goto (tgt := 29) dX1_lookForEnds_77 rfl ?_
        have e1 : nI (v 0 0 + y) = nI (v 0 0 + y + 1) - 1 := (nI_pred _).symm
        have e2 : nI (ebY v y) = nI (ebY v y + 1) - 1 := (nI_pred _).symm
        rw [e1, e2, fsH_a, fsH_b]
        refine ih (y + 1) _ _ _ f2 _ (by omega) (by omega) hf3 ?_
        rw [← hr]; conv => rhs; unfold tog
        rw [if_pos (by omega)]
  refine j_aload_n dX1_lookForEnds_0 rfl rfl rfl ?_
  refine j_iconst (v := (-1)) dX1_lookForEnds_1 rfl rfl ?_
  refine j_putI dX1_lookForEnds_2 rfl fX1_19 rfl (by decide) rfl rfl ?_
  refine j_aload_n dX1_lookForEnds_5 rfl rfl rfl ?_
  refine j_iconst (v := (-1)) dX1_lookForEnds_6 rfl rfl ?_
  refine j_putI dX1_lookForEnds_7 rfl fX1_23 rfl (by decide) rfl rfl ?_
  refine j_iconst (v := nI 1) dX1_lookForEnds_10 rfl rfl ?_
  refine j_istore_n (L' := [.ref 26, .ref 1, .int (nI 1), jU, jU]) dX1_lookForEnds_11 rfl rfl rfl (by decide) rfl ?_
  refine j_aload_n dX1_lookForEnds_12 rfl rfl rfl ?_
  refine j_getP (b := 3) dX1_lookForEnds_13 rfl fX1_31 rfl (by decide) rfl rfl ?_
  refine j_iconst (v := nI 0) dX1_lookForEnds_16 rfl rfl ?_
  refine j_aload_n dX1_lookForEnds_17 rfl rfl rfl ?_
  refine j_getP (b := 27) dX1_lookForEnds_18 rfl fX1_9 rfl (by decide) rfl rfl ?_
  refine j_iconst (v := nI 0) dX1_lookForEnds_21 rfl rfl ?_
  refine j_bipush (v := nI 6) dX1_lookForEnds_22 rfl rfl ?_
  refine j_copy (sp := 0) (dp := 0) (cn := 6) dX1_lookForEnds_24 rfl cX1_41 jvw_an jvw_as jvw_ai rfl rfl (by decide) (by decide) rfl rfl rfl (by decide) (by decide) (by decide) (by decide) (by decide) ?_
  refine j_iconst (v := nI 0) dX1_lookForEnds_27 rfl rfl ?_
  refine j_istore_n (L' := [.ref 26, .ref 1, .int (nI 1), .int (nI 0), jU]) dX1_lookForEnds_28 rfl rfl rfl (by decide) rfl ?_
  refine loop 99 0 1 0 0 _ _ rfl (by omega) (fun p hp => ?_) hT
  rw [pk_cpy_in (by omega) (by omega), show 0 + (p - 0) = p by omega]
  exact hV.lv hp
def drt (dr : Nat) (g : Nat → Nat) : Nat → Nat → Nat → Nat → Nat
  | 0, _, wc, _ => wc
  | r + 1, d, wc, few => if dr / 2 ^ d % 2 = 0 ∧ (wc = 0 ∨ g d < few) then drt dr g r (d + 1) (d + 1) (g d) else drt dr g r (d + 1) wc few
def lbD (v : VT) (m d : Nat) : Nat := sumN (fun p => lft (v 1 p) (v 0 1) ((v 0 2) ||| (2 ^ d)) (v 0 0) (v 2 p) m) (v 0 3)
theorem or12 {a d : Nat} (ha : a ≤ 4095) (hd : d < 12) : a ||| 2 ^ d ≤ 4095 := by
  have h1 : a < 2 ^ 12 := by omega
  have h2 : 2 ^ d < 2 ^ 12 := Nat.pow_lt_pow_right (by omega) hd
  have := Nat.or_lt_two_pow h1 h2
  omega
theorem lbD_le {v : VT} {m d : Nat} (h3 : v 0 3 ≤ 6) (h : ∀ p, p < v 0 3 → v 2 p ≤ 60) : lbD v m d ≤ 360 := by
  refine Nat.le_trans (sumN_le (b := 60) _ (fun p hp => Nat.le_trans (lft_le _ _ _ _ _ _) (h p hp))) ?_
  exact Nat.le_trans (Nat.mul_le_mul_right 60 h3) (by omega)
set_option maxHeartbeats 4000000 in
set_option maxRecDepth 100000 in
theorem c_worstDrought {X : jX} {d n : Nat} {I : HI} {J : HJ} {i0 i1 : Option Nat} {Q : jPost} {v : VT} {yb : Nat} (hV : VC 1 I v) (hW : WF yb v) (hyb : yb ≤ 2 ^ 20) {m T : Nat} (hm : m ≤ 60) (hT : drt (v 0 2) (lbD v m) 12 0 0 0 = T) (hQ : Q (some (.int (nI T - 1))) n I J (Pg i0 i1)) : Cj X (d + 4) 0 0 mX1_worstDrought [.ref 1, .int (nI m)] n I J (Pg i0 i1) Q := by
  refine Cj.intro rfl (Nat.le_of_ble_eq_true rfl) (L := [.ref 1, .int (nI m), jU, jU, jU, jU]) rfl ?_
  obtain ⟨⟨w0, w1, w2, w3, w4, w5, w6⟩, wp, wk, wc, wj⟩ := id hW
  have loop : ∀ (r dd wc few : Nat) (z : Value), dd + r = 12 → wc ≤ 12 → few ≤ 360 → drt (v 0 2) (lbD v m) r dd wc few = T → Rj X (d + 4) 0 0 mX1_worstDrought Q 7 [.ref 1, .int (nI m), .int (nI wc - 1), .int (nI few), .int (nI dd), z] [] n I J (Pg i0 i1) := by
    intro r
    induction r with
    | zero =>
      intro dd wc few z hdr hwc hfw hr
      refine j_iload dX1_worstDrought_7 rfl rfl ?_
      refine j_bipush (v := nI 12) dX1_worstDrought_9 rfl rfl ?_
      refine j_icmpgeN (tgt := 65) dX1_worstDrought_11 rfl rfl (by omega) (by decide) (fun h1 => ?_) (fun h1 => by exfalso; omega)
      refine j_iload_n dX1_worstDrought_65 rfl rfl rfl ?_
      refine j_iret dX1_worstDrought_66 rfl rfl ?_
      rw [← hr] at hQ; exact hQ
    | succ r ih =>
      intro dd wc few z hdr hwc hfw hr
      have ho12 := or12 w2 (show dd < 12 by omega)
      have hlb := lbD_le (m := m) (d := dd) w3 (fun p hp => (wp p hp).2.1)
      refine j_iload dX1_worstDrought_7 rfl rfl ?_
      refine j_bipush (v := nI 12) dX1_worstDrought_9 rfl rfl ?_
      refine j_icmpgeN (tgt := 65) dX1_worstDrought_11 rfl rfl (by omega) (by decide) (fun h1 => by exfalso; omega) (fun h1 => ?_)
      refine j_aload_n dX1_worstDrought_14 rfl rfl rfl ?_
      refine j_getIv (v := nI (v 0 2)) dX1_worstDrought_15 rfl fX1_60 rfl (by decide) rfl hV.dry ?_
      refine j_iload dX1_worstDrought_18 rfl rfl ?_
      refine j_ishrN (c := (v 0 2) / 2 ^ dd) dX1_worstDrought_20 rfl (by omega) (by omega) rfl ?_
      refine j_iconst (v := nI 1) dX1_worstDrought_21 rfl rfl ?_
      refine j_iand1N (c := (v 0 2) / 2 ^ dd % 2) dX1_worstDrought_22 rfl rfl ?_
      refine j_ifneN (tgt := 59) dX1_worstDrought_23 rfl rfl (by omega) (fun h2 => ?_) (fun h2 => ?_)
      · refine j_iincN (L' := [.ref 1, .int (nI m), .int (nI wc - 1), .int (nI few), .int (nI (dd + 1)), z]) dX1_worstDrought_59 rfl rfl (b := 1) rfl rfl rfl (by decide) rfl ?_
        refine j_goto (tgt := 7) dX1_worstDrought_62 rfl ?_
        refine ih (dd + 1) wc _ _ (by omega) (by omega) (by omega) ?_
        rw [← hr]; conv => rhs; unfold drt
        rw [if_neg (by omega)]
      · refine j_aload_n dX1_worstDrought_26 rfl rfl rfl ?_
        refine j_iload_n dX1_worstDrought_27 rfl rfl rfl ?_
        refine j_aload_n dX1_worstDrought_28 rfl rfl rfl ?_
        refine j_getIv (v := nI (v 0 2)) dX1_worstDrought_29 rfl fX1_60 rfl (by decide) rfl hV.dry ?_
        refine j_iconst (v := nI 1) dX1_worstDrought_32 rfl rfl ?_
        refine j_iload dX1_worstDrought_33 rfl rfl ?_
        refine j_ishlN (c := 2 ^ dd) dX1_worstDrought_35 rfl (by omega) (Nat.one_mul _) ?_
        refine j_iorN (c := (v 0 2) ||| (2 ^ dd)) dX1_worstDrought_36 rfl rfl ?_
        refine j_callSw (As := [.ref 1, .int (nI m), .int (nI ((v 0 2) ||| (2 ^ dd)))]) dX1_worstDrought_37 rfl cX1_63 rfl (by decide) rfl rfl (c_loavesBehind hV hW hyb (by omega) ho12 ?_)
        show Rj _ _ _ _ _ _ 40 [.ref 1, .int (nI m), .int (nI wc - 1), .int (nI few), .int (nI dd), z] [.int (nI (lbD v m dd))] n I J (Pg i0 i1)
        refine j_istore (L' := [.ref 1, .int (nI m), .int (nI wc - 1), .int (nI few), .int (nI dd), .int (nI (lbD v m dd))]) dX1_worstDrought_40 rfl rfl (by decide) rfl ?_
        refine j_iload_n dX1_worstDrought_42 rfl rfl rfl ?_
        refine j_iconst (v := (-1)) dX1_worstDrought_43 rfl rfl ?_
        refine j_icmpeq (tgt := 53) dX1_worstDrought_44 rfl rfl (fun h3 => ?_) (fun h3 => ?_)
        · refine j_iload dX1_worstDrought_53 rfl rfl ?_
          refine j_istore_n (L' := [.ref 1, .int (nI m), .int (nI dd), .int (nI few), .int (nI dd), .int (nI (lbD v m dd))]) dX1_worstDrought_55 rfl rfl rfl (by decide) rfl ?_
          refine j_iload dX1_worstDrought_56 rfl rfl ?_
          refine j_istore_n (L' := [.ref 1, .int (nI m), .int (nI dd), .int (nI (lbD v m dd)), .int (nI dd), .int (nI (lbD v m dd))]) dX1_worstDrought_58 rfl rfl rfl (by decide) rfl ?_
          refine j_iincN (L' := [.ref 1, .int (nI m), .int (nI dd), .int (nI (lbD v m dd)), .int (nI (dd + 1)), .int (nI (lbD v m dd))]) dX1_worstDrought_59 rfl rfl (b := 1) rfl rfl rfl (by decide) rfl ?_
          refine j_goto (tgt := 7) dX1_worstDrought_62 rfl ?_
          rw [show nI dd = nI (dd + 1) - 1 from (nI_pred _).symm]
          refine ih (dd + 1) (dd + 1) _ _ (by omega) (by omega) (by omega) ?_
          rw [← hr]; conv => rhs; unfold drt
          rw [if_pos (show (v 0 2) / 2 ^ dd % 2 = 0 ∧ (wc = 0 ∨ lbD v m dd < few) from ⟨by omega, by first | exact Or.inr (by omega) | exact Or.inl (en_z (by omega) (by assumption))⟩)]
        · refine j_iload dX1_worstDrought_47 rfl rfl ?_
          refine j_iload_n dX1_worstDrought_49 rfl rfl rfl ?_
          refine j_icmpgeN (tgt := 59) dX1_worstDrought_50 rfl rfl (by omega) (by omega) (fun h4 => ?_) (fun h4 => ?_)
          · refine j_iincN (L' := [.ref 1, .int (nI m), .int (nI wc - 1), .int (nI few), .int (nI (dd + 1)), .int (nI (lbD v m dd))]) dX1_worstDrought_59 rfl rfl (b := 1) rfl rfl rfl (by decide) rfl ?_
            refine j_goto (tgt := 7) dX1_worstDrought_62 rfl ?_
            refine ih (dd + 1) wc _ _ (by omega) (by omega) (by omega) ?_
            rw [← hr]; conv => rhs; unfold drt
            have hne : ¬ nI wc - 1 = -1 := by assumption
            rw [if_neg (show ¬ ((v 0 2) / 2 ^ dd % 2 = 0 ∧ (wc = 0 ∨ lbD v m dd < few)) from fun q => q.2.elim (fun q2 => hne (by rw [q2]; rfl)) (fun q2 => by omega))]
          · refine j_iload dX1_worstDrought_53 rfl rfl ?_
            refine j_istore_n (L' := [.ref 1, .int (nI m), .int (nI dd), .int (nI few), .int (nI dd), .int (nI (lbD v m dd))]) dX1_worstDrought_55 rfl rfl rfl (by decide) rfl ?_
            refine j_iload dX1_worstDrought_56 rfl rfl ?_
            refine j_istore_n (L' := [.ref 1, .int (nI m), .int (nI dd), .int (nI (lbD v m dd)), .int (nI dd), .int (nI (lbD v m dd))]) dX1_worstDrought_58 rfl rfl rfl (by decide) rfl ?_
            refine j_iincN (L' := [.ref 1, .int (nI m), .int (nI dd), .int (nI (lbD v m dd)), .int (nI (dd + 1)), .int (nI (lbD v m dd))]) dX1_worstDrought_59 rfl rfl (b := 1) rfl rfl rfl (by decide) rfl ?_
            refine j_goto (tgt := 7) dX1_worstDrought_62 rfl ?_
            rw [show nI dd = nI (dd + 1) - 1 from (nI_pred _).symm]
            refine ih (dd + 1) (dd + 1) _ _ (by omega) (by omega) (by omega) ?_
            rw [← hr]; conv => rhs; unfold drt
            rw [if_pos (show (v 0 2) / 2 ^ dd % 2 = 0 ∧ (wc = 0 ∨ lbD v m dd < few) from ⟨by omega, by first | exact Or.inr (by omega) | exact Or.inl (en_z (by omega) (by assumption))⟩)]
  refine j_iconst (v := (-1)) dX1_worstDrought_0 rfl rfl ?_
  refine j_istore_n (L' := [.ref 1, .int (nI m), .int (-1), jU, jU, jU]) dX1_worstDrought_1 rfl rfl rfl (by decide) rfl ?_
  refine j_iconst (v := nI 0) dX1_worstDrought_2 rfl rfl ?_
  refine j_istore_n (L' := [.ref 1, .int (nI m), .int (-1), .int (nI 0), jU, jU]) dX1_worstDrought_3 rfl rfl rfl (by decide) rfl ?_
  refine j_iconst (v := nI 0) dX1_worstDrought_4 rfl rfl ?_
  refine j_istore (L' := [.ref 1, .int (nI m), .int (-1), .int (nI 0), .int (nI 0), jU]) dX1_worstDrought_5 rfl rfl (by decide) rfl ?_
  exact loop 12 0 0 0 _ rfl (by omega) (by omega) hT
