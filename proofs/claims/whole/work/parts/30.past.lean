theorem mnN {a b : Nat} (ha : a < 2 ^ 31) (hb : b < 2 ^ 31) : (if nI b < nI a then nI b else nI a) = nI (min a b) := by
  by_cases h : b < a
  · rw [if_pos ((nI_ltI hb ha).mpr h), Nat.min_eq_right (by omega)]
  · rw [if_neg (fun q => h ((nI_ltI hb ha).mp q)), Nat.min_eq_left (by omega)]
theorem cpy3 (A B C : Nat → Int32) (y : Int32) (s q : Nat) : va_cpy A (va_cpy B (fun q => if q = s then y else C q) 0 (s + 1) 6) 0 (s + 1 + 6) 6 q = if q = s then y else if s + 1 ≤ q ∧ q < s + 7 then B (q - (s + 1)) else if s + 7 ≤ q ∧ q < s + 13 then A (q - (s + 7)) else C q := by
  simp only [va_cpy]
  by_cases h1 : q = s
  · rw [if_neg (by omega), if_neg (by omega), if_pos h1, if_pos h1]
  · rw [if_neg h1, if_neg h1]
    by_cases h2 : s + 1 ≤ q ∧ q < s + 7
    · rw [if_neg (by omega), if_pos (by omega), if_pos h2, Nat.zero_add]
    · rw [if_neg h2]
      by_cases h3 : s + 7 ≤ q ∧ q < s + 13
      · rw [if_pos (by omega), if_pos h3, Nat.zero_add]
        rw [if_neg h2]
      · rw [if_neg (by omega), if_neg (by omega), if_neg h3]
theorem VC_push {I I' : HI} {v : VT} {fr : Nat} (h6 : v 0 3 ≤ 6) (hV : VC 1 I v) (hfr : fr < 8) (hf1 : I 10 1 = nI fr) (hj : ∀ j, j < v 0 6 → I 11 (13 * ((fr + 7 - j) % 8)) = nI (v (10 + j) 0) ∧ ∀ p, p < v 0 3 → I 11 (13 * ((fr + 7 - j) % 8) + 1 + p) = nI (v (10 + j) (1 + p)) ∧ I 11 (13 * ((fr + 7 - j) % 8) + 7 + p) = nI (v (10 + j) (7 + p)) - 1)
    (e1 : I' 10 1 = nI ((fr + 1) % 8)) (e2 : I' 10 2 = nI (min 8 (v 0 6 + 1))) (er : ∀ q, I' 11 q = if q = fr * 13 then nI (v 0 0) else if fr * 13 + 1 ≤ q ∧ q < fr * 13 + 7 then I 3 (q - (fr * 13 + 1)) else if fr * 13 + 7 ≤ q ∧ q < fr * 13 + 13 then I 5 (q - (fr * 13 + 7)) else I 11 q) (eo : ∀ a, a ≠ 10 → a ≠ 11 → I' a = I a) : VC 1 I' (vPush v) := by
  obtain ⟨hs, hp1, hk1, hc1, -⟩ := id hV
  have o1 := eo 1 (by omega) (by omega)
  refine ⟨?_, fun p hp => ?_, fun k hk => ?_, fun c hc => ?_, (fr + 1) % 8, Nat.mod_lt _ (by omega), e1, e2, fun j hjj => ?_⟩
  · rw [o1]; exact hs
  · show I' 2 p = _ ∧ I' 3 p = _ ∧ I' 4 p = _ ∧ I' 5 p = _
    rw [eo 2 (by omega) (by omega), eo 3 (by omega) (by omega), eo 4 (by omega) (by omega), eo 5 (by omega) (by omega)]
    exact hp1 p hp
  · show I' 6 k = _
    rw [eo 6 (by omega) (by omega)]
    exact hk1 k hk
  · show I' 7 c = _ ∧ I' 8 c = _ ∧ I' 9 c = _
    rw [eo 7 (by omega) (by omega), eo 8 (by omega) (by omega), eo 9 (by omega) (by omega)]
    exact hc1 c hc
  · have hjj : j < min 8 (v 0 6 + 1) := hjj
    show I' 11 _ = _ ∧ ∀ p, p < v 0 3 → I' 11 _ = _ ∧ I' 11 _ = _
    cases j with
    | zero =>
      have e : ((fr + 1) % 8 + 7 - 0) % 8 = fr := by omega
      rw [e]
      refine ⟨?_, fun p hp => ⟨?_, ?_⟩⟩
      · rw [er, if_pos (by omega)]
        rfl
      · rw [er, if_neg (by omega), if_pos (by omega), show 13 * fr + 1 + p - (fr * 13 + 1) = p by omega]
        have := (hp1 p hp).2.1
        show I 3 p = nI (if (1 + p) = 0 then _ else if 1 + p < 7 then v 2 (1 + p - 1) else _)
        rw [if_neg (by omega), if_pos (by omega), Nat.add_sub_cancel_left]
        exact this
      · rw [er, if_neg (by omega), if_neg (by omega), if_pos (by omega), show 13 * fr + 7 + p - (fr * 13 + 7) = p by omega]
        have := (hp1 p hp).2.2.2
        show I 5 p = nI (if (7 + p) = 0 then _ else if 7 + p < 7 then _ else v 4 (7 + p - 7)) - 1
        rw [if_neg (by omega), if_neg (by omega), Nat.add_sub_cancel_left]
        exact this
    | succ j =>
      have hj8 : j < 7 := by omega
      have e : ((fr + 1) % 8 + 7 - (j + 1)) % 8 = (fr + 7 - j) % 8 := by omega
      rw [e]
      have hne : (fr + 7 - j) % 8 ≠ fr := by omega
      have hl8 : (fr + 7 - j) % 8 < 8 := Nat.mod_lt _ (by omega)
      obtain ⟨g0, g⟩ := hj j (by omega)
      generalize (fr + 7 - j) % 8 = r at hne hl8 g0 g ⊢
      have ev : ∀ i, vPush v (10 + (j + 1)) i = v (10 + j) i := fun i => by
        unfold vPush
        rw [if_neg (by omega), if_neg (by omega), if_pos (by omega)]
        rfl
      refine ⟨?_, fun p hp => ?_⟩
      · rw [er, if_neg (by omega), if_neg (by omega), if_neg (by omega), ev]
        exact g0
      · obtain ⟨g1, g2⟩ := g p hp
        refine ⟨?_, ?_⟩
        · rw [er, if_neg (by omega), if_neg (by omega), if_neg (by omega), ev]
          exact g1
        · rw [er, if_neg (by omega), if_neg (by omega), if_neg (by omega), ev]
          exact g2
theorem VC_pop {I I' : HI} {v : VT} {fr : Nat} (h6 : v 0 3 ≤ 6) (h8 : v 0 6 ≤ 8) (h0 : 0 < v 0 6) (hV : VC 1 I v) (hfr : fr < 8) (hj : ∀ j, j < v 0 6 → I 11 (13 * ((fr + 7 - j) % 8)) = nI (v (10 + j) 0) ∧ ∀ p, p < v 0 3 → I 11 (13 * ((fr + 7 - j) % 8) + 1 + p) = nI (v (10 + j) (1 + p)) ∧ I 11 (13 * ((fr + 7 - j) % 8) + 7 + p) = nI (v (10 + j) (7 + p)) - 1)
    (e1 : I' 10 1 = nI ((fr + 7) % 8)) (e2 : I' 10 2 = nI (v 0 6 - 1)) (e3 : ∀ q, q < 6 → I' 3 q = I 11 (13 * ((fr + 7) % 8) + 1 + q)) (e5 : ∀ q, q < 6 → I' 5 q = I 11 (13 * ((fr + 7) % 8) + 7 + q)) (ey : I' 1 0 = I 11 (13 * ((fr + 7) % 8))) (ex : ∀ i, i ≠ 0 → I' 1 i = I 1 i) (eo : ∀ a, a ≠ 10 → a ≠ 3 → a ≠ 5 → a ≠ 1 → I' a = I a) : VC 1 I' (vPop v) := by
  obtain ⟨hs, hp1, hk1, hc1, -⟩ := id hV
  obtain ⟨s0, s1, s2, s3, s4, s5⟩ := hs
  obtain ⟨g0, g⟩ := hj 0 h0
  rw [Nat.sub_zero] at g0 g
  refine ⟨⟨?_, ?_, ?_, ?_, ?_, ?_⟩, fun p hp => ?_, fun k hk => ?_, fun c hc => ?_, (fr + 7) % 8, Nat.mod_lt _ (by omega), e1, e2, fun j hjj => ?_⟩
  · rw [ey]; exact g0
  · rw [ex 1 (by omega)]; exact s1
  · rw [ex 2 (by omega)]; exact s2
  · rw [ex 3 (by omega)]; exact s3
  · rw [ex 4 (by omega)]; exact s4
  · rw [ex 5 (by omega)]; exact s5
  · have hp : p < v 0 3 := hp
    show I' 2 p = _ ∧ I' 3 p = _ ∧ I' 4 p = _ ∧ I' 5 p = _
    obtain ⟨a1, a2, a3, a4⟩ := hp1 p hp
    obtain ⟨b1, b2⟩ := g p hp
    rw [eo 2 (by omega) (by omega) (by omega) (by omega), e3 p (by omega), eo 4 (by omega) (by omega) (by omega) (by omega), e5 p (by omega)]
    exact ⟨a1, b1, a3, b2⟩
  · show I' 6 k = _
    rw [eo 6 (by omega) (by omega) (by omega) (by omega)]
    exact hk1 k hk
  · show I' 7 c = _ ∧ I' 8 c = _ ∧ I' 9 c = _
    rw [eo 7 (by omega) (by omega) (by omega) (by omega), eo 8 (by omega) (by omega) (by omega) (by omega), eo 9 (by omega) (by omega) (by omega) (by omega)]
    exact hc1 c hc
  · have hjj : j < v 0 6 - 1 := hjj
    show I' 11 _ = _ ∧ ∀ p, p < v 0 3 → I' 11 _ = _ ∧ I' 11 _ = _
    rw [eo 11 (by omega) (by omega) (by omega) (by omega), show ((fr + 7) % 8 + 7 - j) % 8 = (fr + 7 - (j + 1)) % 8 by omega]
    have ev : ∀ i, vPop v (10 + j) i = v (10 + (j + 1)) i := fun i => by
      unfold vPop
      rw [if_neg (by omega), if_neg (by omega), if_neg (by omega), if_pos (by omega)]
      rfl
    rw [ev]
    obtain ⟨c0, c1⟩ := hj (j + 1) (by omega)
    refine ⟨c0, fun p hp => ?_⟩
    rw [ev, ev]
    exact c1 p hp
theorem u2_self {α : Type} (I : Nat → Nat → α) (a k : Nat) (v : α) : u2 I a k v a k = v := by simp [u2]
theorem u2_ne2 {α : Type} (I : Nat → Nat → α) (a : Nat) {k j : Nat} (v : α) (h : j ≠ k) : u2 I a k v a j = I a j := by simp [u2, h]
theorem u2_c35 (I : HI) (f g : Nat → Int32) (k : Nat) (x : Int32) : u2 (ur (ur I 3 f) 5 g) 3 k x = ur (u2 (ur I 3 f) 3 k x) 5 g := by
  funext a j
  by_cases h : a = 3
  · subst h; simp [u2, ur]
  · by_cases h5 : a = 5 <;> simp [u2, ur, h, h5]
set_option maxHeartbeats 4000000 in
set_option maxRecDepth 100000 in
theorem c_push {X : jX} {d n : Nat} {I : HI} {J : HJ} {i0 i1 : Option Nat} {Q : jPost} {v : VT} (hV : VC 1 I v) (h6 : v 0 3 ≤ 6) (h8 : v 0 6 ≤ 8) (hy : v 0 0 < 2 ^ 30) (hQ : ∀ I', VC 1 I' (vPush v) → (∀ a, a ≠ 10 → a ≠ 11 → I' a = I a) → Q none n I' J (Pg i0 i1)) : Cj X (d + 1) 0 0 mX5_push [.ref 10, .int (nI (v 0 0)), .ref 3, .ref 5] n I J (Pg i0 i1) Q := by
  refine Cj.intro rfl (Nat.le_of_ble_eq_true rfl) (L := [.ref 10, .int (nI (v 0 0)), .ref 3, .ref 5, jU]) rfl ?_
  obtain ⟨fr, hfr, hf1, hf2, hj⟩ := hV.2.2.2.2
  have hf1 : I 10 1 = nI fr := hf1
  have hf2 : I 10 2 = nI (v 0 6) := hf2
  refine j_aload_n dX5_push_0 rfl rfl rfl ?_
  refine j_getIv (v := nI fr) dX5_push_1 rfl fX5_15 rfl (by decide) rfl hf1 ?_
  refine j_bipush (v := nI 13) dX5_push_4 rfl rfl ?_
  refine j_imulN (c := fr * 13) dX5_push_6 rfl rfl ?_
  refine j_istore (L' := [.ref 10, .int (nI (v 0 0)), .ref 3, .ref 5, .int (nI (fr * 13))]) dX5_push_7 rfl rfl (by decide) rfl ?_
  refine j_aload_n dX5_push_9 rfl rfl rfl ?_
  refine j_getP (b := 11) dX5_push_10 rfl fX5_11 rfl (by decide) rfl rfl ?_
  refine j_iload dX5_push_13 rfl rfl ?_
  refine j_iload_n dX5_push_15 rfl rfl rfl ?_
  refine j_iast (j := fr * 13) dX5_push_16 rfl rfl (by decide) rfl (by omega) (by decide) ?_
  refine j_aload_n dX5_push_17 rfl rfl rfl ?_
  refine j_iconst (v := nI 0) dX5_push_18 rfl rfl ?_
  refine j_aload_n dX5_push_19 rfl rfl rfl ?_
  refine j_getP (b := 11) dX5_push_20 rfl fX5_11 rfl (by decide) rfl rfl ?_
  refine j_iload dX5_push_23 rfl rfl ?_
  refine j_iconst (v := nI 1) dX5_push_25 rfl rfl ?_
  refine j_iaddN (c := (fr * 13) + 1) dX5_push_26 rfl rfl ?_
  refine j_bipush (v := nI 6) dX5_push_27 rfl rfl ?_
  refine j_copy (sp := 0) (dp := (fr * 13) + 1) (cn := 6) dX5_push_29 rfl cX5_22 jvw_an jvw_as jvw_ai rfl rfl (by decide) (by decide) rfl rfl rfl (by decide) (by omega) (by decide) (by decide) (by decide) ?_
  refine j_aload_n dX5_push_32 rfl rfl rfl ?_
  refine j_iconst (v := nI 0) dX5_push_33 rfl rfl ?_
  refine j_aload_n dX5_push_34 rfl rfl rfl ?_
  refine j_getP (b := 11) dX5_push_35 rfl fX5_11 rfl (by decide) rfl rfl ?_
  refine j_iload dX5_push_38 rfl rfl ?_
  refine j_iconst (v := nI 1) dX5_push_40 rfl rfl ?_
  refine j_iaddN (c := (fr * 13) + 1) dX5_push_41 rfl rfl ?_
  refine j_bipush (v := nI 6) dX5_push_42 rfl rfl ?_
  refine j_iaddN (c := ((fr * 13) + 1) + 6) dX5_push_44 rfl rfl ?_
  refine j_bipush (v := nI 6) dX5_push_45 rfl rfl ?_
  refine j_copy (sp := 0) (dp := ((fr * 13) + 1) + 6) (cn := 6) dX5_push_47 rfl cX5_22 jvw_an jvw_as jvw_ai rfl rfl (by decide) (by decide) rfl rfl rfl (by decide) (by omega) (by decide) (by decide) (by decide) ?_
  refine j_aload_n dX5_push_50 rfl rfl rfl ?_
  refine j_aload_n dX5_push_51 rfl rfl rfl ?_
  refine j_getIv (v := nI fr) dX5_push_52 rfl fX5_15 rfl (by decide) rfl hf1 ?_
  refine j_iconst (v := nI 1) dX5_push_55 rfl rfl ?_
  refine j_iaddN (c := fr + 1) dX5_push_56 rfl rfl ?_
  refine j_bipush (v := nI 8) dX5_push_57 rfl rfl ?_
  refine j_iremN (c := (fr + 1) % 8) dX5_push_59 rfl (by omega) (by decide) (by decide) rfl ?_
  refine j_putI dX5_push_60 rfl fX5_15 rfl (by decide) rfl rfl ?_
  refine j_aload_n dX5_push_63 rfl rfl rfl ?_
  refine j_bipush (v := nI 8) dX5_push_64 rfl rfl ?_
  refine j_aload_n dX5_push_66 rfl rfl rfl ?_
  refine j_getIv (v := nI (v 0 6)) dX5_push_67 rfl fX5_19 rfl (by decide) rfl hf2 ?_
  refine j_iconst (v := nI 1) dX5_push_70 rfl rfl ?_
  refine j_iaddN (c := (v 0 6) + 1) dX5_push_71 rfl rfl ?_
  refine j_min dX5_push_72 rfl cX5_28 (by decide) ?_
  refine j_val (mnN (by omega) (by omega)) ?_
  refine j_putI dX5_push_75 rfl fX5_19 rfl (by decide) rfl rfl ?_
  refine j_vret dX5_push_78 rfl ?_
  refine hQ _ (VC_push h6 hV hfr hf1 hj rfl rfl (fun q => ?_) (fun a h1 h2 => ?_)) (fun a h1 h2 => ?_)
  · rw [u2_ne _ _ _ (by omega), u2_ne _ _ _ (by omega), ur_row, ur_row, ur_ne _ _ (show (5 : Nat) ≠ 11 by omega), u2_row, u2_ne _ _ _ (show (3 : Nat) ≠ 11 by omega), u2_ne _ _ _ (show (5 : Nat) ≠ 11 by omega)]
    exact cpy3 _ _ _ _ _ _
  · rw [u2_ne _ _ _ h1, u2_ne _ _ _ h1, ur_ne _ _ h2, ur_ne _ _ h2, u2_ne _ _ _ h2]
  · rw [u2_ne _ _ _ h1, u2_ne _ _ _ h1, ur_ne _ _ h2, ur_ne _ _ h2, u2_ne _ _ _ h2]
set_option maxHeartbeats 4000000 in
set_option maxRecDepth 100000 in
theorem c_setLoaves {X : jX} {d n : Nat} {I : HI} {J : HJ} {i0 i1 : Option Nat} {Q : jPost} {v : VT} {p x : Nat} (hV : VC 1 I v) (h6 : v 0 3 ≤ 6) (h8 : v 0 6 ≤ 8) (hy : v 0 0 ≤ 2 ^ 20) (hp : p < v 0 3) (hQ : ∀ I', VC 1 I' (vGive v p x) → Ot 1 I I' → Q none n I' J (Pg i0 i1)) : Cj X (d + 2) 0 0 mX8_setLoaves [.ref 1, .int (nI p), .int (nI x)] n I J (Pg i0 i1) Q := by
  refine Cj.intro rfl (Nat.le_of_ble_eq_true rfl) (L := [.ref 1, .int (nI p), .int (nI x)]) rfl ?_
  refine j_aload_n dX8_setLoaves_0 rfl rfl rfl ?_
  refine j_getP (b := 10) dX8_setLoaves_1 rfl fX8_58 rfl (by decide) rfl rfl ?_
  refine j_aload_n dX8_setLoaves_4 rfl rfl rfl ?_
  refine j_getIv (v := nI (v 0 0)) dX8_setLoaves_5 rfl fX8_9 rfl (by decide) rfl hV.year ?_
  refine j_aload_n dX8_setLoaves_8 rfl rfl rfl ?_
  refine j_getP (b := 3) dX8_setLoaves_9 rfl fX8_34 rfl (by decide) rfl rfl ?_
  refine j_aload_n dX8_setLoaves_12 rfl rfl rfl ?_
  refine j_getP (b := 5) dX8_setLoaves_13 rfl fX8_40 rfl (by decide) rfl rfl ?_
  refine j_callVw (As := [.int (nI (v 0 0)), .ref 3, .ref 5]) dX8_setLoaves_16 rfl cX8_75 (by decide) rfl rfl (by decide) rfl (by decide) rfl rfl (c_push hV h6 h8 (by omega) (fun I1 hV1 hO1 => ?_))
  show Rj _ _ _ _ _ _ 19 [.ref 1, .int (nI p), .int (nI x)] [] n I1 J (Pg i0 i1)
  refine j_aload_n dX8_setLoaves_19 rfl rfl rfl ?_
  refine j_getP (b := 3) dX8_setLoaves_20 rfl fX8_34 rfl (by decide) rfl rfl ?_
  refine j_iload_n dX8_setLoaves_23 rfl rfl rfl ?_
  refine j_iload_n dX8_setLoaves_24 rfl rfl rfl ?_
  refine j_iast (j := p) dX8_setLoaves_25 rfl rfl (by decide) rfl (by omega) (by decide) ?_
  refine j_vret dX8_setLoaves_26 rfl ?_
  refine hQ _ ?_ (fun a ha => by rw [u2_ne _ _ _ (by omega)]; exact hO1 a (by omega) (by omega))
  obtain ⟨a1, a2, a3, a4, a5⟩ := id hV1
  refine ⟨a1, fun q hq => ?_, a3, a4, ?_⟩
  · obtain ⟨b1, b2, b3, b4⟩ := a2 q hq
    refine ⟨b1, ?_, b3, b4⟩
    show u2 I1 3 p (nI x) 3 q = nI (vGive v p x 2 q)
    by_cases e : q = p
    · subst e; simp [u2, vGive]
    · simp [u2, vGive, e]; exact b2
  · obtain ⟨fr, c1, c2, c3, c4⟩ := a5
    refine ⟨fr, c1, c2, c3, fun j hjj => ?_⟩
    have ev : ∀ i, vGive v p x (10 + j) i = vPush v (10 + j) i := fun i => by unfold vGive; rw [if_neg (by omega)]
    obtain ⟨d0, d1⟩ := c4 j hjj
    refine ⟨?_, fun q hq => ?_⟩
    · rw [ev]; exact d0
    · rw [ev, ev]; exact d1 q hq
set_option maxHeartbeats 4000000 in
set_option maxRecDepth 100000 in
theorem c_pop {X : jX} {d n : Nat} {I : HI} {J : HJ} {i0 i1 : Option Nat} {Q : jPost} {v : VT} {fr : Nat} (h8 : v 0 6 ≤ 8) (h0 : 0 < v 0 6) (hfr : fr < 8) (hf1 : I 10 1 = nI fr) (hf2 : I 10 2 = nI (v 0 6)) (hQ : ∀ I', I' 10 1 = nI ((fr + 7) % 8) → I' 10 2 = nI (v 0 6 - 1) → (∀ q, q < 6 → I' 3 q = I 11 (13 * ((fr + 7) % 8) + 1 + q)) → (∀ q, q < 6 → I' 5 q = I 11 (13 * ((fr + 7) % 8) + 7 + q)) → (∀ a, a ≠ 10 → a ≠ 3 → a ≠ 5 → I' a = I a) → Q (some (.int (I 11 (13 * ((fr + 7) % 8))))) n I' J (Pg i0 i1)) : Cj X (d + 1) 0 0 mX5_pop [.ref 10, .ref 3, .ref 5] n I J (Pg i0 i1) Q := by
  refine Cj.intro rfl (Nat.le_of_ble_eq_true rfl) (L := [.ref 10, .ref 3, .ref 5, jU]) rfl ?_
  refine j_aload_n dX5_pop_0 rfl rfl rfl ?_
  refine j_aload_n dX5_pop_1 rfl rfl rfl ?_
  refine j_getIv (v := nI fr) dX5_pop_2 rfl fX5_15 rfl (by decide) rfl hf1 ?_
  refine j_bipush (v := nI 8) dX5_pop_5 rfl rfl ?_
  refine j_iaddN (c := fr + 8) dX5_pop_7 rfl rfl ?_
  refine j_iconst (v := nI 1) dX5_pop_8 rfl rfl ?_
  refine j_isubN (c := fr + 7) dX5_pop_9 rfl (by omega) (by omega) ?_
  refine j_bipush (v := nI 8) dX5_pop_10 rfl rfl ?_
  refine j_iremN (c := (fr + 7) % 8) dX5_pop_12 rfl (by omega) (by decide) (by decide) rfl ?_
  refine j_putI dX5_pop_13 rfl fX5_15 rfl (by decide) rfl rfl ?_
  refine j_aload_n dX5_pop_16 rfl rfl rfl ?_
  refine j_iconst (v := nI 0) dX5_pop_17 rfl rfl ?_
  refine j_aload_n dX5_pop_18 rfl rfl rfl ?_
  refine j_getIv (v := nI (v 0 6)) dX5_pop_19 rfl fX5_19 rfl (by decide) rfl hf2 ?_
  refine j_iconst (v := nI 1) dX5_pop_22 rfl rfl ?_
  refine j_isubN (c := (v 0 6) - 1) dX5_pop_23 rfl (by omega) rfl ?_
  refine j_max dX5_pop_24 rfl cX5_34 (by decide) ?_
  refine j_val (mxN (by omega) (by omega)) ?_
  refine j_putI dX5_pop_27 rfl fX5_19 rfl (by decide) rfl rfl ?_
  refine j_aload_n dX5_pop_30 rfl rfl rfl ?_
  refine j_getIv (v := nI ((fr + 7) % 8)) dX5_pop_31 rfl fX5_15 rfl (by decide) rfl rfl ?_
  refine j_bipush (v := nI 13) dX5_pop_34 rfl rfl ?_
  refine j_imulN (c := ((fr + 7) % 8) * 13) dX5_pop_36 rfl rfl ?_
  refine j_istore_n (L' := [.ref 10, .ref 3, .ref 5, .int (nI (((fr + 7) % 8) * 13))]) dX5_pop_37 rfl rfl rfl (by decide) rfl ?_
  refine j_aload_n dX5_pop_38 rfl rfl rfl ?_
  refine j_getP (b := 11) dX5_pop_39 rfl fX5_11 rfl (by decide) rfl rfl ?_
  refine j_iload_n dX5_pop_42 rfl rfl rfl ?_
  refine j_iconst (v := nI 1) dX5_pop_43 rfl rfl ?_
  refine j_iaddN (c := (((fr + 7) % 8) * 13) + 1) dX5_pop_44 rfl rfl ?_
  refine j_aload_n dX5_pop_45 rfl rfl rfl ?_
  refine j_iconst (v := nI 0) dX5_pop_46 rfl rfl ?_
  refine j_bipush (v := nI 6) dX5_pop_47 rfl rfl ?_
  refine j_copy (sp := (((fr + 7) % 8) * 13) + 1) (dp := 0) (cn := 6) dX5_pop_49 rfl cX5_22 jvw_an jvw_as jvw_ai rfl rfl (by decide) (by decide) rfl rfl rfl (by omega) (by decide) (by decide) (by decide) (by decide) ?_
  refine j_aload_n dX5_pop_52 rfl rfl rfl ?_
  refine j_getP (b := 11) dX5_pop_53 rfl fX5_11 rfl (by decide) rfl rfl ?_
  refine j_iload_n dX5_pop_56 rfl rfl rfl ?_
  refine j_iconst (v := nI 1) dX5_pop_57 rfl rfl ?_
  refine j_iaddN (c := (((fr + 7) % 8) * 13) + 1) dX5_pop_58 rfl rfl ?_
  refine j_bipush (v := nI 6) dX5_pop_59 rfl rfl ?_
  refine j_iaddN (c := ((((fr + 7) % 8) * 13) + 1) + 6) dX5_pop_61 rfl rfl ?_
  refine j_aload_n dX5_pop_62 rfl rfl rfl ?_
  refine j_iconst (v := nI 0) dX5_pop_63 rfl rfl ?_
  refine j_bipush (v := nI 6) dX5_pop_64 rfl rfl ?_
  refine j_copy (sp := ((((fr + 7) % 8) * 13) + 1) + 6) (dp := 0) (cn := 6) dX5_pop_66 rfl cX5_22 jvw_an jvw_as jvw_ai rfl rfl (by decide) (by decide) rfl rfl rfl (by omega) (by decide) (by decide) (by decide) (by decide) ?_
  refine j_aload_n dX5_pop_69 rfl rfl rfl ?_
  refine j_getP (b := 11) dX5_pop_70 rfl fX5_11 rfl (by decide) rfl rfl ?_
  refine j_iload_n dX5_pop_73 rfl rfl rfl ?_
  refine j_iald (j := ((fr + 7) % 8) * 13) (v := I 11 (((fr + 7) % 8) * 13)) dX5_pop_74 rfl rfl (by decide) rfl (by omega) (by decide) rfl ?_
  refine j_iret dX5_pop_75 rfl rfl ?_
  rw [Nat.mul_comm ((fr + 7) % 8) 13]
  refine hQ _ ?_ ?_ (fun q hq => ?_) (fun q hq => ?_) (fun a h1 h2 h3 => ?_)
  · rw [ur_ne _ _ (by omega), ur_ne _ _ (by omega), u2_ne2 _ _ _ (by omega), u2_self]
  · rw [ur_ne _ _ (by omega), ur_ne _ _ (by omega), u2_self, Nat.zero_max]
  · rw [ur_ne _ _ (by omega), ur_row, pk_cpy_in (by omega) (by omega), u2_ne _ _ _ (by omega), u2_ne _ _ _ (by omega)]
    congr 1 <;> omega
  · rw [ur_row, pk_cpy_in (by omega) (by omega), ur_ne _ _ (by omega), u2_ne _ _ _ (by omega), u2_ne _ _ _ (by omega)]
    congr 1 <;> omega
  · rw [ur_ne _ _ h3, ur_ne _ _ h2, u2_ne _ _ _ h1, u2_ne _ _ _ h1]
set_option maxHeartbeats 4000000 in
set_option maxRecDepth 100000 in
theorem c_goBack {X : jX} {d n : Nat} {I : HI} {J : HJ} {i0 i1 : Option Nat} {Q : jPost} {v : VT} (hV : VC 1 I v) (h6 : v 0 3 ≤ 6) (h8 : v 0 6 ≤ 8) (h0 : 0 < v 0 6) (hQ : ∀ I', VC 1 I' (vPop v) → Ot 1 I I' → Q none n I' J (Pg i0 i1)) : Cj X (d + 2) 0 0 mX8_goBack [.ref 1] n I J (Pg i0 i1) Q := by
  refine Cj.intro rfl (Nat.le_of_ble_eq_true rfl) (L := [.ref 1]) rfl ?_
  obtain ⟨fr, hfr, hf1, hf2, hj⟩ := hV.2.2.2.2
  have hf1 : I 10 1 = nI fr := hf1
  have hf2 : I 10 2 = nI (v 0 6) := hf2
  refine j_aload_n dX8_goBack_0 rfl rfl rfl ?_
  refine j_getP (b := 10) dX8_goBack_1 rfl fX8_58 rfl (by decide) rfl rfl ?_
  refine j_getIv (v := nI (v 0 6)) dX8_goBack_4 rfl fX8_62 rfl (by decide) rfl hV.siz ?_
  refine j_ifleN (tgt := 29) dX8_goBack_7 rfl rfl (by omega) (fun h1 => by exfalso; omega) (fun h1 => ?_)
  refine j_aload_n dX8_goBack_10 rfl rfl rfl ?_
  refine j_aload_n dX8_goBack_11 rfl rfl rfl ?_
  refine j_getP (b := 10) dX8_goBack_12 rfl fX8_58 rfl (by decide) rfl rfl ?_
  refine j_aload_n dX8_goBack_15 rfl rfl rfl ?_
  refine j_getP (b := 3) dX8_goBack_16 rfl fX8_34 rfl (by decide) rfl rfl ?_
  refine j_aload_n dX8_goBack_19 rfl rfl rfl ?_
  refine j_getP (b := 5) dX8_goBack_20 rfl fX8_40 rfl (by decide) rfl rfl ?_
  refine j_callVw (As := [.ref 3, .ref 5]) dX8_goBack_23 rfl cX8_85 (by decide) rfl rfl (by decide) rfl (by decide) rfl rfl (c_pop h8 h0 hfr hf1 hf2 (fun I1 e1 e2 e3 e5 eo => ?_))
  show Rj _ _ _ _ _ _ 26 [.ref 1] [.int (I 11 (13 * ((fr + 7) % 8))), .ref 1] n I1 J (Pg i0 i1)
  refine j_putI dX8_goBack_26 rfl fX8_9 rfl (by decide) rfl rfl ?_
  refine j_vret dX8_goBack_29 rfl ?_
  refine hQ _ (VC_pop h6 h8 h0 hV hfr hj ?_ ?_ (fun q hq => ?_) (fun q hq => ?_) ?_ (fun i hi => ?_) (fun a h1 h2 h3 h4 => ?_)) (fun a ha => ?_)
  · rw [u2_ne _ _ _ (by omega)]; exact e1
  · rw [u2_ne _ _ _ (by omega)]; exact e2
  · rw [u2_ne _ _ _ (by omega)]; exact e3 q hq
  · rw [u2_ne _ _ _ (by omega)]; exact e5 q hq
  · rw [u2_self]
  · rw [u2_ne2 _ _ _ hi, eo 1 (by omega) (by omega) (by omega)]
  · rw [u2_ne _ _ _ h4]; exact eo a h1 h2 h3
  · rw [u2_ne _ _ _ (by omega)]; exact eo a (by omega) (by omega) (by omega)
set_option maxHeartbeats 4000000 in
set_option maxRecDepth 100000 in
theorem c_passYear {X : jX} {d n : Nat} {I : HI} {J : HJ} {i0 i1 : Option Nat} {Q : jPost} {v : VT} {yb : Nat} (hV : VC 1 I v) (hW : WF yb v) (hyb : yb ≤ 2 ^ 20) (hQ : ∀ I', VC 1 I' (vYear v) → Ot 1 I I' → Q (some (.int (nI (endB v 0 (v 2) (v 0 3))))) n I' J (Pg i0 i1)) : Cj X (d + 2) 0 0 mX8_passYear [.ref 1] n I J (Pg i0 i1) Q := by
  refine Cj.intro rfl (Nat.le_of_ble_eq_true rfl) (L := [.ref 1, jU, jU]) rfl ?_
  obtain ⟨⟨w0, w1, w2, w3, w4, w5, w6⟩, wp, wk, wc, wj⟩ := id hW
  have main : ∀ I1, VC 1 I1 (vPush v) → (∀ a, a ≠ 10 → a ≠ 11 → I1 a = I a) → Rj X (d + 2) 0 0 mX8_passYear Q 19 [.ref 1, jU, jU] [] n I1 J (Pg i0 i1) := by
    intro I1 hV1 hO1
    have loop : ∀ (r p e : Nat) (f g : Nat → Int32), p + r = v 0 3 → e = endB v 0 (v 2) p → (∀ q, q < p → f q = nI (v 2 q - gos (v 1 q) (v 0 0) (v 0 1) (v 0 2))) → (∀ q, q < v 0 3 → p ≤ q → f q = nI (v 2 q)) → (∀ q, q < p → g q = nI (if 0 < v 2 q ∧ v 2 q - gos (v 1 q) (v 0 0) (v 0 1) (v 0 2) = 0 then v 0 0 + 1 else v 4 q) - 1) → (∀ q, q < v 0 3 → p ≤ q → g q = nI (v 4 q) - 1) → Rj X (d + 2) 0 0 mX8_passYear Q 23 [.ref 1, .int (nI e), .int (nI p)] [] n (ur (ur I1 3 f) 5 g) J (Pg i0 i1) := by
      intro r
      induction r with
      | zero =>
        intro p e f g hpr he hf1 hf2 hg1 hg2
        refine j_iload_n dX8_passYear_23 rfl rfl rfl ?_
        refine j_aload_n dX8_passYear_24 rfl rfl rfl ?_
        refine j_getIv (v := nI (v 0 3)) dX8_passYear_25 rfl fX8_21 rfl (by decide) rfl hV1.pairs ?_
        refine j_icmpgeN (tgt := 104) dX8_passYear_28 rfl rfl (by omega) (by omega) (fun h1 => ?_) (fun h1 => by exfalso; omega)
        refine j_aload_n dX8_passYear_104 rfl rfl rfl ?_
        refine j_dup dX8_passYear_105 rfl rfl ?_
        refine j_getIv (v := nI (v 0 0)) dX8_passYear_106 rfl fX8_9 rfl (by decide) rfl hV1.year ?_
        refine j_iconst (v := nI 1) dX8_passYear_109 rfl rfl ?_
        refine j_iaddN (c := (v 0 0) + 1) dX8_passYear_110 rfl rfl ?_
        refine j_putI dX8_passYear_111 rfl fX8_9 rfl (by decide) rfl rfl ?_
        refine j_iload_n dX8_passYear_114 rfl rfl rfl ?_
        refine j_iret dX8_passYear_115 rfl rfl ?_
        have hp : p = v 0 3 := by omega
        subst hp
        subst he
        refine hQ _ ?_ (fun a ha => ?_)
        · obtain ⟨⟨s0, s1, s2, s3, s4, s5⟩, a2, a3, a4, a5⟩ := id hV1
          refine ⟨⟨rfl, s1, s2, s3, s4, s5⟩, fun q hq => ?_, a3, a4, ?_⟩
          · obtain ⟨b1, b2, b3, b4⟩ := a2 q hq
            exact ⟨b1, hf1 q hq, b3, hg1 q hq⟩
          · obtain ⟨fr, c1, c2, c3, c4⟩ := a5
            refine ⟨fr, c1, c2, c3, fun j hjj => ?_⟩
            have ev : ∀ i, vYear v (10 + j) i = vPush v (10 + j) i := fun i => by unfold vYear; rw [if_neg (by omega), if_neg (by omega), if_neg (by omega)]
            obtain ⟨d0, d1⟩ := c4 j hjj
            refine ⟨?_, fun q hq => ?_⟩
            · rw [ev]; exact d0
            · rw [ev, ev]; exact d1 q hq
        · rw [u2_ne _ _ _ (by omega), ur_ne _ _ (by omega), ur_ne _ _ (by omega)]; exact hO1 a (by omega) (by omega)
      | succ r ih =>
        intro p e f g hpr he hf1 hf2 hg1 hg2
        obtain ⟨q1, q2, q3, q4, q5⟩ := wp p (by omega)
        refine j_iload_n dX8_passYear_23 rfl rfl rfl ?_
        refine j_aload_n dX8_passYear_24 rfl rfl rfl ?_
        refine j_getIv (v := nI (v 0 3)) dX8_passYear_25 rfl fX8_21 rfl (by decide) rfl hV1.pairs ?_
        refine j_icmpgeN (tgt := 104) dX8_passYear_28 rfl rfl (by omega) (by omega) (fun h1 => by exfalso; omega) (fun h1 => ?_)
        refine j_aload_n dX8_passYear_31 rfl rfl rfl ?_
        refine j_getP (b := 3) dX8_passYear_32 rfl fX8_34 rfl (by decide) rfl rfl ?_
        refine j_iload_n dX8_passYear_35 rfl rfl rfl ?_
        refine j_iald (j := p) (v := nI (v 2 p)) dX8_passYear_36 rfl rfl (by decide) rfl (by omega) (by decide) (by rw [ur_ne _ _ (by omega), ur_row]; exact hf2 p (by omega) (by omega)) ?_
        refine j_ifleN (tgt := 98) dX8_passYear_37 rfl rfl (by omega) (fun h2 => ?_) (fun h2 => ?_)
        · refine j_iincN (L' := [.ref 1, .int (nI e), .int (nI (p + 1))]) dX8_passYear_98 rfl rfl (b := 1) rfl rfl rfl (by decide) rfl ?_
          refine j_goto (tgt := 23) dX8_passYear_101 rfl ?_
          refine ih (p + 1) _ _ _ (by omega) ?_ ?_ ?_ ?_ ?_
          · rw [he]; simp only [endB, Nat.add_zero]; rw [if_neg (by omega)]
          · intro q hq
            by_cases e : q = p
            · subst e; rw [hf2 q (by omega) (by omega)]; congr 1; omega
            · exact hf1 q (by omega)
          · intro q hq hpq
            exact hf2 q hq (by omega)
          · intro q hq
            by_cases e : q = p
            · subst e; rw [hg2 q (by omega) (by omega), if_neg (by omega)]
            · exact hg1 q (by omega)
          · intro q hq hpq
            exact hg2 q hq (by omega)
        · refine j_aload_n dX8_passYear_40 rfl rfl rfl ?_
          refine j_getP (b := 3) dX8_passYear_41 rfl fX8_34 rfl (by decide) rfl rfl ?_
          refine j_iload_n dX8_passYear_44 rfl rfl rfl ?_
          refine j_aload_n dX8_passYear_45 rfl rfl rfl ?_
          refine j_getP (b := 3) dX8_passYear_46 rfl fX8_34 rfl (by decide) rfl rfl ?_
          refine j_iload_n dX8_passYear_49 rfl rfl rfl ?_
          refine j_iald (j := p) (v := nI (v 2 p)) dX8_passYear_50 rfl rfl (by decide) rfl (by omega) (by decide) (by rw [ur_ne _ _ (by omega), ur_row]; exact hf2 p (by omega) (by omega)) ?_
          refine j_aload_n dX8_passYear_51 rfl rfl rfl ?_
          refine j_getP (b := 2) dX8_passYear_52 rfl fX8_30 rfl (by decide) rfl rfl ?_
          refine j_iload_n dX8_passYear_55 rfl rfl rfl ?_
          refine j_iald (j := p) (v := nI (v 1 p)) dX8_passYear_56 rfl rfl (by decide) rfl (by omega) (by decide) (hV1.kd (by exact (by omega : p < v 0 3))) ?_
          refine j_aload_n dX8_passYear_57 rfl rfl rfl ?_
          refine j_getIv (v := nI (v 0 0)) dX8_passYear_58 rfl fX8_9 rfl (by decide) rfl hV1.year ?_
          refine j_aload_n dX8_passYear_61 rfl rfl rfl ?_
          refine j_getIv (v := nI (v 0 1)) dX8_passYear_62 rfl fX8_15 rfl (by decide) rfl hV1.damp ?_
          refine j_aload_n dX8_passYear_65 rfl rfl rfl ?_
          refine j_getIv (v := nI (v 0 2)) dX8_passYear_66 rfl fX8_18 rfl (by decide) rfl hV1.dry ?_
          refine j_callSw (As := [.int (nI (v 2 p)), .int (nI (v 1 p)), .int (nI (v 0 0)), .int (nI (v 0 1)), .int (nI (v 0 2))]) dX8_passYear_69 rfl cX8_79 rfl (Nat.le_of_ble_eq_true rfl) rfl rfl (c_leftAfter (by omega) (by omega) (by omega) (by omega) (by omega) ?_)
          show Rj _ _ _ _ _ _ 72 [.ref 1, .int (nI e), .int (nI p)] [.int (nI ((v 2 p) - gos (v 1 p) (v 0 0) (v 0 1) (v 0 2))), .int (nI p), .ref 3] n (ur (ur I1 3 f) 5 g) J (Pg i0 i1)
          refine j_iast (j := p) dX8_passYear_72 rfl rfl (by decide) rfl (by omega) (by decide) ?_
          refine j_aload_n dX8_passYear_73 rfl rfl rfl ?_
          refine j_getP (b := 3) dX8_passYear_74 rfl fX8_34 rfl (by decide) rfl rfl ?_
          refine j_iload_n dX8_passYear_77 rfl rfl rfl ?_
          refine j_iald (j := p) (v := nI ((v 2 p) - gos (v 1 p) (v 0 0) (v 0 1) (v 0 2))) dX8_passYear_78 rfl rfl (by decide) rfl (by omega) (by decide) (by simp [u2]) ?_
          refine j_ifneN (tgt := 98) dX8_passYear_79 rfl rfl (by omega) (fun h3 => ?_) (fun h3 => ?_)
          · refine j_iincN (L' := [.ref 1, .int (nI e), .int (nI (p + 1))]) dX8_passYear_98 rfl rfl (b := 1) rfl rfl rfl (by decide) rfl ?_
            refine j_goto (tgt := 23) dX8_passYear_101 rfl ?_
            rw [u2_c35, u2_ur]
            refine ih (p + 1) _ _ _ (by omega) ?_ ?_ ?_ ?_ ?_
            · rw [he]; simp only [endB, Nat.add_zero]; rw [if_neg (by omega)]
            · intro q hq
              by_cases e : q = p
              · subst e; simp only [if_true]
              · simp only [if_neg e]; exact hf1 q (by omega)
            · intro q hq hpq
              simp only [if_neg (show ¬ q = p by omega)]; exact hf2 q hq (by omega)
            · intro q hq
              by_cases e : q = p
              · subst e; rw [hg2 q (by omega) (by omega), if_neg (by omega)]
              · exact hg1 q (by omega)
            · intro q hq hpq
              exact hg2 q hq (by omega)
          · refine j_aload_n dX8_passYear_82 rfl rfl rfl ?_
            refine j_getP (b := 5) dX8_passYear_83 rfl fX8_40 rfl (by decide) rfl rfl ?_
            refine j_iload_n dX8_passYear_86 rfl rfl rfl ?_
            refine j_aload_n dX8_passYear_87 rfl rfl rfl ?_
            refine j_getIv (v := nI (v 0 0)) dX8_passYear_88 rfl fX8_9 rfl (by decide) rfl hV1.year ?_
            refine j_iast (j := p) dX8_passYear_91 rfl rfl (by decide) rfl (by omega) (by decide) ?_
            refine j_iload_n dX8_passYear_92 rfl rfl rfl ?_
            refine j_iconst (v := nI 1) dX8_passYear_93 rfl rfl ?_
            refine j_iload_n dX8_passYear_94 rfl rfl rfl ?_
            refine j_ishlN (c := 2 ^ p) dX8_passYear_95 rfl (by omega) (Nat.one_mul _) ?_
            refine j_iorN (c := e ||| (2 ^ p)) dX8_passYear_96 rfl rfl ?_
            refine j_istore_n (L' := [.ref 1, .int (nI (e ||| (2 ^ p))), .int (nI p)]) dX8_passYear_97 rfl rfl rfl (by decide) rfl ?_
            refine j_iincN (L' := [.ref 1, .int (nI (e ||| (2 ^ p))), .int (nI (p + 1))]) dX8_passYear_98 rfl rfl (b := 1) rfl rfl rfl (by decide) rfl ?_
            refine j_goto (tgt := 23) dX8_passYear_101 rfl ?_
            rw [u2_c35, u2_ur, u2_ur]
            refine ih (p + 1) _ _ _ (by omega) ?_ ?_ ?_ ?_ ?_
            · rw [he]; simp only [endB, Nat.add_zero]; rw [if_pos ⟨by omega, by omega⟩]
            · intro q hq
              by_cases e : q = p
              · subst e; simp only [if_true]
              · simp only [if_neg e]; exact hf1 q (by omega)
            · intro q hq hpq
              simp only [if_neg (show ¬ q = p by omega)]; exact hf2 q hq (by omega)
            · intro q hq
              by_cases e : q = p
              · subst e; simp only [if_true]; rw [if_pos ⟨by omega, by omega⟩, nI_pred]
              · simp only [if_neg e]; exact hg1 q (by omega)
            · intro q hq hpq
              simp only [if_neg (show ¬ q = p by omega)]; exact hg2 q hq (by omega)
    refine j_iconst (v := nI 0) dX8_passYear_19 rfl rfl ?_
    refine j_istore_n (L' := [.ref 1, .int (nI 0), jU]) dX8_passYear_20 rfl rfl rfl (by decide) rfl ?_
    refine j_iconst (v := nI 0) dX8_passYear_21 rfl rfl ?_
    refine j_istore_n (L' := [.ref 1, .int (nI 0), .int (nI 0)]) dX8_passYear_22 rfl rfl rfl (by decide) rfl ?_
    have e3 : I1 = ur (ur I1 3 (I1 3)) 5 (I1 5) := by rw [ur_self, ur_self]
    rw [e3]
    exact loop (v 0 3) 0 0 (I1 3) (I1 5) (by omega) rfl (fun q hq => absurd hq (by omega)) (fun q hq _ => hV1.lv hq) (fun q hq => absurd hq (by omega)) (fun q hq _ => hV1.en hq)
  refine j_aload_n dX8_passYear_0 rfl rfl rfl ?_
  refine j_getP (b := 10) dX8_passYear_1 rfl fX8_58 rfl (by decide) rfl rfl ?_
  refine j_aload_n dX8_passYear_4 rfl rfl rfl ?_
  refine j_getIv (v := nI (v 0 0)) dX8_passYear_5 rfl fX8_9 rfl (by decide) rfl hV.year ?_
  refine j_aload_n dX8_passYear_8 rfl rfl rfl ?_
  refine j_getP (b := 3) dX8_passYear_9 rfl fX8_34 rfl (by decide) rfl rfl ?_
  refine j_aload_n dX8_passYear_12 rfl rfl rfl ?_
  refine j_getP (b := 5) dX8_passYear_13 rfl fX8_40 rfl (by decide) rfl rfl ?_
  refine j_callVw (As := [.int (nI (v 0 0)), .ref 3, .ref 5]) dX8_passYear_16 rfl cX8_75 (by decide) rfl rfl (by decide) rfl (by decide) rfl rfl (c_push hV w3 w6 (by omega) (fun I1 hV1 hO1 => ?_))
  show Rj _ _ _ _ _ _ 19 [.ref 1, jU, jU] [] n I1 J (Pg i0 i1)
  exact main I1 hV1 hO1
