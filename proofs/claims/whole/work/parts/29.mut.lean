/-! how a valley changes -/
def vZ (v : VT) : VT := fun f i => if f = 0 then 0 else v f i
def vSet (v : VT) (k x : Nat) : VT := fun f i => if f = 0 then (if i = k then x else v 0 i) else v f i
def vPair (v : VT) (k l : Nat) : VT := fun f i => if f = 0 then (if i = 3 then v 0 3 + 1 else if i = 6 then 0 else v 0 i) else if i = v 0 3 ∧ f < 5 then (if f = 1 then k else if f = 2 then l else if f = 3 then v 0 0 else 0) else v f i
def vKin (v : VT) (x : Nat) : VT := fun f i => if f = 0 then (if i = 4 then v 0 4 + 1 else v 0 i) else if f = 5 ∧ i = v 0 4 then x else v f i
def vCnt (v : VT) (p m x : Nat) : VT := fun f i => if f = 0 then (if i = 5 then v 0 5 + 1 else v 0 i) else if i = v 0 5 ∧ f = 6 then p else if i = v 0 5 ∧ f = 7 then m else if i = v 0 5 ∧ f = 8 then x else v f i
def vPush (v : VT) : VT := fun f i => if f = 0 then (if i = 6 then min 8 (v 0 6 + 1) else v 0 i) else if f = 10 then (if i = 0 then v 0 0 else if i < 7 then v 2 (i - 1) else v 4 (i - 7)) else if 10 < f then v (f - 1) i else v f i
def vPop (v : VT) : VT := fun f i => if f = 0 then (if i = 6 then v 0 6 - 1 else if i = 0 then v 10 0 else v 0 i) else if f = 2 then v 10 (1 + i) else if f = 4 then v 10 (7 + i) else if 10 ≤ f then v (f + 1) i else v f i
def vGive (v : VT) (p x : Nat) : VT := fun f i => if f = 2 ∧ i = p then x else vPush v f i
def vYear (v : VT) : VT := fun f i => if f = 0 then (if i = 0 then v 0 0 + 1 else vPush v 0 i) else if f = 2 then v 2 i - gos (v 1 i) (v 0 0) (v 0 1) (v 0 2) else if f = 4 then (if 0 < v 2 i ∧ v 2 i - gos (v 1 i) (v 0 0) (v 0 1) (v 0 2) = 0 then v 0 0 + 1 else v 4 i) else vPush v f i
/-- nothing but the valley at b has changed -/
def Ot (b : Nat) (I I' : HI) : Prop := ∀ a, (a < b ∨ b + 10 < a) → I' a = I a
set_option maxHeartbeats 4000000 in
set_option maxRecDepth 100000 in
theorem c_begin1 {X : jX} {d n : Nat} {I : HI} {J : HJ} {i0 i1 : Option Nat} {Q : jPost} {v : VT} (hV : VC 1 I v) (hQ : ∀ I', VC 1 I' (vZ v) → Ot 1 I I' → Q none n I' J (Pg i0 i1)) : Cj X d 0 0 mX8_begin [.ref 1] n I J (Pg i0 i1) Q := by
  refine Cj.intro rfl (Nat.le_of_ble_eq_true rfl) (L := [.ref 1]) rfl ?_
  obtain ⟨hs, hp1, hk1, hc1, fr, hfr, hf1, hf2, hj⟩ := id hV
  refine j_aload_n dX8_begin_0 rfl rfl rfl ?_
  refine j_iconst (v := nI 0) dX8_begin_1 rfl rfl ?_
  refine j_putI dX8_begin_2 rfl fX8_9 rfl (by decide) rfl rfl ?_
  refine j_aload_n dX8_begin_5 rfl rfl rfl ?_
  refine j_iconst (v := nI 0) dX8_begin_6 rfl rfl ?_
  refine j_putI dX8_begin_7 rfl fX8_15 rfl (by decide) rfl rfl ?_
  refine j_aload_n dX8_begin_10 rfl rfl rfl ?_
  refine j_iconst (v := nI 0) dX8_begin_11 rfl rfl ?_
  refine j_putI dX8_begin_12 rfl fX8_18 rfl (by decide) rfl rfl ?_
  refine j_aload_n dX8_begin_15 rfl rfl rfl ?_
  refine j_iconst (v := nI 0) dX8_begin_16 rfl rfl ?_
  refine j_putI dX8_begin_17 rfl fX8_21 rfl (by decide) rfl rfl ?_
  refine j_aload_n dX8_begin_20 rfl rfl rfl ?_
  refine j_iconst (v := nI 0) dX8_begin_21 rfl rfl ?_
  refine j_putI dX8_begin_22 rfl fX8_24 rfl (by decide) rfl rfl ?_
  refine j_aload_n dX8_begin_25 rfl rfl rfl ?_
  refine j_iconst (v := nI 0) dX8_begin_26 rfl rfl ?_
  refine j_putI dX8_begin_27 rfl fX8_27 rfl (by decide) rfl rfl ?_
  refine j_aload_n dX8_begin_30 rfl rfl rfl ?_
  refine j_getP (b := 10) dX8_begin_31 rfl fX8_58 rfl (by decide) rfl rfl ?_
  refine j_iconst (v := nI 0) dX8_begin_34 rfl rfl ?_
  refine j_putI dX8_begin_35 rfl fX8_62 rfl (by decide) rfl rfl ?_
  refine j_vret dX8_begin_38 rfl ?_
  refine hQ _ ⟨⟨rfl, rfl, rfl, rfl, rfl, rfl⟩, fun p hp => absurd hp (Nat.not_lt_zero _), fun p hp => absurd hp (Nat.not_lt_zero _), fun p hp => absurd hp (Nat.not_lt_zero _), fr, hfr, hf1, rfl, fun p hp => absurd hp (Nat.not_lt_zero _)⟩ (fun a ha => ?_)
  funext j
  simp only [u2]
  simp [show ¬ a = 1 by omega, show ¬ a = 10 by omega]
set_option maxHeartbeats 4000000 in
set_option maxRecDepth 100000 in
theorem c_addPair1 {X : jX} {d n : Nat} {I : HI} {J : HJ} {i0 i1 : Option Nat} {Q : jPost} {v : VT} {k l : Nat} (hV : VC 1 I v) (h6 : v 0 3 < 6) (hQ : ∀ I', VC 1 I' (vPair v k l) → Ot 1 I I' → Q (some (.int (nI (v 0 3)))) n I' J (Pg i0 i1)) : Cj X d 0 0 mX8_addPair [.ref 1, .int (nI k), .int (nI l)] n I J (Pg i0 i1) Q := by
  refine Cj.intro rfl (Nat.le_of_ble_eq_true rfl) (L := [.ref 1, .int (nI k), .int (nI l)]) rfl ?_
  obtain ⟨hs, hp1, hk1, hc1, fr, hfr, hf1, hf2, hj⟩ := id hV
  obtain ⟨s0, s1, s2, s3, s4, s5⟩ := hs
  refine j_aload_n dX8_addPair_0 rfl rfl rfl ?_
  refine j_getIv (v := nI (v 0 3)) dX8_addPair_1 rfl fX8_21 rfl (by decide) rfl hV.pairs ?_
  refine j_bipush (v := nI 6) dX8_addPair_4 rfl rfl ?_
  refine j_icmpltN (tgt := 12) dX8_addPair_6 rfl rfl (by omega) (by decide) (fun h1 => ?_) (fun h1 => by exfalso; omega)
  refine j_aload_n dX8_addPair_12 rfl rfl rfl ?_
  refine j_getP (b := 2) dX8_addPair_13 rfl fX8_30 rfl (by decide) rfl rfl ?_
  refine j_aload_n dX8_addPair_16 rfl rfl rfl ?_
  refine j_getIv (v := nI (v 0 3)) dX8_addPair_17 rfl fX8_21 rfl (by decide) rfl hV.pairs ?_
  refine j_iload_n dX8_addPair_20 rfl rfl rfl ?_
  refine j_iast (j := v 0 3) dX8_addPair_21 rfl rfl (by decide) rfl (by omega) (by decide) ?_
  refine j_aload_n dX8_addPair_22 rfl rfl rfl ?_
  refine j_getP (b := 3) dX8_addPair_23 rfl fX8_34 rfl (by decide) rfl rfl ?_
  refine j_aload_n dX8_addPair_26 rfl rfl rfl ?_
  refine j_getIv (v := nI (v 0 3)) dX8_addPair_27 rfl fX8_21 rfl (by decide) rfl hV.pairs ?_
  refine j_iload_n dX8_addPair_30 rfl rfl rfl ?_
  refine j_iast (j := v 0 3) dX8_addPair_31 rfl rfl (by decide) rfl (by omega) (by decide) ?_
  refine j_aload_n dX8_addPair_32 rfl rfl rfl ?_
  refine j_getP (b := 4) dX8_addPair_33 rfl fX8_37 rfl (by decide) rfl rfl ?_
  refine j_aload_n dX8_addPair_36 rfl rfl rfl ?_
  refine j_getIv (v := nI (v 0 3)) dX8_addPair_37 rfl fX8_21 rfl (by decide) rfl hV.pairs ?_
  refine j_aload_n dX8_addPair_40 rfl rfl rfl ?_
  refine j_getIv (v := nI (v 0 0)) dX8_addPair_41 rfl fX8_9 rfl (by decide) rfl hV.year ?_
  refine j_iast (j := v 0 3) dX8_addPair_44 rfl rfl (by decide) rfl (by omega) (by decide) ?_
  refine j_aload_n dX8_addPair_45 rfl rfl rfl ?_
  refine j_getP (b := 5) dX8_addPair_46 rfl fX8_40 rfl (by decide) rfl rfl ?_
  refine j_aload_n dX8_addPair_49 rfl rfl rfl ?_
  refine j_getIv (v := nI (v 0 3)) dX8_addPair_50 rfl fX8_21 rfl (by decide) rfl hV.pairs ?_
  refine j_iconst (v := (-1)) dX8_addPair_53 rfl rfl ?_
  refine j_iast (j := v 0 3) dX8_addPair_54 rfl rfl (by decide) rfl (by omega) (by decide) ?_
  refine j_aload_n dX8_addPair_55 rfl rfl rfl ?_
  refine j_getP (b := 10) dX8_addPair_56 rfl fX8_58 rfl (by decide) rfl rfl ?_
  refine j_iconst (v := nI 0) dX8_addPair_59 rfl rfl ?_
  refine j_putI dX8_addPair_60 rfl fX8_62 rfl (by decide) rfl rfl ?_
  refine j_aload_n dX8_addPair_63 rfl rfl rfl ?_
  refine j_dup dX8_addPair_64 rfl rfl ?_
  refine j_getIv (v := nI (v 0 3)) dX8_addPair_65 rfl fX8_21 rfl (by decide) rfl hV.pairs ?_
  refine j_dup_x1 dX8_addPair_68 rfl rfl rfl ?_
  refine j_iconst (v := nI 1) dX8_addPair_69 rfl rfl ?_
  refine j_iaddN (c := (v 0 3) + 1) dX8_addPair_70 rfl rfl ?_
  refine j_putI dX8_addPair_71 rfl fX8_21 rfl (by decide) rfl rfl ?_
  refine j_iret dX8_addPair_74 rfl rfl ?_
  refine hQ _ ⟨⟨s0, s1, s2, rfl, s4, s5⟩, fun p hp => ?_, fun q hq => by have g := hk1 q hq; simp [u2, vPair]; exact g, fun c hc => ?_, fr, hfr, hf1, rfl, fun p hp => absurd hp (Nat.not_lt_zero _)⟩ (fun a ha => ?_)
  · by_cases e : p = v 0 3
    · subst e
      refine ⟨?_, ?_, ?_, ?_⟩ <;> simp [u2, vPair] <;> rfl
    · obtain ⟨g1, g2, g3, g4⟩ := hp1 p (by have : p < v 0 3 + 1 := hp; omega)
      refine ⟨?_, ?_, ?_, ?_⟩
      · simp [u2, vPair, e]; exact g1
      · simp [u2, vPair, e]; exact g2
      · simp [u2, vPair, e]; exact g3
      · simp [u2, vPair, e]; exact g4
  · obtain ⟨g1, g2, g3⟩ := hc1 c hc
    refine ⟨?_, ?_, ?_⟩
    · simp [u2, vPair]; exact g1
    · simp [u2, vPair]; exact g2
    · simp [u2, vPair]; exact g3
  · funext j
    simp only [u2]
    simp [show ¬ a = 1 by omega, show ¬ a = 2 by omega, show ¬ a = 3 by omega, show ¬ a = 4 by omega, show ¬ a = 5 by omega, show ¬ a = 10 by omega]
set_option maxHeartbeats 4000000 in
set_option maxRecDepth 100000 in
theorem c_addKin1 {X : jX} {d n : Nat} {I : HI} {J : HJ} {i0 i1 : Option Nat} {Q : jPost} {v : VT} {x : Nat} (hV : VC 1 I v) (h8 : v 0 4 < 8) (hQ : ∀ I', VC 1 I' (vKin v x) → Ot 1 I I' → Q (some (.int (nI (v 0 4)))) n I' J (Pg i0 i1)) : Cj X d 0 0 mX8_addKin [.ref 1, .int (nI x)] n I J (Pg i0 i1) Q := by
  refine Cj.intro rfl (Nat.le_of_ble_eq_true rfl) (L := [.ref 1, .int (nI x)]) rfl ?_
  obtain ⟨hs, hp1, hk1, hc1, fr, hfr, hf1, hf2, hj⟩ := id hV
  obtain ⟨s0, s1, s2, s3, s4, s5⟩ := hs
  refine j_aload_n dX8_addKin_0 rfl rfl rfl ?_
  refine j_getIv (v := nI (v 0 4)) dX8_addKin_1 rfl fX8_24 rfl (by decide) rfl hV.kin ?_
  refine j_bipush (v := nI 8) dX8_addKin_4 rfl rfl ?_
  refine j_icmpltN (tgt := 12) dX8_addKin_6 rfl rfl (by omega) (by decide) (fun h1 => ?_) (fun h1 => by exfalso; omega)
  refine j_aload_n dX8_addKin_12 rfl rfl rfl ?_
  refine j_getP (b := 6) dX8_addKin_13 rfl fX8_43 rfl (by decide) rfl rfl ?_
  refine j_aload_n dX8_addKin_16 rfl rfl rfl ?_
  refine j_getIv (v := nI (v 0 4)) dX8_addKin_17 rfl fX8_24 rfl (by decide) rfl hV.kin ?_
  refine j_iload_n dX8_addKin_20 rfl rfl rfl ?_
  refine j_iast (j := v 0 4) dX8_addKin_21 rfl rfl (by decide) rfl (by omega) (by decide) ?_
  refine j_aload_n dX8_addKin_22 rfl rfl rfl ?_
  refine j_dup dX8_addKin_23 rfl rfl ?_
  refine j_getIv (v := nI (v 0 4)) dX8_addKin_24 rfl fX8_24 rfl (by decide) rfl hV.kin ?_
  refine j_dup_x1 dX8_addKin_27 rfl rfl rfl ?_
  refine j_iconst (v := nI 1) dX8_addKin_28 rfl rfl ?_
  refine j_iaddN (c := (v 0 4) + 1) dX8_addKin_29 rfl rfl ?_
  refine j_putI dX8_addKin_30 rfl fX8_24 rfl (by decide) rfl rfl ?_
  refine j_iret dX8_addKin_33 rfl rfl ?_
  refine hQ _ ⟨⟨s0, s1, s2, s3, rfl, s5⟩, fun p hp => ?_, fun q hq => ?_, fun c hc => ?_, fr, hfr, hf1, hf2, fun j hjj => ?_⟩ (fun a ha => ?_)
  · obtain ⟨g1, g2, g3, g4⟩ := hp1 p hp
    refine ⟨?_, ?_, ?_, ?_⟩ <;> simp [u2, vKin] <;> assumption
  · by_cases e : q = v 0 4
    · subst e
      simp [u2, vKin]
    · simp [u2, vKin, e]
      exact hk1 q (by have : q < v 0 4 + 1 := hq; omega)
  · obtain ⟨g1, g2, g3⟩ := hc1 c hc
    refine ⟨?_, ?_, ?_⟩ <;> simp [u2, vKin] <;> assumption
  · obtain ⟨g0, g⟩ := hj j hjj
    refine ⟨by simp [u2, vKin, show ¬ 10 + j = 5 by omega]; exact g0, fun q hq => ?_⟩
    obtain ⟨g1, g2⟩ := g q hq
    exact ⟨by simp [u2, vKin, show ¬ 10 + j = 5 by omega]; exact g1, by simp [u2, vKin, show ¬ 10 + j = 5 by omega]; exact g2⟩
  · funext j
    simp only [u2]
    simp [show ¬ a = 1 by omega, show ¬ a = 6 by omega]
set_option maxHeartbeats 4000000 in
set_option maxRecDepth 100000 in
theorem c_begin15 {X : jX} {d n : Nat} {I : HI} {J : HJ} {i0 i1 : Option Nat} {Q : jPost} {v : VT} (hV : VC 15 I v) (hQ : ∀ I', VC 15 I' (vZ v) → Ot 15 I I' → Q none n I' J (Pg i0 i1)) : Cj X d 0 0 mX8_begin [.ref 15] n I J (Pg i0 i1) Q := by
  refine Cj.intro rfl (Nat.le_of_ble_eq_true rfl) (L := [.ref 15]) rfl ?_
  obtain ⟨hs, hp1, hk1, hc1, fr, hfr, hf1, hf2, hj⟩ := id hV
  refine j_aload_n dX8_begin_0 rfl rfl rfl ?_
  refine j_iconst (v := nI 0) dX8_begin_1 rfl rfl ?_
  refine j_putI dX8_begin_2 rfl fX8_9 rfl (by decide) rfl rfl ?_
  refine j_aload_n dX8_begin_5 rfl rfl rfl ?_
  refine j_iconst (v := nI 0) dX8_begin_6 rfl rfl ?_
  refine j_putI dX8_begin_7 rfl fX8_15 rfl (by decide) rfl rfl ?_
  refine j_aload_n dX8_begin_10 rfl rfl rfl ?_
  refine j_iconst (v := nI 0) dX8_begin_11 rfl rfl ?_
  refine j_putI dX8_begin_12 rfl fX8_18 rfl (by decide) rfl rfl ?_
  refine j_aload_n dX8_begin_15 rfl rfl rfl ?_
  refine j_iconst (v := nI 0) dX8_begin_16 rfl rfl ?_
  refine j_putI dX8_begin_17 rfl fX8_21 rfl (by decide) rfl rfl ?_
  refine j_aload_n dX8_begin_20 rfl rfl rfl ?_
  refine j_iconst (v := nI 0) dX8_begin_21 rfl rfl ?_
  refine j_putI dX8_begin_22 rfl fX8_24 rfl (by decide) rfl rfl ?_
  refine j_aload_n dX8_begin_25 rfl rfl rfl ?_
  refine j_iconst (v := nI 0) dX8_begin_26 rfl rfl ?_
  refine j_putI dX8_begin_27 rfl fX8_27 rfl (by decide) rfl rfl ?_
  refine j_aload_n dX8_begin_30 rfl rfl rfl ?_
  refine j_getP (b := 24) dX8_begin_31 rfl fX8_58 rfl (by decide) rfl rfl ?_
  refine j_iconst (v := nI 0) dX8_begin_34 rfl rfl ?_
  refine j_putI dX8_begin_35 rfl fX8_62 rfl (by decide) rfl rfl ?_
  refine j_vret dX8_begin_38 rfl ?_
  refine hQ _ ⟨⟨rfl, rfl, rfl, rfl, rfl, rfl⟩, fun p hp => absurd hp (Nat.not_lt_zero _), fun p hp => absurd hp (Nat.not_lt_zero _), fun p hp => absurd hp (Nat.not_lt_zero _), fr, hfr, hf1, rfl, fun p hp => absurd hp (Nat.not_lt_zero _)⟩ (fun a ha => ?_)
  funext j
  simp only [u2]
  simp [show ¬ a = 15 by omega, show ¬ a = 24 by omega]
set_option maxHeartbeats 4000000 in
set_option maxRecDepth 100000 in
theorem c_addPair15 {X : jX} {d n : Nat} {I : HI} {J : HJ} {i0 i1 : Option Nat} {Q : jPost} {v : VT} {k l : Nat} (hV : VC 15 I v) (h6 : v 0 3 < 6) (hQ : ∀ I', VC 15 I' (vPair v k l) → Ot 15 I I' → Q (some (.int (nI (v 0 3)))) n I' J (Pg i0 i1)) : Cj X d 0 0 mX8_addPair [.ref 15, .int (nI k), .int (nI l)] n I J (Pg i0 i1) Q := by
  refine Cj.intro rfl (Nat.le_of_ble_eq_true rfl) (L := [.ref 15, .int (nI k), .int (nI l)]) rfl ?_
  obtain ⟨hs, hp1, hk1, hc1, fr, hfr, hf1, hf2, hj⟩ := id hV
  obtain ⟨s0, s1, s2, s3, s4, s5⟩ := hs
  refine j_aload_n dX8_addPair_0 rfl rfl rfl ?_
  refine j_getIv (v := nI (v 0 3)) dX8_addPair_1 rfl fX8_21 rfl (by decide) rfl hV.pairs ?_
  refine j_bipush (v := nI 6) dX8_addPair_4 rfl rfl ?_
  refine j_icmpltN (tgt := 12) dX8_addPair_6 rfl rfl (by omega) (by decide) (fun h1 => ?_) (fun h1 => by exfalso; omega)
  refine j_aload_n dX8_addPair_12 rfl rfl rfl ?_
  refine j_getP (b := 16) dX8_addPair_13 rfl fX8_30 rfl (by decide) rfl rfl ?_
  refine j_aload_n dX8_addPair_16 rfl rfl rfl ?_
  refine j_getIv (v := nI (v 0 3)) dX8_addPair_17 rfl fX8_21 rfl (by decide) rfl hV.pairs ?_
  refine j_iload_n dX8_addPair_20 rfl rfl rfl ?_
  refine j_iast (j := v 0 3) dX8_addPair_21 rfl rfl (by decide) rfl (by omega) (by decide) ?_
  refine j_aload_n dX8_addPair_22 rfl rfl rfl ?_
  refine j_getP (b := 17) dX8_addPair_23 rfl fX8_34 rfl (by decide) rfl rfl ?_
  refine j_aload_n dX8_addPair_26 rfl rfl rfl ?_
  refine j_getIv (v := nI (v 0 3)) dX8_addPair_27 rfl fX8_21 rfl (by decide) rfl hV.pairs ?_
  refine j_iload_n dX8_addPair_30 rfl rfl rfl ?_
  refine j_iast (j := v 0 3) dX8_addPair_31 rfl rfl (by decide) rfl (by omega) (by decide) ?_
  refine j_aload_n dX8_addPair_32 rfl rfl rfl ?_
  refine j_getP (b := 18) dX8_addPair_33 rfl fX8_37 rfl (by decide) rfl rfl ?_
  refine j_aload_n dX8_addPair_36 rfl rfl rfl ?_
  refine j_getIv (v := nI (v 0 3)) dX8_addPair_37 rfl fX8_21 rfl (by decide) rfl hV.pairs ?_
  refine j_aload_n dX8_addPair_40 rfl rfl rfl ?_
  refine j_getIv (v := nI (v 0 0)) dX8_addPair_41 rfl fX8_9 rfl (by decide) rfl hV.year ?_
  refine j_iast (j := v 0 3) dX8_addPair_44 rfl rfl (by decide) rfl (by omega) (by decide) ?_
  refine j_aload_n dX8_addPair_45 rfl rfl rfl ?_
  refine j_getP (b := 19) dX8_addPair_46 rfl fX8_40 rfl (by decide) rfl rfl ?_
  refine j_aload_n dX8_addPair_49 rfl rfl rfl ?_
  refine j_getIv (v := nI (v 0 3)) dX8_addPair_50 rfl fX8_21 rfl (by decide) rfl hV.pairs ?_
  refine j_iconst (v := (-1)) dX8_addPair_53 rfl rfl ?_
  refine j_iast (j := v 0 3) dX8_addPair_54 rfl rfl (by decide) rfl (by omega) (by decide) ?_
  refine j_aload_n dX8_addPair_55 rfl rfl rfl ?_
  refine j_getP (b := 24) dX8_addPair_56 rfl fX8_58 rfl (by decide) rfl rfl ?_
  refine j_iconst (v := nI 0) dX8_addPair_59 rfl rfl ?_
  refine j_putI dX8_addPair_60 rfl fX8_62 rfl (by decide) rfl rfl ?_
  refine j_aload_n dX8_addPair_63 rfl rfl rfl ?_
  refine j_dup dX8_addPair_64 rfl rfl ?_
  refine j_getIv (v := nI (v 0 3)) dX8_addPair_65 rfl fX8_21 rfl (by decide) rfl hV.pairs ?_
  refine j_dup_x1 dX8_addPair_68 rfl rfl rfl ?_
  refine j_iconst (v := nI 1) dX8_addPair_69 rfl rfl ?_
  refine j_iaddN (c := (v 0 3) + 1) dX8_addPair_70 rfl rfl ?_
  refine j_putI dX8_addPair_71 rfl fX8_21 rfl (by decide) rfl rfl ?_
  refine j_iret dX8_addPair_74 rfl rfl ?_
  refine hQ _ ⟨⟨s0, s1, s2, rfl, s4, s5⟩, fun p hp => ?_, fun q hq => by have g := hk1 q hq; simp [u2, vPair]; exact g, fun c hc => ?_, fr, hfr, hf1, rfl, fun p hp => absurd hp (Nat.not_lt_zero _)⟩ (fun a ha => ?_)
  · by_cases e : p = v 0 3
    · subst e
      refine ⟨?_, ?_, ?_, ?_⟩ <;> simp [u2, vPair] <;> rfl
    · obtain ⟨g1, g2, g3, g4⟩ := hp1 p (by have : p < v 0 3 + 1 := hp; omega)
      refine ⟨?_, ?_, ?_, ?_⟩
      · simp [u2, vPair, e]; exact g1
      · simp [u2, vPair, e]; exact g2
      · simp [u2, vPair, e]; exact g3
      · simp [u2, vPair, e]; exact g4
  · obtain ⟨g1, g2, g3⟩ := hc1 c hc
    refine ⟨?_, ?_, ?_⟩
    · simp [u2, vPair]; exact g1
    · simp [u2, vPair]; exact g2
    · simp [u2, vPair]; exact g3
  · funext j
    simp only [u2]
    simp [show ¬ a = 15 by omega, show ¬ a = 16 by omega, show ¬ a = 17 by omega, show ¬ a = 18 by omega, show ¬ a = 19 by omega, show ¬ a = 24 by omega]
set_option maxHeartbeats 4000000 in
set_option maxRecDepth 100000 in
theorem c_addKin15 {X : jX} {d n : Nat} {I : HI} {J : HJ} {i0 i1 : Option Nat} {Q : jPost} {v : VT} {x : Nat} (hV : VC 15 I v) (h8 : v 0 4 < 8) (hQ : ∀ I', VC 15 I' (vKin v x) → Ot 15 I I' → Q (some (.int (nI (v 0 4)))) n I' J (Pg i0 i1)) : Cj X d 0 0 mX8_addKin [.ref 15, .int (nI x)] n I J (Pg i0 i1) Q := by
  refine Cj.intro rfl (Nat.le_of_ble_eq_true rfl) (L := [.ref 15, .int (nI x)]) rfl ?_
  obtain ⟨hs, hp1, hk1, hc1, fr, hfr, hf1, hf2, hj⟩ := id hV
  obtain ⟨s0, s1, s2, s3, s4, s5⟩ := hs
  refine j_aload_n dX8_addKin_0 rfl rfl rfl ?_
  refine j_getIv (v := nI (v 0 4)) dX8_addKin_1 rfl fX8_24 rfl (by decide) rfl hV.kin ?_
  refine j_bipush (v := nI 8) dX8_addKin_4 rfl rfl ?_
  refine j_icmpltN (tgt := 12) dX8_addKin_6 rfl rfl (by omega) (by decide) (fun h1 => ?_) (fun h1 => by exfalso; omega)
  refine j_aload_n dX8_addKin_12 rfl rfl rfl ?_
  refine j_getP (b := 20) dX8_addKin_13 rfl fX8_43 rfl (by decide) rfl rfl ?_
  refine j_aload_n dX8_addKin_16 rfl rfl rfl ?_
  refine j_getIv (v := nI (v 0 4)) dX8_addKin_17 rfl fX8_24 rfl (by decide) rfl hV.kin ?_
  refine j_iload_n dX8_addKin_20 rfl rfl rfl ?_
  refine j_iast (j := v 0 4) dX8_addKin_21 rfl rfl (by decide) rfl (by omega) (by decide) ?_
  refine j_aload_n dX8_addKin_22 rfl rfl rfl ?_
  refine j_dup dX8_addKin_23 rfl rfl ?_
  refine j_getIv (v := nI (v 0 4)) dX8_addKin_24 rfl fX8_24 rfl (by decide) rfl hV.kin ?_
  refine j_dup_x1 dX8_addKin_27 rfl rfl rfl ?_
  refine j_iconst (v := nI 1) dX8_addKin_28 rfl rfl ?_
  refine j_iaddN (c := (v 0 4) + 1) dX8_addKin_29 rfl rfl ?_
  refine j_putI dX8_addKin_30 rfl fX8_24 rfl (by decide) rfl rfl ?_
  refine j_iret dX8_addKin_33 rfl rfl ?_
  refine hQ _ ⟨⟨s0, s1, s2, s3, rfl, s5⟩, fun p hp => ?_, fun q hq => ?_, fun c hc => ?_, fr, hfr, hf1, hf2, fun j hjj => ?_⟩ (fun a ha => ?_)
  · obtain ⟨g1, g2, g3, g4⟩ := hp1 p hp
    refine ⟨?_, ?_, ?_, ?_⟩ <;> simp [u2, vKin] <;> assumption
  · by_cases e : q = v 0 4
    · subst e
      simp [u2, vKin]
    · simp [u2, vKin, e]
      exact hk1 q (by have : q < v 0 4 + 1 := hq; omega)
  · obtain ⟨g1, g2, g3⟩ := hc1 c hc
    refine ⟨?_, ?_, ?_⟩ <;> simp [u2, vKin] <;> assumption
  · obtain ⟨g0, g⟩ := hj j hjj
    refine ⟨by simp [u2, vKin, show ¬ 10 + j = 5 by omega]; exact g0, fun q hq => ?_⟩
    obtain ⟨g1, g2⟩ := g q hq
    exact ⟨by simp [u2, vKin, show ¬ 10 + j = 5 by omega]; exact g1, by simp [u2, vKin, show ¬ 10 + j = 5 by omega]; exact g2⟩
  · funext j
    simp only [u2]
    simp [show ¬ a = 15 by omega, show ¬ a = 20 by omega]
set_option maxHeartbeats 4000000 in
set_option maxRecDepth 100000 in
theorem c_addPairF {X : jX} {d n : Nat} {I : HI} {J : HJ} {i0 i1 : Option Nat} {Q : jPost} {v : VT} {k l : Nat} (hV : VC 1 I v) (h6 : v 0 3 = 6) (hQ : Q (some (.int (-4))) n I J (Pg i0 i1)) : Cj X d 0 0 mX8_addPair [.ref 1, .int (nI k), .int (nI l)] n I J (Pg i0 i1) Q := by
  refine Cj.intro rfl (Nat.le_of_ble_eq_true rfl) (L := [.ref 1, .int (nI k), .int (nI l)]) rfl ?_
  refine j_aload_n dX8_addPair_0 rfl rfl rfl ?_
  refine j_getIv (v := nI (v 0 3)) dX8_addPair_1 rfl fX8_21 rfl (by decide) rfl hV.pairs ?_
  refine j_bipush (v := nI 6) dX8_addPair_4 rfl rfl ?_
  refine j_icmpltN (tgt := 12) dX8_addPair_6 rfl rfl (by omega) (by decide) (fun h1 => by exfalso; omega) (fun h1 => ?_)
  refine j_bipush (v := (-4)) dX8_addPair_9 rfl rfl ?_
  refine j_iret dX8_addPair_11 rfl rfl ?_
  exact hQ
set_option maxHeartbeats 4000000 in
set_option maxRecDepth 100000 in
theorem c_addKinF {X : jX} {d n : Nat} {I : HI} {J : HJ} {i0 i1 : Option Nat} {Q : jPost} {v : VT} {x : Nat} (hV : VC 1 I v) (h6 : v 0 4 = 8) (hQ : Q (some (.int (-4))) n I J (Pg i0 i1)) : Cj X d 0 0 mX8_addKin [.ref 1, .int (nI x)] n I J (Pg i0 i1) Q := by
  refine Cj.intro rfl (Nat.le_of_ble_eq_true rfl) (L := [.ref 1, .int (nI x)]) rfl ?_
  refine j_aload_n dX8_addKin_0 rfl rfl rfl ?_
  refine j_getIv (v := nI (v 0 4)) dX8_addKin_1 rfl fX8_24 rfl (by decide) rfl hV.kin ?_
  refine j_bipush (v := nI 8) dX8_addKin_4 rfl rfl ?_
  refine j_icmpltN (tgt := 12) dX8_addKin_6 rfl rfl (by omega) (by decide) (fun h1 => by exfalso; omega) (fun h1 => ?_)
  refine j_bipush (v := (-4)) dX8_addKin_9 rfl rfl ?_
  refine j_iret dX8_addKin_11 rfl rfl ?_
  exact hQ
set_option maxHeartbeats 4000000 in
set_option maxRecDepth 100000 in
theorem c_addCountedF {X : jX} {d n : Nat} {I : HI} {J : HJ} {i0 i1 : Option Nat} {Q : jPost} {v : VT} {p m x : Nat} (hV : VC 1 I v) (h6 : v 0 5 = 8) (hQ : Q (some (.int (-4))) n I J (Pg i0 i1)) : Cj X d 0 0 mX8_addCounted [.ref 1, .int (nI p), .int (nI m), .int (nI x)] n I J (Pg i0 i1) Q := by
  refine Cj.intro rfl (Nat.le_of_ble_eq_true rfl) (L := [.ref 1, .int (nI p), .int (nI m), .int (nI x)]) rfl ?_
  refine j_aload_n dX8_addCounted_0 rfl rfl rfl ?_
  refine j_getIv (v := nI (v 0 5)) dX8_addCounted_1 rfl fX8_27 rfl (by decide) rfl hV.cnt ?_
  refine j_bipush (v := nI 8) dX8_addCounted_4 rfl rfl ?_
  refine j_icmpltN (tgt := 12) dX8_addCounted_6 rfl rfl (by omega) (by decide) (fun h1 => by exfalso; omega) (fun h1 => ?_)
  refine j_bipush (v := (-4)) dX8_addCounted_9 rfl rfl ?_
  refine j_iret dX8_addCounted_11 rfl rfl ?_
  exact hQ
set_option maxHeartbeats 4000000 in
set_option maxRecDepth 100000 in
theorem c_addCounted {X : jX} {d n : Nat} {I : HI} {J : HJ} {i0 i1 : Option Nat} {Q : jPost} {v : VT} {p m x : Nat} (hV : VC 1 I v) (h6 : v 0 5 < 8) (hQ : ∀ I', VC 1 I' (vCnt v p m x) → Ot 1 I I' → Q (some (.int (nI (v 0 5 + 1)))) n I' J (Pg i0 i1)) : Cj X d 0 0 mX8_addCounted [.ref 1, .int (nI p), .int (nI m), .int (nI x)] n I J (Pg i0 i1) Q := by
  refine Cj.intro rfl (Nat.le_of_ble_eq_true rfl) (L := [.ref 1, .int (nI p), .int (nI m), .int (nI x)]) rfl ?_
  obtain ⟨hs, hp1, hk1, hc1, fr, hfr, hf1, hf2, hj⟩ := id hV
  obtain ⟨s0, s1, s2, s3, s4, s5⟩ := hs
  refine j_aload_n dX8_addCounted_0 rfl rfl rfl ?_
  refine j_getIv (v := nI (v 0 5)) dX8_addCounted_1 rfl fX8_27 rfl (by decide) rfl hV.cnt ?_
  refine j_bipush (v := nI 8) dX8_addCounted_4 rfl rfl ?_
  refine j_icmpltN (tgt := 12) dX8_addCounted_6 rfl rfl (by omega) (by decide) (fun h1 => ?_) (fun h1 => by exfalso; omega)
  refine j_aload_n dX8_addCounted_12 rfl rfl rfl ?_
  refine j_getP (b := 7) dX8_addCounted_13 rfl fX8_46 rfl (by decide) rfl rfl ?_
  refine j_aload_n dX8_addCounted_16 rfl rfl rfl ?_
  refine j_getIv (v := nI (v 0 5)) dX8_addCounted_17 rfl fX8_27 rfl (by decide) rfl hV.cnt ?_
  refine j_iload_n dX8_addCounted_20 rfl rfl rfl ?_
  refine j_iast (j := v 0 5) dX8_addCounted_21 rfl rfl (by decide) rfl (by omega) (by decide) ?_
  refine j_aload_n dX8_addCounted_22 rfl rfl rfl ?_
  refine j_getP (b := 8) dX8_addCounted_23 rfl fX8_49 rfl (by decide) rfl rfl ?_
  refine j_aload_n dX8_addCounted_26 rfl rfl rfl ?_
  refine j_getIv (v := nI (v 0 5)) dX8_addCounted_27 rfl fX8_27 rfl (by decide) rfl hV.cnt ?_
  refine j_iload_n dX8_addCounted_30 rfl rfl rfl ?_
  refine j_iast (j := v 0 5) dX8_addCounted_31 rfl rfl (by decide) rfl (by omega) (by decide) ?_
  refine j_aload_n dX8_addCounted_32 rfl rfl rfl ?_
  refine j_getP (b := 9) dX8_addCounted_33 rfl fX8_52 rfl (by decide) rfl rfl ?_
  refine j_aload_n dX8_addCounted_36 rfl rfl rfl ?_
  refine j_getIv (v := nI (v 0 5)) dX8_addCounted_37 rfl fX8_27 rfl (by decide) rfl hV.cnt ?_
  refine j_iload_n dX8_addCounted_40 rfl rfl rfl ?_
  refine j_iast (j := v 0 5) dX8_addCounted_41 rfl rfl (by decide) rfl (by omega) (by decide) ?_
  refine j_aload_n dX8_addCounted_42 rfl rfl rfl ?_
  refine j_dup dX8_addCounted_43 rfl rfl ?_
  refine j_getIv (v := nI (v 0 5)) dX8_addCounted_44 rfl fX8_27 rfl (by decide) rfl hV.cnt ?_
  refine j_iconst (v := nI 1) dX8_addCounted_47 rfl rfl ?_
  refine j_iaddN (c := (v 0 5) + 1) dX8_addCounted_48 rfl rfl ?_
  refine j_dup_x1 dX8_addCounted_49 rfl rfl rfl ?_
  refine j_putI dX8_addCounted_50 rfl fX8_27 rfl (by decide) rfl rfl ?_
  refine j_iret dX8_addCounted_53 rfl rfl ?_
  refine hQ _ ⟨⟨s0, s1, s2, s3, s4, rfl⟩, fun q hq => by obtain ⟨g1, g2, g3, g4⟩ := hp1 q hq; refine ⟨?_, ?_, ?_, ?_⟩ <;> simp [u2, vCnt] <;> assumption, fun q hq => by have g := hk1 q hq; simp [u2, vCnt]; exact g, fun c hc => ?_, fr, hfr, hf1, hf2, fun j hjj => ?_⟩ (fun a ha => ?_)
  · by_cases e : c = v 0 5
    · subst e
      refine ⟨?_, ?_, ?_⟩ <;> simp [u2, vCnt]
    · obtain ⟨g1, g2, g3⟩ := hc1 c (by have : c < v 0 5 + 1 := hc; omega)
      refine ⟨?_, ?_, ?_⟩
      · simp [u2, vCnt, e]; exact g1
      · simp [u2, vCnt, e]; exact g2
      · simp [u2, vCnt, e]; exact g3
  · have h := hj j hjj
    refine ⟨?_, fun q hq => ?_⟩
    · simp [u2, vCnt, show ¬ 10 + j = 6 by omega, show ¬ 10 + j = 7 by omega, show ¬ 10 + j = 8 by omega]; exact h.1
    · obtain ⟨g1, g2⟩ := h.2 q hq
      refine ⟨?_, ?_⟩
      · simp [u2, vCnt, show ¬ 10 + j = 6 by omega, show ¬ 10 + j = 7 by omega, show ¬ 10 + j = 8 by omega]; exact g1
      · simp [u2, vCnt, show ¬ 10 + j = 6 by omega, show ¬ 10 + j = 7 by omega, show ¬ 10 + j = 8 by omega]; exact g2
  · funext j
    simp only [u2]
    simp [show ¬ a = 1 by omega, show ¬ a = 7 by omega, show ¬ a = 8 by omega, show ¬ a = 9 by omega]
