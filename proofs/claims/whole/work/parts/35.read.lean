theorem VC_set1 {b : Nat} {I : HI} {v : VT} {x : Nat} (h : VC b I v) : VC b (u2 I b 1 (nI x)) (vSet v 1 x) := by
  obtain ⟨⟨s0, s1, s2, s3, s4, s5⟩, h2, h3, h4, h5⟩ := h
  have e : ∀ i, 1 ≤ i → u2 I b 1 (nI x) (b + i) = I (b + i) := fun i hi => u2_ne _ _ _ (by omega)
  refine ⟨⟨?_, ?_, ?_, ?_, ?_, ?_⟩, ?_, ?_, ?_, ?_⟩
  · rw [u2_ne2 _ _ _ (by omega)]; exact s0
  · rw [u2_self]; rfl
  · rw [u2_ne2 _ _ _ (by omega)]; exact s2
  · rw [u2_ne2 _ _ _ (by omega)]; exact s3
  · rw [u2_ne2 _ _ _ (by omega)]; exact s4
  · rw [u2_ne2 _ _ _ (by omega)]; exact s5
  · rw [e 1 (by omega), e 2 (by omega), e 3 (by omega), e 4 (by omega)]; exact h2
  · rw [e 5 (by omega)]; exact h3
  · rw [e 6 (by omega), e 7 (by omega), e 8 (by omega)]; exact h4
  · rw [e 9 (by omega), e 10 (by omega)]
    obtain ⟨fr, c1, c2, c3, c4⟩ := h5
    refine ⟨fr, c1, c2, c3, fun j hj => ?_⟩
    have ev : ∀ i, vSet v 1 x (10 + j) i = v (10 + j) i := fun i => by unfold vSet; rw [if_neg (by omega)]
    obtain ⟨d0, d1⟩ := c4 j hj
    exact ⟨by rw [ev]; exact d0, fun q hq => by rw [ev, ev]; exact d1 q hq⟩
theorem VC_set2 {b : Nat} {I : HI} {v : VT} {x : Nat} (h : VC b I v) : VC b (u2 I b 2 (nI x)) (vSet v 2 x) := by
  obtain ⟨⟨s0, s1, s2, s3, s4, s5⟩, h2, h3, h4, h5⟩ := h
  have e : ∀ i, 1 ≤ i → u2 I b 2 (nI x) (b + i) = I (b + i) := fun i hi => u2_ne _ _ _ (by omega)
  refine ⟨⟨?_, ?_, ?_, ?_, ?_, ?_⟩, ?_, ?_, ?_, ?_⟩
  · rw [u2_ne2 _ _ _ (by omega)]; exact s0
  · rw [u2_ne2 _ _ _ (by omega)]; exact s1
  · rw [u2_self]; rfl
  · rw [u2_ne2 _ _ _ (by omega)]; exact s3
  · rw [u2_ne2 _ _ _ (by omega)]; exact s4
  · rw [u2_ne2 _ _ _ (by omega)]; exact s5
  · rw [e 1 (by omega), e 2 (by omega), e 3 (by omega), e 4 (by omega)]; exact h2
  · rw [e 5 (by omega)]; exact h3
  · rw [e 6 (by omega), e 7 (by omega), e 8 (by omega)]; exact h4
  · rw [e 9 (by omega), e 10 (by omega)]
    obtain ⟨fr, c1, c2, c3, c4⟩ := h5
    refine ⟨fr, c1, c2, c3, fun j hj => ?_⟩
    have ev : ∀ i, vSet v 2 x (10 + j) i = v (10 + j) i := fun i => by unfold vSet; rw [if_neg (by omega)]
    obtain ⟨d0, d1⟩ := c4 j hj
    exact ⟨by rw [ev]; exact d0, fun q hq => by rw [ev, ev]; exact d1 q hq⟩
/-- what reading may change: the reader's own numbers, the valley that is told -/
def Rdr (I I' : HI) : Prop := (∀ a, (a < 13 ∨ a = 14 ∨ 25 < a) → I' a = I a) ∧ I' 13 1 = I 13 1
theorem Rdr.rf {I : HI} : Rdr I I := ⟨fun _ _ => rfl, rfl⟩
theorem Rdr.trans {I I1 I2 : HI} (h : Rdr I I1) (h2 : Rdr I1 I2) : Rdr I I2 := ⟨fun a ha => (h2.1 a ha).trans (h.1 a ha), h2.2.trans h.2⟩
theorem Rst.rd {I I' : HI} (h : Rst I I') : Rdr I I' := ⟨fun a ha => h.1 a (by omega), h.2⟩
theorem Ot.rd {I I' : HI} (h : Ot 15 I I') : Rdr I I' := ⟨fun a ha => h a (by omega), by rw [h 13 (by omega)]⟩
theorem RS.rd {I I' : HI} {tl : Nat} {tx : Nat → Nat} (h : RS I tl tx) (hr : Rdr I I') : RS I' tl tx := ⟨hr.2.trans h.1, by rw [hr.1 14 (by omega)]; exact h.2.1, h.2.2⟩
theorem VC.rst {I I' : HI} {v : VT} (h : VC 15 I v) (hr : Rst I I') : VC 15 I' v := h.congr (fun i hi => hr.1 _ (by omega))
theorem TF.ot {I I' : HI} {tx : Nat → Nat} {tl f : Nat} (h : TF I tx tl f) (hr : Ot 15 I I') : TF I' tx tl f := by
  have e := hr 13 (by omega)
  unfold TF TS
  rw [e]
  exact h
theorem Ot.u2 {I : HI} {k : Nat} {x : Int32} : Ot 15 I (u2 I 15 k x) := fun a ha => u2_ne _ _ _ (by omega)
/-! items -/
def itmD (tx : Nat → Nat) (tl k f : Nat) (w : VT) : Bool × Nat × VT := match yrs tx tl 151 f 0 with
  | (some ys, g) => (true, g, vSet w k (w 0 k ||| ys))
  | (none, g) => (false, g, w)
def isNm (tx : Nat → Nat) (tl g lo hi : Nat) : Prop := tkK tx tl g = 2 ∧ lo ≤ tkN tx tl g ∧ tkN tx tl g ≤ hi
abbrev nmB (tx : Nat → Nat) (tl g lo hi : Nat) : Bool := decide (tkK tx tl g = 2 ∧ lo ≤ tkN tx tl g ∧ tkN tx tl g ≤ hi)
def itmP (tx : Nat → Nat) (tl f : Nat) (w : VT) : Bool × Nat × VT :=
  if 6 ≤ w 0 3 then (false, f, w) else if nmB tx tl (nx tx tl f) 0 5 = false then (false, nx tx tl f, w) else if nmB tx tl (nx tx tl (nx tx tl f)) 0 60 = false then (false, nx tx tl (nx tx tl f), w) else
    (decide (tkK tx tl (nx tx tl (nx tx tl (nx tx tl f))) = 3), nx tx tl (nx tx tl (nx tx tl f)), vPair w (tkN tx tl (nx tx tl f)) (tkN tx tl (nx tx tl (nx tx tl f))))
def itmK (tx : Nat → Nat) (tl f : Nat) (w : VT) : Bool × Nat × VT :=
  if 8 ≤ w 0 4 then (false, f, w) else if nmB tx tl (nx tx tl f) 1 20 = false then (false, nx tx tl f, w) else
    (decide (tkK tx tl (nx tx tl (nx tx tl f)) = 3), nx tx tl (nx tx tl f), vKin w (tkN tx tl (nx tx tl f)))
def itm (tx : Nat → Nat) (tl f : Nat) (w : VT) : Bool × Nat × VT :=
  if tkK tx tl f = 1 then (if isW tx tl f 1 then itmD tx tl 1 f w else if isW tx tl f 2 then itmD tx tl 2 f w else if isW tx tl f 3 then itmP tx tl f w else if isW tx tl f 4 then itmK tx tl f w else (false, f, w)) else (false, f, w)
def itmV (tx : Nat → Nat) (tl f : Nat) : Bool × Nat := if tkK tx tl f = 1 ∧ isW tx tl f 0 then (decide (tkK tx tl (nx tx tl f) = 3), nx tx tl f) else (false, f)
theorem yrs_le {tx : Nat → Nat} {tl : Nat} : ∀ r f ys y g, ys ≤ 4095 → yrs tx tl r f ys = (some y, g) → y ≤ 4095
  | 0, f, ys, y, g, h, e => by simp [yrs] at e
  | r + 1, f, ys, y, g, h, e => by
    unfold yrs at e
    split at e
    · simp at e; omega
    · split at e
      · next q => exact yrs_le r _ _ y g (or12 h q.2) e
      · simp at e
theorem yrs_lt {tx : Nat → Nat} {tl f y g : Nat} (e : yrs tx tl 151 f 0 = (some y, g)) : y < 2 ^ 31 := by
  have := yrs_le 151 f 0 y g (by omega) e
  omega
set_option maxHeartbeats 4000000 in
set_option maxRecDepth 100000 in
theorem c_readDamp {X : jX} {d n : Nat} {I : HI} {J : HJ} {i0 i1 : Option Nat} {Q : jPost} {tl f : Nat} {tx : Nat → Nat} {w : VT} (hR : RS I tl tx) (hT : TF I tx tl f) (hV : VC 15 I w) {T : Bool × Nat × VT} (hI : itmD tx tl 1 f w = T) (hQ1 : ∀ g w1, T = (true, g, w1) → ∀ I', TF I' tx tl g → VC 15 I' w1 → Rdr I I' → Q (some (.int (nI 1))) n I' J (Pg i0 i1)) (hQ0 : ∀ g w1, T = (false, g, w1) → ∀ I', TF I' tx tl g → VC 15 I' w1 → Rdr I I' → Q (some (.int (nI 0))) n I' J (Pg i0 i1)) : Cj X (d + 3) 0 0 mX6_readDamp [.ref 13] n I J (Pg i0 i1) Q := by
  refine Cj.intro rfl (Nat.le_of_ble_eq_true rfl) (L := [.ref 13, jU]) rfl ?_
  refine j_aload_n dX6_readDamp_0 rfl rfl rfl ?_
  refine j_callVw (As := []) dX6_readDamp_1 rfl cX6_82 (by decide) rfl rfl (by decide) rfl (by decide) rfl rfl (c_takeYears hR hT rfl (fun ys g hy I1 hT1 hr1 => ?_) (fun g hy I1 hT1 hr1 => ?_))
  · have hV1 := hV.rst hr1
    show Rj _ _ _ _ _ _ 4 [.ref 13, jU] [.int (nI ys)] n I1 J (Pg i0 i1)
    refine j_istore_n (L' := [.ref 13, .int (nI ys)]) dX6_readDamp_4 rfl rfl rfl (by decide) rfl ?_
    refine j_iload_n dX6_readDamp_5 rfl rfl rfl ?_
    refine j_iconst (v := (-1)) dX6_readDamp_6 rfl rfl ?_
    refine j_icmpne (tgt := 12) dX6_readDamp_7 rfl rfl (fun h1 => ?_) (fun h1 => by exfalso; exact nI_m1 (yrs_lt hy) h1)
    refine j_aload_n dX6_readDamp_12 rfl rfl rfl ?_
    refine j_getP (b := 15) dX6_readDamp_13 rfl fX6_22 rfl (by decide) rfl rfl ?_
    refine j_dup dX6_readDamp_16 rfl rfl ?_
    refine j_getIv (v := nI (w 0 1)) dX6_readDamp_17 rfl fX6_86 rfl (by decide) rfl hV1.damp ?_
    refine j_iload_n dX6_readDamp_20 rfl rfl rfl ?_
    refine j_iorN (c := (w 0 1) ||| ys) dX6_readDamp_21 rfl rfl ?_
    refine j_putI dX6_readDamp_22 rfl fX6_86 rfl (by decide) rfl rfl ?_
    refine j_iconst (v := nI 1) dX6_readDamp_25 rfl rfl ?_
    refine j_iret dX6_readDamp_26 rfl rfl ?_
    have e : T = (true, g, vSet w 1 (w 0 1 ||| ys)) := by rw [← hI]; unfold itmD; rw [hy]
    exact hQ1 _ _ e _ (hT1.ot Ot.u2) (VC_set1 hV1) (hr1.rd.trans (Ot.rd Ot.u2))
  · have hV1 := hV.rst hr1
    show Rj _ _ _ _ _ _ 4 [.ref 13, jU] [.int (-1)] n I1 J (Pg i0 i1)
    refine j_istore_n (L' := [.ref 13, .int (-1)]) dX6_readDamp_4 rfl rfl rfl (by decide) rfl ?_
    refine j_iload_n dX6_readDamp_5 rfl rfl rfl ?_
    refine j_iconst (v := (-1)) dX6_readDamp_6 rfl rfl ?_
    refine j_icmpne (tgt := 12) dX6_readDamp_7 rfl rfl (fun h2 => by exfalso; exact h2 rfl) (fun h2 => ?_)
    refine j_iconst (v := nI 0) dX6_readDamp_10 rfl rfl ?_
    refine j_iret dX6_readDamp_11 rfl rfl ?_
    have e : T = (false, g, w) := by rw [← hI]; unfold itmD; rw [hy]
    exact hQ0 _ _ e _ hT1 hV1 hr1.rd
set_option maxHeartbeats 4000000 in
set_option maxRecDepth 100000 in
theorem c_readDry {X : jX} {d n : Nat} {I : HI} {J : HJ} {i0 i1 : Option Nat} {Q : jPost} {tl f : Nat} {tx : Nat → Nat} {w : VT} (hR : RS I tl tx) (hT : TF I tx tl f) (hV : VC 15 I w) {T : Bool × Nat × VT} (hI : itmD tx tl 2 f w = T) (hQ1 : ∀ g w1, T = (true, g, w1) → ∀ I', TF I' tx tl g → VC 15 I' w1 → Rdr I I' → Q (some (.int (nI 1))) n I' J (Pg i0 i1)) (hQ0 : ∀ g w1, T = (false, g, w1) → ∀ I', TF I' tx tl g → VC 15 I' w1 → Rdr I I' → Q (some (.int (nI 0))) n I' J (Pg i0 i1)) : Cj X (d + 3) 0 0 mX6_readDry [.ref 13] n I J (Pg i0 i1) Q := by
  refine Cj.intro rfl (Nat.le_of_ble_eq_true rfl) (L := [.ref 13, jU]) rfl ?_
  refine j_aload_n dX6_readDry_0 rfl rfl rfl ?_
  refine j_callVw (As := []) dX6_readDry_1 rfl cX6_82 (by decide) rfl rfl (by decide) rfl (by decide) rfl rfl (c_takeYears hR hT rfl (fun ys g hy I1 hT1 hr1 => ?_) (fun g hy I1 hT1 hr1 => ?_))
  · have hV1 := hV.rst hr1
    show Rj _ _ _ _ _ _ 4 [.ref 13, jU] [.int (nI ys)] n I1 J (Pg i0 i1)
    refine j_istore_n (L' := [.ref 13, .int (nI ys)]) dX6_readDry_4 rfl rfl rfl (by decide) rfl ?_
    refine j_iload_n dX6_readDry_5 rfl rfl rfl ?_
    refine j_iconst (v := (-1)) dX6_readDry_6 rfl rfl ?_
    refine j_icmpne (tgt := 12) dX6_readDry_7 rfl rfl (fun h1 => ?_) (fun h1 => by exfalso; exact nI_m1 (yrs_lt hy) h1)
    refine j_aload_n dX6_readDry_12 rfl rfl rfl ?_
    refine j_getP (b := 15) dX6_readDry_13 rfl fX6_22 rfl (by decide) rfl rfl ?_
    refine j_dup dX6_readDry_16 rfl rfl ?_
    refine j_getIv (v := nI (w 0 2)) dX6_readDry_17 rfl fX6_88 rfl (by decide) rfl hV1.dry ?_
    refine j_iload_n dX6_readDry_20 rfl rfl rfl ?_
    refine j_iorN (c := (w 0 2) ||| ys) dX6_readDry_21 rfl rfl ?_
    refine j_putI dX6_readDry_22 rfl fX6_88 rfl (by decide) rfl rfl ?_
    refine j_iconst (v := nI 1) dX6_readDry_25 rfl rfl ?_
    refine j_iret dX6_readDry_26 rfl rfl ?_
    have e : T = (true, g, vSet w 2 (w 0 2 ||| ys)) := by rw [← hI]; unfold itmD; rw [hy]
    exact hQ1 _ _ e _ (hT1.ot Ot.u2) (VC_set2 hV1) (hr1.rd.trans (Ot.rd Ot.u2))
  · have hV1 := hV.rst hr1
    show Rj _ _ _ _ _ _ 4 [.ref 13, jU] [.int (-1)] n I1 J (Pg i0 i1)
    refine j_istore_n (L' := [.ref 13, .int (-1)]) dX6_readDry_4 rfl rfl rfl (by decide) rfl ?_
    refine j_iload_n dX6_readDry_5 rfl rfl rfl ?_
    refine j_iconst (v := (-1)) dX6_readDry_6 rfl rfl ?_
    refine j_icmpne (tgt := 12) dX6_readDry_7 rfl rfl (fun h2 => by exfalso; exact h2 rfl) (fun h2 => ?_)
    refine j_iconst (v := nI 0) dX6_readDry_10 rfl rfl ?_
    refine j_iret dX6_readDry_11 rfl rfl ?_
    have e : T = (false, g, w) := by rw [← hI]; unfold itmD; rw [hy]
    exact hQ0 _ _ e _ hT1 hV1 hr1.rd
set_option maxHeartbeats 4000000 in
set_option maxRecDepth 100000 in
theorem c_readPair {X : jX} {d n : Nat} {I : HI} {J : HJ} {i0 i1 : Option Nat} {Q : jPost} {tl f : Nat} {tx : Nat → Nat} {w : VT} (hR : RS I tl tx) (hT : TF I tx tl f) (hV : VC 15 I w) {T : Bool × Nat × VT} (hI : itmP tx tl f w = T) (h6 : w 0 3 ≤ 6) (hQ1 : ∀ g w1, T = (true, g, w1) → ∀ I', TF I' tx tl g → VC 15 I' w1 → Rdr I I' → Q (some (.int (nI 1))) n I' J (Pg i0 i1)) (hQ0 : ∀ g w1, T = (false, g, w1) → ∀ I', TF I' tx tl g → VC 15 I' w1 → Rdr I I' → Q (some (.int (nI 0))) n I' J (Pg i0 i1)) : Cj X (d + 3) 0 0 mX6_readPair [.ref 13] n I J (Pg i0 i1) Q := by
  refine Cj.intro rfl (Nat.le_of_ble_eq_true rfl) (L := [.ref 13, jU]) rfl ?_
  refine j_aload_n dX6_readPair_0 rfl rfl rfl ?_
  refine j_getP (b := 15) dX6_readPair_1 rfl fX6_22 rfl (by decide) rfl rfl ?_
  refine j_getIv (v := nI (w 0 3)) dX6_readPair_4 rfl fX6_90 rfl (by decide) rfl hV.pairs ?_
  refine j_bipush (v := nI 6) dX6_readPair_7 rfl rfl ?_
  refine j_icmpgeN (tgt := 21) dX6_readPair_9 rfl rfl (by omega) (by decide) (fun h1 => ?_) (fun h1 => ?_)
  · refine j_iconst (v := nI 0) dX6_readPair_21 rfl rfl ?_
    refine j_iret dX6_readPair_22 rfl rfl ?_
    have e : T = (false, f, w) := by rw [← hI]; unfold itmP; rw [if_pos (by omega)]
    exact hQ0 _ _ e _ hT hV Rdr.rf
  · refine j_aload_n dX6_readPair_12 rfl rfl rfl ?_
    refine j_iconst (v := nI 0) dX6_readPair_13 rfl rfl ?_
    refine j_iconst (v := nI 5) dX6_readPair_14 rfl rfl ?_
    refine j_callVw (As := [.int (nI 0), .int (nI 5)]) dX6_readPair_15 rfl cX6_93 (by decide) rfl rfl (by decide) rfl (by decide) rfl rfl (c_takeNumber hR hT (by decide) (by decide) (fun hn1 I1 hT1 hr1 => ?_) (fun hn1 I1 hT1 hr1 => ?_))
    · have hV1 := hV.rst hr1
      have hR1 := hR.next hr1
      show Rj _ _ _ _ _ _ 18 [.ref 13, jU] [.int (nI 1)] n I1 J (Pg i0 i1)
      refine j_ifneN (tgt := 23) dX6_readPair_18 rfl rfl (by decide) (fun h2 => ?_) (fun h2 => by exfalso; omega)
      refine j_aload_n dX6_readPair_23 rfl rfl rfl ?_
      refine j_getIv (v := nI (tkN tx tl (nx tx tl f))) dX6_readPair_24 rfl fX6_35 rfl (by decide) rfl (hT1.1.2.2.2 hn1.1) ?_
      refine j_istore_n (L' := [.ref 13, .int (nI (tkN tx tl (nx tx tl f)))]) dX6_readPair_27 rfl rfl rfl (by decide) rfl ?_
      refine j_aload_n dX6_readPair_28 rfl rfl rfl ?_
      refine j_iconst (v := nI 0) dX6_readPair_29 rfl rfl ?_
      refine j_bipush (v := nI 60) dX6_readPair_30 rfl rfl ?_
      refine j_callVw (As := [.int (nI 0), .int (nI 60)]) dX6_readPair_32 rfl cX6_93 (by decide) rfl rfl (by decide) rfl (by decide) rfl rfl (c_takeNumber hR1 hT1 (by decide) (by decide) (fun hn2 I2 hT2 hr2 => ?_) (fun hn2 I2 hT2 hr2 => ?_))
      · have hV2 := hV1.rst hr2
        have hR2 := hR1.next hr2
        show Rj _ _ _ _ _ _ 35 [.ref 13, .int (nI (tkN tx tl (nx tx tl f)))] [.int (nI 1)] n I2 J (Pg i0 i1)
        refine j_ifneN (tgt := 40) dX6_readPair_35 rfl rfl (by decide) (fun h3 => ?_) (fun h3 => by exfalso; omega)
        refine j_aload_n dX6_readPair_40 rfl rfl rfl ?_
        refine j_getP (b := 15) dX6_readPair_41 rfl fX6_22 rfl (by decide) rfl rfl ?_
        refine j_iload_n dX6_readPair_44 rfl rfl rfl ?_
        refine j_aload_n dX6_readPair_45 rfl rfl rfl ?_
        refine j_getIv (v := nI (tkN tx tl (nx tx tl (nx tx tl f)))) dX6_readPair_46 rfl fX6_35 rfl (by decide) rfl (hT2.1.2.2.2 hn2.1) ?_
        refine j_callVw (As := [.int (nI (tkN tx tl (nx tx tl f))), .int (nI (tkN tx tl (nx tx tl (nx tx tl f))))]) dX6_readPair_49 rfl cX6_97 (by decide) rfl rfl (by decide) rfl (by decide) rfl rfl (c_addPair15 hV2 (by omega) (fun I3 hV3 ho3 => ?_))
        have hT3 := hT2.ot ho3
        have hR3 := hR2.rd ho3.rd
        show Rj _ _ _ _ _ _ 52 [.ref 13, .int (nI (tkN tx tl (nx tx tl f)))] [.int (nI (w 0 3))] n I3 J (Pg i0 i1)
        refine j_pop dX6_readPair_52 rfl rfl ?_
        refine j_aload_n dX6_readPair_53 rfl rfl rfl ?_
        refine j_callVw (As := []) dX6_readPair_54 rfl cX6_58 (by decide) rfl rfl (by decide) rfl (by decide) rfl rfl (c_takeSemicolon hR3 hT3 (fun hs I4 hT4 hr4 => ?_) (fun hs I4 hT4 hr4 => ?_))
        · show Rj _ _ _ _ _ _ 57 [.ref 13, .int (nI (tkN tx tl (nx tx tl f)))] [.int (nI 1)] n I4 J (Pg i0 i1)
          refine j_iret dX6_readPair_57 rfl rfl ?_
          have e : T = (true, nx tx tl (nx tx tl (nx tx tl f)), vPair w (tkN tx tl (nx tx tl f)) (tkN tx tl (nx tx tl (nx tx tl f)))) := by rw [← hI]; unfold itmP; rw [if_neg (by omega), if_neg (fun q => of_decide_eq_false q hn1), if_neg (fun q => of_decide_eq_false q hn2), decide_eq_true hs]
          exact hQ1 _ _ e _ hT4 (hV3.rst hr4) (((hr1.rd.trans hr2.rd).trans ho3.rd).trans hr4.rd)
        · show Rj _ _ _ _ _ _ 57 [.ref 13, .int (nI (tkN tx tl (nx tx tl f)))] [.int (nI 0)] n I4 J (Pg i0 i1)
          refine j_iret dX6_readPair_57 rfl rfl ?_
          have e : T = (false, nx tx tl (nx tx tl (nx tx tl f)), vPair w (tkN tx tl (nx tx tl f)) (tkN tx tl (nx tx tl (nx tx tl f)))) := by rw [← hI]; unfold itmP; rw [if_neg (by omega), if_neg (fun q => of_decide_eq_false q hn1), if_neg (fun q => of_decide_eq_false q hn2), decide_eq_false hs]
          exact hQ0 _ _ e _ hT4 (hV3.rst hr4) (((hr1.rd.trans hr2.rd).trans ho3.rd).trans hr4.rd)
      · have hV2 := hV1.rst hr2
        have hR2 := hR1.next hr2
        show Rj _ _ _ _ _ _ 35 [.ref 13, .int (nI (tkN tx tl (nx tx tl f)))] [.int (nI 0)] n I2 J (Pg i0 i1)
        refine j_ifneN (tgt := 40) dX6_readPair_35 rfl rfl (by decide) (fun h4 => by exfalso; omega) (fun h4 => ?_)
        refine j_iconst (v := nI 0) dX6_readPair_38 rfl rfl ?_
        refine j_iret dX6_readPair_39 rfl rfl ?_
        have e : T = (false, nx tx tl (nx tx tl f), w) := by rw [← hI]; unfold itmP; rw [if_neg (by omega), if_neg (fun q => of_decide_eq_false q hn1), if_pos (decide_eq_false hn2)]
        exact hQ0 _ _ e _ hT2 hV2 (hr1.rd.trans hr2.rd)
    · have hV1 := hV.rst hr1
      have hR1 := hR.next hr1
      show Rj _ _ _ _ _ _ 18 [.ref 13, jU] [.int (nI 0)] n I1 J (Pg i0 i1)
      refine j_ifneN (tgt := 23) dX6_readPair_18 rfl rfl (by decide) (fun h5 => by exfalso; omega) (fun h5 => ?_)
      refine j_iconst (v := nI 0) dX6_readPair_21 rfl rfl ?_
      refine j_iret dX6_readPair_22 rfl rfl ?_
      have e : T = (false, nx tx tl f, w) := by rw [← hI]; unfold itmP; rw [if_neg (by omega), if_pos (decide_eq_false hn1)]
      exact hQ0 _ _ e _ hT1 hV1 hr1.rd
set_option maxHeartbeats 4000000 in
set_option maxRecDepth 100000 in
theorem c_readKin {X : jX} {d n : Nat} {I : HI} {J : HJ} {i0 i1 : Option Nat} {Q : jPost} {tl f : Nat} {tx : Nat → Nat} {w : VT} (hR : RS I tl tx) (hT : TF I tx tl f) (hV : VC 15 I w) {T : Bool × Nat × VT} (hI : itmK tx tl f w = T) (h8 : w 0 4 ≤ 8) (hQ1 : ∀ g w1, T = (true, g, w1) → ∀ I', TF I' tx tl g → VC 15 I' w1 → Rdr I I' → Q (some (.int (nI 1))) n I' J (Pg i0 i1)) (hQ0 : ∀ g w1, T = (false, g, w1) → ∀ I', TF I' tx tl g → VC 15 I' w1 → Rdr I I' → Q (some (.int (nI 0))) n I' J (Pg i0 i1)) : Cj X (d + 3) 0 0 mX6_readKin [.ref 13] n I J (Pg i0 i1) Q := by
  refine Cj.intro rfl (Nat.le_of_ble_eq_true rfl) (L := [.ref 13]) rfl ?_
  refine j_aload_n dX6_readKin_0 rfl rfl rfl ?_
  refine j_getP (b := 15) dX6_readKin_1 rfl fX6_22 rfl (by decide) rfl rfl ?_
  refine j_getIv (v := nI (w 0 4)) dX6_readKin_4 rfl fX6_101 rfl (by decide) rfl hV.kin ?_
  refine j_bipush (v := nI 8) dX6_readKin_7 rfl rfl ?_
  refine j_icmpgeN (tgt := 22) dX6_readKin_9 rfl rfl (by omega) (by decide) (fun h1 => ?_) (fun h1 => ?_)
  · refine j_iconst (v := nI 0) dX6_readKin_22 rfl rfl ?_
    refine j_iret dX6_readKin_23 rfl rfl ?_
    have e : T = (false, f, w) := by rw [← hI]; unfold itmK; rw [if_pos (by omega)]
    exact hQ0 _ _ e _ hT hV Rdr.rf
  · refine j_aload_n dX6_readKin_12 rfl rfl rfl ?_
    refine j_iconst (v := nI 1) dX6_readKin_13 rfl rfl ?_
    refine j_bipush (v := nI 20) dX6_readKin_14 rfl rfl ?_
    refine j_callVw (As := [.int (nI 1), .int (nI 20)]) dX6_readKin_16 rfl cX6_93 (by decide) rfl rfl (by decide) rfl (by decide) rfl rfl (c_takeNumber hR hT (by decide) (by decide) (fun hn1 I1 hT1 hr1 => ?_) (fun hn1 I1 hT1 hr1 => ?_))
    · have hV1 := hV.rst hr1
      have hR1 := hR.next hr1
      show Rj _ _ _ _ _ _ 19 [.ref 13] [.int (nI 1)] n I1 J (Pg i0 i1)
      refine j_ifneN (tgt := 24) dX6_readKin_19 rfl rfl (by decide) (fun h2 => ?_) (fun h2 => by exfalso; omega)
      refine j_aload_n dX6_readKin_24 rfl rfl rfl ?_
      refine j_getP (b := 15) dX6_readKin_25 rfl fX6_22 rfl (by decide) rfl rfl ?_
      refine j_aload_n dX6_readKin_28 rfl rfl rfl ?_
      refine j_getIv (v := nI (tkN tx tl (nx tx tl f))) dX6_readKin_29 rfl fX6_35 rfl (by decide) rfl (hT1.1.2.2.2 hn1.1) ?_
      refine j_callVw (As := [.int (nI (tkN tx tl (nx tx tl f)))]) dX6_readKin_32 rfl cX6_103 (by decide) rfl rfl (by decide) rfl (by decide) rfl rfl (c_addKin15 hV1 (by omega) (fun I3 hV3 ho3 => ?_))
      have hT3 := hT1.ot ho3
      have hR3 := hR1.rd ho3.rd
      show Rj _ _ _ _ _ _ 35 [.ref 13] [.int (nI (w 0 4))] n I3 J (Pg i0 i1)
      refine j_pop dX6_readKin_35 rfl rfl ?_
      refine j_aload_n dX6_readKin_36 rfl rfl rfl ?_
      refine j_callVw (As := []) dX6_readKin_37 rfl cX6_58 (by decide) rfl rfl (by decide) rfl (by decide) rfl rfl (c_takeSemicolon hR3 hT3 (fun hs I4 hT4 hr4 => ?_) (fun hs I4 hT4 hr4 => ?_))
      · show Rj _ _ _ _ _ _ 40 [.ref 13] [.int (nI 1)] n I4 J (Pg i0 i1)
        refine j_iret dX6_readKin_40 rfl rfl ?_
        have e : T = (true, nx tx tl (nx tx tl f), vKin w (tkN tx tl (nx tx tl f))) := by rw [← hI]; unfold itmK; rw [if_neg (by omega), if_neg (fun q => of_decide_eq_false q hn1), decide_eq_true hs]
        exact hQ1 _ _ e _ hT4 (hV3.rst hr4) ((hr1.rd.trans ho3.rd).trans hr4.rd)
      · show Rj _ _ _ _ _ _ 40 [.ref 13] [.int (nI 0)] n I4 J (Pg i0 i1)
        refine j_iret dX6_readKin_40 rfl rfl ?_
        have e : T = (false, nx tx tl (nx tx tl f), vKin w (tkN tx tl (nx tx tl f))) := by rw [← hI]; unfold itmK; rw [if_neg (by omega), if_neg (fun q => of_decide_eq_false q hn1), decide_eq_false hs]
        exact hQ0 _ _ e _ hT4 (hV3.rst hr4) ((hr1.rd.trans ho3.rd).trans hr4.rd)
    · have hV1 := hV.rst hr1
      have hR1 := hR.next hr1
      show Rj _ _ _ _ _ _ 19 [.ref 13] [.int (nI 0)] n I1 J (Pg i0 i1)
      refine j_ifneN (tgt := 24) dX6_readKin_19 rfl rfl (by decide) (fun h3 => by exfalso; omega) (fun h3 => ?_)
      refine j_iconst (v := nI 0) dX6_readKin_22 rfl rfl ?_
      refine j_iret dX6_readKin_23 rfl rfl ?_
      have e : T = (false, nx tx tl f, w) := by rw [← hI]; unfold itmK; rw [if_neg (by omega), if_pos (decide_eq_false hn1)]
      exact hQ0 _ _ e _ hT1 hV1 hr1.rd
set_option maxHeartbeats 4000000 in
set_option maxRecDepth 100000 in
theorem c_readItem0 {X : jX} {d n : Nat} {I : HI} {J : HJ} {i0 i1 : Option Nat} {Q : jPost} {tl f : Nat} {tx : Nat → Nat} {w : VT} (hR : RS I tl tx) (hT : TF I tx tl f) (hV : VC 15 I w) {T : Bool × Nat × VT} (hI : itm tx tl f w = T) (hb6 : w 0 3 ≤ 6) (hb8 : w 0 4 ≤ 8) (hQ1 : ∀ g w1, T = (true, g, w1) → ∀ I', TF I' tx tl g → VC 15 I' w1 → Rdr I I' → Q (some (.int (nI 1))) n I' J (Pg i0 i1)) (hQ0 : ∀ g w1, T = (false, g, w1) → ∀ I', TF I' tx tl g → VC 15 I' w1 → Rdr I I' → Q (some (.int (nI 0))) n I' J (Pg i0 i1)) : Cj X (d + 5) 0 0 mX6_readItem [.ref 13, .int (nI 0)] n I J (Pg i0 i1) Q := by
  refine Cj.intro rfl (Nat.le_of_ble_eq_true rfl) (L := [.ref 13, .int (nI 0)]) rfl ?_
  have hk4 := tkK_le tx tl f
  refine j_aload_n dX6_readItem_0 rfl rfl rfl ?_
  refine j_getIv (v := nI (tkK tx tl f)) dX6_readItem_1 rfl fX6_26 rfl (by decide) rfl hT.1.1 ?_
  refine j_iconst (v := nI 1) dX6_readItem_4 rfl rfl ?_
  refine j_icmpeqN (tgt := 10) dX6_readItem_5 rfl rfl (by omega) (by decide) (fun h1 => ?_) (fun h1 => ?_)
  · refine j_iload_n dX6_readItem_10 rfl rfl rfl ?_
    refine j_ifeqN (tgt := 36) dX6_readItem_11 rfl rfl (by decide) (fun h2 => ?_) (fun h2 => by exfalso; omega)
    refine j_aload_n dX6_readItem_36 rfl rfl rfl ?_
    refine j_ldcS (i := 1) dX6_readItem_37 rfl rfl rfl ?_
    refine j_callVw (As := [.ref 1001]) dX6_readItem_39 rfl cX6_54 (by decide) rfl rfl (by decide) rfl (by decide) rfl rfl (c_isWord1 hR hT (fun hw1 => ?_) (fun hw1 => ?_))
    · show Rj _ _ _ _ _ _ 42 [.ref 13, .int (nI 0)] [.int (nI 1)] n I J (Pg i0 i1)
      refine j_ifeqN (tgt := 50) dX6_readItem_42 rfl rfl (by decide) (fun h3 => by exfalso; omega) (fun h3 => ?_)
      refine j_aload_n dX6_readItem_45 rfl rfl rfl ?_
      refine j_callVw (As := []) dX6_readItem_46 rfl cX6_64 (by decide) rfl rfl (by decide) rfl (by decide) rfl rfl (c_readDamp hR hT hV rfl (fun g w1 hy I1 hT1 hV1 hr1 => ?_) (fun g w1 hy I1 hT1 hV1 hr1 => ?_))
      · show Rj _ _ _ _ _ _ 49 [.ref 13, .int (nI 0)] [.int (nI 1)] n I1 J (Pg i0 i1)
        refine j_iret dX6_readItem_49 rfl rfl ?_
        have e : T = (true, g, w1) := by rw [← hI, ← hy]; unfold itm; rw [if_pos (by omega), if_pos hw1]
        exact hQ1 _ _ e _ hT1 hV1 hr1
      · show Rj _ _ _ _ _ _ 49 [.ref 13, .int (nI 0)] [.int (nI 0)] n I1 J (Pg i0 i1)
        refine j_iret dX6_readItem_49 rfl rfl ?_
        have e : T = (false, g, w1) := by rw [← hI, ← hy]; unfold itm; rw [if_pos (by omega), if_pos hw1]
        exact hQ0 _ _ e _ hT1 hV1 hr1
    · show Rj _ _ _ _ _ _ 42 [.ref 13, .int (nI 0)] [.int (nI 0)] n I J (Pg i0 i1)
      refine j_ifeqN (tgt := 50) dX6_readItem_42 rfl rfl (by decide) (fun h4 => ?_) (fun h4 => by exfalso; omega)
      refine j_aload_n dX6_readItem_50 rfl rfl rfl ?_
      refine j_ldcS (i := 2) dX6_readItem_51 rfl rfl rfl ?_
      refine j_callVw (As := [.ref 1002]) dX6_readItem_53 rfl cX6_54 (by decide) rfl rfl (by decide) rfl (by decide) rfl rfl (c_isWord2 hR hT (fun hw2 => ?_) (fun hw2 => ?_))
      · show Rj _ _ _ _ _ _ 56 [.ref 13, .int (nI 0)] [.int (nI 1)] n I J (Pg i0 i1)
        refine j_ifeqN (tgt := 64) dX6_readItem_56 rfl rfl (by decide) (fun h5 => by exfalso; omega) (fun h5 => ?_)
        refine j_aload_n dX6_readItem_59 rfl rfl rfl ?_
        refine j_callVw (As := []) dX6_readItem_60 rfl cX6_69 (by decide) rfl rfl (by decide) rfl (by decide) rfl rfl (c_readDry hR hT hV rfl (fun g w1 hy I1 hT1 hV1 hr1 => ?_) (fun g w1 hy I1 hT1 hV1 hr1 => ?_))
        · show Rj _ _ _ _ _ _ 63 [.ref 13, .int (nI 0)] [.int (nI 1)] n I1 J (Pg i0 i1)
          refine j_iret dX6_readItem_63 rfl rfl ?_
          have e : T = (true, g, w1) := by rw [← hI, ← hy]; unfold itm; rw [if_pos (by omega), if_neg hw1, if_pos hw2]
          exact hQ1 _ _ e _ hT1 hV1 hr1
        · show Rj _ _ _ _ _ _ 63 [.ref 13, .int (nI 0)] [.int (nI 0)] n I1 J (Pg i0 i1)
          refine j_iret dX6_readItem_63 rfl rfl ?_
          have e : T = (false, g, w1) := by rw [← hI, ← hy]; unfold itm; rw [if_pos (by omega), if_neg hw1, if_pos hw2]
          exact hQ0 _ _ e _ hT1 hV1 hr1
      · show Rj _ _ _ _ _ _ 56 [.ref 13, .int (nI 0)] [.int (nI 0)] n I J (Pg i0 i1)
        refine j_ifeqN (tgt := 64) dX6_readItem_56 rfl rfl (by decide) (fun h6 => ?_) (fun h6 => by exfalso; omega)
        refine j_aload_n dX6_readItem_64 rfl rfl rfl ?_
        refine j_ldcS (i := 3) dX6_readItem_65 rfl rfl rfl ?_
        refine j_callVw (As := [.ref 1003]) dX6_readItem_67 rfl cX6_54 (by decide) rfl rfl (by decide) rfl (by decide) rfl rfl (c_isWord3 hR hT (fun hw3 => ?_) (fun hw3 => ?_))
        · show Rj _ _ _ _ _ _ 70 [.ref 13, .int (nI 0)] [.int (nI 1)] n I J (Pg i0 i1)
          refine j_ifeqN (tgt := 78) dX6_readItem_70 rfl rfl (by decide) (fun h7 => by exfalso; omega) (fun h7 => ?_)
          refine j_aload_n dX6_readItem_73 rfl rfl rfl ?_
          refine j_callVw (As := []) dX6_readItem_74 rfl cX6_74 (by decide) rfl rfl (by decide) rfl (by decide) rfl rfl (c_readPair hR hT hV rfl hb6 (fun g w1 hy I1 hT1 hV1 hr1 => ?_) (fun g w1 hy I1 hT1 hV1 hr1 => ?_))
          · show Rj _ _ _ _ _ _ 77 [.ref 13, .int (nI 0)] [.int (nI 1)] n I1 J (Pg i0 i1)
            refine j_iret dX6_readItem_77 rfl rfl ?_
            have e : T = (true, g, w1) := by rw [← hI, ← hy]; unfold itm; rw [if_pos (by omega), if_neg hw1, if_neg hw2, if_pos hw3]
            exact hQ1 _ _ e _ hT1 hV1 hr1
          · show Rj _ _ _ _ _ _ 77 [.ref 13, .int (nI 0)] [.int (nI 0)] n I1 J (Pg i0 i1)
            refine j_iret dX6_readItem_77 rfl rfl ?_
            have e : T = (false, g, w1) := by rw [← hI, ← hy]; unfold itm; rw [if_pos (by omega), if_neg hw1, if_neg hw2, if_pos hw3]
            exact hQ0 _ _ e _ hT1 hV1 hr1
        · show Rj _ _ _ _ _ _ 70 [.ref 13, .int (nI 0)] [.int (nI 0)] n I J (Pg i0 i1)
          refine j_ifeqN (tgt := 78) dX6_readItem_70 rfl rfl (by decide) (fun h8 => ?_) (fun h8 => by exfalso; omega)
          refine j_aload_n dX6_readItem_78 rfl rfl rfl ?_
          refine j_ldcS (i := 4) dX6_readItem_79 rfl rfl rfl ?_
          refine j_callVw (As := [.ref 1004]) dX6_readItem_81 rfl cX6_54 (by decide) rfl rfl (by decide) rfl (by decide) rfl rfl (c_isWord4 hR hT (fun hw4 => ?_) (fun hw4 => ?_))
          · show Rj _ _ _ _ _ _ 84 [.ref 13, .int (nI 0)] [.int (nI 1)] n I J (Pg i0 i1)
            refine j_ifeqN (tgt := 98) dX6_readItem_84 rfl rfl (by decide) (fun h9 => by exfalso; omega) (fun h9 => ?_)
            refine j_aload_n dX6_readItem_87 rfl rfl rfl ?_
            refine j_callVw (As := []) dX6_readItem_88 rfl cX6_79 (by decide) rfl rfl (by decide) rfl (by decide) rfl rfl (c_readKin hR hT hV rfl hb8 (fun g w1 hy I1 hT1 hV1 hr1 => ?_) (fun g w1 hy I1 hT1 hV1 hr1 => ?_))
            · show Rj _ _ _ _ _ _ 91 [.ref 13, .int (nI 0)] [.int (nI 1)] n I1 J (Pg i0 i1)
              refine j_ifeqN (tgt := 98) dX6_readItem_91 rfl rfl (by decide) (fun h10 => by exfalso; omega) (fun h10 => ?_)
              refine j_iconst (v := nI 1) dX6_readItem_94 rfl rfl ?_
              refine j_goto (tgt := 99) dX6_readItem_95 rfl ?_
              refine j_iret dX6_readItem_99 rfl rfl ?_
              have e : T = (true, g, w1) := by rw [← hI, ← hy]; unfold itm; rw [if_pos (by omega), if_neg hw1, if_neg hw2, if_neg hw3, if_pos hw4]
              exact hQ1 _ _ e _ hT1 hV1 hr1
            · show Rj _ _ _ _ _ _ 91 [.ref 13, .int (nI 0)] [.int (nI 0)] n I1 J (Pg i0 i1)
              refine j_ifeqN (tgt := 98) dX6_readItem_91 rfl rfl (by decide) (fun h11 => ?_) (fun h11 => by exfalso; omega)
              refine j_iconst (v := nI 0) dX6_readItem_98 rfl rfl ?_
              refine j_iret dX6_readItem_99 rfl rfl ?_
              have e : T = (false, g, w1) := by rw [← hI, ← hy]; unfold itm; rw [if_pos (by omega), if_neg hw1, if_neg hw2, if_neg hw3, if_pos hw4]
              exact hQ0 _ _ e _ hT1 hV1 hr1
          · show Rj _ _ _ _ _ _ 84 [.ref 13, .int (nI 0)] [.int (nI 0)] n I J (Pg i0 i1)
            refine j_ifeqN (tgt := 98) dX6_readItem_84 rfl rfl (by decide) (fun h12 => ?_) (fun h12 => by exfalso; omega)
            refine j_iconst (v := nI 0) dX6_readItem_98 rfl rfl ?_
            refine j_iret dX6_readItem_99 rfl rfl ?_
            have e : T = (false, f, w) := by rw [← hI]; unfold itm; rw [if_pos (by omega), if_neg hw1, if_neg hw2, if_neg hw3, if_neg hw4]
            exact hQ0 _ _ e _ hT hV Rdr.rf
  · refine j_iconst (v := nI 0) dX6_readItem_8 rfl rfl ?_
    refine j_iret dX6_readItem_9 rfl rfl ?_
    have e : T = (false, f, w) := by rw [← hI]; unfold itm; rw [if_neg (by omega)]
    exact hQ0 _ _ e _ hT hV Rdr.rf
set_option maxHeartbeats 4000000 in
set_option maxRecDepth 100000 in
theorem c_readItem1 {X : jX} {d n : Nat} {I : HI} {J : HJ} {i0 i1 : Option Nat} {Q : jPost} {tl f : Nat} {tx : Nat → Nat} (hR : RS I tl tx) (hT : TF I tx tl f) {T : Bool × Nat} (hI : itmV tx tl f = T) (hQ1 : ∀ g, T = (true, g) → ∀ I', TF I' tx tl g → Rst I I' → Q (some (.int (nI 1))) n I' J (Pg i0 i1)) (hQ0 : ∀ g, T = (false, g) → ∀ I', TF I' tx tl g → Rst I I' → Q (some (.int (nI 0))) n I' J (Pg i0 i1)) : Cj X (d + 5) 0 0 mX6_readItem [.ref 13, .int (nI 1)] n I J (Pg i0 i1) Q := by
  refine Cj.intro rfl (Nat.le_of_ble_eq_true rfl) (L := [.ref 13, .int (nI 1)]) rfl ?_
  have hk4 := tkK_le tx tl f
  refine j_aload_n dX6_readItem_0 rfl rfl rfl ?_
  refine j_getIv (v := nI (tkK tx tl f)) dX6_readItem_1 rfl fX6_26 rfl (by decide) rfl hT.1.1 ?_
  refine j_iconst (v := nI 1) dX6_readItem_4 rfl rfl ?_
  refine j_icmpeqN (tgt := 10) dX6_readItem_5 rfl rfl (by omega) (by decide) (fun h1 => ?_) (fun h1 => ?_)
  · refine j_iload_n dX6_readItem_10 rfl rfl rfl ?_
    refine j_ifeqN (tgt := 36) dX6_readItem_11 rfl rfl (by decide) (fun h2 => by exfalso; omega) (fun h2 => ?_)
    refine j_aload_n dX6_readItem_14 rfl rfl rfl ?_
    refine j_ldcS (i := 0) dX6_readItem_15 rfl rfl rfl ?_
    refine j_callVw (As := [.ref 1000]) dX6_readItem_17 rfl cX6_54 (by decide) rfl rfl (by decide) rfl (by decide) rfl rfl (c_isWord0 hR hT (fun hw0 => ?_) (fun hw0 => ?_))
    · show Rj _ _ _ _ _ _ 20 [.ref 13, .int (nI 1)] [.int (nI 1)] n I J (Pg i0 i1)
      refine j_ifeqN (tgt := 34) dX6_readItem_20 rfl rfl (by decide) (fun h3 => by exfalso; omega) (fun h3 => ?_)
      refine j_aload_n dX6_readItem_23 rfl rfl rfl ?_
      refine j_callVw (As := []) dX6_readItem_24 rfl cX6_58 (by decide) rfl rfl (by decide) rfl (by decide) rfl rfl (c_takeSemicolon hR hT (fun hs I1 hT1 hr1 => ?_) (fun hs I1 hT1 hr1 => ?_))
      · show Rj _ _ _ _ _ _ 27 [.ref 13, .int (nI 1)] [.int (nI 1)] n I1 J (Pg i0 i1)
        refine j_ifeqN (tgt := 34) dX6_readItem_27 rfl rfl (by decide) (fun h4 => by exfalso; omega) (fun h4 => ?_)
        refine j_iconst (v := nI 1) dX6_readItem_30 rfl rfl ?_
        refine j_goto (tgt := 35) dX6_readItem_31 rfl ?_
        refine j_iret dX6_readItem_35 rfl rfl ?_
        have e : T = (true, nx tx tl f) := by rw [← hI]; unfold itmV; rw [if_pos ⟨by omega, hw0⟩, decide_eq_true hs]
        exact hQ1 _ e _ hT1 hr1
      · show Rj _ _ _ _ _ _ 27 [.ref 13, .int (nI 1)] [.int (nI 0)] n I1 J (Pg i0 i1)
        refine j_ifeqN (tgt := 34) dX6_readItem_27 rfl rfl (by decide) (fun h5 => ?_) (fun h5 => by exfalso; omega)
        refine j_iconst (v := nI 0) dX6_readItem_34 rfl rfl ?_
        refine j_iret dX6_readItem_35 rfl rfl ?_
        have e : T = (false, nx tx tl f) := by rw [← hI]; unfold itmV; rw [if_pos ⟨by omega, hw0⟩, decide_eq_false hs]
        exact hQ0 _ e _ hT1 hr1
    · show Rj _ _ _ _ _ _ 20 [.ref 13, .int (nI 1)] [.int (nI 0)] n I J (Pg i0 i1)
      refine j_ifeqN (tgt := 34) dX6_readItem_20 rfl rfl (by decide) (fun h6 => ?_) (fun h6 => by exfalso; omega)
      refine j_iconst (v := nI 0) dX6_readItem_34 rfl rfl ?_
      refine j_iret dX6_readItem_35 rfl rfl ?_
      have e : T = (false, f) := by rw [← hI]; unfold itmV; rw [if_neg (by first | (intro q; omega) | exact fun q => hw0 q.2)]
      exact hQ0 _ e _ hT Rst.rf
  · refine j_iconst (v := nI 0) dX6_readItem_8 rfl rfl ?_
    refine j_iret dX6_readItem_9 rfl rfl ?_
    have e : T = (false, f) := by rw [← hI]; unfold itmV; rw [if_neg (by first | (intro q; omega) | exact fun q => hw0 q.2)]
    exact hQ0 _ e _ hT Rst.rf
