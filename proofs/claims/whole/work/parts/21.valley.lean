/-! what is left behind some years -/
def lft (k da dr : Nat) : Nat → Nat → Nat → Nat
  | _, l, 0 => l
  | y, l, m + 1 => lft k da dr (y + 1) (l - gos k y da dr) m
theorem lft_0 (k da dr : Nat) : ∀ m y, lft k da dr y 0 m = 0
  | 0, _ => rfl
  | m + 1, y => by simp only [lft, Nat.zero_sub]; exact lft_0 k da dr m (y + 1)
theorem lft_le (k da dr : Nat) : ∀ m y l, lft k da dr y l m ≤ l
  | 0, _, _ => Nat.le_refl _
  | m + 1, y, l => Nat.le_trans (lft_le k da dr m (y + 1) _) (Nat.sub_le _ _)
set_option maxHeartbeats 4000000 in
set_option maxRecDepth 100000 in
theorem c_hasPair {X : jX} {d n : Nat} {I : HI} {J : HJ} {P : HP} {Q : jPost} {a : Int32} {v : VT} (hV : VC 1 I v) (h1 : hasP a (v 0 3) → Q (some (.int (nI 1))) n I J P) (h2 : ¬ hasP a (v 0 3) → Q (some (.int (nI 0))) n I J P) : Cj X d 0 0 mX8_hasPair [.ref 1, .int a] n I J P Q := by
  refine Cj.intro rfl (Nat.le_of_ble_eq_true rfl) (L := [.ref 1, .int a]) rfl ?_
  refine j_iload_n dX8_hasPair_0 rfl rfl rfl ?_
  suffices K2 : Rj X d 0 0 mX8_hasPair Q 17 [.ref 1, .int a] [.int (bI (¬ (a < 0) ∧ (¬ ((nI (v 0 3)) ≤ a))))] n I J P by
    refine j_iflt (tgt := 16) dX8_hasPair_1 rfl rfl (fun h1 => ?_) (fun h1 => ?_)
    · refine j_iconst (v := nI 0) dX8_hasPair_16 rfl rfl ?_
      rw [bI_f (fun q => q.1 h1)] at K2; exact K2
    · refine j_iload_n dX8_hasPair_4 rfl rfl rfl ?_
      refine j_aload_n dX8_hasPair_5 rfl rfl rfl ?_
      refine j_getIv (v := nI (v 0 3)) dX8_hasPair_6 rfl fX8_21 rfl (by decide) rfl hV.pairs ?_
      refine j_icmpge (tgt := 16) dX8_hasPair_9 rfl rfl (fun h3 => ?_) (fun h3 => ?_)
      · refine j_iconst (v := nI 0) dX8_hasPair_16 rfl rfl ?_
        rw [bI_f (fun q => (fun q => q h3) q.2)] at K2; exact K2
      · refine j_iconst (v := nI 1) dX8_hasPair_12 rfl rfl ?_
        refine j_goto (tgt := 17) dX8_hasPair_13 rfl ?_
        rw [bI_t ⟨h1, h3⟩] at K2; exact K2
  refine j_iret dX8_hasPair_17 rfl (bI_nar _) ?_
  by_cases q : hasP a (v 0 3)
  · rw [bI_t (c := ¬ a < 0 ∧ ¬ nI (v 0 3) ≤ a) q]; exact h1 q
  · rw [bI_f (c := ¬ a < 0 ∧ ¬ nI (v 0 3) ≤ a) q]; exact h2 q
set_option maxHeartbeats 4000000 in
set_option maxRecDepth 100000 in
theorem c_leftInYear {X : jX} {d n : Nat} {I : HI} {J : HJ} {i0 i1 : Option Nat} {Q : jPost} {v : VT} (hV : VC 1 I v) {l p y : Nat} (hl : l < 2 ^ 20) (hp : p < v 0 3) (h6 : v 0 3 ≤ 6) (hk : v 1 p ≤ 5) (hy : v 0 0 + y < 2 ^ 30) (hda : v 0 1 ≤ 4095) (hdr : v 0 2 ≤ 4095) (hQ : Q (some (.int (nI (l - gos (v 1 p) (v 0 0 + y) (v 0 1) (v 0 2))))) n I J (Pg i0 i1)) : Cj X (d + 2) 0 0 mX8_leftInYear [.ref 1, .int (nI l), .int (nI p), .int (nI y)] n I J (Pg i0 i1) Q := by
  refine Cj.intro rfl (Nat.le_of_ble_eq_true rfl) (L := [.ref 1, .int (nI l), .int (nI p), .int (nI y)]) rfl ?_
  refine j_iload_n dX8_leftInYear_0 rfl rfl rfl ?_
  refine j_aload_n dX8_leftInYear_1 rfl rfl rfl ?_
  refine j_getP (b := 2) dX8_leftInYear_2 rfl fX8_30 rfl (by decide) rfl rfl ?_
  refine j_iload_n dX8_leftInYear_5 rfl rfl rfl ?_
  refine j_iald (j := p) (v := nI (v 1 p)) dX8_leftInYear_6 rfl rfl (by decide) rfl (by omega) (by decide) (hV.kd (by omega)) ?_
  refine j_aload_n dX8_leftInYear_7 rfl rfl rfl ?_
  refine j_getIv (v := nI (v 0 0)) dX8_leftInYear_8 rfl fX8_9 rfl (by decide) rfl hV.year ?_
  refine j_iload_n dX8_leftInYear_11 rfl rfl rfl ?_
  refine j_iaddN (c := (v 0 0) + y) dX8_leftInYear_12 rfl rfl ?_
  refine j_aload_n dX8_leftInYear_13 rfl rfl rfl ?_
  refine j_getIv (v := nI (v 0 1)) dX8_leftInYear_14 rfl fX8_15 rfl (by decide) rfl hV.damp ?_
  refine j_aload_n dX8_leftInYear_17 rfl rfl rfl ?_
  refine j_getIv (v := nI (v 0 2)) dX8_leftInYear_18 rfl fX8_18 rfl (by decide) rfl hV.dry ?_
  refine j_callSw (As := [.int (nI l), .int (nI (v 1 p)), .int (nI ((v 0 0) + y)), .int (nI (v 0 1)), .int (nI (v 0 2))]) dX8_leftInYear_21 rfl cX8_79 rfl (by decide) rfl rfl (c_leftAfter (by omega) (by omega) (by omega) (by omega) (by omega) ?_)
  show Rj _ _ _ _ _ _ 24 [.ref 1, .int (nI l), .int (nI p), .int (nI y)] [.int (nI (l - gos (v 1 p) ((v 0 0) + y) (v 0 1) (v 0 2)))] n I J (Pg i0 i1)
  refine j_iret dX8_leftInYear_24 rfl rfl ?_
  exact hQ
set_option maxHeartbeats 4000000 in
set_option maxRecDepth 100000 in
theorem c_leftAs {X : jX} {d n : Nat} {I : HI} {J : HJ} {P : HP} {Q : jPost} {v : VT} (hV : VC 1 I v) {k l m dr : Nat} (hk : k ≤ 5) (hl : l < 2 ^ 20) (hm : m ≤ 99) (hy : v 0 0 ≤ 2 ^ 20) (hda : v 0 1 ≤ 4095) (hdr : dr ≤ 4095) (hQ : Q (some (.int (nI (lft k (v 0 1) dr (v 0 0) l m)))) n I J P) : Cj X (d + 2) 0 0 mX8_leftAs [.ref 1, .int (nI k), .int (nI l), .int (nI m), .int (nI dr)] n I J P Q := by
  refine Cj.intro rfl (Nat.le_of_ble_eq_true rfl) (L := [.ref 1, .int (nI k), .int (nI l), .int (nI m), .int (nI dr), jU, jU]) rfl ?_
  have loop : ∀ r y h : Nat, y + r = m → h < 2 ^ 20 → lft k (v 0 1) dr (v 0 0 + y) h r = lft k (v 0 1) dr (v 0 0) l m → Rj X (d + 2) 0 0 mX8_leftAs Q 6 [.ref 1, .int (nI k), .int (nI l), .int (nI m), .int (nI dr), .int (nI h), .int (nI y)] [] n I J P := by
    intro r
    induction r with
    | zero =>
      intro y h hyr hh hr
      refine j_iload dX8_leftAs_6 rfl rfl ?_
      refine j_iload_n dX8_leftAs_8 rfl rfl rfl ?_
      refine j_icmpgeN (tgt := 44) dX8_leftAs_9 rfl rfl (by omega) (by omega) (fun h1 => ?_) (fun h1 => by exfalso; omega)
      refine j_iload dX8_leftAs_44 rfl rfl ?_
      refine j_iret dX8_leftAs_46 rfl rfl ?_
      rw [← hr] at hQ; exact hQ
    | succ r ih =>
      intro y h hyr hh hr
      refine j_iload dX8_leftAs_6 rfl rfl ?_
      refine j_iload_n dX8_leftAs_8 rfl rfl rfl ?_
      refine j_icmpgeN (tgt := 44) dX8_leftAs_9 rfl rfl (by omega) (by omega) (fun h1 => by exfalso; omega) (fun h1 => ?_)
      refine j_iload dX8_leftAs_12 rfl rfl ?_
      refine j_ifleN (tgt := 44) dX8_leftAs_14 rfl rfl (by omega) (fun h2 => ?_) (fun h2 => ?_)
      · refine j_iload dX8_leftAs_44 rfl rfl ?_
        refine j_iret dX8_leftAs_46 rfl rfl ?_
        have h0 : h = 0 := by omega
        subst h0
        rw [lft_0] at hr
        rw [← hr] at hQ; exact hQ
      · refine j_iload dX8_leftAs_17 rfl rfl ?_
        refine j_iload_n dX8_leftAs_19 rfl rfl rfl ?_
        refine j_aload_n dX8_leftAs_20 rfl rfl rfl ?_
        refine j_getIv (v := nI (v 0 0)) dX8_leftAs_21 rfl fX8_9 rfl (by decide) rfl hV.year ?_
        refine j_iload dX8_leftAs_24 rfl rfl ?_
        refine j_iaddN (c := (v 0 0) + y) dX8_leftAs_26 rfl rfl ?_
        refine j_aload_n dX8_leftAs_27 rfl rfl rfl ?_
        refine j_getIv (v := nI (v 0 1)) dX8_leftAs_28 rfl fX8_15 rfl (by decide) rfl hV.damp ?_
        refine j_iload dX8_leftAs_31 rfl rfl ?_
        refine j_callSw (As := [.int (nI h), .int (nI k), .int (nI ((v 0 0) + y)), .int (nI (v 0 1)), .int (nI dr)]) dX8_leftAs_33 rfl cX8_79 rfl (by decide) rfl rfl (c_leftAfter (by omega) (by omega) (by omega) (by omega) (by omega) ?_)
        show Rj _ _ _ _ _ _ 36 [.ref 1, .int (nI k), .int (nI l), .int (nI m), .int (nI dr), .int (nI h), .int (nI y)] [.int (nI (h - gos k ((v 0 0) + y) (v 0 1) dr))] n I J P
        refine j_istore (L' := [.ref 1, .int (nI k), .int (nI l), .int (nI m), .int (nI dr), .int (nI (h - gos k ((v 0 0) + y) (v 0 1) dr)), .int (nI y)]) dX8_leftAs_36 rfl rfl (by decide) rfl ?_
        refine j_iincN (L' := [.ref 1, .int (nI k), .int (nI l), .int (nI m), .int (nI dr), .int (nI (h - gos k ((v 0 0) + y) (v 0 1) dr)), .int (nI (y + 1))]) dX8_leftAs_38 rfl rfl (b := 1) rfl rfl rfl (by decide) rfl ?_
        refine j_goto (tgt := 6) dX8_leftAs_41 rfl ?_
        exact ih (y + 1) _ (by omega) (by omega) (by rw [← hr]; rfl)
  refine j_iload_n dX8_leftAs_0 rfl rfl rfl ?_
  refine j_istore (L' := [.ref 1, .int (nI k), .int (nI l), .int (nI m), .int (nI dr), .int (nI l), jU]) dX8_leftAs_1 rfl rfl (by decide) rfl ?_
  refine j_iconst (v := nI 0) dX8_leftAs_3 rfl rfl ?_
  refine j_istore (L' := [.ref 1, .int (nI k), .int (nI l), .int (nI m), .int (nI dr), .int (nI l), .int (nI 0)]) dX8_leftAs_4 rfl rfl (by decide) rfl ?_
  exact loop m 0 l (Nat.zero_add m) hl rfl
