theorem lwm_z (k da dr : Nat) : ∀ m y l, l ≤ 60 → lwm k da dr 0 y l m = lft k da dr y l m
  | 0, _, _, _ => rfl
  | m + 1, y, l, h => by
    unfold lwm lft
    by_cases q : l = 0
    · rw [if_pos q, q, Nat.zero_sub, lft_0]
    · rw [if_neg q, show min 60 (l + 0) = l by omega]
      exact lwm_z k da dr m (y + 1) _ (by omega)
theorem MI.row40 {S : SS} {I : HI} {J : HJ} {f : Nat → Int32} (h : MI S I J) : MI S (ur I 40 f) J := h.scr (fun a _ _ _ => ur_ne _ _ (by omega)) (by rw [ur_ne _ _ (by omega)]) rfl rfl
set_option maxHeartbeats 4000000 in
set_option maxRecDepth 100000 in
theorem g_back {X : jX} {d n : Nat} {I : HI} {J : HJ} {i0 i1 : Option Nat} {Q : jPost} {S : SS} {yb : Nat} (hm : MI S I J) (hW : WF yb S.v) (hyb : yb ≤ 2 ^ 12) (hQ : MP Q (oBack S) n I J (Pg i0 i1)) : Cj X (d + 3) 0 0 mX10_back [.ref 33] n I J (Pg i0 i1) Q := by
  refine Cj.intro rfl (Nat.le_of_ble_eq_true rfl) (L := [.ref 33, jU, jU]) rfl ?_
  obtain ⟨⟨w0, w1, w2, w3, w4, w5, w6⟩, wp, wk, wc, wb⟩ := id hW
  refine j_iconst (v := nI 0) dX10_back_0 rfl rfl ?_
  refine j_istore_n (L' := [.ref 33, .int (nI 0), jU]) dX10_back_1 rfl rfl rfl (by decide) rfl ?_
  refine j_aload_n dX10_back_2 rfl rfl rfl ?_
  refine j_callVw (As := []) dX10_back_3 rfl cX10_164 (by decide) rfl rfl (by decide) rfl (by decide) rfl rfl (c_mlay (fun f hf => ?_))
  show Rj _ _ _ _ _ _ 6 [.ref 33, .int (nI 0), jU] [] n (ur I 40 f) J (Pg i0 i1)
  have hm2 : MI S (ur I 40 f) J := hm.row40
  have loop : ∀ (r p st : Nat), p + r = S.v 0 3 → st = bitsOf (fun p => decide (pbF S.v p)) p → Rj X (d + 3) 0 0 mX10_back Q 8 [.ref 33, .int (nI st), .int (nI p)] [] n (ur I 40 f) J (Pg i0 i1) := by
    intro r
    induction r with
    | zero =>
      intro p st hpr hst
      refine j_iload_n dX10_back_8 rfl rfl rfl ?_
      refine j_aload_n dX10_back_9 rfl rfl rfl ?_
      refine j_getP (b := 34) dX10_back_10 rfl fX10_7 rfl (by decide) rfl rfl ?_
      refine j_iconst (v := nI 0) dX10_back_13 rfl rfl ?_
      refine j_iald (j := 0) (v := nI (S.v 0 3)) dX10_back_14 rfl rfl (by decide) rfl (by decide) (by decide) hm2.v.mp ?_
      refine j_icmpgeN (tgt := 42) dX10_back_15 rfl rfl (by omega) (by omega) (fun h1 => ?_) (fun h1 => by exfalso; omega)
      refine j_iload_n dX10_back_42 rfl rfl rfl ?_
      refine j_iret dX10_back_43 rfl rfl ?_
      have hp3 : p = S.v 0 3 := by omega
      subst hp3
      rw [hst]
      exact hQ _ _ hm2 (CF.ur (by omega) (by omega))
    | succ r ih =>
      intro p st hpr hst
      have hsb : st < 2 ^ p := by rw [hst]; exact bitsOf_lt _ _
      refine j_iload_n dX10_back_8 rfl rfl rfl ?_
      refine j_aload_n dX10_back_9 rfl rfl rfl ?_
      refine j_getP (b := 34) dX10_back_10 rfl fX10_7 rfl (by decide) rfl rfl ?_
      refine j_iconst (v := nI 0) dX10_back_13 rfl rfl ?_
      refine j_iald (j := 0) (v := nI (S.v 0 3)) dX10_back_14 rfl rfl (by decide) rfl (by decide) (by decide) hm2.v.mp ?_
      refine j_icmpgeN (tgt := 42) dX10_back_15 rfl rfl (by omega) (by omega) (fun h1 => by exfalso; omega) (fun h1 => ?_)
      refine j_iload_n dX10_back_18 rfl rfl rfl ?_
      refine j_aload_n dX10_back_19 rfl rfl rfl ?_
      refine j_iload_n dX10_back_20 rfl rfl rfl ?_
      refine j_callVw (As := [.int (nI p)]) dX10_back_21 rfl cX10_167 (by decide) rfl rfl (by decide) rfl (Nat.le_of_ble_eq_true rfl) rfl rfl (c_misSo (h := S.v 2) (mo := fun q => if q = p then 1 else 0) hm2 hW hyb (fun q hq => by rw [ur_row, hf q (by omega)]; exact hm.v.lv hq) (fun q hq => (wp q hq).2.1) (fun q hq => ⟨fun e => if_pos ((nI_eq (by omega) (by omega)).mp e), fun e => if_neg (fun z => e (by rw [z]))⟩) (fun hy => ?_) (fun hy => ?_))
      · show Rj _ _ _ _ _ _ 24 [.ref 33, .int (nI st), .int (nI p)] [.int (nI 1), .int (nI st)] n (ur I 40 f) J (Pg i0 i1)
        refine j_ifeqN (tgt := 33) dX10_back_24 rfl rfl (by decide) (fun h2 => by exfalso; omega) (fun h2 => ?_)
        refine j_iconst (v := nI 1) dX10_back_27 rfl rfl ?_
        refine j_iload_n dX10_back_28 rfl rfl rfl ?_
        refine j_ishlN (c := 2 ^ p) dX10_back_29 rfl (by omega) (Nat.one_mul _) ?_
        refine j_goto (tgt := 34) dX10_back_30 rfl ?_
        refine j_iorN (c := st ||| (2 ^ p)) dX10_back_34 rfl rfl ?_
        refine j_istore_n (L' := [.ref 33, .int (nI (st ||| (2 ^ p))), .int (nI p)]) dX10_back_35 rfl rfl rfl (by decide) rfl ?_
        refine j_iincN (L' := [.ref 33, .int (nI (st ||| (2 ^ p))), .int (nI (p + 1))]) dX10_back_36 rfl rfl (b := 1) rfl rfl rfl (by decide) rfl ?_
        refine j_goto (tgt := 8) dX10_back_39 rfl ?_
        refine ih (p + 1) _ (by omega) ?_
        show _ = (if decide (pbF S.v p) = true then _ else _)
        rw [if_pos (decide_eq_true hy), ← hst]
      · show Rj _ _ _ _ _ _ 24 [.ref 33, .int (nI st), .int (nI p)] [.int (nI 0), .int (nI st)] n (ur I 40 f) J (Pg i0 i1)
        refine j_ifeqN (tgt := 33) dX10_back_24 rfl rfl (by decide) (fun h3 => ?_) (fun h3 => by exfalso; omega)
        refine j_iconst (v := nI 0) dX10_back_33 rfl rfl ?_
        refine j_iorN (c := st ||| 0) dX10_back_34 rfl rfl ?_
        refine j_istore_n (L' := [.ref 33, .int (nI (st ||| 0)), .int (nI p)]) dX10_back_35 rfl rfl rfl (by decide) rfl ?_
        refine j_iincN (L' := [.ref 33, .int (nI (st ||| 0)), .int (nI (p + 1))]) dX10_back_36 rfl rfl (b := 1) rfl rfl rfl (by decide) rfl ?_
        refine j_goto (tgt := 8) dX10_back_39 rfl ?_
        refine ih (p + 1) _ (by omega) ?_
        show _ = (if decide (pbF S.v p) = true then _ else _)
        rw [if_neg (fun q => hy (of_decide_eq_true q)), ← hst, Nat.or_zero]
  refine j_iconst (v := nI 0) dX10_back_6 rfl rfl ?_
  refine j_istore_n (L' := [.ref 33, .int (nI 0), .int (nI 0)]) dX10_back_7 rfl rfl rfl (by decide) rfl ?_
  exact loop (S.v 0 3) 0 0 (by omega) rfl
def tri : Nat → Nat
  | 0 => 0
  | r + 1 => tri r + r
theorem swI_tri (v : VT) : ∀ r i, i + r = v 0 3 → (swI v r i).length ≤ tri r
  | 0, _, _ => Nat.le_refl _
  | r + 1, i, h => by
    unfold swI tri
    rw [List.length_append]
    have h1 := swI_tri v r (i + 1) (by omega)
    have h2 := swJ_len v i (v 0 3 - (i + 1)) (i + 1)
    omega
theorem tri_15 : ∀ k : Fin 7, tri k.1 ≤ 15 := by decide
theorem pickL_lt {l : List Nat} {k : Nat} (h : k < l.length) : pickL l k = nI (l.getD k 0) := by
  unfold pickL
  rw [List.getElem?_eq_getElem h]
  simp [List.getD, h]
theorem pickL_ge {l : List Nat} {k : Nat} (h : l.length ≤ k) : pickL l k = -5 := by
  unfold pickL
  rw [List.getElem?_eq_none h]
theorem swF_iff {v : VT} {yb i j : Nat} (hW : WF yb v) (hi : i < v 0 3) (hj : j < v 0 3) : (∀ c, c < v 0 5 → lwm (v 1 (v 6 c)) (v 0 1) (v 0 2) ((fun _ => 0) (v 6 c)) (v 0 0) ((fun q => if q = i then v 2 j else if q = j then v 2 i else v 2 q) (v 6 c)) (v 7 c) = v 8 c) ↔ swF v i j := by
  have hE : ∀ c, c < v 0 5 → lwm (v 1 (v 6 c)) (v 0 1) (v 0 2) ((fun _ => 0) (v 6 c)) (v 0 0) ((fun q => if q = i then v 2 j else if q = j then v 2 i else v 2 q) (v 6 c)) (v 7 c) = lft (v 1 (v 6 c)) (v 0 1) (v 0 2) (v 0 0) (v 2 (swH v i j c)) (v 7 c) := by
    intro c hc
    have hl := swH_lt hi hj (hW.2.2.2.1 c hc).1
    have e : (fun q => if q = i then v 2 j else if q = j then v 2 i else v 2 q) (v 6 c) = v 2 (swH v i j c) := by
      unfold swH
      simp only
      split
      · rfl
      · split <;> rfl
    rw [e]
    exact lwm_z _ _ _ _ _ _ (hW.2.1 _ hl).2.1
  constructor
  · intro q c hc; rw [← hE c hc]; exact q c hc
  · intro q c hc; rw [hE c hc]; exact q c hc
set_option maxHeartbeats 4000000 in
set_option maxRecDepth 100000 in
theorem g_swapped {X : jX} {d n : Nat} {I : HI} {J : HJ} {i0 i1 : Option Nat} {Q : jPost} {S : SS} {yb : Nat} (hm : MI S I J) (hW : WF yb S.v) (hyb : yb ≤ 2 ^ 12) {a : Int32} (hQ : MP Q (oSwap S a) n I J (Pg i0 i1)) : Cj X (d + 3) 0 0 mX10_swapped [.ref 33, .int a] n I J (Pg i0 i1) Q := by
  refine Cj.intro rfl (Nat.le_of_ble_eq_true rfl) (L := [.ref 33, .int a, jU, jU, jU]) rfl ?_
  obtain ⟨⟨w0, w1, w2, w3, w4, w5, w6⟩, wp, wk, wc, wb⟩ := id hW
  by_cases ha : a < -1
  · skip
    refine j_iload_n dX10_swapped_0 rfl rfl rfl ?_
    refine j_iconst (v := (-1)) dX10_swapped_1 rfl rfl ?_
    refine j_icmpge (tgt := 12) dX10_swapped_2 rfl rfl (fun h1 => by exfalso; exact absurd ha (Int32.not_lt.mpr h1)) (fun h1 => ?_)
    refine j_aload_n dX10_swapped_5 rfl rfl rfl ?_
    refine j_bipush (v := (-10)) dX10_swapped_6 rfl rfl ?_
    refine j_callVw (As := [.int (-10)]) dX10_swapped_8 rfl cX10_54 (by decide) rfl rfl (by decide) rfl (by decide) rfl rfl (c_mten ?_)
    show Rj _ _ _ _ _ _ 11 [.ref 33, .int a, jU, jU, jU] [.int (-10)] n (u2 I 39 0 (I 39 0 + nI 1)) J (Pg i0 i1)
    refine j_iret dX10_swapped_11 rfl rfl ?_
    have e : oSwap S a = (S.bad, -10) := by unfold oSwap; rw [if_pos ha]
    rw [e] at hQ
    exact hQ _ _ hm.bad (CF.u2 (by omega) (by omega))
  · skip
    have inner : ∀ (r j i r0 : Nat) (l : List Nat) (Ia : HI), j + r = S.v 0 3 → i < j → MI S Ia J → (∀ a, a ≠ 40 → a ≠ 41 → Ia a = I a) → (∀ t, t < l.length → Ia 41 t = nI (l.getD t 0)) → swI S.v (S.v 0 3) 0 = l ++ (swJ S.v i r j ++ swI S.v r0 (i + 1)) → (∀ (l2 : List Nat) (z4 : Value) (I2 : HI), MI S I2 J → (∀ a, a ≠ 40 → a ≠ 41 → I2 a = I a) → (∀ t, t < l2.length → I2 41 t = nI (l2.getD t 0)) → swI S.v (S.v 0 3) 0 = l2 ++ swI S.v r0 (i + 1) → Rj X (d + 3) 0 0 mX10_swapped Q 16 [.ref 33, .int a, .int (nI l2.length), .int (nI (i + 1)), z4] [] n I2 J (Pg i0 i1)) → Rj X (d + 3) 0 0 mX10_swapped Q 31 [.ref 33, .int a, .int (nI l.length), .int (nI i), .int (nI j)] [] n Ia J (Pg i0 i1) := by
      intro r
      induction r with
      | zero =>
        intro j i r0 l Ia hjr hij hmA hO hS hT hk
        have hL15 : (swI S.v (S.v 0 3) 0).length ≤ 15 := Nat.le_trans (swI_tri S.v (S.v 0 3) 0 (by omega)) (tri_15 ⟨S.v 0 3, by omega⟩)
        have hll : l.length ≤ 15 := by
          have e := congrArg List.length hT
          simp only [List.length_append] at e
          omega
        refine j_iload dX10_swapped_31 rfl rfl ?_
        refine j_aload_n dX10_swapped_33 rfl rfl rfl ?_
        refine j_getP (b := 34) dX10_swapped_34 rfl fX10_7 rfl (by decide) rfl rfl ?_
        refine j_iconst (v := nI 0) dX10_swapped_37 rfl rfl ?_
        refine j_iald (j := 0) (v := nI (S.v 0 3)) dX10_swapped_38 rfl rfl (by decide) rfl (by decide) (by decide) hmA.v.mp ?_
        refine j_icmpgeN (tgt := 108) dX10_swapped_39 rfl rfl (by omega) (by omega) (fun h1 => ?_) (fun h1 => by exfalso; omega)
        refine j_iincN (L' := [.ref 33, .int a, .int (nI l.length), .int (nI (i + 1)), .int (nI j)]) dX10_swapped_108 rfl rfl (b := 1) rfl rfl rfl (by decide) rfl ?_
        refine j_goto (tgt := 16) dX10_swapped_111 rfl ?_
        exact hk l _ Ia hmA hO hS hT
      | succ r ih =>
        intro j i r0 l Ia hjr hij hmA hO hS hT hk
        have hL15 : (swI S.v (S.v 0 3) 0).length ≤ 15 := Nat.le_trans (swI_tri S.v (S.v 0 3) 0 (by omega)) (tri_15 ⟨S.v 0 3, by omega⟩)
        have hll : l.length ≤ 15 := by
          have e := congrArg List.length hT
          simp only [List.length_append] at e
          omega
        refine j_iload dX10_swapped_31 rfl rfl ?_
        refine j_aload_n dX10_swapped_33 rfl rfl rfl ?_
        refine j_getP (b := 34) dX10_swapped_34 rfl fX10_7 rfl (by decide) rfl rfl ?_
        refine j_iconst (v := nI 0) dX10_swapped_37 rfl rfl ?_
        refine j_iald (j := 0) (v := nI (S.v 0 3)) dX10_swapped_38 rfl rfl (by decide) rfl (by decide) (by decide) hmA.v.mp ?_
        refine j_icmpgeN (tgt := 108) dX10_swapped_39 rfl rfl (by omega) (by omega) (fun h1 => by exfalso; omega) (fun h1 => ?_)
        refine j_aload_n dX10_swapped_42 rfl rfl rfl ?_
        refine j_callVw (As := []) dX10_swapped_43 rfl cX10_164 (by decide) rfl rfl (by decide) rfl (by decide) rfl rfl (c_mlay (fun f hf => ?_))
        show Rj _ _ _ _ _ _ 46 [.ref 33, .int a, .int (nI l.length), .int (nI i), .int (nI j)] [] n (ur Ia 40 f) J (Pg i0 i1)
        refine j_aload_n dX10_swapped_46 rfl rfl rfl ?_
        refine j_getP (b := 40) dX10_swapped_47 rfl fX10_33 rfl (by decide) rfl rfl ?_
        refine j_iload_n dX10_swapped_50 rfl rfl rfl ?_
        refine j_aload_n dX10_swapped_51 rfl rfl rfl ?_
        refine j_getP (b := 34) dX10_swapped_52 rfl fX10_7 rfl (by decide) rfl rfl ?_
        refine j_bipush (v := nI 13) dX10_swapped_55 rfl rfl ?_
        refine j_iload dX10_swapped_57 rfl rfl ?_
        refine j_iaddN (c := 13 + j) dX10_swapped_59 rfl rfl ?_
        refine j_iald (j := 13 + j) (v := nI (S.v 2 j)) dX10_swapped_60 rfl rfl (by decide) rfl (by omega) (by decide) (hmA.v.lv (by omega)) ?_
        refine j_iast (j := i) dX10_swapped_61 rfl rfl (by decide) rfl (by omega) (by decide) ?_
        refine j_aload_n dX10_swapped_62 rfl rfl rfl ?_
        refine j_getP (b := 40) dX10_swapped_63 rfl fX10_33 rfl (by decide) rfl rfl ?_
        refine j_iload dX10_swapped_66 rfl rfl ?_
        refine j_aload_n dX10_swapped_68 rfl rfl rfl ?_
        refine j_getP (b := 34) dX10_swapped_69 rfl fX10_7 rfl (by decide) rfl rfl ?_
        refine j_bipush (v := nI 13) dX10_swapped_72 rfl rfl ?_
        refine j_iload_n dX10_swapped_74 rfl rfl rfl ?_
        refine j_iaddN (c := 13 + i) dX10_swapped_75 rfl rfl ?_
        refine j_iald (j := 13 + i) (v := nI (S.v 2 i)) dX10_swapped_76 rfl rfl (by decide) rfl (by omega) (by decide) (hmA.v.lv (by omega)) ?_
        refine j_iast (j := j) dX10_swapped_77 rfl rfl (by decide) rfl (by omega) (by decide) ?_
        have hm3 : MI S (u2 (u2 (ur Ia 40 f) 40 i (nI (S.v 2 j))) 40 j (nI (S.v 2 i))) J := hmA.scr (fun a _ _ _ => by rw [u2_ne _ _ _ (by omega), u2_ne _ _ _ (by omega), ur_ne _ _ (by omega)]) (by rw [u2_ne _ _ _ (by omega), u2_ne _ _ _ (by omega), ur_ne _ _ (by omega)]) rfl rfl
        have hho : ∀ q, q < S.v 0 3 → (u2 (u2 (ur Ia 40 f) 40 i (nI (S.v 2 j))) 40 j (nI (S.v 2 i))) 40 q = nI ((fun q => if q = i then S.v 2 j else if q = j then S.v 2 i else S.v 2 q) q) := by
          intro q hq
          simp only
          by_cases e1 : q = i
          · rw [if_pos e1, e1, u2_ne2 _ _ _ (by omega), u2_self]
          · rw [if_neg e1]
            by_cases e2 : q = j
            · rw [if_pos e2, e2, u2_self]
            · rw [if_neg e2, u2_ne2 _ _ _ e2, u2_ne2 _ _ _ e1, ur_row, hf q (by omega)]
              exact hmA.v.lv hq
        have hb6 : ∀ q, q < S.v 0 3 → (fun q => if q = i then S.v 2 j else if q = j then S.v 2 i else S.v 2 q) q ≤ 60 := by
          intro q hq
          simp only
          have k1 := (wp q hq).2.1
          have k2 := (wp i (by omega)).2.1
          have k3 := (wp j (by omega)).2.1
          split
          · exact k3
          · split
            · exact k2
            · exact k1
        refine j_aload_n dX10_swapped_78 rfl rfl rfl ?_
        refine j_iconst (v := (-1)) dX10_swapped_79 rfl rfl ?_
        refine j_callVw (As := [.int (-1)]) dX10_swapped_80 rfl cX10_167 (by decide) rfl rfl (by decide) rfl (by decide) rfl rfl (c_misSo (h := fun q => if q = i then S.v 2 j else if q = j then S.v 2 i else S.v 2 q) (mo := fun _ => 0) hm3 hW hyb hho hb6 (fun q hq => ⟨fun e => absurd e (nI_m1 (by omega)), fun _ => rfl⟩) (fun hy => ?_) (fun hy => ?_))
        · show Rj _ _ _ _ _ _ 83 [.ref 33, .int a, .int (nI l.length), .int (nI i), .int (nI j)] [.int (nI 1)] n (u2 (u2 (ur Ia 40 f) 40 i (nI (S.v 2 j))) 40 j (nI (S.v 2 i))) J (Pg i0 i1)
          refine j_ifeqN (tgt := 102) dX10_swapped_83 rfl rfl (by decide) (fun h2 => by exfalso; omega) (fun h2 => ?_)
          have hl14 : l.length < 15 := by
            have hsw := (swF_iff hW (show i < S.v 0 3 by omega) (show j < S.v 0 3 by omega)).mp hy
            have e := congrArg List.length hT
            rw [swJ_t hsw] at e
            simp only [List.length_append, List.length_cons] at e
            omega
          refine j_aload_n dX10_swapped_86 rfl rfl rfl ?_
          refine j_getP (b := 41) dX10_swapped_87 rfl fX10_36 rfl (by decide) rfl rfl ?_
          refine j_iload_n dX10_swapped_90 rfl rfl rfl ?_
          refine j_bipush (v := nI 10) dX10_swapped_91 rfl rfl ?_
          refine j_iload_n dX10_swapped_93 rfl rfl rfl ?_
          refine j_imulN (c := 10 * i) dX10_swapped_94 rfl rfl ?_
          refine j_iload dX10_swapped_95 rfl rfl ?_
          refine j_iaddN (c := (10 * i) + j) dX10_swapped_97 rfl rfl ?_
          refine j_iast (j := l.length) dX10_swapped_98 rfl rfl (by decide) rfl (by omega) (by decide) ?_
          refine j_iincN (L' := [.ref 33, .int a, .int (nI (l.length + 1)), .int (nI i), .int (nI j)]) dX10_swapped_99 rfl rfl (b := 1) rfl rfl rfl (by decide) rfl ?_
          refine j_iincN (L' := [.ref 33, .int a, .int (nI (l.length + 1)), .int (nI i), .int (nI (j + 1))]) dX10_swapped_102 rfl rfl (b := 1) rfl rfl rfl (by decide) rfl ?_
          refine j_goto (tgt := 31) dX10_swapped_105 rfl ?_
          have hsw := (swF_iff hW (show i < S.v 0 3 by omega) (show j < S.v 0 3 by omega)).mp hy
          rw [swJ_t hsw] at hT
          rw [show l.length + 1 = (l ++ [10 * i + j]).length by simp]
          refine ih (j + 1) i r0 (l ++ [10 * i + j]) _ (by omega) (by omega) ?_ ?_ ?_ ?_ hk
          · exact hm3.scr (fun a _ _ _ => u2_ne _ _ _ (by omega)) (by rw [u2_ne _ _ _ (by omega)]) rfl rfl
          · intro a k1 k2
            rw [u2_ne _ _ _ k2, u2_ne _ _ _ k1, u2_ne _ _ _ k1, ur_ne _ _ k1]; exact hO a k1 k2
          · intro t ht
            rw [List.length_append] at ht
            by_cases e : t = l.length
            · subst e
              rw [u2_self]
              simp
            · have ht : t < l.length := by simp at ht; omega
              rw [u2_ne2 _ _ _ e, u2_ne _ _ _ (by omega), u2_ne _ _ _ (by omega), ur_ne _ _ (by omega), hS t ht]
              simp [List.getD, List.getElem?_append_left ht]
          · rw [hT]; simp
        · show Rj _ _ _ _ _ _ 83 [.ref 33, .int a, .int (nI l.length), .int (nI i), .int (nI j)] [.int (nI 0)] n (u2 (u2 (ur Ia 40 f) 40 i (nI (S.v 2 j))) 40 j (nI (S.v 2 i))) J (Pg i0 i1)
          refine j_ifeqN (tgt := 102) dX10_swapped_83 rfl rfl (by decide) (fun h3 => ?_) (fun h3 => by exfalso; omega)
          refine j_iincN (L' := [.ref 33, .int a, .int (nI l.length), .int (nI i), .int (nI (j + 1))]) dX10_swapped_102 rfl rfl (b := 1) rfl rfl rfl (by decide) rfl ?_
          refine j_goto (tgt := 31) dX10_swapped_105 rfl ?_
          have hsw : ¬ swF S.v i j := fun z => hy ((swF_iff hW (show i < S.v 0 3 by omega) (show j < S.v 0 3 by omega)).mpr z)
          rw [swJ_f hsw] at hT
          refine ih (j + 1) i r0 l _ (by omega) (by omega) hm3 (fun a k1 k2 => ?_) (fun t ht => ?_) hT hk
          · rw [u2_ne _ _ _ k1, u2_ne _ _ _ k1, ur_ne _ _ k1]; exact hO a k1 k2
          · rw [u2_ne _ _ _ (by omega), u2_ne _ _ _ (by omega), ur_ne _ _ (by omega)]; exact hS t ht
    have outer : ∀ (r i : Nat) (l : List Nat) (z4 : Value) (Ia : HI), i + r = S.v 0 3 → MI S Ia J → (∀ a, a ≠ 40 → a ≠ 41 → Ia a = I a) → (∀ t, t < l.length → Ia 41 t = nI (l.getD t 0)) → swI S.v (S.v 0 3) 0 = l ++ swI S.v r i → (∀ (i : Nat) (z4 : Value) (I2 : HI), MI S I2 J → (∀ a, a ≠ 40 → a ≠ 41 → I2 a = I a) → (∀ t, t < (swI S.v (S.v 0 3) 0).length → I2 41 t = nI ((swI S.v (S.v 0 3) 0).getD t 0)) → Rj X (d + 3) 0 0 mX10_swapped Q 114 [.ref 33, .int a, .int (nI ((swI S.v (S.v 0 3) 0).length)), .int (nI i), z4] [] n I2 J (Pg i0 i1)) → Rj X (d + 3) 0 0 mX10_swapped Q 16 [.ref 33, .int a, .int (nI l.length), .int (nI i), z4] [] n Ia J (Pg i0 i1) := by
      intro r
      induction r with
      | zero =>
        intro i l z4 Ia hir hmA hO hS hT hfin
        have hL15 : (swI S.v (S.v 0 3) 0).length ≤ 15 := Nat.le_trans (swI_tri S.v (S.v 0 3) 0 (by omega)) (tri_15 ⟨S.v 0 3, by omega⟩)
        have hll : l.length ≤ 15 := by
          have e := congrArg List.length hT
          simp only [List.length_append] at e
          omega
        refine j_iload_n dX10_swapped_16 rfl rfl rfl ?_
        refine j_aload_n dX10_swapped_17 rfl rfl rfl ?_
        refine j_getP (b := 34) dX10_swapped_18 rfl fX10_7 rfl (by decide) rfl rfl ?_
        refine j_iconst (v := nI 0) dX10_swapped_21 rfl rfl ?_
        refine j_iald (j := 0) (v := nI (S.v 0 3)) dX10_swapped_22 rfl rfl (by decide) rfl (by decide) (by decide) hmA.v.mp ?_
        refine j_icmpgeN (tgt := 114) dX10_swapped_23 rfl rfl (by omega) (by omega) (fun h1 => ?_) (fun h1 => by exfalso; omega)
        have hT : swI S.v (S.v 0 3) 0 = l := by rw [hT]; exact List.append_nil l
        subst hT
        exact hfin i _ Ia hmA hO hS
      | succ r ih =>
        intro i l z4 Ia hir hmA hO hS hT hfin
        have hL15 : (swI S.v (S.v 0 3) 0).length ≤ 15 := Nat.le_trans (swI_tri S.v (S.v 0 3) 0 (by omega)) (tri_15 ⟨S.v 0 3, by omega⟩)
        have hll : l.length ≤ 15 := by
          have e := congrArg List.length hT
          simp only [List.length_append] at e
          omega
        refine j_iload_n dX10_swapped_16 rfl rfl rfl ?_
        refine j_aload_n dX10_swapped_17 rfl rfl rfl ?_
        refine j_getP (b := 34) dX10_swapped_18 rfl fX10_7 rfl (by decide) rfl rfl ?_
        refine j_iconst (v := nI 0) dX10_swapped_21 rfl rfl ?_
        refine j_iald (j := 0) (v := nI (S.v 0 3)) dX10_swapped_22 rfl rfl (by decide) rfl (by decide) (by decide) hmA.v.mp ?_
        refine j_icmpgeN (tgt := 114) dX10_swapped_23 rfl rfl (by omega) (by omega) (fun h1 => by exfalso; omega) (fun h1 => ?_)
        refine j_iload_n dX10_swapped_26 rfl rfl rfl ?_
        refine j_iconst (v := nI 1) dX10_swapped_27 rfl rfl ?_
        refine j_iaddN (c := i + 1) dX10_swapped_28 rfl rfl ?_
        refine j_istore (L' := [.ref 33, .int a, .int (nI l.length), .int (nI i), .int (nI (i + 1))]) dX10_swapped_29 rfl rfl (by decide) rfl ?_
        refine inner r (i + 1) i r l Ia (by omega) (by omega) hmA hO hS ?_ (fun l2 z4 I2 k1 k2 k3 k4 => ih (i + 1) l2 z4 I2 (by omega) k1 k2 k3 k4 hfin)
        rw [hT]
        show l ++ (swJ S.v i (S.v 0 3 - (i + 1)) (i + 1) ++ _) = _
        rw [show S.v 0 3 - (i + 1) = r by omega]
    by_cases h1m : a = -1
    · subst h1m
      refine j_iload_n dX10_swapped_0 rfl rfl rfl ?_
      refine j_iconst (v := (-1)) dX10_swapped_1 rfl rfl ?_
      refine j_icmpge (tgt := 12) dX10_swapped_2 rfl rfl (fun h1 => ?_) (fun h1 => by exfalso; exact h1 (by decide))
      refine j_iconst (v := nI 0) dX10_swapped_12 rfl rfl ?_
      refine j_istore_n (L' := [.ref 33, .int (-1), .int (nI 0), jU, jU]) dX10_swapped_13 rfl rfl rfl (by decide) rfl ?_
      refine j_iconst (v := nI 0) dX10_swapped_14 rfl rfl ?_
      refine j_istore_n (L' := [.ref 33, .int (-1), .int (nI 0), .int (nI 0), jU]) dX10_swapped_15 rfl rfl rfl (by decide) rfl ?_
      refine outer (S.v 0 3) 0 [] _ I (by omega) hm (fun a _ _ => rfl) (fun t ht => absurd ht (Nat.not_lt_zero _)) rfl (fun i z4 I2 hm2 hO hS => ?_)
      refine j_iload_n dX10_swapped_114 rfl rfl rfl ?_
      refine j_iconst (v := (-1)) dX10_swapped_115 rfl rfl ?_
      refine j_icmpne (tgt := 123) dX10_swapped_116 rfl rfl (fun h1 => by exfalso; exact h1 rfl) (fun h1 => ?_)
      refine j_iload_n dX10_swapped_119 rfl rfl rfl ?_
      refine j_goto (tgt := 139) dX10_swapped_120 rfl ?_
      refine j_iret dX10_swapped_139 rfl rfl ?_
      have e : oSwap S (-1) = (S, nI (swI S.v (S.v 0 3) 0).length) := by unfold oSwap; rw [if_neg ha, if_pos rfl]
      rw [e] at hQ
      exact hQ _ _ hm2 (fun b hb => ⟨hO b (by omega) (by omega), rfl⟩)
    · obtain ⟨kk, hkk, rfl⟩ := m1_of ha h1m
      refine j_iload_n dX10_swapped_0 rfl rfl rfl ?_
      refine j_iconst (v := (-1)) dX10_swapped_1 rfl rfl ?_
      refine j_icmpge (tgt := 12) dX10_swapped_2 rfl rfl (fun h1 => ?_) (fun h1 => by exfalso; exact h1 (nI_m1le hkk))
      refine j_iconst (v := nI 0) dX10_swapped_12 rfl rfl ?_
      refine j_istore_n (L' := [.ref 33, .int (nI kk), .int (nI 0), jU, jU]) dX10_swapped_13 rfl rfl rfl (by decide) rfl ?_
      refine j_iconst (v := nI 0) dX10_swapped_14 rfl rfl ?_
      refine j_istore_n (L' := [.ref 33, .int (nI kk), .int (nI 0), .int (nI 0), jU]) dX10_swapped_15 rfl rfl rfl (by decide) rfl ?_
      refine outer (S.v 0 3) 0 [] _ I (by omega) hm (fun a _ _ => rfl) (fun t ht => absurd ht (Nat.not_lt_zero _)) rfl (fun i z4 I2 hm2 hO hS => ?_)
      have hL15 : (swI S.v (S.v 0 3) 0).length ≤ 15 := Nat.le_trans (swI_tri S.v (S.v 0 3) 0 (by omega)) (tri_15 ⟨S.v 0 3, by omega⟩)
      refine j_iload_n dX10_swapped_114 rfl rfl rfl ?_
      refine j_iconst (v := (-1)) dX10_swapped_115 rfl rfl ?_
      refine j_icmpne (tgt := 123) dX10_swapped_116 rfl rfl (fun h1 => ?_) (fun h1 => by exfalso; exact nI_m1 hkk h1)
      refine j_iload_n dX10_swapped_123 rfl rfl rfl ?_
      refine j_iload_n dX10_swapped_124 rfl rfl rfl ?_
      refine j_icmpgeN (tgt := 137) dX10_swapped_125 rfl rfl (by omega) (by omega) (fun h2 => ?_) (fun h2 => ?_)
      · refine j_bipush (v := (-5)) dX10_swapped_137 rfl rfl ?_
        refine j_iret dX10_swapped_139 rfl rfl ?_
        have e : oSwap S (nI kk) = (S, -5) := by unfold oSwap; rw [if_neg ha, if_neg h1m]; rw [show tN (nI kk) = kk from nI_clamp hkk, pickL_ge (by omega)]
        rw [e] at hQ
        exact hQ _ _ hm2 (fun b hb => ⟨hO b (by omega) (by omega), rfl⟩)
      · refine j_aload_n dX10_swapped_128 rfl rfl rfl ?_
        refine j_getP (b := 41) dX10_swapped_129 rfl fX10_36 rfl (by decide) rfl rfl ?_
        refine j_iload_n dX10_swapped_132 rfl rfl rfl ?_
        refine j_iald (j := kk) (v := nI ((swI S.v (S.v 0 3) 0).getD kk 0)) dX10_swapped_133 rfl rfl (by decide) rfl (by omega) (by decide) (hS _ (by omega)) ?_
        refine j_goto (tgt := 139) dX10_swapped_134 rfl ?_
        refine j_iret dX10_swapped_139 rfl rfl ?_
        have e : oSwap S (nI kk) = (S, nI ((swI S.v (S.v 0 3) 0).getD kk 0)) := by unfold oSwap; rw [if_neg ha, if_neg h1m]; rw [show tN (nI kk) = kk from nI_clamp hkk, pickL_lt (by omega)]
        rw [e] at hQ
        exact hQ _ _ hm2 (fun b hb => ⟨hO b (by omega) (by omega), rfl⟩)
