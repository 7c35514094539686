def oImage (S : SS) (a : Int32) : SS × Int32 := if inA a (nI 0) (nI 1) then (if tN a = 0 then S.img (some S.v) S.k1 else S.img S.k0 (some S.v), nI 1) else (S.bad, -2)
theorem CI.im {S : SS} {n n' : Nat} {i0 i1 j0 j1 : Option Nat} {I I' : HI} {J J' : HJ} {k0 k1 : Option VT} (h : CI S n i0 i1 I J) (he : ∀ a, a < 33 → I' a = I a) (hj : J' 32 = J 32) (hk : IM (S.img k0 k1) n' j0 j1 I') : CI (S.img k0 k1) n' j0 j1 I' J' := by
  refine ⟨h.v.congr (fun i _ => he _ (by omega)), h.w.imp (fun w hw => hw.congr (fun i _ => he _ (by omega))), ?_, ?_, ?_, hk⟩
  · have := h.t
    unfold RS at this ⊢
    rw [he 13 (by omega), he 14 (by omega)]
    exact this
  · rw [he 0 (by omega)]; exact h.r
  · rw [hj]; exact h.f
theorem IZ_lt {b : Nat} {I : HI} {a : Nat} (h : a < b) : IZ b I a = I a := by funext k; unfold IZ; rw [if_pos h]
theorem JZ_lt {b : Nat} {J : HJ} {a : Nat} (h : a < b) : JZ b J a = J a := by funext k; unfold JZ; rw [if_pos h]
theorem Pg_new {i0 i1 j0 j1 : Option Nat} {n k r : Nat} (hn : 12 < n) (h : Pg j0 j1 12 = u2 (PZ n (Pg i0 i1)) 12 k (some r) 12) (a : Nat) : Pg j0 j1 a = u2 (PZ n (Pg i0 i1)) 12 k (some r) a := by
  by_cases ha : a = 12
  · subst ha; exact h
  · rw [u2_ne _ _ _ ha]
    funext q
    unfold PZ Pg
    simp only [if_neg ha]
    split <;> rfl
theorem oImage_0 {S : SS} (ha : inR (nI 0) (nI 0) (nI 1)) : oImage S (nI 0) = (S.img (some S.v) S.k1, nI 1) := by
  unfold oImage
  rw [if_pos (by exact ha), tN_nI (by omega), if_pos rfl]
theorem oImage_1 {S : SS} (ha : inR (nI 1) (nI 0) (nI 1)) : oImage S (nI 1) = (S.img S.k0 (some S.v), nI 1) := by
  unfold oImage
  rw [if_pos (by exact ha), tN_nI (by omega), if_neg (by omega)]
set_option maxHeartbeats 4000000 in
set_option maxRecDepth 100000 in
theorem f_image {X : jX} {d n : Nat} {I : HI} {J : HJ} {i0 i1 : Option Nat} {Q : jPost} {S : SS} {yb : Nat} (hC : CI S n i0 i1 I J) (hW : WF yb S.v) (hyb : yb ≤ 2 ^ 12) {a : Int32} (hQ : CP Q (oImage S a) I J) : Cj X (d + 4) 11 178 mX9_image [.ref 0, .int a] n I J (Pg i0 i1) Q := by
  refine Cj.intro rfl (Nat.le_of_ble_eq_true rfl) (L := [.ref 0, .int a, jU]) rfl ?_
  obtain ⟨⟨w0, w1, w2, w3, w4, w5, w6⟩, wp, wk, wc, wb⟩ := id hW
  refine j_iload_n dX9_image_0 rfl rfl rfl ?_
  refine j_iconst (v := nI 0) dX9_image_1 rfl rfl ?_
  refine j_iconst (v := nI 1) dX9_image_2 rfl rfl ?_
  refine j_callSw (As := [.int a, .int (nI 0), .int (nI 1)]) dX9_image_3 rfl cX9_71 rfl (by decide) rfl rfl (c_within (fun ha => ?_) (fun ha => ?_))
  · obtain ⟨ja, rfl, hal, hau⟩ := inR_nat (by decide) (by decide) ha
    show Rj _ _ _ _ _ _ 6 [.ref 0, .int (nI ja), jU] [.int (nI 1)] n I J (Pg i0 i1)
    refine j_ifneN (tgt := 14) dX9_image_6 rfl rfl (by decide) (fun h1 => ?_) (fun h1 => by exfalso; omega)
    obtain ⟨hk0, hk1, h3⟩ := id hC.k
    rcases (show ja = 0 ∨ ja = 1 by omega) with rfl | rfl
    · have e := oImage_0 (S := S) ha
      rcases h3 with ⟨rfl, rfl, rfl⟩ | ⟨rfl, ⟨rfl, rfl⟩ | ⟨rfl, rfl⟩⟩ | ⟨rfl, ⟨rfl, rfl⟩ | ⟨rfl, rfl⟩⟩
      · have hVn : VC 1 (IZ 44 I) S.v := hC.v.congr (fun i _ => IZ_lt (by omega))
        refine j_aload_n dX9_image_14 rfl rfl rfl ?_
        refine j_getP (b := 12) dX9_image_15 rfl fX9_16 rfl (by decide) rfl rfl ?_
        refine j_iload_n dX9_image_18 rfl rfl rfl ?_
        refine j_aaload (r := none) dX9_image_19 rfl rfl (by decide) (jin (j := 0) rfl (by decide) (by decide)).1 (by rw [(jin (j := 0) (len := 2) rfl (by decide) (by decide)).2]; rfl) ?_
        show Rj _ _ _ _ _ _ 20 [.ref 0, .int (nI 0), jU] [.null] 44 I J (Pg none none)
        refine j_astore_nN (L' := [.ref 0, .int (nI 0), .null]) dX9_image_20 rfl rfl rfl (by decide) rfl ?_
        refine j_aload_nN dX9_image_21 rfl rfl rfl ?_
        refine j_ifnonnullN dX9_image_22 rfl ?_
        refine j_new (ci := 6) (bc := 10) (bs := 163) dX9_image_25 rfl (by decide) rfl (by decide) nX9_7 insX8 iniX8 rfl rfl ?_
        show Rj _ _ _ _ _ _ 28 [.ref 0, .int (nI 0), .null] [.ref 44] 45 (ur I 44 (fun _ => 0)) (ur J 44 (fun _ => 0)) (ur (Pg none none) 44 (fun _ => none))
        refine j_dup dX9_image_28 rfl rfl ?_
        refine j_callINw (As := []) dX9_image_29 rfl cX9_9 rfl (by decide) rfl rfl (c_vinit44 ?_)
        show Rj _ _ _ _ _ _ 32 [.ref 0, .int (nI 0), .null] [.ref 44] 55 (IZ 44 I) (JZ 44 J) (PZ 44 (Pg none none))
        refine j_astore_n (L' := [.ref 0, .int (nI 0), .ref 44]) dX9_image_32 rfl rfl rfl (by decide) rfl ?_
        refine j_aload_n dX9_image_33 rfl rfl rfl ?_
        refine j_getP (b := 12) dX9_image_34 rfl fX9_16 rfl (by decide) rfl rfl ?_
        refine j_iload_n dX9_image_37 rfl rfl rfl ?_
        refine j_aload_n dX9_image_38 rfl rfl rfl ?_
        refine j_aastore dX9_image_39 rfl rfl (by decide) rfl (by decide) (jin (j := 0) rfl (by decide) (by decide)).1 ?_
        rw [(jin (j := 0) (len := 2) rfl (by decide) (by decide)).2]
        refine j_heap (I' := IZ 44 I) (J' := JZ 44 J) (P' := Pg (some 44) none) (fun _ _ => rfl) (fun _ _ => rfl) (fun a _ => Pg_new (by decide) (by funext k; rcases k with _ | _ | k <;> rfl) a) ?_
        refine j_aload_n dX9_image_40 rfl rfl rfl ?_
        refine j_aload_n dX9_image_41 rfl rfl rfl ?_
        refine j_getP (b := 1) dX9_image_42 rfl fX9_10 rfl (by decide) rfl rfl ?_
        refine j_callVw (As := [.ref 1]) dX9_image_45 rfl cX9_233 (by decide) rfl rfl (by decide) rfl (by decide) rfl rfl (c_copy44_1 hVn w3 w4 w5 (fun I1 hV1 ho1 => ?_))
        show Rj _ _ _ _ _ _ 48 [.ref 0, .int (nI 0), .ref 44] [] 55 I1 (JZ 44 J) (Pg (some 44) none)
        refine j_iconst (v := nI 1) dX9_image_48 rfl rfl ?_
        refine j_iret dX9_image_49 rfl rfl ?_
        rw [e] at hQ
        exact hQ _ _ _ _ _ (hC.im (fun a h9 => (ho1 _ (by omega)).trans (IZ_lt (by omega))) (JZ_lt (by omega)) ⟨Or.inr ⟨44, _, rfl, rfl, hV1⟩, Or.inl ⟨rfl, imK_n hk1⟩, Or.inr (Or.inl ⟨rfl, Or.inl ⟨rfl, rfl⟩⟩)⟩) (fun a h8 h9 => ⟨(ho1 _ (by omega)).trans (IZ_lt (by omega)), JZ_lt (by omega)⟩)
      · have hVn : VC 1 (I) S.v := hC.v
        refine j_aload_n dX9_image_14 rfl rfl rfl ?_
        refine j_getP (b := 12) dX9_image_15 rfl fX9_16 rfl (by decide) rfl rfl ?_
        refine j_iload_n dX9_image_18 rfl rfl rfl ?_
        refine j_aaload (r := some 44) dX9_image_19 rfl rfl (by decide) (jin (j := 0) rfl (by decide) (by decide)).1 (by rw [(jin (j := 0) (len := 2) rfl (by decide) (by decide)).2]; rfl) ?_
        show Rj _ _ _ _ _ _ 20 [.ref 0, .int (nI 0), jU] [.ref 44] 55 I J (Pg (some 44) none)
        refine j_astore_n (L' := [.ref 0, .int (nI 0), .ref 44]) dX9_image_20 rfl rfl rfl (by decide) rfl ?_
        refine j_aload_n dX9_image_21 rfl rfl rfl ?_
        refine j_ifnonnull (tgt := 40) dX9_image_22 rfl ?_
        refine j_aload_n dX9_image_40 rfl rfl rfl ?_
        refine j_aload_n dX9_image_41 rfl rfl rfl ?_
        refine j_getP (b := 1) dX9_image_42 rfl fX9_10 rfl (by decide) rfl rfl ?_
        refine j_callVw (As := [.ref 1]) dX9_image_45 rfl cX9_233 (by decide) rfl rfl (by decide) rfl (by decide) rfl rfl (c_copy44_1 hVn w3 w4 w5 (fun I1 hV1 ho1 => ?_))
        show Rj _ _ _ _ _ _ 48 [.ref 0, .int (nI 0), .ref 44] [] 55 I1 J (Pg (some 44) none)
        refine j_iconst (v := nI 1) dX9_image_48 rfl rfl ?_
        refine j_iret dX9_image_49 rfl rfl ?_
        rw [e] at hQ
        exact hQ _ _ _ _ _ (hC.im (fun a h9 => ho1 _ (by omega)) rfl ⟨Or.inr ⟨44, _, rfl, rfl, hV1⟩, Or.inl ⟨rfl, imK_n hk1⟩, Or.inr (Or.inl ⟨rfl, Or.inl ⟨rfl, rfl⟩⟩)⟩) (fun a h8 h9 => ⟨ho1 _ (by omega), rfl⟩)
      · have hVn : VC 1 (IZ 55 I) S.v := hC.v.congr (fun i _ => IZ_lt (by omega))
        refine j_aload_n dX9_image_14 rfl rfl rfl ?_
        refine j_getP (b := 12) dX9_image_15 rfl fX9_16 rfl (by decide) rfl rfl ?_
        refine j_iload_n dX9_image_18 rfl rfl rfl ?_
        refine j_aaload (r := none) dX9_image_19 rfl rfl (by decide) (jin (j := 0) rfl (by decide) (by decide)).1 (by rw [(jin (j := 0) (len := 2) rfl (by decide) (by decide)).2]; rfl) ?_
        show Rj _ _ _ _ _ _ 20 [.ref 0, .int (nI 0), jU] [.null] 55 I J (Pg none (some 44))
        refine j_astore_nN (L' := [.ref 0, .int (nI 0), .null]) dX9_image_20 rfl rfl rfl (by decide) rfl ?_
        refine j_aload_nN dX9_image_21 rfl rfl rfl ?_
        refine j_ifnonnullN dX9_image_22 rfl ?_
        refine j_new (ci := 6) (bc := 10) (bs := 163) dX9_image_25 rfl (by decide) rfl (by decide) nX9_7 insX8 iniX8 rfl rfl ?_
        show Rj _ _ _ _ _ _ 28 [.ref 0, .int (nI 0), .null] [.ref 55] 56 (ur I 55 (fun _ => 0)) (ur J 55 (fun _ => 0)) (ur (Pg none (some 44)) 55 (fun _ => none))
        refine j_dup dX9_image_28 rfl rfl ?_
        refine j_callINw (As := []) dX9_image_29 rfl cX9_9 rfl (by decide) rfl rfl (c_vinit55 ?_)
        show Rj _ _ _ _ _ _ 32 [.ref 0, .int (nI 0), .null] [.ref 55] 66 (IZ 55 I) (JZ 55 J) (PZ 55 (Pg none (some 44)))
        refine j_astore_n (L' := [.ref 0, .int (nI 0), .ref 55]) dX9_image_32 rfl rfl rfl (by decide) rfl ?_
        refine j_aload_n dX9_image_33 rfl rfl rfl ?_
        refine j_getP (b := 12) dX9_image_34 rfl fX9_16 rfl (by decide) rfl rfl ?_
        refine j_iload_n dX9_image_37 rfl rfl rfl ?_
        refine j_aload_n dX9_image_38 rfl rfl rfl ?_
        refine j_aastore dX9_image_39 rfl rfl (by decide) rfl (by decide) (jin (j := 0) rfl (by decide) (by decide)).1 ?_
        rw [(jin (j := 0) (len := 2) rfl (by decide) (by decide)).2]
        refine j_heap (I' := IZ 55 I) (J' := JZ 55 J) (P' := Pg (some 55) (some 44)) (fun _ _ => rfl) (fun _ _ => rfl) (fun a _ => Pg_new (by decide) (by funext k; rcases k with _ | _ | k <;> rfl) a) ?_
        refine j_aload_n dX9_image_40 rfl rfl rfl ?_
        refine j_aload_n dX9_image_41 rfl rfl rfl ?_
        refine j_getP (b := 1) dX9_image_42 rfl fX9_10 rfl (by decide) rfl rfl ?_
        refine j_callVw (As := [.ref 1]) dX9_image_45 rfl cX9_233 (by decide) rfl rfl (by decide) rfl (by decide) rfl rfl (c_copy55_1 hVn w3 w4 w5 (fun I1 hV1 ho1 => ?_))
        show Rj _ _ _ _ _ _ 48 [.ref 0, .int (nI 0), .ref 55] [] 66 I1 (JZ 55 J) (Pg (some 55) (some 44))
        refine j_iconst (v := nI 1) dX9_image_48 rfl rfl ?_
        refine j_iret dX9_image_49 rfl rfl ?_
        obtain ⟨u, hu, hVu⟩ := imK_s hk1
        rw [e] at hQ
        exact hQ _ _ _ _ _ (hC.im (fun a h9 => (ho1 _ (by omega)).trans (IZ_lt (by omega))) (JZ_lt (by omega)) ⟨Or.inr ⟨55, _, rfl, rfl, hV1⟩, Or.inr ⟨44, u, rfl, hu, hVu.congr (fun i hi => (ho1 _ (by omega)).trans (IZ_lt (by omega)))⟩, Or.inr (Or.inr ⟨rfl, Or.inr ⟨rfl, rfl⟩⟩)⟩) (fun a h8 h9 => ⟨(ho1 _ (by omega)).trans (IZ_lt (by omega)), JZ_lt (by omega)⟩)
      · have hVn : VC 1 (I) S.v := hC.v
        refine j_aload_n dX9_image_14 rfl rfl rfl ?_
        refine j_getP (b := 12) dX9_image_15 rfl fX9_16 rfl (by decide) rfl rfl ?_
        refine j_iload_n dX9_image_18 rfl rfl rfl ?_
        refine j_aaload (r := some 44) dX9_image_19 rfl rfl (by decide) (jin (j := 0) rfl (by decide) (by decide)).1 (by rw [(jin (j := 0) (len := 2) rfl (by decide) (by decide)).2]; rfl) ?_
        show Rj _ _ _ _ _ _ 20 [.ref 0, .int (nI 0), jU] [.ref 44] 66 I J (Pg (some 44) (some 55))
        refine j_astore_n (L' := [.ref 0, .int (nI 0), .ref 44]) dX9_image_20 rfl rfl rfl (by decide) rfl ?_
        refine j_aload_n dX9_image_21 rfl rfl rfl ?_
        refine j_ifnonnull (tgt := 40) dX9_image_22 rfl ?_
        refine j_aload_n dX9_image_40 rfl rfl rfl ?_
        refine j_aload_n dX9_image_41 rfl rfl rfl ?_
        refine j_getP (b := 1) dX9_image_42 rfl fX9_10 rfl (by decide) rfl rfl ?_
        refine j_callVw (As := [.ref 1]) dX9_image_45 rfl cX9_233 (by decide) rfl rfl (by decide) rfl (by decide) rfl rfl (c_copy44_1 hVn w3 w4 w5 (fun I1 hV1 ho1 => ?_))
        show Rj _ _ _ _ _ _ 48 [.ref 0, .int (nI 0), .ref 44] [] 66 I1 J (Pg (some 44) (some 55))
        refine j_iconst (v := nI 1) dX9_image_48 rfl rfl ?_
        refine j_iret dX9_image_49 rfl rfl ?_
        obtain ⟨u, hu, hVu⟩ := imK_s hk1
        rw [e] at hQ
        exact hQ _ _ _ _ _ (hC.im (fun a h9 => ho1 _ (by omega)) rfl ⟨Or.inr ⟨44, _, rfl, rfl, hV1⟩, Or.inr ⟨55, u, rfl, hu, hVu.congr (fun i hi => ho1 _ (by omega))⟩, Or.inr (Or.inr ⟨rfl, Or.inl ⟨rfl, rfl⟩⟩)⟩) (fun a h8 h9 => ⟨ho1 _ (by omega), rfl⟩)
      · have hVn : VC 1 (I) S.v := hC.v
        refine j_aload_n dX9_image_14 rfl rfl rfl ?_
        refine j_getP (b := 12) dX9_image_15 rfl fX9_16 rfl (by decide) rfl rfl ?_
        refine j_iload_n dX9_image_18 rfl rfl rfl ?_
        refine j_aaload (r := some 55) dX9_image_19 rfl rfl (by decide) (jin (j := 0) rfl (by decide) (by decide)).1 (by rw [(jin (j := 0) (len := 2) rfl (by decide) (by decide)).2]; rfl) ?_
        show Rj _ _ _ _ _ _ 20 [.ref 0, .int (nI 0), jU] [.ref 55] 66 I J (Pg (some 55) (some 44))
        refine j_astore_n (L' := [.ref 0, .int (nI 0), .ref 55]) dX9_image_20 rfl rfl rfl (by decide) rfl ?_
        refine j_aload_n dX9_image_21 rfl rfl rfl ?_
        refine j_ifnonnull (tgt := 40) dX9_image_22 rfl ?_
        refine j_aload_n dX9_image_40 rfl rfl rfl ?_
        refine j_aload_n dX9_image_41 rfl rfl rfl ?_
        refine j_getP (b := 1) dX9_image_42 rfl fX9_10 rfl (by decide) rfl rfl ?_
        refine j_callVw (As := [.ref 1]) dX9_image_45 rfl cX9_233 (by decide) rfl rfl (by decide) rfl (by decide) rfl rfl (c_copy55_1 hVn w3 w4 w5 (fun I1 hV1 ho1 => ?_))
        show Rj _ _ _ _ _ _ 48 [.ref 0, .int (nI 0), .ref 55] [] 66 I1 J (Pg (some 55) (some 44))
        refine j_iconst (v := nI 1) dX9_image_48 rfl rfl ?_
        refine j_iret dX9_image_49 rfl rfl ?_
        obtain ⟨u, hu, hVu⟩ := imK_s hk1
        rw [e] at hQ
        exact hQ _ _ _ _ _ (hC.im (fun a h9 => ho1 _ (by omega)) rfl ⟨Or.inr ⟨55, _, rfl, rfl, hV1⟩, Or.inr ⟨44, u, rfl, hu, hVu.congr (fun i hi => ho1 _ (by omega))⟩, Or.inr (Or.inr ⟨rfl, Or.inr ⟨rfl, rfl⟩⟩)⟩) (fun a h8 h9 => ⟨ho1 _ (by omega), rfl⟩)
    · have e := oImage_1 (S := S) ha
      rcases h3 with ⟨rfl, rfl, rfl⟩ | ⟨rfl, ⟨rfl, rfl⟩ | ⟨rfl, rfl⟩⟩ | ⟨rfl, ⟨rfl, rfl⟩ | ⟨rfl, rfl⟩⟩
      · have hVn : VC 1 (IZ 44 I) S.v := hC.v.congr (fun i _ => IZ_lt (by omega))
        refine j_aload_n dX9_image_14 rfl rfl rfl ?_
        refine j_getP (b := 12) dX9_image_15 rfl fX9_16 rfl (by decide) rfl rfl ?_
        refine j_iload_n dX9_image_18 rfl rfl rfl ?_
        refine j_aaload (r := none) dX9_image_19 rfl rfl (by decide) (jin (j := 1) rfl (by decide) (by decide)).1 (by rw [(jin (j := 1) (len := 2) rfl (by decide) (by decide)).2]; rfl) ?_
        show Rj _ _ _ _ _ _ 20 [.ref 0, .int (nI 1), jU] [.null] 44 I J (Pg none none)
        refine j_astore_nN (L' := [.ref 0, .int (nI 1), .null]) dX9_image_20 rfl rfl rfl (by decide) rfl ?_
        refine j_aload_nN dX9_image_21 rfl rfl rfl ?_
        refine j_ifnonnullN dX9_image_22 rfl ?_
        refine j_new (ci := 6) (bc := 10) (bs := 163) dX9_image_25 rfl (by decide) rfl (by decide) nX9_7 insX8 iniX8 rfl rfl ?_
        show Rj _ _ _ _ _ _ 28 [.ref 0, .int (nI 1), .null] [.ref 44] 45 (ur I 44 (fun _ => 0)) (ur J 44 (fun _ => 0)) (ur (Pg none none) 44 (fun _ => none))
        refine j_dup dX9_image_28 rfl rfl ?_
        refine j_callINw (As := []) dX9_image_29 rfl cX9_9 rfl (by decide) rfl rfl (c_vinit44 ?_)
        show Rj _ _ _ _ _ _ 32 [.ref 0, .int (nI 1), .null] [.ref 44] 55 (IZ 44 I) (JZ 44 J) (PZ 44 (Pg none none))
        refine j_astore_n (L' := [.ref 0, .int (nI 1), .ref 44]) dX9_image_32 rfl rfl rfl (by decide) rfl ?_
        refine j_aload_n dX9_image_33 rfl rfl rfl ?_
        refine j_getP (b := 12) dX9_image_34 rfl fX9_16 rfl (by decide) rfl rfl ?_
        refine j_iload_n dX9_image_37 rfl rfl rfl ?_
        refine j_aload_n dX9_image_38 rfl rfl rfl ?_
        refine j_aastore dX9_image_39 rfl rfl (by decide) rfl (by decide) (jin (j := 1) rfl (by decide) (by decide)).1 ?_
        rw [(jin (j := 1) (len := 2) rfl (by decide) (by decide)).2]
        refine j_heap (I' := IZ 44 I) (J' := JZ 44 J) (P' := Pg none (some 44)) (fun _ _ => rfl) (fun _ _ => rfl) (fun a _ => Pg_new (by decide) (by funext k; rcases k with _ | _ | k <;> rfl) a) ?_
        refine j_aload_n dX9_image_40 rfl rfl rfl ?_
        refine j_aload_n dX9_image_41 rfl rfl rfl ?_
        refine j_getP (b := 1) dX9_image_42 rfl fX9_10 rfl (by decide) rfl rfl ?_
        refine j_callVw (As := [.ref 1]) dX9_image_45 rfl cX9_233 (by decide) rfl rfl (by decide) rfl (by decide) rfl rfl (c_copy44_1 hVn w3 w4 w5 (fun I1 hV1 ho1 => ?_))
        show Rj _ _ _ _ _ _ 48 [.ref 0, .int (nI 1), .ref 44] [] 55 I1 (JZ 44 J) (Pg none (some 44))
        refine j_iconst (v := nI 1) dX9_image_48 rfl rfl ?_
        refine j_iret dX9_image_49 rfl rfl ?_
        rw [e] at hQ
        exact hQ _ _ _ _ _ (hC.im (fun a h9 => (ho1 _ (by omega)).trans (IZ_lt (by omega))) (JZ_lt (by omega)) ⟨Or.inl ⟨rfl, imK_n hk0⟩, Or.inr ⟨44, _, rfl, rfl, hV1⟩, Or.inr (Or.inl ⟨rfl, Or.inr ⟨rfl, rfl⟩⟩)⟩) (fun a h8 h9 => ⟨(ho1 _ (by omega)).trans (IZ_lt (by omega)), JZ_lt (by omega)⟩)
      · have hVn : VC 1 (IZ 55 I) S.v := hC.v.congr (fun i _ => IZ_lt (by omega))
        refine j_aload_n dX9_image_14 rfl rfl rfl ?_
        refine j_getP (b := 12) dX9_image_15 rfl fX9_16 rfl (by decide) rfl rfl ?_
        refine j_iload_n dX9_image_18 rfl rfl rfl ?_
        refine j_aaload (r := none) dX9_image_19 rfl rfl (by decide) (jin (j := 1) rfl (by decide) (by decide)).1 (by rw [(jin (j := 1) (len := 2) rfl (by decide) (by decide)).2]; rfl) ?_
        show Rj _ _ _ _ _ _ 20 [.ref 0, .int (nI 1), jU] [.null] 55 I J (Pg (some 44) none)
        refine j_astore_nN (L' := [.ref 0, .int (nI 1), .null]) dX9_image_20 rfl rfl rfl (by decide) rfl ?_
        refine j_aload_nN dX9_image_21 rfl rfl rfl ?_
        refine j_ifnonnullN dX9_image_22 rfl ?_
        refine j_new (ci := 6) (bc := 10) (bs := 163) dX9_image_25 rfl (by decide) rfl (by decide) nX9_7 insX8 iniX8 rfl rfl ?_
        show Rj _ _ _ _ _ _ 28 [.ref 0, .int (nI 1), .null] [.ref 55] 56 (ur I 55 (fun _ => 0)) (ur J 55 (fun _ => 0)) (ur (Pg (some 44) none) 55 (fun _ => none))
        refine j_dup dX9_image_28 rfl rfl ?_
        refine j_callINw (As := []) dX9_image_29 rfl cX9_9 rfl (by decide) rfl rfl (c_vinit55 ?_)
        show Rj _ _ _ _ _ _ 32 [.ref 0, .int (nI 1), .null] [.ref 55] 66 (IZ 55 I) (JZ 55 J) (PZ 55 (Pg (some 44) none))
        refine j_astore_n (L' := [.ref 0, .int (nI 1), .ref 55]) dX9_image_32 rfl rfl rfl (by decide) rfl ?_
        refine j_aload_n dX9_image_33 rfl rfl rfl ?_
        refine j_getP (b := 12) dX9_image_34 rfl fX9_16 rfl (by decide) rfl rfl ?_
        refine j_iload_n dX9_image_37 rfl rfl rfl ?_
        refine j_aload_n dX9_image_38 rfl rfl rfl ?_
        refine j_aastore dX9_image_39 rfl rfl (by decide) rfl (by decide) (jin (j := 1) rfl (by decide) (by decide)).1 ?_
        rw [(jin (j := 1) (len := 2) rfl (by decide) (by decide)).2]
        refine j_heap (I' := IZ 55 I) (J' := JZ 55 J) (P' := Pg (some 44) (some 55)) (fun _ _ => rfl) (fun _ _ => rfl) (fun a _ => Pg_new (by decide) (by funext k; rcases k with _ | _ | k <;> rfl) a) ?_
        refine j_aload_n dX9_image_40 rfl rfl rfl ?_
        refine j_aload_n dX9_image_41 rfl rfl rfl ?_
        refine j_getP (b := 1) dX9_image_42 rfl fX9_10 rfl (by decide) rfl rfl ?_
        refine j_callVw (As := [.ref 1]) dX9_image_45 rfl cX9_233 (by decide) rfl rfl (by decide) rfl (by decide) rfl rfl (c_copy55_1 hVn w3 w4 w5 (fun I1 hV1 ho1 => ?_))
        show Rj _ _ _ _ _ _ 48 [.ref 0, .int (nI 1), .ref 55] [] 66 I1 (JZ 55 J) (Pg (some 44) (some 55))
        refine j_iconst (v := nI 1) dX9_image_48 rfl rfl ?_
        refine j_iret dX9_image_49 rfl rfl ?_
        obtain ⟨u, hu, hVu⟩ := imK_s hk0
        rw [e] at hQ
        exact hQ _ _ _ _ _ (hC.im (fun a h9 => (ho1 _ (by omega)).trans (IZ_lt (by omega))) (JZ_lt (by omega)) ⟨Or.inr ⟨44, u, rfl, hu, hVu.congr (fun i hi => (ho1 _ (by omega)).trans (IZ_lt (by omega)))⟩, Or.inr ⟨55, _, rfl, rfl, hV1⟩, Or.inr (Or.inr ⟨rfl, Or.inl ⟨rfl, rfl⟩⟩)⟩) (fun a h8 h9 => ⟨(ho1 _ (by omega)).trans (IZ_lt (by omega)), JZ_lt (by omega)⟩)
      · have hVn : VC 1 (I) S.v := hC.v
        refine j_aload_n dX9_image_14 rfl rfl rfl ?_
        refine j_getP (b := 12) dX9_image_15 rfl fX9_16 rfl (by decide) rfl rfl ?_
        refine j_iload_n dX9_image_18 rfl rfl rfl ?_
        refine j_aaload (r := some 44) dX9_image_19 rfl rfl (by decide) (jin (j := 1) rfl (by decide) (by decide)).1 (by rw [(jin (j := 1) (len := 2) rfl (by decide) (by decide)).2]; rfl) ?_
        show Rj _ _ _ _ _ _ 20 [.ref 0, .int (nI 1), jU] [.ref 44] 55 I J (Pg none (some 44))
        refine j_astore_n (L' := [.ref 0, .int (nI 1), .ref 44]) dX9_image_20 rfl rfl rfl (by decide) rfl ?_
        refine j_aload_n dX9_image_21 rfl rfl rfl ?_
        refine j_ifnonnull (tgt := 40) dX9_image_22 rfl ?_
        refine j_aload_n dX9_image_40 rfl rfl rfl ?_
        refine j_aload_n dX9_image_41 rfl rfl rfl ?_
        refine j_getP (b := 1) dX9_image_42 rfl fX9_10 rfl (by decide) rfl rfl ?_
        refine j_callVw (As := [.ref 1]) dX9_image_45 rfl cX9_233 (by decide) rfl rfl (by decide) rfl (by decide) rfl rfl (c_copy44_1 hVn w3 w4 w5 (fun I1 hV1 ho1 => ?_))
        show Rj _ _ _ _ _ _ 48 [.ref 0, .int (nI 1), .ref 44] [] 55 I1 J (Pg none (some 44))
        refine j_iconst (v := nI 1) dX9_image_48 rfl rfl ?_
        refine j_iret dX9_image_49 rfl rfl ?_
        rw [e] at hQ
        exact hQ _ _ _ _ _ (hC.im (fun a h9 => ho1 _ (by omega)) rfl ⟨Or.inl ⟨rfl, imK_n hk0⟩, Or.inr ⟨44, _, rfl, rfl, hV1⟩, Or.inr (Or.inl ⟨rfl, Or.inr ⟨rfl, rfl⟩⟩)⟩) (fun a h8 h9 => ⟨ho1 _ (by omega), rfl⟩)
      · have hVn : VC 1 (I) S.v := hC.v
        refine j_aload_n dX9_image_14 rfl rfl rfl ?_
        refine j_getP (b := 12) dX9_image_15 rfl fX9_16 rfl (by decide) rfl rfl ?_
        refine j_iload_n dX9_image_18 rfl rfl rfl ?_
        refine j_aaload (r := some 55) dX9_image_19 rfl rfl (by decide) (jin (j := 1) rfl (by decide) (by decide)).1 (by rw [(jin (j := 1) (len := 2) rfl (by decide) (by decide)).2]; rfl) ?_
        show Rj _ _ _ _ _ _ 20 [.ref 0, .int (nI 1), jU] [.ref 55] 66 I J (Pg (some 44) (some 55))
        refine j_astore_n (L' := [.ref 0, .int (nI 1), .ref 55]) dX9_image_20 rfl rfl rfl (by decide) rfl ?_
        refine j_aload_n dX9_image_21 rfl rfl rfl ?_
        refine j_ifnonnull (tgt := 40) dX9_image_22 rfl ?_
        refine j_aload_n dX9_image_40 rfl rfl rfl ?_
        refine j_aload_n dX9_image_41 rfl rfl rfl ?_
        refine j_getP (b := 1) dX9_image_42 rfl fX9_10 rfl (by decide) rfl rfl ?_
        refine j_callVw (As := [.ref 1]) dX9_image_45 rfl cX9_233 (by decide) rfl rfl (by decide) rfl (by decide) rfl rfl (c_copy55_1 hVn w3 w4 w5 (fun I1 hV1 ho1 => ?_))
        show Rj _ _ _ _ _ _ 48 [.ref 0, .int (nI 1), .ref 55] [] 66 I1 J (Pg (some 44) (some 55))
        refine j_iconst (v := nI 1) dX9_image_48 rfl rfl ?_
        refine j_iret dX9_image_49 rfl rfl ?_
        obtain ⟨u, hu, hVu⟩ := imK_s hk0
        rw [e] at hQ
        exact hQ _ _ _ _ _ (hC.im (fun a h9 => ho1 _ (by omega)) rfl ⟨Or.inr ⟨44, u, rfl, hu, hVu.congr (fun i hi => ho1 _ (by omega))⟩, Or.inr ⟨55, _, rfl, rfl, hV1⟩, Or.inr (Or.inr ⟨rfl, Or.inl ⟨rfl, rfl⟩⟩)⟩) (fun a h8 h9 => ⟨ho1 _ (by omega), rfl⟩)
      · have hVn : VC 1 (I) S.v := hC.v
        refine j_aload_n dX9_image_14 rfl rfl rfl ?_
        refine j_getP (b := 12) dX9_image_15 rfl fX9_16 rfl (by decide) rfl rfl ?_
        refine j_iload_n dX9_image_18 rfl rfl rfl ?_
        refine j_aaload (r := some 44) dX9_image_19 rfl rfl (by decide) (jin (j := 1) rfl (by decide) (by decide)).1 (by rw [(jin (j := 1) (len := 2) rfl (by decide) (by decide)).2]; rfl) ?_
        show Rj _ _ _ _ _ _ 20 [.ref 0, .int (nI 1), jU] [.ref 44] 66 I J (Pg (some 55) (some 44))
        refine j_astore_n (L' := [.ref 0, .int (nI 1), .ref 44]) dX9_image_20 rfl rfl rfl (by decide) rfl ?_
        refine j_aload_n dX9_image_21 rfl rfl rfl ?_
        refine j_ifnonnull (tgt := 40) dX9_image_22 rfl ?_
        refine j_aload_n dX9_image_40 rfl rfl rfl ?_
        refine j_aload_n dX9_image_41 rfl rfl rfl ?_
        refine j_getP (b := 1) dX9_image_42 rfl fX9_10 rfl (by decide) rfl rfl ?_
        refine j_callVw (As := [.ref 1]) dX9_image_45 rfl cX9_233 (by decide) rfl rfl (by decide) rfl (by decide) rfl rfl (c_copy44_1 hVn w3 w4 w5 (fun I1 hV1 ho1 => ?_))
        show Rj _ _ _ _ _ _ 48 [.ref 0, .int (nI 1), .ref 44] [] 66 I1 J (Pg (some 55) (some 44))
        refine j_iconst (v := nI 1) dX9_image_48 rfl rfl ?_
        refine j_iret dX9_image_49 rfl rfl ?_
        obtain ⟨u, hu, hVu⟩ := imK_s hk0
        rw [e] at hQ
        exact hQ _ _ _ _ _ (hC.im (fun a h9 => ho1 _ (by omega)) rfl ⟨Or.inr ⟨55, u, rfl, hu, hVu.congr (fun i hi => ho1 _ (by omega))⟩, Or.inr ⟨44, _, rfl, rfl, hV1⟩, Or.inr (Or.inr ⟨rfl, Or.inr ⟨rfl, rfl⟩⟩)⟩) (fun a h8 h9 => ⟨ho1 _ (by omega), rfl⟩)
  · show Rj _ _ _ _ _ _ 6 [.ref 0, .int a, jU] [.int (nI 0)] n I J (Pg i0 i1)
    refine j_ifneN (tgt := 14) dX9_image_6 rfl rfl (by decide) (fun h2 => by exfalso; omega) (fun h2 => ?_)
    refine j_aload_n dX9_image_9 rfl rfl rfl ?_
    refine j_callVw (As := []) dX9_image_10 rfl cX9_75 (by decide) rfl rfl (by decide) rfl (by decide) rfl rfl (c_bad ?_)
    show Rj _ _ _ _ _ _ 13 [.ref 0, .int a, jU] [.int (-2)] n (u2 I 0 7 (I 0 7 + nI 1)) J (Pg i0 i1)
    refine j_iret dX9_image_13 rfl rfl ?_
    have e : oImage S a = (S.bad, -2) := by unfold oImage; rw [if_neg (by exact ha)]
    rw [e] at hQ
    exact hQ _ _ _ _ _ hC.bad MF.sta
