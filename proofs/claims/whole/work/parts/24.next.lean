theorem mxN {a b : Nat} (ha : a < 2 ^ 31) (hb : b < 2 ^ 31) : (if nI a < nI b then nI b else nI a) = nI (max a b) := by
  by_cases h : a < b
  · rw [if_pos ((nI_ltI ha hb).mpr h), Nat.max_eq_right (by omega)]
  · rw [if_neg (fun q => h ((nI_ltI ha hb).mp q)), Nat.max_eq_left (by omega)]
def cntL (fit : Nat) (h : Nat → Nat) (l : Nat) : Nat → Nat
  | 0 => 0
  | k + 1 => if fit / 2 ^ k % 2 = 1 ∧ h k = l then cntL fit h l k + 1 else cntL fit h l k
theorem cntL_le (fit : Nat) (h : Nat → Nat) (l : Nat) : ∀ n, cntL fit h l n ≤ n
  | 0 => Nat.le_refl _
  | k + 1 => by
    have := cntL_le fit h l k
    unfold cntL
    split <;> omega
def maL (fit : Nat) (h : Nat → Nat) : Nat → Nat
  | 0 => 0
  | k + 1 => if fit / 2 ^ k % 2 = 1 then max (maL fit h k) (cntL fit h (h k) 6) else maL fit h k
theorem maL_le (fit : Nat) (h : Nat → Nat) : ∀ n, maL fit h n ≤ 6
  | 0 => by simp [maL]
  | k + 1 => by
    have h1 := maL_le fit h k
    have h2 := cntL_le fit h (h k) 6
    unfold maL
    split <;> omega
theorem cntL_congr {fit : Nat} {h g : Nat → Nat} (l : Nat) : ∀ n, (∀ k, k < n → h k = g k) → cntL fit h l n = cntL fit g l n
  | 0, _ => rfl
  | n + 1, e => by simp only [cntL]; rw [cntL_congr l n (fun k hk => e k (by omega)), e n (by omega)]
theorem maL_congr {fit : Nat} {h g : Nat → Nat} (e : ∀ k, k < 6 → h k = g k) : ∀ n, n ≤ 6 → maL fit h n = maL fit g n
  | 0, _ => rfl
  | n + 1, hn => by simp only [maL]; rw [maL_congr e n (by omega), e n (by omega), cntL_congr _ 6 e]
/-- the first m, of the next r, at which g is least -/
def nxt (g : Nat → Nat) : Nat → Nat → Nat → Nat → Nat
  | 0, _, best, _ => best
  | r + 1, m, best, few => if g m < few then nxt g r (m + 1) m (g m) else nxt g r (m + 1) best few
set_option maxHeartbeats 4000000 in
set_option maxRecDepth 100000 in
theorem c_howManyHave {X : jX} {d n : Nat} {I : HI} {J : HJ} {i0 i1 : Option Nat} {Q : jPost} {fit : Nat} {h : Nat → Nat} (hfit : fit < 64) (hh : ∀ k, k < 6 → I 31 k = nI (h k)) {l : Nat} (hl : l ≤ 60) (hbd : ∀ k, k < 6 → h k ≤ 60) (hQ : Q (some (.int (nI (cntL fit h l 6)))) n I J (Pg i0 i1)) : Cj X d 0 0 mX7_howManyHave [.ref 30, .int (nI l), .int (nI fit)] n I J (Pg i0 i1) Q := by
  refine Cj.intro rfl (Nat.le_of_ble_eq_true rfl) (L := [.ref 30, .int (nI l), .int (nI fit), jU, jU]) rfl ?_
  have loop : ∀ r k c : Nat, k + r = 6 → c = cntL fit h l k → Rj X d 0 0 mX7_howManyHave Q 5 [.ref 30, .int (nI l), .int (nI fit), .int (nI c), .int (nI k)] [] n I J (Pg i0 i1) := by
    intro r
    induction r with
    | zero =>
      intro k c hkr hc
      refine j_iload dX7_howManyHave_5 rfl rfl ?_
      refine j_bipush (v := nI 6) dX7_howManyHave_7 rfl rfl ?_
      refine j_icmpgeN (tgt := 42) dX7_howManyHave_9 rfl rfl (by omega) (by decide) (fun h1 => ?_) (fun h1 => by exfalso; omega)
      refine j_iload_n dX7_howManyHave_42 rfl rfl rfl ?_
      refine j_iret dX7_howManyHave_43 rfl rfl ?_
      have hk : k = 6 := by omega
      subst hk; subst hc; exact hQ
    | succ r ih =>
      intro k c hkr hc
      have hb := hbd k (by omega)
      have hcc := cntL_le fit h l k
      refine j_iload dX7_howManyHave_5 rfl rfl ?_
      refine j_bipush (v := nI 6) dX7_howManyHave_7 rfl rfl ?_
      refine j_icmpgeN (tgt := 42) dX7_howManyHave_9 rfl rfl (by omega) (by decide) (fun h1 => by exfalso; omega) (fun h1 => ?_)
      refine j_iload_n dX7_howManyHave_12 rfl rfl rfl ?_
      refine j_iload dX7_howManyHave_13 rfl rfl ?_
      refine j_ishrN (c := fit / 2 ^ k) dX7_howManyHave_15 rfl (by omega) (by omega) rfl ?_
      refine j_iconst (v := nI 1) dX7_howManyHave_16 rfl rfl ?_
      refine j_iand1N (c := fit / 2 ^ k % 2) dX7_howManyHave_17 rfl rfl ?_
      refine j_iconst (v := nI 1) dX7_howManyHave_18 rfl rfl ?_
      refine j_icmpneN (tgt := 36) dX7_howManyHave_19 rfl rfl (by omega) (by decide) (fun h2 => ?_) (fun h2 => ?_)
      · refine j_iincN (L' := [.ref 30, .int (nI l), .int (nI fit), .int (nI c), .int (nI (k + 1))]) dX7_howManyHave_36 rfl rfl (b := 1) rfl rfl rfl (by decide) rfl ?_
        refine j_goto (tgt := 5) dX7_howManyHave_39 rfl ?_
        refine ih (k + 1) _ (by omega) ?_
        rw [hc]; simp only [cntL]; rw [if_neg (by omega)]
      · refine j_aload_n dX7_howManyHave_22 rfl rfl rfl ?_
        refine j_getP (b := 31) dX7_howManyHave_23 rfl fX7_9 rfl (by decide) rfl rfl ?_
        refine j_iload dX7_howManyHave_26 rfl rfl ?_
        refine j_iald (j := k) (v := nI (h k)) dX7_howManyHave_28 rfl rfl (by decide) rfl (by omega) (by decide) (hh k (by omega)) ?_
        refine j_iload_n dX7_howManyHave_29 rfl rfl rfl ?_
        refine j_icmpneN (tgt := 36) dX7_howManyHave_30 rfl rfl (by omega) (by omega) (fun h3 => ?_) (fun h3 => ?_)
        · refine j_iincN (L' := [.ref 30, .int (nI l), .int (nI fit), .int (nI c), .int (nI (k + 1))]) dX7_howManyHave_36 rfl rfl (b := 1) rfl rfl rfl (by decide) rfl ?_
          refine j_goto (tgt := 5) dX7_howManyHave_39 rfl ?_
          refine ih (k + 1) _ (by omega) ?_
          rw [hc]; simp only [cntL]; rw [if_neg (by omega)]
        · refine j_iincN (L' := [.ref 30, .int (nI l), .int (nI fit), .int (nI (c + 1)), .int (nI k)]) dX7_howManyHave_33 rfl rfl (b := 1) rfl rfl rfl (by decide) rfl ?_
          refine j_iincN (L' := [.ref 30, .int (nI l), .int (nI fit), .int (nI (c + 1)), .int (nI (k + 1))]) dX7_howManyHave_36 rfl rfl (b := 1) rfl rfl rfl (by decide) rfl ?_
          refine j_goto (tgt := 5) dX7_howManyHave_39 rfl ?_
          refine ih (k + 1) _ (by omega) ?_
          rw [hc]; simp only [cntL]; rw [if_pos ⟨by omega, by omega⟩]
  refine j_iconst (v := nI 0) dX7_howManyHave_0 rfl rfl ?_
  refine j_istore_n (L' := [.ref 30, .int (nI l), .int (nI fit), .int (nI 0), jU]) dX7_howManyHave_1 rfl rfl rfl (by decide) rfl ?_
  refine j_iconst (v := nI 0) dX7_howManyHave_2 rfl rfl ?_
  refine j_istore (L' := [.ref 30, .int (nI l), .int (nI fit), .int (nI 0), .int (nI 0)]) dX7_howManyHave_3 rfl rfl (by decide) rfl ?_
  exact loop 6 0 0 rfl rfl
set_option maxHeartbeats 4000000 in
set_option maxRecDepth 100000 in
theorem c_mostAlike {X : jX} {d n : Nat} {I : HI} {J : HJ} {i0 i1 : Option Nat} {Q : jPost} {fit : Nat} {h : Nat → Nat} (hfit : fit < 64) (hh : ∀ k, k < 6 → I 31 k = nI (h k)) (hbd : ∀ k, k < 6 → h k ≤ 60) (hQ : Q (some (.int (nI (maL fit h 6)))) n I J (Pg i0 i1)) : Cj X (d + 1) 0 0 mX7_mostAlike [.ref 30, .int (nI fit)] n I J (Pg i0 i1) Q := by
  refine Cj.intro rfl (Nat.le_of_ble_eq_true rfl) (L := [.ref 30, .int (nI fit), jU, jU]) rfl ?_
  have loop : ∀ r k c : Nat, k + r = 6 → c = maL fit h k → Rj X (d + 1) 0 0 mX7_mostAlike Q 4 [.ref 30, .int (nI fit), .int (nI c), .int (nI k)] [] n I J (Pg i0 i1) := by
    intro r
    induction r with
    | zero =>
      intro k c hkr hc
      refine j_iload_n dX7_mostAlike_4 rfl rfl rfl ?_
      refine j_bipush (v := nI 6) dX7_mostAlike_5 rfl rfl ?_
      refine j_icmpgeN (tgt := 41) dX7_mostAlike_7 rfl rfl (by omega) (by decide) (fun h1 => ?_) (fun h1 => by exfalso; omega)
      refine j_iload_n dX7_mostAlike_41 rfl rfl rfl ?_
      refine j_iret dX7_mostAlike_42 rfl rfl ?_
      have hk : k = 6 := by omega
      subst hk; subst hc; exact hQ
    | succ r ih =>
      intro k c hkr hc
      have hb := hbd k (by omega)
      have hcc := maL_le fit h k
      have hc2 := cntL_le fit h (h k) 6
      refine j_iload_n dX7_mostAlike_4 rfl rfl rfl ?_
      refine j_bipush (v := nI 6) dX7_mostAlike_5 rfl rfl ?_
      refine j_icmpgeN (tgt := 41) dX7_mostAlike_7 rfl rfl (by omega) (by decide) (fun h1 => by exfalso; omega) (fun h1 => ?_)
      refine j_iload_n dX7_mostAlike_10 rfl rfl rfl ?_
      refine j_iload_n dX7_mostAlike_11 rfl rfl rfl ?_
      refine j_ishrN (c := fit / 2 ^ k) dX7_mostAlike_12 rfl (by omega) (by omega) rfl ?_
      refine j_iconst (v := nI 1) dX7_mostAlike_13 rfl rfl ?_
      refine j_iand1N (c := fit / 2 ^ k % 2) dX7_mostAlike_14 rfl rfl ?_
      refine j_iconst (v := nI 1) dX7_mostAlike_15 rfl rfl ?_
      refine j_icmpneN (tgt := 35) dX7_mostAlike_16 rfl rfl (by omega) (by decide) (fun h2 => ?_) (fun h2 => ?_)
      · refine j_iincN (L' := [.ref 30, .int (nI fit), .int (nI c), .int (nI (k + 1))]) dX7_mostAlike_35 rfl rfl (b := 1) rfl rfl rfl (by decide) rfl ?_
        refine j_goto (tgt := 4) dX7_mostAlike_38 rfl ?_
        refine ih (k + 1) _ (by omega) ?_
        rw [hc]; simp only [maL]; rw [if_neg (by omega)]
      · refine j_iload_n dX7_mostAlike_19 rfl rfl rfl ?_
        refine j_aload_n dX7_mostAlike_20 rfl rfl rfl ?_
        refine j_aload_n dX7_mostAlike_21 rfl rfl rfl ?_
        refine j_getP (b := 31) dX7_mostAlike_22 rfl fX7_9 rfl (by decide) rfl rfl ?_
        refine j_iload_n dX7_mostAlike_25 rfl rfl rfl ?_
        refine j_iald (j := k) (v := nI (h k)) dX7_mostAlike_26 rfl rfl (by decide) rfl (by omega) (by decide) (hh k (by omega)) ?_
        refine j_iload_n dX7_mostAlike_27 rfl rfl rfl ?_
        refine j_callVw (As := [.int (nI (h k)), .int (nI fit)]) dX7_mostAlike_28 rfl cX7_68 (by decide) rfl rfl (by decide) rfl (Nat.le_of_ble_eq_true rfl) rfl rfl (c_howManyHave hfit hh (by omega) hbd ?_)
        show Rj _ _ _ _ _ _ 31 [.ref 30, .int (nI fit), .int (nI c), .int (nI k)] [.int (nI (cntL fit h (h k) 6)), .int (nI c)] n I J (Pg i0 i1)
        refine j_max dX7_mostAlike_31 rfl cX7_72 (by decide) ?_
        refine j_val (mxN (by omega) (by omega)) ?_
        refine j_istore_n (L' := [.ref 30, .int (nI fit), .int (nI (max c (cntL fit h (h k) 6))), .int (nI k)]) dX7_mostAlike_34 rfl rfl rfl (by decide) rfl ?_
        refine j_iincN (L' := [.ref 30, .int (nI fit), .int (nI (max c (cntL fit h (h k) 6))), .int (nI (k + 1))]) dX7_mostAlike_35 rfl rfl (b := 1) rfl rfl rfl (by decide) rfl ?_
        refine j_goto (tgt := 4) dX7_mostAlike_38 rfl ?_
        refine ih (k + 1) _ (by omega) ?_
        rw [hc]; simp only [maL]; rw [if_pos (by omega)]
  refine j_iconst (v := nI 0) dX7_mostAlike_0 rfl rfl ?_
  refine j_istore_n (L' := [.ref 30, .int (nI fit), .int (nI 0), jU]) dX7_mostAlike_1 rfl rfl rfl (by decide) rfl ?_
  refine j_iconst (v := nI 0) dX7_mostAlike_2 rfl rfl ?_
  refine j_istore_n (L' := [.ref 30, .int (nI fit), .int (nI 0), .int (nI 0)]) dX7_mostAlike_3 rfl rfl rfl (by decide) rfl ?_
  exact loop 6 0 0 rfl rfl
set_option maxHeartbeats 4000000 in
set_option maxRecDepth 100000 in
theorem c_passYearByKind {X : jX} {d n : Nat} {I : HI} {J : HJ} {i0 i1 : Option Nat} {Q : jPost} {v : VT} {yb : Nat} (hV : VC 1 I v) (hW : WF yb v) (hyb : yb ≤ 2 ^ 20) {y : Nat} {h : Nat → Nat} (hy : y ≤ 100) (hh : ∀ k, k < 6 → I 31 k = nI (h k)) (hbd : ∀ k, k < 6 → h k ≤ 60) (hQ : ∀ f : Nat → Int32, (∀ k, k < 6 → f k = nI (h k - gos k (v 0 0 + y) (v 0 1) (v 0 2))) → Q none n (ur I 31 f) J (Pg i0 i1)) : Cj X (d + 2) 0 0 mX7_passYearByKind [.ref 30, .ref 1, .int (nI y)] n I J (Pg i0 i1) Q := by
  refine Cj.intro rfl (Nat.le_of_ble_eq_true rfl) (L := [.ref 30, .ref 1, .int (nI y), jU]) rfl ?_
  obtain ⟨⟨w0, w1, w2, w3, w4, w5, w6⟩, wp, wk, wc, wj⟩ := id hW
  have loop : ∀ (r k : Nat) (f : Nat → Int32), k + r = 6 → (∀ q, q < k → f q = nI (h q - gos q (v 0 0 + y) (v 0 1) (v 0 2))) → (∀ q, q < 6 → k ≤ q → f q = nI (h q)) → Rj X (d + 2) 0 0 mX7_passYearByKind Q 2 [.ref 30, .ref 1, .int (nI y), .int (nI k)] [] n (ur I 31 f) J (Pg i0 i1) := by
    intro r
    induction r with
    | zero =>
      intro k f hkr hf1 hf2
      refine j_iload_n dX7_passYearByKind_2 rfl rfl rfl ?_
      refine j_bipush (v := nI 6) dX7_passYearByKind_3 rfl rfl ?_
      refine j_icmpgeN (tgt := 44) dX7_passYearByKind_5 rfl rfl (by omega) (by decide) (fun h1 => ?_) (fun h1 => by exfalso; omega)
      refine j_vret dX7_passYearByKind_44 rfl ?_
      exact hQ f (fun q hq => hf1 q (by omega))
    | succ r ih =>
      intro k f hkr hf1 hf2
      have hb := hbd k (by omega)
      refine j_iload_n dX7_passYearByKind_2 rfl rfl rfl ?_
      refine j_bipush (v := nI 6) dX7_passYearByKind_3 rfl rfl ?_
      refine j_icmpgeN (tgt := 44) dX7_passYearByKind_5 rfl rfl (by omega) (by decide) (fun h1 => by exfalso; omega) (fun h1 => ?_)
      refine j_aload_n dX7_passYearByKind_8 rfl rfl rfl ?_
      refine j_getP (b := 31) dX7_passYearByKind_9 rfl fX7_9 rfl (by decide) rfl rfl ?_
      refine j_iload_n dX7_passYearByKind_12 rfl rfl rfl ?_
      refine j_aload_n dX7_passYearByKind_13 rfl rfl rfl ?_
      refine j_getP (b := 31) dX7_passYearByKind_14 rfl fX7_9 rfl (by decide) rfl rfl ?_
      refine j_iload_n dX7_passYearByKind_17 rfl rfl rfl ?_
      refine j_iald (j := k) (v := nI (h k)) dX7_passYearByKind_18 rfl rfl (by decide) rfl (by omega) (by decide) (by rw [ur_row]; exact hf2 k (by omega) (by omega)) ?_
      refine j_iload_n dX7_passYearByKind_19 rfl rfl rfl ?_
      refine j_aload_n dX7_passYearByKind_20 rfl rfl rfl ?_
      refine j_getIv (v := nI (v 0 0)) dX7_passYearByKind_21 rfl fX7_56 rfl (by decide) rfl hV.year ?_
      refine j_iload_n dX7_passYearByKind_24 rfl rfl rfl ?_
      refine j_iaddN (c := (v 0 0) + y) dX7_passYearByKind_25 rfl rfl ?_
      refine j_aload_n dX7_passYearByKind_26 rfl rfl rfl ?_
      refine j_getIv (v := nI (v 0 1)) dX7_passYearByKind_27 rfl fX7_59 rfl (by decide) rfl hV.damp ?_
      refine j_aload_n dX7_passYearByKind_30 rfl rfl rfl ?_
      refine j_getIv (v := nI (v 0 2)) dX7_passYearByKind_31 rfl fX7_34 rfl (by decide) rfl hV.dry ?_
      refine j_callSw (As := [.int (nI (h k)), .int (nI k), .int (nI ((v 0 0) + y)), .int (nI (v 0 1)), .int (nI (v 0 2))]) dX7_passYearByKind_34 rfl cX7_62 rfl (Nat.le_of_ble_eq_true rfl) rfl rfl (c_leftAfter (by omega) (by omega) (by omega) (by omega) (by omega) ?_)
      show Rj _ _ _ _ _ _ 37 [.ref 30, .ref 1, .int (nI y), .int (nI k)] [.int (nI ((h k) - gos k ((v 0 0) + y) (v 0 1) (v 0 2))), .int (nI k), .ref 31] n (ur I 31 f) J (Pg i0 i1)
      refine j_iast (j := k) dX7_passYearByKind_37 rfl rfl (by decide) rfl (by omega) (by decide) ?_
      refine j_iincN (L' := [.ref 30, .ref 1, .int (nI y), .int (nI (k + 1))]) dX7_passYearByKind_38 rfl rfl (b := 1) rfl rfl rfl (by decide) rfl ?_
      refine j_goto (tgt := 2) dX7_passYearByKind_41 rfl ?_
      rw [u2_ur]
      refine ih (k + 1) _ (by omega) (fun q hq => ?_) (fun q hq hkq => ?_)
      · by_cases hqk : q = k
        · subst hqk; rw [if_pos rfl]
        · rw [if_neg hqk]; exact hf1 q (by omega)
      · rw [if_neg (by omega)]; exact hf2 q hq (by omega)
  refine j_iconst (v := nI 0) dX7_passYearByKind_0 rfl rfl ?_
  refine j_istore_n (L' := [.ref 30, .ref 1, .int (nI y), .int (nI 0)]) dX7_passYearByKind_1 rfl rfl rfl (by decide) rfl ?_
  rw [← ur_self I 31]
  exact loop 6 0 (I 31) rfl (fun q hq => absurd hq (by omega)) (fun q hq _ => hh q hq)
set_option maxHeartbeats 4000000 in
set_option maxRecDepth 100000 in
theorem c_countNext {X : jX} {d n : Nat} {I : HI} {J : HJ} {i0 i1 : Option Nat} {Q : jPost} {v : VT} {yb : Nat} (hV : VC 1 I v) (hW : WF yb v) (hyb : yb ≤ 2 ^ 20) {p : Nat} (hp : p < v 0 3) {fit : Nat} (hfe : bitsOf (fun k => decide (fitK v p k)) 6 = fit) (hQ1 : fit = 0 → Q (some (.int (-1))) n I J (Pg i0 i1)) (hQ2 : ¬ fit = 0 → ∀ f : Nat → Int32, Q (some (.int (nI (nxt (fun m => maL fit (fun k => lft k (v 0 1) (v 0 2) (v 0 0) (v 2 p) m) 6) 60 1 0 ((fun m => maL fit (fun k => lft k (v 0 1) (v 0 2) (v 0 0) (v 2 p) m) 6) 0))))) n (ur I 31 f) J (Pg i0 i1)) : Cj X (d + 5) 0 0 mX7_countNext [.ref 30, .ref 1, .int (nI p)] n I J (Pg i0 i1) Q := by
  refine Cj.intro rfl (Nat.le_of_ble_eq_true rfl) (L := [.ref 30, .ref 1, .int (nI p), jU, jU, jU, jU, jU]) rfl ?_
  obtain ⟨⟨w0, w1, w2, w3, w4, w5, w6⟩, wp, wk, wc, wj⟩ := id hW
  obtain ⟨q1, q2, q3, q4, q5⟩ := wp p hp
  have hfit : fit < 64 := by rw [← hfe]; exact bitsOf_lt _ 6
  have hbd : ∀ m k, lft k (v 0 1) (v 0 2) (v 0 0) (v 2 p) m ≤ 60 := fun m k => Nat.le_trans (lft_le _ _ _ _ _ _) q2
  obtain ⟨gm, hgm0⟩ : ∃ gm : Nat → Nat, gm = (fun m => maL fit (fun k => lft k (v 0 1) (v 0 2) (v 0 0) (v 2 p) m) 6) := ⟨_, rfl⟩
  have hgb : ∀ m, gm m ≤ 6 := fun m => by rw [hgm0]; exact maL_le _ _ 6
  have hgmv : ∀ m, maL fit (fun k => lft k (v 0 1) (v 0 2) (v 0 0) (v 2 p) m) 6 = gm m := fun m => by rw [hgm0]
  rw [← hgm0] at hQ2
  generalize hT : nxt gm 60 1 0 (gm 0) = T at hQ2
  have fin : ¬ fit = 0 → ∀ (r k : Nat) (f : Nat → Int32), k + r = 6 → (∀ q, q < k → f q = nI (v 2 p)) → Rj X (d + 5) 0 0 mX7_countNext Q 15 [.ref 30, .ref 1, .int (nI p), .int (nI fit), .int (nI k), jU, jU, jU] [] n (ur I 31 f) J (Pg i0 i1) := by
    intro hfz
    have hQ2 := hQ2 hfz
    have loop2 : ∀ (r m b w : Nat) (f : Nat → Int32) (z : Value), m + r = 61 → 1 ≤ m → w ≤ 6 → b ≤ 60 → (∀ k, k < 6 → f k = nI (lft k (v 0 1) (v 0 2) (v 0 0) (v 2 p) (m - 1))) → nxt gm r m b w = T → Rj X (d + 5) 0 0 mX7_countNext Q 54 [.ref 30, .ref 1, .int (nI p), .int (nI fit), .int (nI b), .int (nI w), .int (nI m), z] [] n (ur I 31 f) J (Pg i0 i1) := by
      intro r
      induction r with
      | zero =>
        intro m b w f z hmr hm1 hw hb hf1 hr
        refine j_iload dX7_countNext_54 rfl rfl ?_
        refine j_bipush (v := nI 60) dX7_countNext_56 rfl rfl ?_
        refine j_icmpgtN (tgt := 98) dX7_countNext_58 rfl rfl (by omega) (by decide) (fun h1 => ?_) (fun h1 => by exfalso; omega)
        refine j_iload dX7_countNext_98 rfl rfl ?_
        refine j_iret dX7_countNext_100 rfl rfl ?_
        rw [← hr] at hQ2; exact hQ2 f
      | succ r ih =>
        intro m b w f z hmr hm1 hw hb hf1 hr
        have hgm := hgb m
        refine j_iload dX7_countNext_54 rfl rfl ?_
        refine j_bipush (v := nI 60) dX7_countNext_56 rfl rfl ?_
        refine j_icmpgtN (tgt := 98) dX7_countNext_58 rfl rfl (by omega) (by decide) (fun h1 => by exfalso; omega) (fun h1 => ?_)
        refine j_aload_n dX7_countNext_61 rfl rfl rfl ?_
        refine j_aload_n dX7_countNext_62 rfl rfl rfl ?_
        refine j_iload dX7_countNext_63 rfl rfl ?_
        refine j_iconst (v := nI 1) dX7_countNext_65 rfl rfl ?_
        refine j_isubN (c := m - 1) dX7_countNext_66 rfl (by omega) rfl ?_
        refine j_callVw (As := [.ref 1, .int (nI (m - 1))]) dX7_countNext_67 rfl cX7_52 (by decide) rfl rfl (by decide) rfl (by decide) rfl rfl (c_passYearByKind (h := fun k => lft k (v 0 1) (v 0 2) (v 0 0) (v 2 p) (m - 1)) (hV.congr (fun i hi => ur_ne I f (by omega))) hW hyb (by omega) (fun k hk => by rw [ur_row]; exact hf1 k hk) (fun k hk => hbd (m - 1) k) (fun f2 hf2 => ?_))
        rw [ur_ur]
        show Rj _ _ _ _ _ _ 70 [.ref 30, .ref 1, .int (nI p), .int (nI fit), .int (nI b), .int (nI w), .int (nI m), z] [] n (ur I 31 f2) J (Pg i0 i1)
        have hf3 : ∀ k, k < 6 → f2 k = nI (lft k (v 0 1) (v 0 2) (v 0 0) (v 2 p) m) := by
          intro k hk
          have e := hf2 k hk
          rw [← lft_succ, Nat.sub_add_cancel hm1] at e
          exact e
        refine j_aload_n dX7_countNext_70 rfl rfl rfl ?_
        refine j_iload_n dX7_countNext_71 rfl rfl rfl ?_
        refine j_callVw (As := [.int (nI fit)]) dX7_countNext_72 rfl cX7_48 (by decide) rfl rfl (by decide) rfl (by decide) rfl rfl (c_mostAlike (h := fun k => lft k (v 0 1) (v 0 2) (v 0 0) (v 2 p) (m)) hfit (fun k hk => by rw [ur_row]; exact hf3 k hk) (fun k hk => hbd (m) k) ?_)
        rw [hgmv m]
        show Rj _ _ _ _ _ _ 75 [.ref 30, .ref 1, .int (nI p), .int (nI fit), .int (nI b), .int (nI w), .int (nI m), z] [.int (nI (gm m))] n (ur I 31 f2) J (Pg i0 i1)
        refine j_istore (L' := [.ref 30, .ref 1, .int (nI p), .int (nI fit), .int (nI b), .int (nI w), .int (nI m), .int (nI (gm m))]) dX7_countNext_75 rfl rfl (by decide) rfl ?_
        refine j_iload dX7_countNext_77 rfl rfl ?_
        refine j_iload dX7_countNext_79 rfl rfl ?_
        refine j_icmpgeN (tgt := 92) dX7_countNext_81 rfl rfl (by omega) (by omega) (fun h2 => ?_) (fun h2 => ?_)
        · refine j_iincN (L' := [.ref 30, .ref 1, .int (nI p), .int (nI fit), .int (nI b), .int (nI w), .int (nI (m + 1)), .int (nI (gm m))]) dX7_countNext_92 rfl rfl (b := 1) rfl rfl rfl (by decide) rfl ?_
          refine j_goto (tgt := 54) dX7_countNext_95 rfl ?_
          refine ih (m + 1) _ _ f2 _ (by omega) (by omega) (by omega) (by omega) (fun k hk => ?_) ?_
          · rw [Nat.add_sub_cancel]; exact hf3 k hk
          · rw [← hr]; conv => rhs; unfold nxt
            rw [if_neg (by omega)]
        · refine j_iload dX7_countNext_84 rfl rfl ?_
          refine j_istore (L' := [.ref 30, .ref 1, .int (nI p), .int (nI fit), .int (nI m), .int (nI w), .int (nI m), .int (nI (gm m))]) dX7_countNext_86 rfl rfl (by decide) rfl ?_
          refine j_iload dX7_countNext_88 rfl rfl ?_
          refine j_istore (L' := [.ref 30, .ref 1, .int (nI p), .int (nI fit), .int (nI m), .int (nI (gm m)), .int (nI m), .int (nI (gm m))]) dX7_countNext_90 rfl rfl (by decide) rfl ?_
          refine j_iincN (L' := [.ref 30, .ref 1, .int (nI p), .int (nI fit), .int (nI m), .int (nI (gm m)), .int (nI (m + 1)), .int (nI (gm m))]) dX7_countNext_92 rfl rfl (b := 1) rfl rfl rfl (by decide) rfl ?_
          refine j_goto (tgt := 54) dX7_countNext_95 rfl ?_
          refine ih (m + 1) _ _ f2 _ (by omega) (by omega) (by omega) (by omega) (fun k hk => ?_) ?_
          · rw [Nat.add_sub_cancel]; exact hf3 k hk
          · rw [← hr]; conv => rhs; unfold nxt
            rw [if_pos (by omega)]
    have rest : ∀ (f : Nat → Int32), (∀ q, q < 6 → f q = nI (v 2 p)) → Rj X (d + 5) 0 0 mX7_countNext Q 41 [.ref 30, .ref 1, .int (nI p), .int (nI fit), .int (nI 6), jU, jU, jU] [] n (ur I 31 f) J (Pg i0 i1) := by
      intro f hf
      have hg0 := hgb 0
      refine j_iconst (v := nI 0) dX7_countNext_41 rfl rfl ?_
      refine j_istore (L' := [.ref 30, .ref 1, .int (nI p), .int (nI fit), .int (nI 0), jU, jU, jU]) dX7_countNext_42 rfl rfl (by decide) rfl ?_
      refine j_aload_n dX7_countNext_44 rfl rfl rfl ?_
      refine j_iload_n dX7_countNext_45 rfl rfl rfl ?_
      refine j_callVw (As := [.int (nI fit)]) dX7_countNext_46 rfl cX7_48 (by decide) rfl rfl (by decide) rfl (by decide) rfl rfl (c_mostAlike (h := fun k => lft k (v 0 1) (v 0 2) (v 0 0) (v 2 p) (0)) hfit (fun k hk => by rw [ur_row]; exact hf k hk) (fun k hk => hbd (0) k) ?_)
      rw [hgmv 0]
      show Rj _ _ _ _ _ _ 49 [.ref 30, .ref 1, .int (nI p), .int (nI fit), .int (nI 0), jU, jU, jU] [.int (nI (gm 0))] n (ur I 31 f) J (Pg i0 i1)
      refine j_istore (L' := [.ref 30, .ref 1, .int (nI p), .int (nI fit), .int (nI 0), .int (nI (gm 0)), jU, jU]) dX7_countNext_49 rfl rfl (by decide) rfl ?_
      refine j_iconst (v := nI 1) dX7_countNext_51 rfl rfl ?_
      refine j_istore (L' := [.ref 30, .ref 1, .int (nI p), .int (nI fit), .int (nI 0), .int (nI (gm 0)), .int (nI 1), jU]) dX7_countNext_52 rfl rfl (by decide) rfl ?_
      exact loop2 60 1 0 _ f _ rfl (by omega) (by omega) (by omega) (fun k hk => hf k hk) hT
    have loop1 : ∀ (r k : Nat) (f : Nat → Int32), k + r = 6 → (∀ q, q < k → f q = nI (v 2 p)) → Rj X (d + 5) 0 0 mX7_countNext Q 15 [.ref 30, .ref 1, .int (nI p), .int (nI fit), .int (nI k), jU, jU, jU] [] n (ur I 31 f) J (Pg i0 i1) := by
      intro r
      induction r with
      | zero =>
        intro k f hkr hf1
        refine j_iload dX7_countNext_15 rfl rfl ?_
        refine j_bipush (v := nI 6) dX7_countNext_17 rfl rfl ?_
        refine j_icmpgeN (tgt := 41) dX7_countNext_19 rfl rfl (by omega) (by decide) (fun h1 => ?_) (fun h1 => by exfalso; omega)
        have hk6 : k = 6 := by omega
        subst hk6
        exact rest f (fun q hq => hf1 q (by omega))
      | succ r ih =>
        intro k f hkr hf1
        refine j_iload dX7_countNext_15 rfl rfl ?_
        refine j_bipush (v := nI 6) dX7_countNext_17 rfl rfl ?_
        refine j_icmpgeN (tgt := 41) dX7_countNext_19 rfl rfl (by omega) (by decide) (fun h1 => by exfalso; omega) (fun h1 => ?_)
        refine j_aload_n dX7_countNext_22 rfl rfl rfl ?_
        refine j_getP (b := 31) dX7_countNext_23 rfl fX7_9 rfl (by decide) rfl rfl ?_
        refine j_iload dX7_countNext_26 rfl rfl ?_
        refine j_aload_n dX7_countNext_28 rfl rfl rfl ?_
        refine j_getP (b := 3) dX7_countNext_29 rfl fX7_28 rfl (by decide) rfl rfl ?_
        refine j_iload_n dX7_countNext_32 rfl rfl rfl ?_
        refine j_iald (j := p) (v := nI (v 2 p)) dX7_countNext_33 rfl rfl (by decide) rfl (by omega) (by decide) (hV.lv (by omega)) ?_
        refine j_iast (j := k) dX7_countNext_34 rfl rfl (by decide) rfl (by omega) (by decide) ?_
        refine j_iincN (L' := [.ref 30, .ref 1, .int (nI p), .int (nI fit), .int (nI (k + 1)), jU, jU, jU]) dX7_countNext_35 rfl rfl (b := 1) rfl rfl rfl (by decide) rfl ?_
        refine j_goto (tgt := 15) dX7_countNext_38 rfl ?_
        rw [u2_ur]
        refine ih (k + 1) _ (by omega) (fun q hq => ?_)
        by_cases hqk : q = k
        · subst hqk; rw [if_pos rfl]
        · rw [if_neg hqk]; exact hf1 q (by omega)
    exact loop1
  refine j_aload_n dX7_countNext_0 rfl rfl rfl ?_
  refine j_iload_n dX7_countNext_1 rfl rfl rfl ?_
  refine j_callSw (As := [.ref 1, .int (nI p)]) dX7_countNext_2 rfl cX7_44 rfl (by decide) rfl rfl (c_kindsThatFit hV hW hyb hp ?_)
  rw [hfe]
  show Rj _ _ _ _ _ _ 5 [.ref 30, .ref 1, .int (nI p), jU, jU, jU, jU, jU] [.int (nI fit)] n I J (Pg i0 i1)
  refine j_istore_n (L' := [.ref 30, .ref 1, .int (nI p), .int (nI fit), jU, jU, jU, jU]) dX7_countNext_5 rfl rfl rfl (by decide) rfl ?_
  refine j_iload_n dX7_countNext_6 rfl rfl rfl ?_
  refine j_ifneN (tgt := 12) dX7_countNext_7 rfl rfl (by omega) (fun h1 => ?_) (fun h1 => ?_)
  · refine j_iconst (v := nI 0) dX7_countNext_12 rfl rfl ?_
    refine j_istore (L' := [.ref 30, .ref 1, .int (nI p), .int (nI fit), .int (nI 0), jU, jU, jU]) dX7_countNext_13 rfl rfl (by decide) rfl ?_
    rw [← ur_self I 31]
    exact fin (by omega) 6 0 (I 31) rfl (fun q hq => absurd hq (by omega))
  · refine j_iconst (v := (-1)) dX7_countNext_10 rfl rfl ?_
    refine j_iret dX7_countNext_11 rfl rfl ?_
    exact hQ1 (by omega)
