set_option maxHeartbeats 4000000 in
set_option maxRecDepth 100000 in
theorem c_search {X : jX} {d n : Nat} {I : HI} {J : HJ} {i0 i1 : Option Nat} {Q : jPost} {v : VT} {yb : Nat} (hV : VC 1 I v) (hW : WF yb v) (hyb : yb ≤ 2 ^ 20) {a b t : Nat} (ha : a < v 0 3) (hb : b < v 0 3) (ht : t ≤ 60) (hQ : Q none n (gH (u2 (u2 I 29 0 (nI (nedF v a t))) 29 1 (nI (nedF v b t))) (nI (shr (v 5) (nedF v a t) (nedF v b t) (v 0 4) 0 0 0 0 0 (0, 0, 0)).1 - 1) (nI (shr (v 5) (nedF v a t) (nedF v b t) (v 0 4) 0 0 0 0 0 (0, 0, 0)).2.1 - 1) (nI (shr (v 5) (nedF v a t) (nedF v b t) (v 0 4) 0 0 0 0 0 (0, 0, 0)).2.2 - 1)) J (Pg i0 i1)) : Cj X (d + 9) 0 0 mX3_search [.ref 29, .ref 1, .int (nI a), .int (nI b), .int (nI t)] n I J (Pg i0 i1) Q := by
  refine Cj.intro rfl (Nat.le_of_ble_eq_true rfl) (L := [.ref 29, .ref 1, .int (nI a), .int (nI b), .int (nI t)]) rfl ?_
  obtain ⟨⟨w0, w1, w2, w3, w4, w5, w6⟩, wp, wk, wc, wj⟩ := id hW
  have sa := sG_le v a t
  have sb := sG_le v b t
  have hk8 : d + 8 = (d + (8 - v 0 4)) + v 0 4 := by omega
  have hV2 : VC 1 (u2 I 29 0 (nI (nedF v a t))) v := hV.congr (fun i hi => u2_ne _ _ _ (by omega))
  refine j_aload_n dX3_search_0 rfl rfl rfl ?_
  refine j_aload_n dX3_search_1 rfl rfl rfl ?_
  refine j_iload_n dX3_search_2 rfl rfl rfl ?_
  refine j_iload dX3_search_3 rfl rfl ?_
  refine j_callSw (As := [.ref 1, .int (nI a), .int (nI t)]) dX3_search_5 rfl cX3_27 rfl (by decide) rfl rfl (c_flourNeeded hV hW hyb (by omega) (by omega) ?_)
  show Rj _ _ _ _ _ _ 8 [.ref 29, .ref 1, .int (nI a), .int (nI b), .int (nI t)] [.int (nI (nedF v a t)), .ref 29] n I J (Pg i0 i1)
  refine j_putI dX3_search_8 rfl fX3_9 rfl (by decide) rfl rfl ?_
  refine j_aload_n dX3_search_11 rfl rfl rfl ?_
  refine j_aload_n dX3_search_12 rfl rfl rfl ?_
  refine j_iload_n dX3_search_13 rfl rfl rfl ?_
  refine j_iload dX3_search_14 rfl rfl ?_
  refine j_callSw (As := [.ref 1, .int (nI b), .int (nI t)]) dX3_search_16 rfl cX3_27 rfl (by decide) rfl rfl (c_flourNeeded hV2 hW hyb (by omega) (by omega) ?_)
  show Rj _ _ _ _ _ _ 19 [.ref 29, .ref 1, .int (nI a), .int (nI b), .int (nI t)] [.int (nI (nedF v b t)), .ref 29] n (u2 I 29 0 (nI (nedF v a t))) J (Pg i0 i1)
  refine j_putI dX3_search_19 rfl fX3_15 rfl (by decide) rfl rfl ?_
  refine j_aload_n dX3_search_22 rfl rfl rfl ?_
  refine j_iconst (v := (-1)) dX3_search_23 rfl rfl ?_
  refine j_putI dX3_search_24 rfl fX3_18 rfl (by decide) rfl rfl ?_
  refine j_aload_n dX3_search_27 rfl rfl rfl ?_
  refine j_iconst (v := (-1)) dX3_search_28 rfl rfl ?_
  refine j_putI dX3_search_29 rfl fX3_21 rfl (by decide) rfl rfl ?_
  refine j_aload_n dX3_search_32 rfl rfl rfl ?_
  refine j_iconst (v := (-1)) dX3_search_33 rfl rfl ?_
  refine j_putI dX3_search_34 rfl fX3_24 rfl (by decide) rfl rfl ?_
  refine j_aload_n dX3_search_37 rfl rfl rfl ?_
  refine j_aload_n dX3_search_38 rfl rfl rfl ?_
  refine j_iconst (v := nI 0) dX3_search_39 rfl rfl ?_
  refine j_iconst (v := nI 0) dX3_search_40 rfl rfl ?_
  refine j_iconst (v := nI 0) dX3_search_41 rfl rfl ?_
  refine j_iconst (v := nI 0) dX3_search_42 rfl rfl ?_
  refine j_iconst (v := nI 0) dX3_search_43 rfl rfl ?_
  rw [show d + 9 = (d + (8 - v 0 4)) + v 0 4 + 1 by omega]
  refine j_callSw (As := [.ref 29, .ref 1, .int (nI 0), .int (nI 0), .int (nI 0), .int (nI 0), .int (nI 0)]) dX3_search_44 rfl cX3_31 rfl (by decide) rfl rfl (c_share (I := u2 (u2 I 29 0 (nI (nedF v a t))) 29 1 (nI (nedF v b t))) (hV.congr (fun i hi => by rw [u2_ne _ _ _ (by omega), u2_ne _ _ _ (by omega)])) hW hyb rfl rfl (by unfold nedF; omega) (by unfold nedF; omega) (v 0 4) 0 0 0 0 0 0 0 0 (by omega) (by omega) (by omega) (by omega) ?_)
  show Rj _ _ _ _ _ _ 47 [.ref 29, .ref 1, .int (nI a), .int (nI b), .int (nI t)] [] n (gH (u2 (u2 I 29 0 (nI (nedF v a t))) 29 1 (nI (nedF v b t))) (nI (shr (v 5) (nedF v a t) (nedF v b t) (v 0 4) 0 0 0 0 0 (0, 0, 0)).1 - 1) (nI (shr (v 5) (nedF v a t) (nedF v b t) (v 0 4) 0 0 0 0 0 (0, 0, 0)).2.1 - 1) (nI (shr (v 5) (nedF v a t) (nedF v b t) (v 0 4) 0 0 0 0 0 (0, 0, 0)).2.2 - 1)) J (Pg i0 i1)
  refine j_vret dX3_search_47 rfl ?_
  exact hQ
def gcdL : Nat → Nat → Nat → Nat
  | 0, a, _ => a
  | s + 1, a, b => if b = 0 then a else gcdL s b (a % b)
theorem gcdL_eq : ∀ s a b, b ≤ a → a * b < 2 ^ s → gcdL (s + 1) a b = Nat.gcd a b
  | 0, a, b, h1, h2 => by
    have hb : b = 0 := by
      cases b with
      | zero => rfl
      | succ b =>
        have : 0 < a * (b + 1) := Nat.mul_pos (by omega) (by omega)
        omega
    subst hb
    simp [gcdL]
  | s + 1, a, b, h1, h2 => by
    by_cases hb : b = 0
    · subst hb; simp [gcdL]
    · have hm := Nat.mod_lt a (Nat.pos_of_ne_zero hb)
      have hd := Nat.div_add_mod a b
      have h3 : 2 * (a % b) ≤ a := by
        have : 1 ≤ a / b := (Nat.one_le_div_iff (Nat.pos_of_ne_zero hb)).mpr h1
        have h4 : b * 1 ≤ b * (a / b) := Nat.mul_le_mul_left b this
        omega
      have h5 : 2 * (b * (a % b)) ≤ a * b := by
        have := Nat.mul_le_mul_left b h3
        rw [Nat.mul_left_comm, Nat.mul_comm a b]
        exact this
      rw [gcdL, if_neg hb, gcdL_eq s b (a % b) (by omega) (by rw [Nat.pow_succ] at h2; omega)]
      rw [Nat.gcd_comm a b, Nat.gcd_rec b a, Nat.gcd_comm]
theorem gcdL_100 {a b : Nat} (h : a ≤ b) (hb0 : 0 < b) (hb : b ≤ 10 ^ 12) : gcdL 100 a b = Nat.gcd a b := by
  rw [gcdL, if_neg (by omega)]
  have h1 : a % b ≤ b := Nat.le_of_lt (Nat.mod_lt _ hb0)
  have h2 : b * (a % b) < 2 ^ 98 := by
    have : b * (a % b) ≤ 10 ^ 12 * 10 ^ 12 := Nat.mul_le_mul hb (Nat.le_trans h1 hb)
    exact Nat.lt_of_le_of_lt this (by decide)
  rw [gcdL_eq 98 b (a % b) h1 h2, Nat.gcd_comm a b, Nat.gcd_rec b a, Nat.gcd_comm]
set_option maxHeartbeats 4000000 in
set_option maxRecDepth 100000 in
theorem c_commonDivisor {X : jX} {d n : Nat} {I : HI} {J : HJ} {P : HP} {Q : jPost} {a b T : Nat} (ha : a < 2 ^ 63) (hb : b < 2 ^ 63) (hT : gcdL 100 a b = T) (hQ : Q (some (.long (lN T))) n I J P) : Cj X d 0 0 mX2_commonDivisor [.long (lN a), .long (lN b)] n I J P Q := by
  refine Cj.intro rfl (Nat.le_of_ble_eq_true rfl) (L := [.long (lN a), jU, .long (lN b), jU, jU, jU, jU, jU, jU, jU, jU]) rfl ?_
  have loop : ∀ (r st g l : Nat) (z : Value), st + r = 100 → g < 2 ^ 63 → l < 2 ^ 63 → gcdL r g l = T → Rj X d 0 0 mX2_commonDivisor Q 9 [.long (lN a), jU, .long (lN b), jU, .long (lN g), jU, .long (lN l), jU, .int (nI st), z, jU] [] n I J P := by
    intro r
    induction r with
    | zero =>
      intro st g l z hsr hg hl hr
      refine j_iload dX2_commonDivisor_9 rfl rfl ?_
      refine j_bipush (v := nI 100) dX2_commonDivisor_11 rfl rfl ?_
      refine j_icmpgeN (tgt := 44) dX2_commonDivisor_13 rfl rfl (by omega) (by decide) (fun h1 => ?_) (fun h1 => by exfalso; omega)
      refine j_lload dX2_commonDivisor_44 rfl rfl ?_
      refine j_lret dX2_commonDivisor_46 rfl ?_
      rw [← hr] at hQ; exact hQ
    | succ r ih =>
      intro st g l z hsr hg hl hr
      refine j_iload dX2_commonDivisor_9 rfl rfl ?_
      refine j_bipush (v := nI 100) dX2_commonDivisor_11 rfl rfl ?_
      refine j_icmpgeN (tgt := 44) dX2_commonDivisor_13 rfl rfl (by omega) (by decide) (fun h1 => by exfalso; omega) (fun h1 => ?_)
      refine j_lload dX2_commonDivisor_16 rfl rfl ?_
      refine j_lconst (v := lN 0) dX2_commonDivisor_18 rfl rfl ?_
      refine j_lcmp dX2_commonDivisor_19 rfl ?_
      refine j_ifeqL (tgt := 44) dX2_commonDivisor_20 rfl rfl (by omega) (by decide) (fun h2 => ?_) (fun h2 => ?_)
      · refine j_lload dX2_commonDivisor_44 rfl rfl ?_
        refine j_lret dX2_commonDivisor_46 rfl ?_
        unfold gcdL at hr
        rw [if_pos (by omega)] at hr
        rw [← hr] at hQ; exact hQ
      · refine j_lload dX2_commonDivisor_23 rfl rfl ?_
        refine j_lload dX2_commonDivisor_25 rfl rfl ?_
        refine j_lremN (c := g % l) dX2_commonDivisor_27 rfl (by omega) (by omega) (by omega) rfl ?_
        refine j_lstore (L' := [.long (lN a), jU, .long (lN b), jU, .long (lN g), jU, .long (lN l), jU, .int (nI st), .long (lN (g % l)), jU]) dX2_commonDivisor_28 rfl rfl (by decide) rfl ?_
        refine j_lload dX2_commonDivisor_30 rfl rfl ?_
        refine j_lstore (L' := [.long (lN a), jU, .long (lN b), jU, .long (lN l), jU, .long (lN l), jU, .int (nI st), .long (lN (g % l)), jU]) dX2_commonDivisor_32 rfl rfl (by decide) rfl ?_
        refine j_lload dX2_commonDivisor_34 rfl rfl ?_
        refine j_lstore (L' := [.long (lN a), jU, .long (lN b), jU, .long (lN l), jU, .long (lN (g % l)), jU, .int (nI st), .long (lN (g % l)), jU]) dX2_commonDivisor_36 rfl rfl (by decide) rfl ?_
        refine j_iincN (L' := [.long (lN a), jU, .long (lN b), jU, .long (lN l), jU, .long (lN (g % l)), jU, .int (nI (st + 1)), .long (lN (g % l)), jU]) dX2_commonDivisor_38 rfl rfl (b := 1) rfl rfl rfl (by decide) rfl ?_
        refine j_goto (tgt := 9) dX2_commonDivisor_41 rfl ?_
        refine ih (st + 1) _ _ _ (by omega) hl (Nat.lt_trans (Nat.mod_lt _ (by omega)) hl) ?_
        rw [← hr]; conv => rhs; unfold gcdL
        rw [if_neg (by omega)]
  refine j_lload_n dX2_commonDivisor_0 rfl rfl rfl ?_
  refine j_lstore (L' := [.long (lN a), jU, .long (lN b), jU, .long (lN a), jU, jU, jU, jU, jU, jU]) dX2_commonDivisor_1 rfl rfl (by decide) rfl ?_
  refine j_lload_n dX2_commonDivisor_3 rfl rfl rfl ?_
  refine j_lstore (L' := [.long (lN a), jU, .long (lN b), jU, .long (lN a), jU, .long (lN b), jU, jU, jU, jU]) dX2_commonDivisor_4 rfl rfl (by decide) rfl ?_
  refine j_iconst (v := nI 0) dX2_commonDivisor_6 rfl rfl ?_
  refine j_istore (L' := [.long (lN a), jU, .long (lN b), jU, .long (lN a), jU, .long (lN b), jU, .int (nI 0), jU, jU]) dX2_commonDivisor_7 rfl rfl (by decide) rfl ?_
  exact loop 100 0 a b _ rfl ha hb hT
set_option maxHeartbeats 4000000 in
set_option maxRecDepth 100000 in
theorem c_set {X : jX} {d n : Nat} {I : HI} {J : HJ} {P : HP} {Q : jPost} {a b : Nat} (hab : a ≤ b) (hb0 : 0 < b) (hb : b ≤ 10 ^ 12) (hQ : Q none n I (u2 (u2 J 32 0 (lN (a / Nat.gcd a b))) 32 1 (lN (b / Nat.gcd a b))) P) : Cj X (d + 1) 0 0 mX2_set [.ref 32, .long (lN a), .long (lN b)] n I J P Q := by
  refine Cj.intro rfl (Nat.le_of_ble_eq_true rfl) (L := [.ref 32, .long (lN a), jU, .long (lN b), jU, jU, jU]) rfl ?_
  have hb63 : (10 : Nat) ^ 12 < 2 ^ 63 := by decide
  have hg0 : 0 < Nat.gcd a b := Nat.gcd_pos_of_pos_right a hb0
  have hgb : Nat.gcd a b ≤ b := Nat.gcd_le_right a hb0
  refine j_lload_n dX2_set_0 rfl rfl rfl ?_
  refine j_lload_n dX2_set_1 rfl rfl rfl ?_
  refine j_callSw (As := [.long (lN a), .long (lN b)]) dX2_set_2 rfl cX2_16 rfl (by decide) rfl rfl (c_commonDivisor (by omega) (by omega) (gcdL_100 hab hb0 hb) ?_)
  show Rj _ _ _ _ _ _ 5 [.ref 32, .long (lN a), jU, .long (lN b), jU, jU, jU] [.long (lN (Nat.gcd a b))] n I J P
  refine j_lstore (L' := [.ref 32, .long (lN a), jU, .long (lN b), jU, .long (lN (Nat.gcd a b)), jU]) dX2_set_5 rfl rfl (by decide) rfl ?_
  refine j_lload dX2_set_7 rfl rfl ?_
  refine j_lconst (v := lN 0) dX2_set_9 rfl rfl ?_
  refine j_lcmp dX2_set_10 rfl ?_
  refine j_ifleL (tgt := 30) dX2_set_11 rfl rfl (by omega) (by decide) (fun h1 => by exfalso; omega) (fun h1 => ?_)
  refine j_aload_n dX2_set_14 rfl rfl rfl ?_
  refine j_lload_n dX2_set_15 rfl rfl rfl ?_
  refine j_lload dX2_set_16 rfl rfl ?_
  refine j_ldivN (c := a / (Nat.gcd a b)) dX2_set_18 rfl (by omega) (by omega) (by omega) rfl ?_
  refine j_putJ dX2_set_19 rfl fX2_7 rfl (by decide) rfl rfl ?_
  refine j_aload_n dX2_set_22 rfl rfl rfl ?_
  refine j_lload_n dX2_set_23 rfl rfl rfl ?_
  refine j_lload dX2_set_24 rfl rfl ?_
  refine j_ldivN (c := b / (Nat.gcd a b)) dX2_set_26 rfl (by omega) (by omega) (by omega) rfl ?_
  refine j_putJ dX2_set_27 rfl fX2_13 rfl (by decide) rfl rfl ?_
  refine j_vret dX2_set_30 rfl ?_
  exact hQ
def u1 (f : Nat → Nat) (k x : Nat) : Nat → Nat := fun j => if j = k then x else f j
def meS (g c n : Nat) (f : Nat → Nat) : Nat → Nat := if n - g = 0 then u1 (u1 f n 0) 0 (u1 f n 0 0 + f n * 10) else u1 (u1 (u1 f n 0) (n - g) (u1 f n 0 (n - g) + f n * (10 - c))) (n - g - 1) (u1 (u1 f n 0) (n - g) (u1 f n 0 (n - g) + f n * (10 - c)) (n - g - 1) + f n * c)
def meL (g c : Nat) : Nat → Nat → (Nat → Nat) → Nat → Nat
  | 0, _, f => f
  | r + 1, n, f => meL g c r (n + 1) (meS g c n f)
theorem u1_lN {f : Nat → Nat} {F : Nat → Int64} (h : ∀ j, j < 61 → F j = lN (f j)) (a k : Nat) : ∀ j, j < 61 → (fun j => if j = a then lN k else F j) j = lN (u1 f a k j) := by
  intro j hj
  unfold u1
  by_cases e : j = a
  · simp [e]
  · simp only [if_neg e]; exact h j hj
/-- the same by two rows -/
def moS (g c n : Nat) (f acc : Nat → Nat) : Nat → Nat := u1 (u1 acc (n - g) (acc (n - g) + (10 - c) * f n)) (n - g - 1) (u1 acc (n - g) (acc (n - g) + (10 - c) * f n) (n - g - 1) + c * f n)
def moL (g c : Nat) : Nat → Nat → (Nat → Nat) → (Nat → Nat) → Nat → Nat
  | 0, _, _, acc => acc
  | r + 1, n, f, acc => moL g c r (n + 1) f (moS g c n f acc)
theorem meS_mo {g c n : Nat} {f cur acc : Nat → Nat} (hc : c ≤ 10) (h : ∀ j, cur j = if j < n then acc j else f j) (hz : ∀ j, n ≤ j → acc j = 0) : (∀ j, meS g c n cur j = if j < n + 1 then moS g c n f acc j else f j) ∧ ∀ j, n + 1 ≤ j → moS g c n f acc j = 0 := by
  have hn : cur n = f n := by rw [h n, if_neg (by omega)]
  have hten : f n * 10 = (10 - c) * f n + c * f n := by rw [← Nat.add_mul, Nat.sub_add_cancel hc, Nat.mul_comm]
  have hcc : f n * (10 - c) = (10 - c) * f n := Nat.mul_comm _ _
  have hc2 : f n * c = c * f n := Nat.mul_comm _ _
  have hzn := hz n (Nat.le_refl _)
  constructor
  · intro j
    have hj := h j
    have hzj := hz j
    unfold meS moS
    rw [hn]
    by_cases h0 : n - g = 0
    · rw [if_pos h0, h0]
      simp only [u1]
      by_cases j0 : j = 0
      · subst j0
        simp only [if_true]
        by_cases hn0 : n = 0
        · subst hn0
          simp [hzn]; omega
        · have e0 := h 0
          rw [if_pos (by omega)] at e0
          have : ¬ (0 = n) := fun q => hn0 q.symm
          simp [this, e0]; omega
      · by_cases jn : j = n
        · subst jn; simp [j0, hzn]
        · simp only [j0, jn, if_false]
          rw [hj]
          by_cases jl : j < n
          · rw [if_pos jl, if_pos (by omega)]
          · rw [if_neg jl, if_neg (by omega)]
    · rw [if_neg h0]
      have hk : n - g - 1 ≠ n - g := by omega
      have hkn : n - g - 1 < n := by omega
      have ek := h (n - g - 1)
      rw [if_pos hkn] at ek
      simp only [u1]
      by_cases ja : j = n - g - 1
      · subst ja
        have hne : ¬ (n - g - 1 = n) := by omega
        simp only [if_true, hk, if_false, hne, ek]
        rw [if_pos (by omega), hc2]
      · by_cases jb : j = n - g
        · subst jb
          simp only [if_true, ja, if_false]
          by_cases hgn : n - g = n
          · simp only [hgn, if_true, hzn]
            rw [if_pos (by omega), hcc]
          · have ea := h (n - g)
            rw [if_pos (by omega)] at ea
            simp only [hgn, if_false, ea]
            rw [if_pos (by omega), hcc]
        · simp only [ja, jb, if_false]
          by_cases jn : j = n
          · subst jn; simp [hzn]
          · simp only [jn, if_false]
            rw [hj]
            by_cases jl : j < n
            · rw [if_pos jl, if_pos (by omega)]
            · rw [if_neg jl, if_neg (by omega)]
  · intro j hj
    unfold moS
    simp only [u1]
    rw [if_neg (by omega), if_neg (by omega)]
    exact hz j (by omega)
theorem meL_mo {g c : Nat} {f : Nat → Nat} (hc : c ≤ 10) : ∀ r n cur acc, (∀ j, cur j = if j < n then acc j else f j) → (∀ j, n ≤ j → acc j = 0) → ∀ j, meL g c r n cur j = if j < n + r then moL g c r n f acc j else f j
  | 0, n, cur, acc, h, _ => h
  | r + 1, n, cur, acc, h, hz => by
    intro j
    obtain ⟨h1, h2⟩ := meS_mo (g := g) hc h hz
    have := meL_mo (g := g) hc r (n + 1) _ _ h1 h2 j
    rw [show n + (r + 1) = n + 1 + r by omega]
    exact this
theorem sumN_u1 (f : Nat → Nat) (k x : Nat) : ∀ N, k < N → sumN (u1 f k (f k + x)) N = sumN f N + x
  | 0, h => absurd h (Nat.not_lt_zero _)
  | N + 1, h => by
    simp only [sumN]
    by_cases e : k = N
    · subst e
      have : sumN (u1 f k (f k + x)) k = sumN f k := sumN_congr k (fun q hq => by simp [u1, Nat.ne_of_lt hq])
      rw [this]
      simp [u1]; omega
    · rw [sumN_u1 f k x N (by omega)]
      have : u1 f k (f k + x) N = f N := by simp [u1, Ne.symm e]
      rw [this]; omega
theorem sumN_moS {g c n : Nat} {f acc : Nat → Nat} (hc : c ≤ 10) (hn : n < 61) : sumN (moS g c n f acc) 61 = sumN acc 61 + 10 * f n := by
  unfold moS
  rw [sumN_u1 _ _ _ 61 (by omega), sumN_u1 _ _ _ 61 (by omega)]
  have : (10 - c) * f n + c * f n = 10 * f n := by rw [← Nat.add_mul, Nat.sub_add_cancel hc]
  omega
theorem sumN_moL {g c : Nat} {f : Nat → Nat} (hc : c ≤ 10) : ∀ r n acc, n + r ≤ 61 → sumN (moL g c r n f acc) 61 + 10 * sumN f n = sumN acc 61 + 10 * sumN f (n + r)
  | 0, n, acc, _ => rfl
  | r + 1, n, acc, h => by
    have h1 := sumN_moL (g := g) (f := f) hc r (n + 1) (moS g c n f acc) (by omega)
    rw [sumN_moS hc (by omega)] at h1
    rw [show sumN f (n + 1) = sumN f n + f n from rfl] at h1
    simp only [moL]
    rw [show n + (r + 1) = n + 1 + r by omega]
    omega
/-- in how many ways of 10 each year there are so many loaves -/
def chN (v : VT) (p c : Nat) : Nat → Nat → Nat
  | 0 => fun n => if n = v 2 p then 1 else 0
  | y + 1 => moL (gos (v 1 p) (v 0 0 + y) (v 0 1) (v 0 2)) c 61 0 (chN v p c y) (fun _ => 0)
theorem sumN_zero : ∀ n, sumN (fun _ => 0) n = 0
  | 0 => rfl
  | n + 1 => by simp only [sumN]; rw [sumN_zero n]
theorem sumN_ind (k : Nat) : ∀ n, sumN (fun j => if j = k then 1 else 0) n = if k < n then 1 else 0
  | 0 => rfl
  | n + 1 => by
    simp only [sumN]
    rw [sumN_ind k n]
    by_cases h : k < n
    · rw [if_pos h, if_neg (by omega), if_pos (by omega)]
    · by_cases e : n = k
      · rw [if_neg h, if_pos e, if_pos (by omega)]
      · rw [if_neg h, if_neg e, if_neg (by omega)]
theorem chN_sum {v : VT} {p c : Nat} (hc : c ≤ 10) (hl : v 2 p ≤ 60) : ∀ y, sumN (chN v p c y) 61 = 10 ^ y
  | 0 => by
    have := sumN_ind (v 2 p) 61
    rw [if_pos (by omega)] at this
    exact this
  | y + 1 => by
    have h := sumN_moL (g := gos (v 1 p) (v 0 0 + y) (v 0 1) (v 0 2)) (f := chN v p c y) hc 61 0 (fun _ => 0) (by omega)
    rw [sumN_zero, Nat.zero_add, chN_sum hc hl y] at h
    show sumN (moL _ c 61 0 (chN v p c y) (fun _ => 0)) 61 = _
    rw [Nat.pow_succ]
    rw [show sumN (chN v p c y) 0 = 0 from rfl] at h
    omega
theorem sumN_0le (f : Nat → Nat) : ∀ n, 0 < n → f 0 ≤ sumN f n
  | 0, h => absurd h (Nat.lt_irrefl _)
  | n + 1, _ => by
    simp only [sumN]
    by_cases e : n = 0
    · subst e; simp [sumN]
    · have := sumN_0le f n (by omega)
      omega
theorem chN_0 {v : VT} {p c y : Nat} (hc : c ≤ 10) (hl : v 2 p ≤ 60) : chN v p c y 0 ≤ 10 ^ y := by
  rw [← chN_sum hc hl y]
  exact sumN_0le _ 61 (by omega)
set_option maxHeartbeats 4000000 in
set_option maxRecDepth 100000 in
theorem c_miceEat {X : jX} {d n : Nat} {I : HI} {J : HJ} {i0 i1 : Option Nat} {Q : jPost} {v : VT} {yb : Nat} (hV : VC 1 I v) (hW : WF yb v) (hyb : yb ≤ 2 ^ 20) {p y c : Nat} {f T : Nat → Nat} (hp : p < v 0 3) (hy : y ≤ 60) (hc : c ≤ 10) (hF0 : ∀ j, j < 61 → J 28 j = lN (f j)) (hT : meL (gos (v 1 p) (v 0 0 + y) (v 0 1) (v 0 2)) c 61 0 f = T) (hQ : ∀ F, (∀ j, j < 61 → F j = lN (T j)) → Q none n I (ur J 28 F) (Pg i0 i1)) : Cj X (d + 3) 0 0 mX1_miceEat [.ref 26, .ref 1, .int (nI p), .int (nI y), .int (nI c)] n I J (Pg i0 i1) Q := by
  refine Cj.intro rfl (Nat.le_of_ble_eq_true rfl) (L := [.ref 26, .ref 1, .int (nI p), .int (nI y), .int (nI c), jU, jU, jU, jU]) rfl ?_
  obtain ⟨⟨w0, w1, w2, w3, w4, w5, w6⟩, wp, wk, wc, wj⟩ := id hW
  obtain ⟨q1, q2, q3, q4, q5⟩ := wp p hp
  have loop : ∀ (r k : Nat) (f : Nat → Nat) (F : Nat → Int64) (z1 z2 z3 : Value), k + r = 61 → (∀ j, j < 61 → F j = lN (f j)) → meL (gos (v 1 p) (v 0 0 + y) (v 0 1) (v 0 2)) c r k f = T → Rj X (d + 3) 0 0 mX1_miceEat Q 3 [.ref 26, .ref 1, .int (nI p), .int (nI y), .int (nI c), .int (nI k), z1, z2, z3] [] n I (ur J 28 F) (Pg i0 i1) := by
    intro r
    induction r with
    | zero =>
      intro k f F z1 z2 z3 hkr hF hr
      refine j_iload dX1_miceEat_3 rfl rfl ?_
      refine j_bipush (v := nI 60) dX1_miceEat_5 rfl rfl ?_
      refine j_icmpgtN (tgt := 103) dX1_miceEat_7 rfl rfl (by omega) (by decide) (fun h1 => ?_) (fun h1 => by exfalso; omega)
      refine j_vret dX1_miceEat_103 rfl ?_
      simp only [meL] at hr
      subst hr
      exact hQ F hF
    | succ r ih =>
      intro k f F z1 z2 z3 hkr hF hr
      refine j_iload dX1_miceEat_3 rfl rfl ?_
      refine j_bipush (v := nI 60) dX1_miceEat_5 rfl rfl ?_
      refine j_icmpgtN (tgt := 103) dX1_miceEat_7 rfl rfl (by omega) (by decide) (fun h1 => by exfalso; omega) (fun h1 => ?_)
      refine j_aload_n dX1_miceEat_10 rfl rfl rfl ?_
      refine j_getP (b := 28) dX1_miceEat_11 rfl fX1_15 rfl (by decide) rfl rfl ?_
      refine j_iload dX1_miceEat_14 rfl rfl ?_
      refine j_lald (j := k) (v := lN (f k)) dX1_miceEat_16 rfl rfl (by decide) rfl (by omega) (by decide) (by rw [ur_row]; exact hF _ (by omega)) ?_
      refine j_lstore (L' := [.ref 26, .ref 1, .int (nI p), .int (nI y), .int (nI c), .int (nI k), .long (lN (f k)), jU, z3]) dX1_miceEat_17 rfl rfl (by decide) rfl ?_
      refine j_aload_n dX1_miceEat_19 rfl rfl rfl ?_
      refine j_getP (b := 28) dX1_miceEat_20 rfl fX1_15 rfl (by decide) rfl rfl ?_
      refine j_iload dX1_miceEat_23 rfl rfl ?_
      refine j_lconst (v := lN 0) dX1_miceEat_25 rfl rfl ?_
      refine j_last (j := k) dX1_miceEat_26 rfl rfl (by decide) rfl (by omega) (by decide) ?_
      rw [u2_ur]
      generalize eF1 : (fun j => if j = k then lN 0 else F j) = F1
      have hF1 : ∀ j, j < 61 → F1 j = lN ((u1 f k 0) j) := by rw [← eF1]; exact u1_lN hF _ _
      refine j_aload_n dX1_miceEat_27 rfl rfl rfl ?_
      refine j_iload dX1_miceEat_28 rfl rfl ?_
      refine j_iload_n dX1_miceEat_30 rfl rfl rfl ?_
      refine j_iload_n dX1_miceEat_31 rfl rfl rfl ?_
      refine j_callVw (As := [.int (nI k), .int (nI p), .int (nI y)]) dX1_miceEat_32 rfl cX1_34 (by decide) rfl rfl (by decide) rfl (by decide) rfl rfl (c_leftInYear hV (by omega) (by omega) (by omega) (by omega) (by omega) (by omega) (by omega) ?_)
      show Rj _ _ _ _ _ _ 35 [.ref 26, .ref 1, .int (nI p), .int (nI y), .int (nI c), .int (nI k), .long (lN (f k)), jU, z3] [.int (nI (k - gos (v 1 p) (v 0 0 + y) (v 0 1) (v 0 2)))] n I (ur J 28 F1) (Pg i0 i1)
      refine j_istore (L' := [.ref 26, .ref 1, .int (nI p), .int (nI y), .int (nI c), .int (nI k), .long (lN (f k)), jU, .int (nI (k - gos (v 1 p) (v 0 0 + y) (v 0 1) (v 0 2)))]) dX1_miceEat_35 rfl rfl (by decide) rfl ?_
      refine j_iload dX1_miceEat_37 rfl rfl ?_
      refine j_ifneN (tgt := 60) dX1_miceEat_39 rfl rfl (by omega) (fun h2 => ?_) (fun h2 => ?_)
      · refine j_aload_n dX1_miceEat_60 rfl rfl rfl ?_
        refine j_getP (b := 28) dX1_miceEat_61 rfl fX1_15 rfl (by decide) rfl rfl ?_
        refine j_iload dX1_miceEat_64 rfl rfl ?_
        refine j_dup2 dX1_miceEat_66 rfl rfl rfl ?_
        refine j_lald (j := k - gos (v 1 p) (v 0 0 + y) (v 0 1) (v 0 2)) (v := lN ((u1 f k 0) (k - gos (v 1 p) (v 0 0 + y) (v 0 1) (v 0 2)))) dX1_miceEat_67 rfl rfl (by decide) rfl (by omega) (by decide) (by rw [ur_row]; exact hF1 _ (by omega)) ?_
        refine j_lload dX1_miceEat_68 rfl rfl ?_
        refine j_bipush (v := nI 10) dX1_miceEat_70 rfl rfl ?_
        refine j_iload dX1_miceEat_72 rfl rfl ?_
        refine j_isubN (c := 10 - c) dX1_miceEat_74 rfl (by omega) rfl ?_
        refine j_i2lN dX1_miceEat_75 rfl (by omega) ?_
        refine j_lmulN (c := (f k) * (10 - c)) dX1_miceEat_76 rfl rfl ?_
        refine j_laddN (c := ((u1 f k 0) (k - gos (v 1 p) (v 0 0 + y) (v 0 1) (v 0 2))) + ((f k) * (10 - c))) dX1_miceEat_77 rfl rfl ?_
        refine j_last (j := k - gos (v 1 p) (v 0 0 + y) (v 0 1) (v 0 2)) dX1_miceEat_78 rfl rfl (by decide) rfl (by omega) (by decide) ?_
        rw [u2_ur]
        generalize eF2 : (fun j => if j = (k - gos (v 1 p) (v 0 0 + y) (v 0 1) (v 0 2)) then lN ((u1 f k 0) (k - gos (v 1 p) (v 0 0 + y) (v 0 1) (v 0 2)) + f k * (10 - c)) else F1 j) = F2
        have hF2 : ∀ j, j < 61 → F2 j = lN ((u1 (u1 f k 0) (k - gos (v 1 p) (v 0 0 + y) (v 0 1) (v 0 2)) ((u1 f k 0) (k - gos (v 1 p) (v 0 0 + y) (v 0 1) (v 0 2)) + f k * (10 - c))) j) := by rw [← eF2]; exact u1_lN hF1 _ _
        refine j_aload_n dX1_miceEat_79 rfl rfl rfl ?_
        refine j_getP (b := 28) dX1_miceEat_80 rfl fX1_15 rfl (by decide) rfl rfl ?_
        refine j_iload dX1_miceEat_83 rfl rfl ?_
        refine j_iconst (v := nI 1) dX1_miceEat_85 rfl rfl ?_
        refine j_isubN (c := (k - gos (v 1 p) (v 0 0 + y) (v 0 1) (v 0 2)) - 1) dX1_miceEat_86 rfl (by omega) rfl ?_
        refine j_dup2 dX1_miceEat_87 rfl rfl rfl ?_
        refine j_lald (j := (k - gos (v 1 p) (v 0 0 + y) (v 0 1) (v 0 2)) - 1) (v := lN ((u1 (u1 f k 0) (k - gos (v 1 p) (v 0 0 + y) (v 0 1) (v 0 2)) ((u1 f k 0) (k - gos (v 1 p) (v 0 0 + y) (v 0 1) (v 0 2)) + f k * (10 - c))) ((k - gos (v 1 p) (v 0 0 + y) (v 0 1) (v 0 2)) - 1))) dX1_miceEat_88 rfl rfl (by decide) rfl (by omega) (by decide) (by rw [ur_row]; exact hF2 _ (by omega)) ?_
        refine j_lload dX1_miceEat_89 rfl rfl ?_
        refine j_iload dX1_miceEat_91 rfl rfl ?_
        refine j_i2lN dX1_miceEat_93 rfl (by omega) ?_
        refine j_lmulN (c := (f k) * c) dX1_miceEat_94 rfl rfl ?_
        refine j_laddN (c := ((u1 (u1 f k 0) (k - gos (v 1 p) (v 0 0 + y) (v 0 1) (v 0 2)) ((u1 f k 0) (k - gos (v 1 p) (v 0 0 + y) (v 0 1) (v 0 2)) + f k * (10 - c))) ((k - gos (v 1 p) (v 0 0 + y) (v 0 1) (v 0 2)) - 1)) + ((f k) * c)) dX1_miceEat_95 rfl rfl ?_
        refine j_last (j := (k - gos (v 1 p) (v 0 0 + y) (v 0 1) (v 0 2)) - 1) dX1_miceEat_96 rfl rfl (by decide) rfl (by omega) (by decide) ?_
        rw [u2_ur]
        generalize eF3 : (fun j => if j = ((k - gos (v 1 p) (v 0 0 + y) (v 0 1) (v 0 2)) - 1) then lN ((u1 (u1 f k 0) (k - gos (v 1 p) (v 0 0 + y) (v 0 1) (v 0 2)) ((u1 f k 0) (k - gos (v 1 p) (v 0 0 + y) (v 0 1) (v 0 2)) + f k * (10 - c))) ((k - gos (v 1 p) (v 0 0 + y) (v 0 1) (v 0 2)) - 1) + f k * c) else F2 j) = F3
        have hF3 : ∀ j, j < 61 → F3 j = lN ((u1 (u1 (u1 f k 0) (k - gos (v 1 p) (v 0 0 + y) (v 0 1) (v 0 2)) ((u1 f k 0) (k - gos (v 1 p) (v 0 0 + y) (v 0 1) (v 0 2)) + f k * (10 - c))) ((k - gos (v 1 p) (v 0 0 + y) (v 0 1) (v 0 2)) - 1) ((u1 (u1 f k 0) (k - gos (v 1 p) (v 0 0 + y) (v 0 1) (v 0 2)) ((u1 f k 0) (k - gos (v 1 p) (v 0 0 + y) (v 0 1) (v 0 2)) + f k * (10 - c))) ((k - gos (v 1 p) (v 0 0 + y) (v 0 1) (v 0 2)) - 1) + f k * c)) j) := by rw [← eF3]; exact u1_lN hF2 _ _
        refine j_iincN (L' := [.ref 26, .ref 1, .int (nI p), .int (nI y), .int (nI c), .int (nI (k + 1)), .long (lN (f k)), jU, .int (nI (k - gos (v 1 p) (v 0 0 + y) (v 0 1) (v 0 2)))]) dX1_miceEat_97 rfl rfl (b := 1) rfl rfl rfl (by decide) rfl ?_
        refine j_goto (tgt := 3) dX1_miceEat_100 rfl ?_
        refine ih (k + 1) _ F3 _ _ _ (by omega) ?_ hr
        intro j hj
        rw [hF3 j hj]
        unfold meS
        rw [if_neg (by omega)]
      · refine j_aload_n dX1_miceEat_42 rfl rfl rfl ?_
        refine j_getP (b := 28) dX1_miceEat_43 rfl fX1_15 rfl (by decide) rfl rfl ?_
        refine j_iconst (v := nI 0) dX1_miceEat_46 rfl rfl ?_
        refine j_dup2 dX1_miceEat_47 rfl rfl rfl ?_
        refine j_lald (j := 0) (v := lN ((u1 f k 0) 0)) dX1_miceEat_48 rfl rfl (by decide) rfl (by decide) (by decide) (by rw [ur_row]; exact hF1 _ (by omega)) ?_
        refine j_lload dX1_miceEat_49 rfl rfl ?_
        refine j_ldc2 (v := lN 10) dX1_miceEat_51 rfl kX1_88 ?_
        refine j_lmulN (c := (f k) * 10) dX1_miceEat_54 rfl rfl ?_
        refine j_laddN (c := ((u1 f k 0) 0) + ((f k) * 10)) dX1_miceEat_55 rfl rfl ?_
        refine j_last (j := 0) dX1_miceEat_56 rfl rfl (by decide) rfl (by decide) (by decide) ?_
        rw [u2_ur]
        generalize eF2 : (fun j => if j = 0 then lN ((u1 f k 0) 0 + f k * 10) else F1 j) = F2
        have hF2 : ∀ j, j < 61 → F2 j = lN ((u1 (u1 f k 0) 0 ((u1 f k 0) 0 + f k * 10)) j) := by rw [← eF2]; exact u1_lN hF1 _ _
        refine j_goto (tgt := 97) dX1_miceEat_57 rfl ?_
        refine j_iincN (L' := [.ref 26, .ref 1, .int (nI p), .int (nI y), .int (nI c), .int (nI (k + 1)), .long (lN (f k)), jU, .int (nI (k - gos (v 1 p) (v 0 0 + y) (v 0 1) (v 0 2)))]) dX1_miceEat_97 rfl rfl (b := 1) rfl rfl rfl (by decide) rfl ?_
        refine j_goto (tgt := 3) dX1_miceEat_100 rfl ?_
        refine ih (k + 1) _ F2 _ _ _ (by omega) ?_ hr
        intro j hj
        rw [hF2 j hj]
        unfold meS
        rw [if_pos (by omega)]
  refine j_iconst (v := nI 0) dX1_miceEat_0 rfl rfl ?_
  refine j_istore (L' := [.ref 26, .ref 1, .int (nI p), .int (nI y), .int (nI c), .int (nI 0), jU, jU, jU]) dX1_miceEat_1 rfl rfl (by decide) rfl ?_
  rw [← ur_self J 28]
  exact loop 61 0 f _ _ _ _ rfl hF0 hT
set_option maxHeartbeats 4000000 in
set_option maxRecDepth 100000 in
theorem c_chanceWithMice {X : jX} {d n : Nat} {I : HI} {J : HJ} {i0 i1 : Option Nat} {Q : jPost} {v : VT} {yb : Nat} (hV : VC 1 I v) (hW : WF yb v) (hyb : yb ≤ 2 ^ 20) {p t c : Nat} (hp : p < v 0 3) (ht : t ≤ 12) (hc : c ≤ 10) (hQ : ∀ F, Q none n I (u2 (u2 (ur J 28 F) 32 0 (lN ((10 ^ t - chN v p c t 0) / Nat.gcd (10 ^ t - chN v p c t 0) (10 ^ t)))) 32 1 (lN (10 ^ t / Nat.gcd (10 ^ t - chN v p c t 0) (10 ^ t)))) (Pg i0 i1)) : Cj X (d + 4) 0 0 mX1_chanceWithMice [.ref 26, .ref 1, .int (nI p), .int (nI t), .int (nI c), .ref 32] n I J (Pg i0 i1) Q := by
  refine Cj.intro rfl (Nat.le_of_ble_eq_true rfl) (L := [.ref 26, .ref 1, .int (nI p), .int (nI t), .int (nI c), .ref 32, jU, jU, jU]) rfl ?_
  obtain ⟨⟨w0, w1, w2, w3, w4, w5, w6⟩, wp, wk, wc, wj⟩ := id hW
  obtain ⟨q1, q2, q3, q4, q5⟩ := wp p hp
  have loop2 : ∀ (r y ways : Nat) (F : Nat → Int64), y + r = t → ways = 10 ^ y → (∀ j, j < 61 → F j = lN (chN v p c y j)) → Rj X (d + 4) 0 0 mX1_chanceWithMice Q 45 [.ref 26, .ref 1, .int (nI p), .int (nI t), .int (nI c), .ref 32, .long (lN ways), jU, .int (nI y)] [] n I (ur J 28 F) (Pg i0 i1) := by
    intro r
    induction r with
    | zero =>
      intro y ways F hyr hwy hF
      have hc0 : chN v p c y 0 ≤ ways := by rw [hwy]; exact chN_0 hc q2
      have hw0 : 0 < ways := by rw [hwy]; exact Nat.pow_pos (by omega)
      have hw12 : ways ≤ 10 ^ 12 := by rw [hwy]; exact Nat.pow_le_pow_right (by omega) (by omega)
      refine j_iload dX1_chanceWithMice_45 rfl rfl ?_
      refine j_iload_n dX1_chanceWithMice_47 rfl rfl rfl ?_
      refine j_icmpgeN (tgt := 75) dX1_chanceWithMice_48 rfl rfl (by omega) (by omega) (fun h1 => ?_) (fun h1 => by exfalso; omega)
      refine j_aload dX1_chanceWithMice_75 rfl rfl ?_
      refine j_lload dX1_chanceWithMice_77 rfl rfl ?_
      refine j_aload_n dX1_chanceWithMice_79 rfl rfl rfl ?_
      refine j_getP (b := 28) dX1_chanceWithMice_80 rfl fX1_15 rfl (by decide) rfl rfl ?_
      refine j_iconst (v := nI 0) dX1_chanceWithMice_83 rfl rfl ?_
      refine j_lald (j := 0) (v := lN (chN v p c y 0)) dX1_chanceWithMice_84 rfl rfl (by decide) rfl (by decide) (by decide) (by rw [ur_row]; exact hF 0 (by omega)) ?_
      refine j_lsubN (c := ways - (chN v p c y 0)) dX1_chanceWithMice_85 rfl (by omega) rfl ?_
      refine j_lload dX1_chanceWithMice_86 rfl rfl ?_
      refine j_callVw (As := [.long (lN (ways - (chN v p c y 0))), .long (lN ways)]) dX1_chanceWithMice_88 rfl cX1_90 (by decide) rfl rfl (by decide) rfl (by decide) rfl rfl (c_set (Nat.sub_le _ _) hw0 hw12 ?_)
      show Rj _ _ _ _ _ _ 91 [.ref 26, .ref 1, .int (nI p), .int (nI t), .int (nI c), .ref 32, .long (lN ways), jU, .int (nI y)] [] n I (u2 (u2 (ur J 28 F) 32 0 (lN ((ways - chN v p c y 0) / Nat.gcd (ways - chN v p c y 0) ways))) 32 1 (lN (ways / Nat.gcd (ways - chN v p c y 0) ways))) (Pg i0 i1)
      refine j_vret dX1_chanceWithMice_91 rfl ?_
      have hyt : y = t := by omega
      subst hyt
      subst hwy
      exact hQ F
    | succ r ih =>
      intro y ways F hyr hwy hF
      refine j_iload dX1_chanceWithMice_45 rfl rfl ?_
      refine j_iload_n dX1_chanceWithMice_47 rfl rfl rfl ?_
      refine j_icmpgeN (tgt := 75) dX1_chanceWithMice_48 rfl rfl (by omega) (by omega) (fun h1 => by exfalso; omega) (fun h1 => ?_)
      refine j_aload_n dX1_chanceWithMice_51 rfl rfl rfl ?_
      refine j_aload_n dX1_chanceWithMice_52 rfl rfl rfl ?_
      refine j_iload_n dX1_chanceWithMice_53 rfl rfl rfl ?_
      refine j_iload dX1_chanceWithMice_54 rfl rfl ?_
      refine j_iload dX1_chanceWithMice_56 rfl rfl ?_
      refine j_callVw (As := [.ref 1, .int (nI p), .int (nI y), .int (nI c)]) dX1_chanceWithMice_58 rfl cX1_84 (by decide) rfl rfl (by decide) rfl (by decide) rfl rfl (c_miceEat (f := chN v p c y) (J := ur J 28 F) hV hW hyb hp (by omega) hc (fun j hj => by rw [ur_row]; exact hF j hj) rfl (fun F2 hF2 => ?_))
      rw [ur_ur]
      show Rj _ _ _ _ _ _ 61 [.ref 26, .ref 1, .int (nI p), .int (nI t), .int (nI c), .ref 32, .long (lN ways), jU, .int (nI y)] [] n I (ur J 28 F2) (Pg i0 i1)
      refine j_lload dX1_chanceWithMice_61 rfl rfl ?_
      refine j_ldc2 (v := lN 10) dX1_chanceWithMice_63 rfl kX1_88 ?_
      refine j_lmulN (c := ways * 10) dX1_chanceWithMice_66 rfl rfl ?_
      refine j_lstore (L' := [.ref 26, .ref 1, .int (nI p), .int (nI t), .int (nI c), .ref 32, .long (lN (ways * 10)), jU, .int (nI y)]) dX1_chanceWithMice_67 rfl rfl (by decide) rfl ?_
      refine j_iincN (L' := [.ref 26, .ref 1, .int (nI p), .int (nI t), .int (nI c), .ref 32, .long (lN (ways * 10)), jU, .int (nI (y + 1))]) dX1_chanceWithMice_69 rfl rfl (b := 1) rfl rfl rfl (by decide) rfl ?_
      refine j_goto (tgt := 45) dX1_chanceWithMice_72 rfl ?_
      refine ih (y + 1) _ F2 (by omega) (by rw [hwy, Nat.pow_succ]) (fun j hj => ?_)
      rw [hF2 j hj]
      have hm := meL_mo (g := gos (v 1 p) (v 0 0 + y) (v 0 1) (v 0 2)) (f := chN v p c y) hc 61 0 (chN v p c y) (fun _ => 0) (fun j => by rw [if_neg (by omega)]) (fun _ _ => rfl) j
      rw [hm, if_pos (by omega)]
      rfl
  have rest : ∀ (F : Nat → Int64) (k : Nat), (∀ j, j < 61 → F j = lN (chN v p c 0 j)) → Rj X (d + 4) 0 0 mX1_chanceWithMice Q 39 [.ref 26, .ref 1, .int (nI p), .int (nI t), .int (nI c), .ref 32, .int (nI k), jU, jU] [] n I (ur J 28 F) (Pg i0 i1) := by
    intro F k hF
    refine j_lconst (v := lN 1) dX1_chanceWithMice_39 rfl rfl ?_
    refine j_lstore (L' := [.ref 26, .ref 1, .int (nI p), .int (nI t), .int (nI c), .ref 32, .long (lN 1), jU, jU]) dX1_chanceWithMice_40 rfl rfl (by decide) rfl ?_
    refine j_iconst (v := nI 0) dX1_chanceWithMice_42 rfl rfl ?_
    refine j_istore (L' := [.ref 26, .ref 1, .int (nI p), .int (nI t), .int (nI c), .ref 32, .long (lN 1), jU, .int (nI 0)]) dX1_chanceWithMice_43 rfl rfl (by decide) rfl ?_
    exact loop2 t 0 1 F (by omega) rfl hF
  have loop1 : ∀ (r k : Nat) (F : Nat → Int64), k + r = 61 → (∀ j, j < k → F j = lN (chN v p c 0 j)) → Rj X (d + 4) 0 0 mX1_chanceWithMice Q 3 [.ref 26, .ref 1, .int (nI p), .int (nI t), .int (nI c), .ref 32, .int (nI k), jU, jU] [] n I (ur J 28 F) (Pg i0 i1) := by
    intro r
    induction r with
    | zero =>
      intro k F hkr hF
      refine j_iload dX1_chanceWithMice_3 rfl rfl ?_
      refine j_bipush (v := nI 60) dX1_chanceWithMice_5 rfl rfl ?_
      refine j_icmpgtN (tgt := 39) dX1_chanceWithMice_7 rfl rfl (by omega) (by decide) (fun h1 => ?_) (fun h1 => by exfalso; omega)
      exact rest F _ (fun j hj => hF j (by omega))
    | succ r ih =>
      intro k F hkr hF
      refine j_iload dX1_chanceWithMice_3 rfl rfl ?_
      refine j_bipush (v := nI 60) dX1_chanceWithMice_5 rfl rfl ?_
      refine j_icmpgtN (tgt := 39) dX1_chanceWithMice_7 rfl rfl (by omega) (by decide) (fun h1 => by exfalso; omega) (fun h1 => ?_)
      refine j_aload_n dX1_chanceWithMice_10 rfl rfl rfl ?_
      refine j_getP (b := 28) dX1_chanceWithMice_11 rfl fX1_15 rfl (by decide) rfl rfl ?_
      refine j_iload dX1_chanceWithMice_14 rfl rfl ?_
      refine j_iload dX1_chanceWithMice_16 rfl rfl ?_
      refine j_aload_n dX1_chanceWithMice_18 rfl rfl rfl ?_
      refine j_getP (b := 3) dX1_chanceWithMice_19 rfl fX1_31 rfl (by decide) rfl rfl ?_
      refine j_iload_n dX1_chanceWithMice_22 rfl rfl rfl ?_
      refine j_iald (j := p) (v := nI (v 2 p)) dX1_chanceWithMice_23 rfl rfl (by decide) rfl (by omega) (by decide) (hV.lv (by omega)) ?_
      suffices K3 : Rj X (d + 4) 0 0 mX1_chanceWithMice Q 32 [.ref 26, .ref 1, .int (nI p), .int (nI t), .int (nI c), .ref 32, .int (nI k), jU, jU] [.long (lN (if k = (v 2 p) then 1 else 0)), .int (nI k), .ref 28] n I (ur J 28 F) (Pg i0 i1) by
        refine j_icmpneN (tgt := 31) dX1_chanceWithMice_24 rfl rfl (by omega) (by omega) (fun h2 => ?_) (fun h2 => ?_)
        · refine j_lconst (v := lN 0) dX1_chanceWithMice_31 rfl rfl ?_
          rw [if_neg h2] at K3; exact K3
        · refine j_lconst (v := lN 1) dX1_chanceWithMice_27 rfl rfl ?_
          refine j_goto (tgt := 32) dX1_chanceWithMice_28 rfl ?_
          rw [if_pos h2] at K3; exact K3
      refine j_last (j := k) dX1_chanceWithMice_32 rfl rfl (by decide) rfl (by omega) (by decide) ?_
      refine j_iincN (L' := [.ref 26, .ref 1, .int (nI p), .int (nI t), .int (nI c), .ref 32, .int (nI (k + 1)), jU, jU]) dX1_chanceWithMice_33 rfl rfl (b := 1) rfl rfl rfl (by decide) rfl ?_
      refine j_goto (tgt := 3) dX1_chanceWithMice_36 rfl ?_
      rw [u2_ur]
      refine ih (k + 1) _ (by omega) (fun j hj => ?_)
      by_cases e : j = k
      · subst e; simp only [if_true]; rfl
      · simp only [if_neg e]; exact hF j (by omega)
  refine j_iconst (v := nI 0) dX1_chanceWithMice_0 rfl rfl ?_
  refine j_istore (L' := [.ref 26, .ref 1, .int (nI p), .int (nI t), .int (nI c), .ref 32, .int (nI 0), jU, jU]) dX1_chanceWithMice_1 rfl rfl (by decide) rfl ?_
  rw [← ur_self J 28]
  exact loop1 61 0 _ rfl (fun j hj => absurd hj (by omega))
