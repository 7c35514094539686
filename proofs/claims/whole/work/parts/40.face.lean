/-- all that a face may tell -/
abbrev SS : Type := VT × Nat × (Nat → Nat) × Int32 × Int32 × Int32 × Nat × Nat × Option VT × Option VT
abbrev SS.v (S : SS) : VT := S.1
abbrev SS.tl (S : SS) : Nat := S.2.1
abbrev SS.tx (S : SS) : Nat → Nat := S.2.2.1
abbrev SS.r0 (S : SS) : Int32 := S.2.2.2.1
abbrev SS.r1 (S : SS) : Int32 := S.2.2.2.2.1
abbrev SS.r2 (S : SS) : Int32 := S.2.2.2.2.2.1
abbrev SS.up (S : SS) : Nat := S.2.2.2.2.2.2.1
abbrev SS.lo (S : SS) : Nat := S.2.2.2.2.2.2.2.1
abbrev SS.k0 (S : SS) : Option VT := S.2.2.2.2.2.2.2.2.1
abbrev SS.k1 (S : SS) : Option VT := S.2.2.2.2.2.2.2.2.2
def imK (i : Option Nat) (k : Option VT) (I : HI) : Prop := (i = none ∧ k = none) ∨ ∃ a u, i = some a ∧ k = some u ∧ VC a I u
def IM (S : SS) (n : Nat) (i0 i1 : Option Nat) (I : HI) : Prop := imK i0 S.k0 I ∧ imK i1 S.k1 I ∧
  ((n = 44 ∧ i0 = none ∧ i1 = none) ∨ (n = 55 ∧ ((i0 = some 44 ∧ i1 = none) ∨ (i0 = none ∧ i1 = some 44))) ∨ (n = 66 ∧ ((i0 = some 44 ∧ i1 = some 55) ∨ (i0 = some 55 ∧ i1 = some 44))))
/-- the class's cells tell S -/
def CI (S : SS) (n : Nat) (i0 i1 : Option Nat) (I : HI) (J : HJ) : Prop :=
  VC 1 I S.v ∧ (∃ w, VC 15 I w) ∧ RS I S.tl S.tx ∧ (I 0 7 = S.r0 ∧ I 0 8 = S.r1 ∧ I 0 9 = S.r2) ∧ (J 32 0 = lN S.up ∧ J 32 1 = lN S.lo) ∧ IM S n i0 i1 I
theorem CI.v {S : SS} {n : Nat} {i0 i1 : Option Nat} {I : HI} {J : HJ} (h : CI S n i0 i1 I J) : VC 1 I S.v := h.1
theorem CI.w {S : SS} {n : Nat} {i0 i1 : Option Nat} {I : HI} {J : HJ} (h : CI S n i0 i1 I J) : ∃ w, VC 15 I w := h.2.1
theorem CI.t {S : SS} {n : Nat} {i0 i1 : Option Nat} {I : HI} {J : HJ} (h : CI S n i0 i1 I J) : RS I S.tl S.tx := h.2.2.1
theorem CI.r {S : SS} {n : Nat} {i0 i1 : Option Nat} {I : HI} {J : HJ} (h : CI S n i0 i1 I J) : I 0 7 = S.r0 ∧ I 0 8 = S.r1 ∧ I 0 9 = S.r2 := h.2.2.2.1
theorem CI.f {S : SS} {n : Nat} {i0 i1 : Option Nat} {I : HI} {J : HJ} (h : CI S n i0 i1 I J) : J 32 0 = lN S.up ∧ J 32 1 = lN S.lo := h.2.2.2.2.1
theorem CI.k {S : SS} {n : Nat} {i0 i1 : Option Nat} {I : HI} {J : HJ} (h : CI S n i0 i1 I J) : IM S n i0 i1 I := h.2.2.2.2.2
/-- the model's cells are as they were -/
def MF (I : HI) (J : HJ) (I' : HI) (J' : HJ) : Prop := ∀ a, 33 ≤ a → a ≤ 43 → I' a = I a ∧ J' a = J a
theorem MF.rf {I : HI} {J : HJ} : MF I J I J := fun _ _ _ => ⟨rfl, rfl⟩
theorem MF.trans {I I1 I2 : HI} {J J1 J2 : HJ} (h : MF I J I1 J1) (h2 : MF I1 J1 I2 J2) : MF I J I2 J2 := fun a h3 h4 => ⟨(h2 a h3 h4).1.trans (h a h3 h4).1, (h2 a h3 h4).2.trans (h a h3 h4).2⟩
def SS.sta (S : SS) (a b c : Int32) : SS := (S.v, S.tl, S.tx, a, b, c, S.up, S.lo, S.k0, S.k1)
def SS.bad (S : SS) : SS := S.sta (S.r0 + nI 1) S.r1 S.r2
def SS.no (S : SS) : SS := S.sta S.r0 (S.r1 + nI 1) S.r2
def SS.full (S : SS) : SS := S.sta S.r0 S.r1 (S.r2 + nI 1)
def SS.set (S : SS) (v : VT) : SS := (v, S.tl, S.tx, S.r0, S.r1, S.r2, S.up, S.lo, S.k0, S.k1)
def SS.txt (S : SS) (l : Nat) (t : Nat → Nat) : SS := (S.v, l, t, S.r0, S.r1, S.r2, S.up, S.lo, S.k0, S.k1)
def SS.frc (S : SS) (a b : Nat) : SS := (S.v, S.tl, S.tx, S.r0, S.r1, S.r2, a, b, S.k0, S.k1)
def SS.img (S : SS) (a b : Option VT) : SS := (S.v, S.tl, S.tx, S.r0, S.r1, S.r2, S.up, S.lo, a, b)
/-- what a face leaves -/
def CP (Q : jPost) (T : SS × Int32) (I : HI) (J : HJ) : Prop := ∀ n i0 i1 I' J', CI T.1 n i0 i1 I' J' → MF I J I' J' → Q (some (.int T.2)) n I' J' (Pg i0 i1)
theorem IM.congr {S : SS} {n : Nat} {i0 i1 : Option Nat} {I I' : HI} (h : IM S n i0 i1 I) (he : ∀ a, 44 ≤ a → I' a = I a) : IM S n i0 i1 I' := by
  obtain ⟨h0, h1, h2⟩ := h
  have hk : ∀ i k, (∀ a, i = some a → 44 ≤ a) → imK i k I → imK i k I' := by
    intro i k ha hk
    rcases hk with hk | ⟨a, u, e1, e2, e3⟩
    · exact Or.inl hk
    · exact Or.inr ⟨a, u, e1, e2, e3.congr (fun j _ => he _ (by have := ha a e1; omega))⟩
  refine ⟨hk _ _ (fun a e => ?_) h0, hk _ _ (fun a e => ?_) h1, h2⟩
  · rcases h2 with ⟨_, h2, _⟩ | ⟨_, ⟨h2, _⟩ | ⟨h2, _⟩⟩ | ⟨_, ⟨h2, _⟩ | ⟨h2, _⟩⟩ <;> rw [h2] at e <;> cases e <;> omega
  · rcases h2 with ⟨_, _, h2⟩ | ⟨_, ⟨_, h2⟩ | ⟨_, h2⟩⟩ | ⟨_, ⟨_, h2⟩ | ⟨_, h2⟩⟩ <;> rw [h2] at e <;> cases e <;> omega
/-- only what is told matters -/
theorem CI.congr {S : SS} {n : Nat} {i0 i1 : Option Nat} {I I' : HI} {J J' : HJ} (h : CI S n i0 i1 I J) (he : ∀ a, (a ≤ 25 ∨ 44 ≤ a) → I' a = I a) (hj : J' 32 = J 32) : CI S n i0 i1 I' J' := by
  refine ⟨h.v.congr (fun i _ => he _ (by omega)), h.w.imp (fun w hw => hw.congr (fun i _ => he _ (by omega))), ?_, ?_, ?_, h.k.congr (fun a ha => he a (Or.inr ha))⟩
  · have := h.t
    unfold RS at this ⊢
    rw [he 13 (by omega), he 14 (by omega)]
    exact this
  · rw [he 0 (by omega)]; exact h.r
  · rw [hj]; exact h.f
theorem CI.one {S : SS} {n : Nat} {i0 i1 : Option Nat} {I I' : HI} {J : HJ} {v : VT} (h : CI S n i0 i1 I J) (hv : VC 1 I' v) (ho : Ot 1 I I') : CI (S.set v) n i0 i1 I' J := by
  refine ⟨hv, h.w.imp (fun w hw => hw.congr (fun i _ => ho _ (by omega))), ?_, ?_, h.f, h.k.congr (fun a ha => ho a (by omega))⟩
  · have := h.t
    unfold RS at this ⊢
    rw [ho 13 (by omega), ho 14 (by omega)]
    exact this
  · rw [ho 0 (by omega)]; exact h.r
theorem Ot.mf {I I' : HI} {J : HJ} (ho : Ot 1 I I') : MF I J I' J := fun a h1 h2 => ⟨ho a (by omega), rfl⟩
theorem CI.sta {S : SS} {n : Nat} {i0 i1 : Option Nat} {I : HI} {J : HJ} {k : Nat} {x a b c : Int32} (h : CI S n i0 i1 I J) (e : u2 I 0 k x 0 7 = a ∧ u2 I 0 k x 0 8 = b ∧ u2 I 0 k x 0 9 = c) : CI (S.sta a b c) n i0 i1 (u2 I 0 k x) J := by
  have hn : ∀ a, a ≠ 0 → u2 I 0 k x a = I a := fun a ha => u2_ne _ _ _ ha
  refine ⟨h.v.congr (fun i _ => hn _ (by omega)), h.w.imp (fun w hw => hw.congr (fun i _ => hn _ (by omega))), ?_, e, h.f, h.k.congr (fun a ha => hn a (by omega))⟩
  have := h.t
  unfold RS at this ⊢
  rw [hn 13 (by omega), hn 14 (by omega)]
  exact this
theorem CI.bad {S : SS} {n : Nat} {i0 i1 : Option Nat} {I : HI} {J : HJ} (h : CI S n i0 i1 I J) : CI S.bad n i0 i1 (u2 I 0 7 (I 0 7 + nI 1)) J :=
  h.sta ⟨by rw [u2_self, h.r.1], by rw [u2_ne2 _ _ _ (by decide)]; exact h.r.2.1, by rw [u2_ne2 _ _ _ (by decide)]; exact h.r.2.2⟩
theorem CI.no {S : SS} {n : Nat} {i0 i1 : Option Nat} {I : HI} {J : HJ} (h : CI S n i0 i1 I J) : CI S.no n i0 i1 (u2 I 0 8 (I 0 8 + nI 1)) J :=
  h.sta ⟨by rw [u2_ne2 _ _ _ (by decide)]; exact h.r.1, by rw [u2_self, h.r.2.1], by rw [u2_ne2 _ _ _ (by decide)]; exact h.r.2.2⟩
theorem CI.full {S : SS} {n : Nat} {i0 i1 : Option Nat} {I : HI} {J : HJ} (h : CI S n i0 i1 I J) : CI S.full n i0 i1 (u2 I 0 9 (I 0 9 + nI 1)) J :=
  h.sta ⟨by rw [u2_ne2 _ _ _ (by decide)]; exact h.r.1, by rw [u2_ne2 _ _ _ (by decide)]; exact h.r.2.1, by rw [u2_self, h.r.2.2]⟩
theorem MF.sta {I : HI} {J : HJ} {k : Nat} {x : Int32} : MF I J (u2 I 0 k x) J := fun a h1 h2 => ⟨u2_ne _ _ _ (by omega), rfl⟩
abbrev inA (a lo hi : Int32) : Prop := ¬ a < lo ∧ ¬ hi < a
abbrev hasA (a : Int32) (np : Nat) : Prop := ¬ a < 0 ∧ ¬ nI np ≤ a
/-- a number that is not below nothing -/
abbrev tN (a : Int32) : Nat := a.toNatClampNeg
theorem tN_nI {j : Nat} (h : j < 2 ^ 30) : tN (nI j) = j := (jin (len := j + 1) rfl (Nat.lt_succ_self j) (by omega)).2
/-! what the faces answer -/
def oValley (S : SS) : SS × Int32 := (S.set (vZ S.v), nI (S.v 0 3))
def oDamp (k : Nat) (S : SS) (a : Int32) : SS × Int32 := if inA a (nI 0) (nI 4095) then (S.set (vSet S.v k (tN a)), nI (S.v 0 k)) else (S.bad, -2)
def oPair (S : SS) (a b : Int32) : SS × Int32 := if inA a (nI 0) (nI 5) ∧ inA b (nI 0) (nI 60) then (if S.v 0 3 = 6 then (S.full, -4) else (S.set (vPair S.v (tN a) (tN b)), nI (S.v 0 3))) else (S.bad, -2)
def oKin (S : SS) (a : Int32) : SS × Int32 := if inA a (nI 1) (nI 20) then (if S.v 0 4 = 8 then (S.full, -4) else (S.set (vKin S.v (tN a)), nI (S.v 0 4))) else (S.bad, -2)
def oType (S : SS) (a : Int32) : SS × Int32 := if inA a (nI 0) (nI 127) then (if S.tl = 150 then (S.full, -4) else (S.txt (S.tl + 1) (fun i => if i = S.tl then tN a else S.tx i), nI (S.tl + 1))) else (S.bad, -2)
def oClear (S : SS) : SS × Int32 := (S.txt 0 S.tx, nI S.tl)
def oRead (S : SS) : SS × Int32 := match rdA S.tx S.tl (vZ (fun _ _ => 0)) with
  | (some k, _, w) => (S.set w, nI k)
  | (none, g, _) => (S, -10 - nI g)
