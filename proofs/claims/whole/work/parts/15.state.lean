/-! THE STATE: a valley as numbers: v 0 i: year, damp, dry, pairs, kin, counted, what may be undone; v 1 kinds, v 2 loaves, v 3 since, v 4 the year of the end and 1 (0: none), v 5 flour, v 6 .. v 8 what was counted; v (10 + j): the j-th newest that may be undone -/
abbrev VT : Type := Nat → Nat → Nat
/-- the class's valley at the cell b (its rows behind it) holds v -/
def VC (b : Nat) (I : HI) (v : VT) : Prop :=
  (I b 0 = nI (v 0 0) ∧ I b 1 = nI (v 0 1) ∧ I b 2 = nI (v 0 2) ∧ I b 3 = nI (v 0 3) ∧ I b 4 = nI (v 0 4) ∧ I b 5 = nI (v 0 5)) ∧
  (∀ p, p < v 0 3 → I (b + 1) p = nI (v 1 p) ∧ I (b + 2) p = nI (v 2 p) ∧ I (b + 3) p = nI (v 3 p) ∧ I (b + 4) p = nI (v 4 p) - 1) ∧
  (∀ k, k < v 0 4 → I (b + 5) k = nI (v 5 k)) ∧
  (∀ c, c < v 0 5 → I (b + 6) c = nI (v 6 c) ∧ I (b + 7) c = nI (v 7 c) ∧ I (b + 8) c = nI (v 8 c)) ∧
  (∃ fr, fr < 8 ∧ I (b + 9) 1 = nI fr ∧ I (b + 9) 2 = nI (v 0 6) ∧ ∀ j, j < v 0 6 → I (b + 10) (13 * ((fr + 7 - j) % 8)) = nI (v (10 + j) 0) ∧ ∀ p, p < v 0 3 → I (b + 10) (13 * ((fr + 7 - j) % 8) + 1 + p) = nI (v (10 + j) (1 + p)) ∧ I (b + 10) (13 * ((fr + 7 - j) % 8) + 7 + p) = nI (v (10 + j) (7 + p)) - 1)
theorem VC.year {b : Nat} {I : HI} {v : VT} (h : VC b I v) : I b 0 = nI (v 0 0) := h.1.1
theorem VC.damp {b : Nat} {I : HI} {v : VT} (h : VC b I v) : I b 1 = nI (v 0 1) := h.1.2.1
theorem VC.dry {b : Nat} {I : HI} {v : VT} (h : VC b I v) : I b 2 = nI (v 0 2) := h.1.2.2.1
theorem VC.pairs {b : Nat} {I : HI} {v : VT} (h : VC b I v) : I b 3 = nI (v 0 3) := h.1.2.2.2.1
theorem VC.kin {b : Nat} {I : HI} {v : VT} (h : VC b I v) : I b 4 = nI (v 0 4) := h.1.2.2.2.2.1
theorem VC.cnt {b : Nat} {I : HI} {v : VT} (h : VC b I v) : I b 5 = nI (v 0 5) := h.1.2.2.2.2.2
theorem VC.kd {b : Nat} {I : HI} {v : VT} (h : VC b I v) {p : Nat} (hp : p < v 0 3) : I (b + 1) p = nI (v 1 p) := (h.2.1 p hp).1
theorem VC.lv {b : Nat} {I : HI} {v : VT} (h : VC b I v) {p : Nat} (hp : p < v 0 3) : I (b + 2) p = nI (v 2 p) := (h.2.1 p hp).2.1
theorem VC.sn {b : Nat} {I : HI} {v : VT} (h : VC b I v) {p : Nat} (hp : p < v 0 3) : I (b + 3) p = nI (v 3 p) := (h.2.1 p hp).2.2.1
theorem VC.en {b : Nat} {I : HI} {v : VT} (h : VC b I v) {p : Nat} (hp : p < v 0 3) : I (b + 4) p = nI (v 4 p) - 1 := (h.2.1 p hp).2.2.2
theorem VC.fl {b : Nat} {I : HI} {v : VT} (h : VC b I v) {k : Nat} (hk : k < v 0 4) : I (b + 5) k = nI (v 5 k) := h.2.2.1 k hk
theorem VC.cp {b : Nat} {I : HI} {v : VT} (h : VC b I v) {k : Nat} (hk : k < v 0 5) : I (b + 6) k = nI (v 6 k) := (h.2.2.2.1 k hk).1
theorem VC.cm {b : Nat} {I : HI} {v : VT} (h : VC b I v) {k : Nat} (hk : k < v 0 5) : I (b + 7) k = nI (v 7 k) := (h.2.2.2.1 k hk).2.1
theorem VC.cv {b : Nat} {I : HI} {v : VT} (h : VC b I v) {k : Nat} (hk : k < v 0 5) : I (b + 8) k = nI (v 8 k) := (h.2.2.2.1 k hk).2.2
theorem VC.siz {b : Nat} {I : HI} {v : VT} (h : VC b I v) : I (b + 9) 2 = nI (v 0 6) := by obtain ⟨_, _, _, _, fr, _, _, h, _⟩ := h; exact h
/-- only the valley's own rows matter -/
theorem VC.congr {b : Nat} {I I' : HI} {v : VT} (h : VC b I v) (he : ∀ i, i ≤ 10 → I' (b + i) = I (b + i)) : VC b I' v := by
  have e0 := he 0 (by omega)
  simp only [Nat.add_zero] at e0
  unfold VC
  rw [e0, he 1 (by omega), he 2 (by omega), he 3 (by omega), he 4 (by omega), he 5 (by omega), he 6 (by omega), he 7 (by omega), he 8 (by omega), he 9 (by omega), he 10 (by omega)]
  exact h
/-- the model's valley in the row b from the place o on holds v -/
def VM (b o : Nat) (I : HI) (v : VT) : Prop :=
  (I b o = nI (v 0 3) ∧ I b (o + 1) = nI (v 0 4) ∧ I b (o + 2) = nI (v 0 0) ∧ I b (o + 3) = nI (v 0 1) ∧ I b (o + 4) = nI (v 0 2) ∧ I b (o + 5) = nI (v 0 5) ∧ I b (o + 6) = nI (v 0 6)) ∧
  (∀ p, p < v 0 3 → I b (o + 7 + p) = nI (v 1 p) ∧ I b (o + 13 + p) = nI (v 2 p) ∧ I b (o + 19 + p) = nI (v 3 p) ∧ I b (o + 25 + p) = nI (v 4 p) - 1) ∧
  (∀ k, k < v 0 4 → I b (o + 31 + k) = nI (v 5 k)) ∧
  (∀ c, c < v 0 5 → I b (o + 39 + 3 * c) = nI (v 6 c) ∧ I b (o + 40 + 3 * c) = nI (v 7 c) ∧ I b (o + 41 + 3 * c) = nI (v 8 c)) ∧
  (∀ j, j < v 0 6 → I b (o + 63 + 13 * (v 0 6 - 1 - j)) = nI (v (10 + j) 0) ∧ ∀ p, p < v 0 3 → I b (o + 64 + 13 * (v 0 6 - 1 - j) + p) = nI (v (10 + j) (1 + p)) ∧ I b (o + 70 + 13 * (v 0 6 - 1 - j) + p) = nI (v (10 + j) (7 + p)) - 1)
/-- the numbers are as told; y: no year is past it -/
def WF (y : Nat) (v : VT) : Prop :=
  (v 0 0 ≤ y ∧ v 0 1 ≤ 4095 ∧ v 0 2 ≤ 4095 ∧ v 0 3 ≤ 6 ∧ v 0 4 ≤ 8 ∧ v 0 5 ≤ 8 ∧ v 0 6 ≤ 8) ∧
  (∀ p, p < v 0 3 → v 1 p ≤ 5 ∧ v 2 p ≤ 60 ∧ v 3 p ≤ y ∧ v 4 p ≤ y + 1 ∧ (v 4 p = 0 ∨ v 2 p = 0)) ∧
  (∀ k, k < v 0 4 → 1 ≤ v 5 k ∧ v 5 k ≤ 20) ∧
  (∀ c, c < v 0 5 → v 6 c < v 0 3 ∧ v 7 c ≤ 60 ∧ v 8 c ≤ 60) ∧
  (∀ j, j < v 0 6 → v (10 + j) 0 ≤ y ∧ ∀ p, p < v 0 3 → v (10 + j) (1 + p) ≤ 60 ∧ v (10 + j) (7 + p) ≤ y + 1 ∧ (v (10 + j) (7 + p) = 0 ∨ v (10 + j) (1 + p) = 0))
theorem WF.mono {y z : Nat} {v : VT} (h : WF y v) (hz : y ≤ z) : WF z v := by
  obtain ⟨⟨a, a'⟩, b, c, d, e⟩ := h
  refine ⟨⟨by omega, a'⟩, fun p hp => ?_, c, d, fun j hj => ?_⟩
  · obtain ⟨h1, h2, h3, h4, h5⟩ := b p hp
    exact ⟨h1, h2, by omega, by omega, h5⟩
  · obtain ⟨h1, h2⟩ := e j hj
    refine ⟨by omega, fun p hp => ?_⟩
    obtain ⟨q1, q2, q3⟩ := h2 p hp
    exact ⟨q1, by omega, q3⟩
/-! the references that never change, and the two images -/
def jPr : List (List (Option Nat)) := [[some 1, some 12, some 13, some 26, some 29, some 30, some 32], [none, none, none, none, none, none, some 2, some 3, some 4, some 5, some 6, some 7, some 8, some 9, some 10], [], [], [], [], [], [], [], [], [some 11], [], [], [some 14, none, some 15], [], [none, none, none, none, none, none, some 16, some 17, some 18, some 19, some 20, some 21, some 22, some 23, some 24], [], [], [], [], [], [], [], [], [some 25], [], [some 27, some 28], [], [], [], [some 31], [], [], [some 34, some 35, some 36, some 37, none, some 38, none, none, none, none, none, none, none, none, some 39, some 40, some 41, none, none, none, some 42, some 43], [], [], [], [], [], [], [], [], [], [], [none, none, none, none, none, none, some 45, some 46, some 47, some 48, some 49, some 50, some 51, some 52, some 53], [], [], [], [], [], [], [], [], [some 54], [], [none, none, none, none, none, none, some 56, some 57, some 58, some 59, some 60, some 61, some 62, some 63, some 64], [], [], [], [], [], [], [], [], [some 65], []]
def Pg (i0 i1 : Option Nat) : HP := fun a k => if a = 12 then (if k = 0 then i0 else if k = 1 then i1 else none) else (jPr.getD a []).getD k none
/-- within two bounds, as the class and the model ask it -/
def inR (a lo hi : Int32) : Prop := ¬ a < lo ∧ ¬ hi < a
def hasP (a : Int32) (np : Nat) : Prop := ¬ a < 0 ∧ ¬ nI np ≤ a
theorem inR_nat {a : Int32} {l h : Nat} (hl : l < 2 ^ 31) (hh : h < 2 ^ 31) (q : inR a (nI l) (nI h)) : ∃ j, a = nI j ∧ l ≤ j ∧ j ≤ h := by
  obtain ⟨q1, q2⟩ := q
  rw [Int32.lt_iff_toInt_lt, nI_toInt hl] at q1
  rw [Int32.lt_iff_toInt_lt, nI_toInt hh] at q2
  obtain ⟨j, hj, rfl⟩ := nI_of (x := a) (by rw [Int32.lt_iff_toInt_lt, Int32.toInt_zero]; omega)
  rw [nI_toInt hj] at q1 q2
  exact ⟨j, rfl, by omega, by omega⟩
theorem inR_N {j l h : Nat} (hj : j < 2 ^ 31) (hl : l < 2 ^ 31) (hh : h < 2 ^ 31) : inR (nI j) (nI l) (nI h) ↔ l ≤ j ∧ j ≤ h := by
  unfold inR
  rw [nI_ltI hj hl, nI_ltI hh hj]
  omega
theorem hasP_nat {a : Int32} {np : Nat} (hn : np < 2 ^ 31) (q : hasP a np) : ∃ j, a = nI j ∧ j < np := by
  obtain ⟨j, hj, rfl⟩ := nI_of (x := a) q.1
  have := q.2
  rw [nI_leI hn hj] at this
  exact ⟨j, rfl, by omega⟩
theorem hasP_N {j np : Nat} (hj : j < np) (hn : np < 2 ^ 31) : hasP (nI j) np := by
  refine ⟨nI_pos (by omega), ?_⟩
  rw [nI_leI hn (by omega)]
  omega
theorem hasP_in {a : Int32} {np : Nat} (hn : np < 2 ^ 31) : inR a (nI 0) (nI np - 1) ↔ hasP a np := by
  unfold inR hasP
  have h1 : (nI np - 1).toInt = (np : Int) - 1 := by
    cases np with
    | zero => rfl
    | succ m => rw [nI_pred, nI_toInt (by omega)]; omega
  rw [Int32.lt_iff_toInt_lt, Int32.lt_iff_toInt_lt, Int32.lt_iff_toInt_lt, Int32.le_iff_toInt_le, h1, nI_toInt hn, Int32.toInt_zero, show (nI 0).toInt = 0 from rfl]
  omega
/-- loaves less what goes -/
theorem mx0 {a b : Nat} (ha : a < 2 ^ 30) (hb : b < 2 ^ 30) : (if nI 0 < nI a - nI b then nI a - nI b else nI 0) = nI (a - b) := by
  have h := pk_sub_toInt ha hb
  by_cases hab : b ≤ a
  · rw [pk_sub hab]
    split
    · rfl
    · next q =>
      rw [nI_ltI (by omega) (by omega)] at q
      congr 1
      omega
  · have h1 : ¬ nI 0 < nI a - nI b := by
      rw [Int32.lt_iff_toInt_lt, h, show (nI 0).toInt = 0 from rfl]
      omega
    rw [if_neg h1]
    congr 1
    omega
