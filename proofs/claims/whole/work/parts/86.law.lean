theorem j_less {X : jX} {d bc bs bc' bs' : Nat} {M : MD} {Q : jPost} {pc : Nat} {L st : List Value} {n : Nat} {I : HI} {J : HJ} {P : HP} (h1 : bc' ≤ bc) (h2 : bs' ≤ bs) (k : Rj X d bc' bs' M Q pc L st n I J P) : Rj X d bc bs M Q pc L st n I J P := by
  intro A D tc p l e R s m args below meth c H locs cells slots Z ls ad hF hR hD hf2 hend
  exact k A D tc p l e R s m args below meth c H locs cells slots Z ls ad hF ⟨hR.1, hR.2.1, by have := hR.2.2.1; omega, by have := hR.2.2.2; omega⟩ hD hf2 hend
theorem j_sldN {X : jX} {d bc bs : Nat} {M : MD} {Q : jPost} {pc : Nat} {L st : List Value} {n : Nat} {I : HI} {J : HJ} {P : HP} {pc' i : Nat} (hd : decode M.2.1 pc = .ok (.iaload, 1)) (hp : pc + 1 = pc') (hi : i < X.1) (hX : X.1 ≤ 320) (kk : Rj X d bc bs M Q pc' L (.int (X.2 i) :: st) n I J P) : Rj X d bc bs M Q pc L (.int (nI i) :: .ref 1200 :: st) n I J P := by
  obtain ⟨h1, h2⟩ := jin (len := X.1) (rfl : nI i = nI i) hi (by omega)
  exact j_sload hd hp h1 (by rw [h2]; exact kk)
theorem and31 (x : Int32) : ∃ t, t < 32 ∧ x &&& nI 31 = nI t := by
  refine ⟨(x &&& nI 31).toBitVec.toNat, ?_, ?_⟩
  · have h : (x &&& nI 31).toBitVec = x.toBitVec &&& (nI 31).toBitVec := rfl
    rw [h, BitVec.toNat_and]
    exact Nat.lt_of_le_of_lt Nat.and_le_right (by decide)
  · apply Int32.toBitVec_inj.mp
    rw [nI_bv, BitVec.ofNat_toNat, BitVec.setWidth_eq]
def Good (yb : Nat) (S : SS) : Prop := WF yb S.v ∧ ∀ u, (S.k0 = some u ∨ S.k1 = some u) → WF yb u
theorem Good.mono {y z : Nat} {S : SS} (h : Good y S) (hz : y ≤ z) : Good z S := ⟨h.1.mono hz, fun u hu => (h.2 u hu).mono hz⟩
theorem Good.bad {y : Nat} {S : SS} (h : Good y S) : Good y S.bad := h
theorem Good.no {y : Nat} {S : SS} (h : Good y S) : Good y S.no := h
theorem Good.full {y : Nat} {S : SS} (h : Good y S) : Good y S.full := h
theorem Good.set {y : Nat} {S : SS} {v : VT} (h : Good y S) (hv : WF y v) : Good y (S.set v) := ⟨hv, h.2⟩
theorem Good.txt {y : Nat} {S : SS} {l : Nat} {t : Nat → Nat} (h : Good y S) : Good y (S.txt l t) := h
theorem Good.frc {y : Nat} {S : SS} {a b : Nat} (h : Good y S) : Good y (S.frc a b) := h
theorem Good.up {y : Nat} {S : SS} (h : Good y S) : Good (y + 60) S := h.mono (by omega)
theorem tN_le {a : Int32} {l h : Nat} (hl : l < 2 ^ 30) (hh : h < 2 ^ 30) (q : inA a (nI l) (nI h)) : l ≤ tN a ∧ tN a ≤ h := by
  obtain ⟨j, rfl, h1, h2⟩ := inR_nat (by omega) (by omega) (show inR a (nI l) (nI h) from q)
  rw [tN_nI (by omega)]
  exact ⟨h1, h2⟩
theorem tN_lt {a : Int32} {np : Nat} (hn : np < 2 ^ 30) (q : hasA a np) : tN a < np := by
  obtain ⟨j, rfl, h1⟩ := hasP_nat (by omega) (show hasP a np from q)
  rw [tN_nI (by omega)]
  exact h1
theorem WF_yrN : ∀ (r y e : Nat) (v : VT), WF y v → WF (y + r) (yrN r v e).1
  | 0, y, e, v, h => h
  | r + 1, y, e, v, h => by
    have := WF_yrN r (y + 1) (e ||| endB v 0 (v 2) (v 0 3)) (vYear v) (WF_year h)
    rw [show y + (r + 1) = y + 1 + r by omega]
    exact this
theorem gd_oOf {y : Nat} {S : SS} {a b : Int32} (h : Good y S) : Good (y + 60) (oOf S a b).1 := by
  unfold oOf
  split
  · exact h.up
  · exact h.up
theorem gd_oLeft {y : Nat} {S : SS} {a b : Int32} (h : Good y S) : Good (y + 60) (oLeft S a b).1 := by
  unfold oLeft
  split
  · exact h.up
  · exact h.up
theorem gd_oTill {y : Nat} {S : SS} {a : Int32} (h : Good y S) : Good (y + 60) (oTill S a).1 := by
  unfold oTill
  split
  · exact h.up
  · exact h.up
theorem gd_oTog {y : Nat} {S : SS} {a : Int32} (h : Good y S) : Good (y + 60) (oTog S a).1 := by
  unfold oTog
  split
  · exact h.up
  · exact h.up
theorem gd_oGifts {y : Nat} {S : SS} {a b c e : Int32} (h : Good y S) : Good (y + 60) (oGifts S a b c e).1 := by
  unfold oGifts
  split
  · exact h.up
  · exact h.up
theorem gd_oDrt {y : Nat} {S : SS} {a : Int32} (h : Good y S) : Good (y + 60) (oDrt S a).1 := by
  unfold oDrt
  split
  · exact h.up
  · exact h.up
theorem gd_oIs {y : Nat} {S : SS} {a : Int32} (h : Good y S) : Good (y + 60) (oIs S a).1 := by
  unfold oIs
  split
  · exact h.up
  · exact h.up
theorem gd_oNext {y : Nat} {S : SS} {a : Int32} (h : Good y S) : Good (y + 60) (oNext S a).1 := by
  unfold oNext
  split
  · exact h.up
  · exact h.up
theorem gd_oSwap {y : Nat} {S : SS} {a : Int32} (h : Good y S) : Good (y + 60) (oSwap S a).1 := by
  unfold oSwap
  split
  · exact h.up
  · exact h.up
theorem gd_oBack {y : Nat} {S : SS} (h : Good y S) : Good (y + 60) (oBack S ).1 := h.up
theorem gd_oCrusts {y : Nat} {S : SS} {a b : Int32} (h : Good y S) : Good (y + 60) (oCrusts S a b).1 := by
  unfold oCrusts
  split
  · exact h.up
  · exact h.up
theorem gd_oYears {y : Nat} {S : SS} {a b c : Int32} (h : Good y S) : Good (y + 60) (oYears S a b c).1 := by
  unfold oYears
  split
  · exact h.up
  · exact h.up
theorem gd_oStatus {y : Nat} {S : SS} {a : Int32} (h : Good y S) : Good (y + 60) (oStatus S a).1 := by
  unfold oStatus
  split
  · exact h.up
  · exact h.up
theorem gd_oCount {y : Nat} {S : SS} {a : Int32} (h : Good y S) : Good (y + 60) (oCount S a).1 := by
  unfold oCount
  split
  · exact h.up
  · exact h.up
theorem gd_oPart {y : Nat} {S : SS} {a : Int32} (h : Good y S) : Good (y + 60) (oPart S a).1 := by
  unfold oPart
  split
  · exact h.up
  · exact h.up
theorem gd_oValley {y : Nat} {S : SS} (h : Good y S) : Good (y + 60) (oValley S).1 := h.up.set (WF_Z _ _)
theorem gd_oDamp {y k : Nat} {S : SS} {a : Int32} (hk : 1 ≤ k) (hk2 : k ≤ 2) (h : Good y S) : Good (y + 60) (oDamp k S a).1 := by
  unfold oDamp
  split
  · next q => exact h.up.set (WF_set h.up.1 hk hk2 (tN_le (by omega) (by omega) q).2)
  · exact h.up
theorem gd_oPair {y : Nat} {S : SS} {a b : Int32} (h : Good y S) : Good (y + 60) (oPair S a b).1 := by
  unfold oPair
  split
  · next q =>
    split
    · exact h.up
    · next q2 =>
      have := h.1.1.2.2.2.1
      exact h.up.set (WF_pair h.up.1 (by omega) (tN_le (by omega) (by omega) q.1).2 (tN_le (by omega) (by omega) q.2).2)
  · exact h.up
theorem gd_oKin {y : Nat} {S : SS} {a : Int32} (h : Good y S) : Good (y + 60) (oKin S a).1 := by
  unfold oKin
  split
  · next q =>
    split
    · exact h.up
    · next q2 =>
      have := h.1.1.2.2.2.2.1
      exact h.up.set (WF_kin h.up.1 (by omega) (tN_le (by omega) (by omega) q).1 (tN_le (by omega) (by omega) q).2)
  · exact h.up
theorem gd_oType {y : Nat} {S : SS} {a : Int32} (h : Good y S) : Good (y + 60) (oType S a).1 := by
  unfold oType
  split
  · split
    · exact h.up
    · exact h.up.txt
  · exact h.up
theorem gd_oClear {y : Nat} {S : SS} (h : Good y S) : Good (y + 60) (oClear S).1 := h.up.txt
theorem gd_oRead {y : Nat} {S : SS} (h : Good y S) : Good (y + 60) (oRead S).1 := by
  have hW := rdA_WF (tx := S.tx) (tl := S.tl) (WF_Z (y + 60) (fun _ _ => 0))
  unfold oRead
  split
  · next k g w e =>
    rw [e] at hW
    exact h.up.set hW
  · exact h.up
theorem gd_oYear {y : Nat} {S : SS} {a : Int32} (h : Good y S) : Good (y + 60) (oYear S a).1 := by
  unfold oYear
  split
  · next q => exact h.up.set ((WF_yrN (tN a) y 0 S.v h.1).mono (by have := (tN_le (by omega) (by omega) q).2; omega))
  · exact h.up
theorem gd_oGive {y : Nat} {S : SS} {a b : Int32} (h : Good y S) : Good (y + 60) (oGive S a b).1 := by
  have h6 := h.1.1.2.2.2.1
  unfold oGive
  split
  · next q =>
    split
    · exact h.up
    · next q2 =>
      have hp := tN_lt (by omega) q.1
      have hz := (h.1.2.1 _ hp).2.2.2.2
      have hx : inA (nI (S.v 2 (tN a)) + b) (nI 1) (nI 60) := Decidable.not_not.mp (fun z => q2 (Or.inr z))
      have hn : ¬ S.v 2 (tN a) = 0 := fun z => q2 (Or.inl z)
      exact h.up.set (WF_give h.up.1 hp (hz.resolve_right hn) (tN_le (by omega) (by omega) hx).2)
  · exact h.up
theorem gd_oUndo {y : Nat} {S : SS} (h : Good y S) : Good (y + 60) (oUndo S).1 := by
  unfold oUndo
  split
  · exact h.up
  · next q => exact h.up.set (WF_pop h.up.1 (by omega))
theorem gd_oCnt {y : Nat} {S : SS} {a b c : Int32} (h : Good y S) : Good (y + 60) (oCnt S a b c).1 := by
  have h6 := h.1.1.2.2.2.1
  have h8 := h.1.1.2.2.2.2.2.1
  unfold oCnt
  split
  · next q =>
    split
    · exact h.up
    · next q2 => exact h.up.set (WF_cnt h.up.1 (by omega) (tN_lt (by omega) q.1) (tN_le (by omega) (by omega) q.2.1).2 (tN_le (by omega) (by omega) q.2.2).2)
  · exact h.up
theorem gd_oForget {y : Nat} {S : SS} (h : Good y S) : Good (y + 60) (oForget S).1 := h.up.set (WF_forget h.up.1)
theorem gd_oMice {y : Nat} {S : SS} {a b c : Int32} (h : Good y S) : Good (y + 60) (oMice S a b c).1 := by
  unfold oMice
  split
  · exact h.up.frc
  · exact h.up
theorem gd_oImage {y : Nat} {S : SS} {a : Int32} (h : Good y S) : Good (y + 60) (oImage S a).1 := by
  have h2 := h.up
  unfold oImage
  split
  · simp only
    split
    · refine ⟨h2.1, fun u hu => ?_⟩
      rcases hu with e | e
      · have e : some S.v = some u := e
        injection e with e; rw [← e]; exact h2.1
      · exact h2.2 u (Or.inr e)
    · refine ⟨h2.1, fun u hu => ?_⟩
      rcases hu with e | e
      · exact h2.2 u (Or.inl e)
      · have e : some S.v = some u := e
        injection e with e; rw [← e]; exact h2.1
  · exact h2
theorem gd_oFrom {y : Nat} {S : SS} {a : Int32} (h : Good y S) : Good (y + 60) (oFrom S a).1 := by
  have h2 := h.up
  unfold oFrom
  split
  · split
    · next u e =>
      refine h2.set (h2.2 u ?_)
      by_cases q : tN a = 0
      · rw [if_pos q] at e; exact Or.inl e
      · rw [if_neg q] at e; exact Or.inr e
    · exact h2
  · exact h2
theorem CI.cf {S : SS} {n : Nat} {i0 i1 : Option Nat} {I I' : HI} {J J' : HJ} (h : CI S n i0 i1 I J) (k : CF I J I' J') : CI S n i0 i1 I' J' := h.congr (fun a ha => (k a (by omega)).1) (k 32 (by omega)).2
theorem MI.mf {S : SS} {I I' : HI} {J J' : HJ} (h : MI S I J) (k : MF I J I' J') : MI S I' J' := h.scr (fun a h1 h2 _ => (k a (by omega) (by omega)).1) (by rw [(k 33 (by omega) (by omega)).1]) (by rw [(k 33 (by omega) (by omega)).2]) (by rw [(k 33 (by omega) (by omega)).2])
theorem WF.few {y : Nat} {v : VT} (h : WF y v) : Few v := ⟨h.1.2.2.2.1, h.1.2.2.2.2.1, h.1.2.2.2.2.2.1⟩
def LI (S : SS) (yb n : Nat) (i0 i1 : Option Nat) (I : HI) (J : HJ) : Prop := CI S n i0 i1 I J ∧ MI S I J ∧ Good yb S
abbrev LQ : jPost := fun r _ _ _ _ => r = some (.int 1)
def LK (X : jX) (r i yb : Nat) : Prop := ∀ S n i0 i1 I J, LI S (yb + 60) n i0 i1 I J → Rj X 64 (11 * r) (178 * r) mL_law LQ 18 [.ref 1200, .ref 0, .ref 33, .int (nI (i + 5))] [] n I J (Pg i0 i1)
