theorem VM_pair {b : Nat} {I I' : HI} {v : VT} {k l : Nat} (h : VM b 0 I v) (h6 : v 0 3 < 6) (e0 : I' b 0 = nI (v 0 3 + 1)) (e6 : I' b 6 = nI 0) (e7 : I' b (7 + v 0 3) = nI k) (e13 : I' b (13 + v 0 3) = nI l) (e19 : I' b (19 + v 0 3) = nI (v 0 0)) (e25 : I' b (25 + v 0 3) = -1)
    (e : ∀ i, i ≠ 0 → i ≠ 6 → i ≠ 7 + v 0 3 → i ≠ 13 + v 0 3 → i ≠ 19 + v 0 3 → i ≠ 25 + v 0 3 → I' b i = I b i) : VM b 0 I' (vPair v k l) := by
  obtain ⟨⟨s0, s1, s2, s3, s4, s5, s6⟩, c1, c2, c3, c7⟩ := h
  refine ⟨⟨e0, ?_, ?_, ?_, ?_, ?_, e6⟩, fun p hp => ?_, fun p hp => ?_, fun p hp => ?_, fun j hj => absurd hj (Nat.not_lt_zero _)⟩
  · rw [e _ (by omega) (by omega) (by omega) (by omega) (by omega) (by omega)]; exact s1
  · rw [e _ (by omega) (by omega) (by omega) (by omega) (by omega) (by omega)]; exact s2
  · rw [e _ (by omega) (by omega) (by omega) (by omega) (by omega) (by omega)]; exact s3
  · rw [e _ (by omega) (by omega) (by omega) (by omega) (by omega) (by omega)]; exact s4
  · rw [e _ (by omega) (by omega) (by omega) (by omega) (by omega) (by omega)]; exact s5
  · have hp' : p < v 0 3 + 1 := hp
    by_cases hq : p = v 0 3
    · subst hq
      have g : ∀ f, 1 ≤ f → f < 5 → vPair v k l f (v 0 3) = (if f = 1 then k else if f = 2 then l else if f = 3 then v 0 0 else 0) := fun f h1 h2 => by unfold vPair; rw [if_neg (by omega), if_pos ⟨rfl, h2⟩]
      rw [g 1 (by omega) (by omega), g 2 (by omega) (by omega), g 3 (by omega) (by omega), g 4 (by omega) (by omega), show 0 + 7 + v 0 3 = 7 + v 0 3 by omega, show 0 + 13 + v 0 3 = 13 + v 0 3 by omega, show 0 + 19 + v 0 3 = 19 + v 0 3 by omega, show 0 + 25 + v 0 3 = 25 + v 0 3 by omega]
      exact ⟨e7, e13, e19, e25⟩
    · have g : ∀ f, 1 ≤ f → vPair v k l f p = v f p := fun f h1 => by unfold vPair; rw [if_neg (by omega), if_neg (by omega)]
      rw [g 1 (by omega), g 2 (by omega), g 3 (by omega), g 4 (by omega), e (0 + 7 + p) (by omega) (by omega) (by omega) (by omega) (by omega) (by omega), e (0 + 13 + p) (by omega) (by omega) (by omega) (by omega) (by omega) (by omega), e (0 + 19 + p) (by omega) (by omega) (by omega) (by omega) (by omega) (by omega), e (0 + 25 + p) (by omega) (by omega) (by omega) (by omega) (by omega) (by omega)]
      exact c1 p (by omega)
  · have hp' : p < v 0 4 := hp
    have g : vPair v k l 5 p = v 5 p := by unfold vPair; rw [if_neg (by omega), if_neg (by omega)]
    rw [g, e _ (by omega) (by omega) (by omega) (by omega) (by omega) (by omega)]
    exact c2 p hp'
  · have hp' : p < v 0 5 := hp
    have g : ∀ f, 5 ≤ f → vPair v k l f p = v f p := fun f h1 => by unfold vPair; rw [if_neg (by omega), if_neg (by omega)]
    rw [g 6 (by omega), g 7 (by omega), g 8 (by omega), e (0 + 39 + 3 * p) (by omega) (by omega) (by omega) (by omega) (by omega) (by omega), e (0 + 40 + 3 * p) (by omega) (by omega) (by omega) (by omega) (by omega) (by omega), e (0 + 41 + 3 * p) (by omega) (by omega) (by omega) (by omega) (by omega) (by omega)]
    exact c3 p hp'
