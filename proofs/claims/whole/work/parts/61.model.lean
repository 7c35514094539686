theorem VM_kin {b : Nat} {I : HI} {v : VT} {x : Nat} (h : VM b 0 I v) (h6 : v 0 3 ≤ 6) (h8 : v 0 4 < 8) : VM b 0 (u2 (u2 I b (31 + v 0 4) (nI x)) b 1 (nI (v 0 4 + 1))) (vKin v x) := by
  obtain ⟨⟨s0, s1, s2, s3, s4, s5, s6⟩, c1, c2, c3, c7⟩ := h
  have e : ∀ i, i ≠ 1 → i ≠ 31 + v 0 4 → u2 (u2 I b (31 + v 0 4) (nI x)) b 1 (nI (v 0 4 + 1)) b i = I b i := fun i h1 h2 => by rw [u2_ne2 _ _ _ h1, u2_ne2 _ _ _ h2]
  have ev : ∀ f i, 1 ≤ f → f ≠ 5 → vKin v x f i = v f i := fun f i hf h5 => by unfold vKin; rw [if_neg (by omega), if_neg (by omega)]
  refine ⟨⟨?_, ?_, ?_, ?_, ?_, ?_, ?_⟩, fun p hp => ?_, fun p hp => ?_, fun p hp => ?_, fun j hj => ?_⟩
  · rw [e _ (by omega) (by omega)]; exact s0
  · exact u2_self _ _ _ _
  · rw [e _ (by omega) (by omega)]; exact s2
  · rw [e _ (by omega) (by omega)]; exact s3
  · rw [e _ (by omega) (by omega)]; exact s4
  · rw [e _ (by omega) (by omega)]; exact s5
  · rw [e _ (by omega) (by omega)]; exact s6
  · have hp' : p < v 0 3 := hp
    rw [e _ (by omega) (by omega), e _ (by omega) (by omega), e _ (by omega) (by omega), e _ (by omega) (by omega), ev 1 _ (by omega) (by omega), ev 2 _ (by omega) (by omega), ev 3 _ (by omega) (by omega), ev 4 _ (by omega) (by omega)]
    exact c1 p hp'
  · have hp' : p < v 0 4 + 1 := hp
    by_cases hq : p = v 0 4
    · subst hq
      rw [u2_ne2 _ _ _ (by omega), show 0 + 31 + v 0 4 = 31 + v 0 4 by omega, u2_self]
      unfold vKin
      rw [if_neg (by omega), if_pos ⟨rfl, rfl⟩]
    · rw [e _ (by omega) (by omega)]
      unfold vKin
      rw [if_neg (by omega), if_neg (by omega)]
      exact c2 p (by omega)
  · have hp' : p < v 0 5 := hp
    rw [e _ (by omega) (by omega), e _ (by omega) (by omega), e _ (by omega) (by omega), ev 6 _ (by omega) (by omega), ev 7 _ (by omega) (by omega), ev 8 _ (by omega) (by omega)]
    exact c3 p hp'
  · have hj' : j < v 0 6 := hj
    obtain ⟨d0, d1⟩ := c7 j hj'
    refine ⟨?_, fun p hp => ⟨?_, ?_⟩⟩
    · rw [e _ (by omega) (by omega), ev (10 + j) _ (by omega) (by omega)]; exact d0
    · rw [e _ (by omega) (by omega), ev (10 + j) _ (by omega) (by omega)]; exact (d1 p hp).1
    · rw [e _ (by omega) (by omega), ev (10 + j) _ (by omega) (by omega)]; exact (d1 p hp).2
