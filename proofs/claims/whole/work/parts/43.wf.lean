theorem vPush_S (v : VT) (j i : Nat) : vPush v (10 + (j + 1)) i = v (10 + j) i := by
  unfold vPush
  rw [if_neg (by omega), if_neg (by omega), if_pos (by omega)]
  rfl
theorem vPush_p {v : VT} {p : Nat} (hp : p < 6) : vPush v 10 (1 + p) = v 2 p ∧ vPush v 10 (7 + p) = v 4 p := by
  constructor
  · show (if 1 + p = 0 then v 0 0 else if 1 + p < 7 then v 2 (1 + p - 1) else v 4 (1 + p - 7)) = v 2 p
    rw [if_neg (by omega), if_pos (by omega)]
    congr 1
    omega
  · show (if 7 + p = 0 then v 0 0 else if 7 + p < 7 then v 2 (7 + p - 1) else v 4 (7 + p - 7)) = v 4 p
    rw [if_neg (by omega), if_neg (by omega)]
    congr 1
    omega
theorem WF_back {y : Nat} {v : VT} (h : WF y v) : ∀ j, j < min 8 (v 0 6 + 1) → vPush v (10 + j) 0 ≤ y ∧ ∀ p, p < v 0 3 → vPush v (10 + j) (1 + p) ≤ 60 ∧ vPush v (10 + j) (7 + p) ≤ y + 1 ∧ (vPush v (10 + j) (7 + p) = 0 ∨ vPush v (10 + j) (1 + p) = 0) := by
  obtain ⟨⟨a0, a1, a2, a3, a4, a5, a6⟩, b, c, d, e⟩ := h
  intro j hj
  cases j with
  | zero =>
    refine ⟨a0, fun p hp => ?_⟩
    obtain ⟨b1, b2, b3, b4, b5⟩ := b p hp
    have hq := vPush_p (v := v) (p := p) (by omega)
    rw [Nat.add_zero, hq.1, hq.2]
    exact ⟨b2, b4, b5⟩
  | succ j =>
    obtain ⟨e1, e2⟩ := e j (by omega)
    rw [vPush_S]
    refine ⟨e1, fun p hp => ?_⟩
    rw [vPush_S, vPush_S]
    exact e2 p hp
theorem vYear_b (v : VT) (j i : Nat) : vYear v (10 + j) i = vPush v (10 + j) i := by
  unfold vYear
  rw [if_neg (by omega), if_neg (by omega), if_neg (by omega)]
theorem WF_year {y : Nat} {v : VT} (h : WF y v) : WF (y + 1) (vYear v) := by
  have hb := WF_back h
  obtain ⟨⟨a0, a1, a2, a3, a4, a5, a6⟩, b, c, d, e⟩ := h
  refine ⟨⟨show v 0 0 + 1 ≤ y + 1 by omega, a1, a2, a3, a4, a5, show min 8 (v 0 6 + 1) ≤ 8 by omega⟩, fun p hp => ?_, c, d, fun j hj => ?_⟩
  · obtain ⟨b1, b2, b3, b4, b5⟩ := b p hp
    refine ⟨b1, show v 2 p - gos (v 1 p) (v 0 0) (v 0 1) (v 0 2) ≤ 60 by omega, show v 3 p ≤ y + 1 by omega, ?_, ?_⟩
    · show (if 0 < v 2 p ∧ v 2 p - gos (v 1 p) (v 0 0) (v 0 1) (v 0 2) = 0 then v 0 0 + 1 else v 4 p) ≤ y + 1 + 1
      split <;> omega
    · show (if 0 < v 2 p ∧ v 2 p - gos (v 1 p) (v 0 0) (v 0 1) (v 0 2) = 0 then v 0 0 + 1 else v 4 p) = 0 ∨ v 2 p - gos (v 1 p) (v 0 0) (v 0 1) (v 0 2) = 0
      split <;> omega
  · obtain ⟨q1, q2⟩ := hb j hj
    rw [vYear_b]
    refine ⟨by omega, fun p hp => ?_⟩
    rw [vYear_b, vYear_b]
    obtain ⟨q3, q4, q5⟩ := q2 p hp
    exact ⟨q3, by omega, q5⟩
theorem WF_give {y : Nat} {v : VT} {p x : Nat} (h : WF y v) (hp : p < v 0 3) (h0 : v 4 p = 0) (hx : x ≤ 60) : WF y (vGive v p x) := by
  have hb := WF_back h
  obtain ⟨⟨a0, a1, a2, a3, a4, a5, a6⟩, b, c, d, e⟩ := h
  have hv : ∀ f i, f ≠ 2 → vGive v p x f i = vPush v f i := fun f i hf => by unfold vGive; rw [if_neg (by omega)]
  refine ⟨⟨a0, a1, a2, a3, a4, a5, show min 8 (v 0 6 + 1) ≤ 8 by omega⟩, fun q hq => ?_, c, d, fun j hj => ?_⟩
  · obtain ⟨b1, b2, b3, b4, b5⟩ := b q hq
    refine ⟨b1, ?_, b3, b4, ?_⟩
    · show (if 2 = 2 ∧ q = p then x else v 2 q) ≤ 60
      split <;> omega
    · show v 4 q = 0 ∨ (if 2 = 2 ∧ q = p then x else v 2 q) = 0
      by_cases hqp : q = p
      · left; rw [hqp]; exact h0
      · rw [if_neg (by omega)]; exact b5
  · rw [hv _ _ (by omega)]
    refine ⟨(hb j hj).1, fun q hq => ?_⟩
    rw [hv _ _ (by omega), hv _ _ (by omega)]
    exact (hb j hj).2 q hq
theorem vPop_b (v : VT) (j i : Nat) : vPop v (10 + j) i = v (10 + (j + 1)) i := by
  unfold vPop
  rw [if_neg (by omega), if_neg (by omega), if_neg (by omega), if_pos (by omega)]
  rfl
theorem WF_pop {y : Nat} {v : VT} (h : WF y v) (h0 : 0 < v 0 6) : WF y (vPop v) := by
  obtain ⟨⟨a0, a1, a2, a3, a4, a5, a6⟩, b, c, d, e⟩ := h
  obtain ⟨e0, e1⟩ := e 0 h0
  refine ⟨⟨e0, a1, a2, a3, a4, a5, show v 0 6 - 1 ≤ 8 by omega⟩, fun q hq => ?_, c, d, fun j hj => ?_⟩
  · obtain ⟨b1, b2, b3, b4, b5⟩ := b q hq
    obtain ⟨f1, f2, f3⟩ := e1 q hq
    exact ⟨b1, f1, b3, f2, f3⟩
  · have hj' : j < v 0 6 - 1 := hj
    obtain ⟨g1, g2⟩ := e (j + 1) (by omega)
    rw [vPop_b]
    refine ⟨g1, fun p hp => ?_⟩
    rw [vPop_b, vPop_b]
    exact g2 p hp
theorem WF_Z (y : Nat) (v : VT) : WF y (vZ v) := ⟨⟨Nat.zero_le _, Nat.zero_le _, Nat.zero_le _, Nat.zero_le _, Nat.zero_le _, Nat.zero_le _, Nat.zero_le _⟩, fun p hp => absurd hp (Nat.not_lt_zero _), fun p hp => absurd hp (Nat.not_lt_zero _), fun p hp => absurd hp (Nat.not_lt_zero _), fun p hp => absurd hp (Nat.not_lt_zero _)⟩
theorem WF_set {y k x : Nat} {v : VT} (h : WF y v) (hk : 1 ≤ k) (hk2 : k ≤ 2) (hx : x ≤ 4095) : WF y (vSet v k x) := by
  obtain ⟨⟨a0, a1, a2, a3, a4, a5, a6⟩, b, c, d, e⟩ := h
  have ef : ∀ f i, 1 ≤ f → vSet v k x f i = v f i := fun f i hf => by unfold vSet; rw [if_neg (by omega)]
  have e0 : ∀ i, i ≠ k → vSet v k x 0 i = v 0 i := fun i hi => by unfold vSet; rw [if_pos rfl, if_neg hi]
  have ek : ∀ i, v 0 i ≤ 4095 → vSet v k x 0 i ≤ 4095 := fun i hi => by unfold vSet; rw [if_pos rfl]; split <;> omega
  have e3 := e0 3 (by omega)
  refine ⟨⟨by rw [e0 0 (by omega)]; exact a0, ek 1 a1, ek 2 a2, by rw [e3]; exact a3, by rw [e0 4 (by omega)]; exact a4, by rw [e0 5 (by omega)]; exact a5, by rw [e0 6 (by omega)]; exact a6⟩, fun p hp => ?_, fun p hp => ?_, fun p hp => ?_, fun j hj => ?_⟩
  · rw [e3] at hp
    rw [ef 1 _ (by omega), ef 2 _ (by omega), ef 3 _ (by omega), ef 4 _ (by omega)]
    exact b p hp
  · rw [e0 4 (by omega)] at hp
    rw [ef 5 _ (by omega)]
    exact c p hp
  · rw [e0 5 (by omega)] at hp
    rw [e3, ef 6 _ (by omega), ef 7 _ (by omega), ef 8 _ (by omega)]
    exact d p hp
  · rw [e0 6 (by omega)] at hj
    rw [e3, ef _ _ (by omega)]
    refine ⟨(e j hj).1, fun p hp => ?_⟩
    rw [ef _ _ (by omega), ef _ _ (by omega)]
    exact (e j hj).2 p hp
theorem WF_forget {y : Nat} {v : VT} (h : WF y v) : WF y (vSet v 5 0) := by
  obtain ⟨⟨a0, a1, a2, a3, a4, a5, a6⟩, b, c, d, e⟩ := h
  have ef : ∀ f i, 1 ≤ f → vSet v 5 0 f i = v f i := fun f i hf => by unfold vSet; rw [if_neg (by omega)]
  refine ⟨⟨a0, a1, a2, a3, a4, Nat.zero_le _, a6⟩, fun p hp => ?_, fun p hp => ?_, fun p hp => absurd hp (Nat.not_lt_zero _), fun j hj => ?_⟩
  · rw [ef 1 _ (by omega), ef 2 _ (by omega), ef 3 _ (by omega), ef 4 _ (by omega)]
    exact b p hp
  · rw [ef 5 _ (by omega)]
    exact c p hp
  · rw [ef _ _ (by omega)]
    refine ⟨(e j hj).1, fun p hp => ?_⟩
    rw [ef _ _ (by omega), ef _ _ (by omega)]
    exact (e j hj).2 p hp
theorem WF_pair {y k l : Nat} {v : VT} (h : WF y v) (h6 : v 0 3 < 6) (hk : k ≤ 5) (hl : l ≤ 60) : WF y (vPair v k l) := by
  obtain ⟨⟨a0, a1, a2, a3, a4, a5, a6⟩, b, c, d, e⟩ := h
  refine ⟨⟨a0, a1, a2, show v 0 3 + 1 ≤ 6 by omega, a4, a5, Nat.zero_le _⟩, fun p hp => ?_, fun p hp => ?_, fun p hp => ?_, fun j hj => absurd hj (Nat.not_lt_zero _)⟩
  · have hp' : p < v 0 3 + 1 := hp
    unfold vPair
    by_cases hq : p = v 0 3
    · subst hq
      simp only [true_and, show (1 : Nat) < 5 by omega, show (2 : Nat) < 5 by omega, show (3 : Nat) < 5 by omega, show (4 : Nat) < 5 by omega, if_true, show ¬ (1 : Nat) = 0 by omega, show ¬ (2 : Nat) = 0 by omega, show ¬ (3 : Nat) = 0 by omega, show ¬ (4 : Nat) = 0 by omega, show ¬ (2 : Nat) = 1 by omega, show ¬ (3 : Nat) = 1 by omega, show ¬ (3 : Nat) = 2 by omega, show ¬ (4 : Nat) = 1 by omega, show ¬ (4 : Nat) = 2 by omega, show ¬ (4 : Nat) = 3 by omega, if_false]
      exact ⟨hk, hl, a0, Nat.zero_le _, Or.inl trivial⟩
    · simp only [hq, false_and, if_false, show ¬ (1 : Nat) = 0 by omega, show ¬ (2 : Nat) = 0 by omega, show ¬ (3 : Nat) = 0 by omega, show ¬ (4 : Nat) = 0 by omega]
      exact b p (by omega)
  · have hp' : p < v 0 4 := hp
    have e5 : vPair v k l 5 p = v 5 p := by unfold vPair; rw [if_neg (by omega), if_neg (by omega)]
    rw [e5]
    exact c p hp'
  · have hp' : p < v 0 5 := hp
    have e5 : ∀ f, 5 ≤ f → vPair v k l f p = v f p := fun f hf => by unfold vPair; rw [if_neg (by omega), if_neg (by omega)]
    rw [e5 6 (by omega), e5 7 (by omega), e5 8 (by omega)]
    obtain ⟨d1, d2⟩ := d p hp'
    exact ⟨show v 6 p < v 0 3 + 1 by omega, d2⟩
theorem WF_kin {y x : Nat} {v : VT} (h : WF y v) (h8 : v 0 4 < 8) (hx : 1 ≤ x) (hx2 : x ≤ 20) : WF y (vKin v x) := by
  obtain ⟨⟨a0, a1, a2, a3, a4, a5, a6⟩, b, c, d, e⟩ := h
  have ef : ∀ f i, 1 ≤ f → f ≠ 5 → vKin v x f i = v f i := fun f i hf h5 => by unfold vKin; rw [if_neg (by omega), if_neg (by omega)]
  refine ⟨⟨a0, a1, a2, a3, show v 0 4 + 1 ≤ 8 by omega, a5, a6⟩, fun p hp => ?_, fun p hp => ?_, fun p hp => ?_, fun j hj => ?_⟩
  · rw [ef 1 _ (by omega) (by omega), ef 2 _ (by omega) (by omega), ef 3 _ (by omega) (by omega), ef 4 _ (by omega) (by omega)]
    exact b p hp
  · have hp' : p < v 0 4 + 1 := hp
    show 1 ≤ (if 5 = 5 ∧ p = v 0 4 then x else v 5 p) ∧ (if 5 = 5 ∧ p = v 0 4 then x else v 5 p) ≤ 20
    by_cases hq : p = v 0 4
    · rw [if_pos ⟨rfl, hq⟩]; exact ⟨hx, hx2⟩
    · rw [if_neg (by omega)]; exact c p (by omega)
  · rw [ef 6 _ (by omega) (by omega), ef 7 _ (by omega) (by omega), ef 8 _ (by omega) (by omega)]
    exact d p hp
  · rw [ef _ _ (by omega) (by omega)]
    refine ⟨(e j hj).1, fun p hp => ?_⟩
    rw [ef _ _ (by omega) (by omega), ef _ _ (by omega) (by omega)]
    exact (e j hj).2 p hp
theorem WF_cnt {y p m x : Nat} {v : VT} (h : WF y v) (h8 : v 0 5 < 8) (hp : p < v 0 3) (hm : m ≤ 60) (hx2 : x ≤ 60) : WF y (vCnt v p m x) := by
  obtain ⟨⟨a0, a1, a2, a3, a4, a5, a6⟩, b, c, d, e⟩ := h
  have ef : ∀ f i, 1 ≤ f → f ≠ 6 → f ≠ 7 → f ≠ 8 → vCnt v p m x f i = v f i := fun f i hf h5 h6 h7 => by unfold vCnt; rw [if_neg (by omega), if_neg (by omega), if_neg (by omega), if_neg (by omega)]
  refine ⟨⟨a0, a1, a2, a3, a4, show v 0 5 + 1 ≤ 8 by omega, a6⟩, fun q hq => ?_, fun q hq => ?_, fun q hq => ?_, fun j hj => ?_⟩
  · rw [ef 1 _ (by omega) (by omega) (by omega) (by omega), ef 2 _ (by omega) (by omega) (by omega) (by omega), ef 3 _ (by omega) (by omega) (by omega) (by omega), ef 4 _ (by omega) (by omega) (by omega) (by omega)]
    exact b q hq
  · rw [ef 5 _ (by omega) (by omega) (by omega) (by omega)]
    exact c q hq
  · have hq' : q < v 0 5 + 1 := hq
    by_cases hz : q = v 0 5
    · have g6 : vCnt v p m x 6 q = p := by unfold vCnt; rw [if_neg (by omega), if_pos ⟨hz, rfl⟩]
      have g7 : vCnt v p m x 7 q = m := by unfold vCnt; rw [if_neg (by omega), if_neg (by omega), if_pos ⟨hz, rfl⟩]
      have g8 : vCnt v p m x 8 q = x := by unfold vCnt; rw [if_neg (by omega), if_neg (by omega), if_neg (by omega), if_pos ⟨hz, rfl⟩]
      rw [g6, g7, g8]
      exact ⟨hp, hm, hx2⟩
    · have g : ∀ f, 1 ≤ f → vCnt v p m x f q = v f q := fun f hf => by unfold vCnt; rw [if_neg (by omega), if_neg (by omega), if_neg (by omega), if_neg (by omega)]
      rw [g 6 (by omega), g 7 (by omega), g 8 (by omega)]
      exact d q (by omega)
  · rw [ef _ _ (by omega) (by omega) (by omega) (by omega)]
    refine ⟨(e j hj).1, fun q hq => ?_⟩
    rw [ef _ _ (by omega) (by omega) (by omega) (by omega), ef _ _ (by omega) (by omega) (by omega) (by omega)]
    exact (e j hj).2 q hq
