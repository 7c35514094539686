/-- the same valley, as far as it is told -/
def VE (v w : VT) : Prop := (∀ i, i ≤ 6 → v 0 i = w 0 i) ∧ (∀ f, 1 ≤ f → f ≤ 4 → ∀ p, p < v 0 3 → v f p = w f p) ∧ (∀ k, k < v 0 4 → v 5 k = w 5 k) ∧ (∀ f, 6 ≤ f → f ≤ 8 → ∀ c, c < v 0 5 → v f c = w f c) ∧
  (∀ j, j < v 0 6 → v (10 + j) 0 = w (10 + j) 0 ∧ ∀ p, p < v 0 3 → v (10 + j) (1 + p) = w (10 + j) (1 + p) ∧ v (10 + j) (7 + p) = w (10 + j) (7 + p))
theorem VE.rf {v : VT} : VE v v := ⟨fun _ _ => rfl, fun _ _ _ _ _ => rfl, fun _ _ => rfl, fun _ _ _ _ _ => rfl, fun _ _ => ⟨rfl, fun _ _ => ⟨rfl, rfl⟩⟩⟩
theorem VE.symm {v w : VT} (h : VE v w) : VE w v := by
  obtain ⟨h0, h1, h2, h3, h4⟩ := h
  have e3 := h0 3 (by omega)
  have e4 := h0 4 (by omega)
  have e5 := h0 5 (by omega)
  have e6 := h0 6 (by omega)
  refine ⟨fun i hi => (h0 i hi).symm, fun f a b p hp => (h1 f a b p (by omega)).symm, fun k hk => (h2 k (by omega)).symm, fun f a b p hp => (h3 f a b p (by omega)).symm, fun j hj => ?_⟩
  obtain ⟨a, b⟩ := h4 j (by omega)
  exact ⟨a.symm, fun p hp => ⟨(b p (by omega)).1.symm, (b p (by omega)).2.symm⟩⟩
theorem VC.ve {b : Nat} {I : HI} {v w : VT} (hV : VC b I v) (h : VE v w) : VC b I w := by
  obtain ⟨h0, h1, h2, h3, h4⟩ := h
  obtain ⟨⟨s0, s1, s2, s3, s4, s5⟩, c1, c2, c3, fr, c4, c5, c6, c7⟩ := hV
  have e3 := h0 3 (by omega)
  have e4 := h0 4 (by omega)
  have e5 := h0 5 (by omega)
  have e6 := h0 6 (by omega)
  refine ⟨⟨?_, ?_, ?_, ?_, ?_, ?_⟩, fun p hp => ?_, fun k hk => ?_, fun c hc => ?_, fr, c4, c5, ?_, fun j hj => ?_⟩
  · rw [← h0 0 (by omega)]; exact s0
  · rw [← h0 1 (by omega)]; exact s1
  · rw [← h0 2 (by omega)]; exact s2
  · rw [← e3]; exact s3
  · rw [← e4]; exact s4
  · rw [← e5]; exact s5
  · have hp' : p < v 0 3 := by omega
    rw [← h1 1 (by omega) (by omega) p hp', ← h1 2 (by omega) (by omega) p hp', ← h1 3 (by omega) (by omega) p hp', ← h1 4 (by omega) (by omega) p hp']
    exact c1 p hp'
  · have hk' : k < v 0 4 := by omega
    rw [← h2 k hk']; exact c2 k hk'
  · have hc' : c < v 0 5 := by omega
    rw [← h3 6 (by omega) (by omega) c hc', ← h3 7 (by omega) (by omega) c hc', ← h3 8 (by omega) (by omega) c hc']
    exact c3 c hc'
  · rw [← e6]; exact c6
  · have hj' : j < v 0 6 := by omega
    obtain ⟨a, b⟩ := h4 j hj'
    obtain ⟨a2, b2⟩ := c7 j hj'
    refine ⟨by rw [← a]; exact a2, fun p hp => ?_⟩
    have hp' : p < v 0 3 := by omega
    rw [← (b p hp').1, ← (b p hp').2]
    exact b2 p hp'
theorem VM.ve {b o : Nat} {I : HI} {v w : VT} (hV : VM b o I v) (h : VE v w) : VM b o I w := by
  obtain ⟨h0, h1, h2, h3, h4⟩ := h
  obtain ⟨⟨s0, s1, s2, s3, s4, s5, s6⟩, c1, c2, c3, c7⟩ := hV
  have e3 := h0 3 (by omega)
  have e4 := h0 4 (by omega)
  have e5 := h0 5 (by omega)
  have e6 := h0 6 (by omega)
  refine ⟨⟨?_, ?_, ?_, ?_, ?_, ?_, ?_⟩, fun p hp => ?_, fun k hk => ?_, fun c hc => ?_, fun j hj => ?_⟩
  · rw [← e3]; exact s0
  · rw [← e4]; exact s1
  · rw [← h0 0 (by omega)]; exact s2
  · rw [← h0 1 (by omega)]; exact s3
  · rw [← h0 2 (by omega)]; exact s4
  · rw [← e5]; exact s5
  · rw [← e6]; exact s6
  · have hp' : p < v 0 3 := by omega
    rw [← h1 1 (by omega) (by omega) p hp', ← h1 2 (by omega) (by omega) p hp', ← h1 3 (by omega) (by omega) p hp', ← h1 4 (by omega) (by omega) p hp']
    exact c1 p hp'
  · have hk' : k < v 0 4 := by omega
    rw [← h2 k hk']; exact c2 k hk'
  · have hc' : c < v 0 5 := by omega
    rw [← h3 6 (by omega) (by omega) c hc', ← h3 7 (by omega) (by omega) c hc', ← h3 8 (by omega) (by omega) c hc']
    exact c3 c hc'
  · have hj' : j < v 0 6 := by omega
    obtain ⟨a, b⟩ := h4 j hj'
    obtain ⟨a2, b2⟩ := c7 j hj'
    rw [← e6]
    refine ⟨by rw [← a]; exact a2, fun p hp => ?_⟩
    have hp' : p < v 0 3 := by omega
    rw [← (b p hp').1, ← (b p hp').2]
    exact b2 p hp'
theorem VE_Z (v w : VT) : VE (vZ v) (vZ w) := ⟨fun _ _ => rfl, fun f _ _ p hp => absurd hp (Nat.not_lt_zero _), fun k hk => absurd hk (Nat.not_lt_zero _), fun f _ _ p hp => absurd hp (Nat.not_lt_zero _), fun k hk => absurd hk (Nat.not_lt_zero _)⟩
theorem VE.set {v w : VT} {k x y : Nat} (h : VE v w) (hk : 1 ≤ k) (hk2 : k ≤ 2) (hx : x = y) : VE (vSet v k x) (vSet w k y) := by
  subst hx
  obtain ⟨h0, h1, h2, h3, h4⟩ := h
  have e : ∀ i, 3 ≤ i → vSet v k x 0 i = v 0 i := fun i hi => by unfold vSet; rw [if_pos rfl, if_neg (by omega)]
  have ef : ∀ u : VT, ∀ f i, 1 ≤ f → vSet u k x f i = u f i := fun u f i hf => by unfold vSet; rw [if_neg (by omega)]
  refine ⟨fun i hi => ?_, fun f a b p hp => ?_, fun j hj => ?_, fun f a b p hp => ?_, fun j hj => ?_⟩
  · unfold vSet; rw [if_pos rfl, if_pos rfl, h0 i hi]
  · rw [e 3 (by omega)] at hp; rw [ef v f p a, ef w f p a]; exact h1 f a b p hp
  · rw [e 4 (by omega)] at hj; rw [ef v 5 j (by omega), ef w 5 j (by omega)]; exact h2 j hj
  · rw [e 5 (by omega)] at hp; rw [ef v f p (by omega), ef w f p (by omega)]; exact h3 f a b p hp
  · rw [e 6 (by omega)] at hj
    rw [e 3 (by omega), ef v _ _ (by omega), ef w _ _ (by omega)]
    refine ⟨(h4 j hj).1, fun p hp => ?_⟩
    rw [ef v _ _ (by omega), ef w _ _ (by omega), ef v _ _ (by omega), ef w _ _ (by omega)]
    exact (h4 j hj).2 p hp
theorem VE.pair {v w : VT} {k l : Nat} (h : VE v w) : VE (vPair v k l) (vPair w k l) := by
  obtain ⟨h0, h1, h2, h3, h4⟩ := h
  have e3 := h0 3 (by omega)
  have e0 := h0 0 (by omega)
  refine ⟨fun i hi => ?_, fun f a b p hp => ?_, fun j hj => ?_, fun f a b p hp => ?_, fun j hj => ?_⟩
  · show (if i = 3 then v 0 3 + 1 else if i = 6 then 0 else v 0 i) = (if i = 3 then w 0 3 + 1 else if i = 6 then 0 else w 0 i)
    rw [e3, h0 i hi]
  · have hp' : p < v 0 3 + 1 := hp
    unfold vPair
    have hf0 : ¬ f = 0 := by omega
    simp only [if_neg hf0]
    rw [← e3, ← e0]
    by_cases hq : p = v 0 3 ∧ f < 5
    · simp only [if_pos hq]
    · simp only [if_neg hq]; exact h1 f a b p (by omega)
  · have hj' : j < v 0 4 := hj
    unfold vPair
    rw [if_neg (by omega), if_neg (by omega), if_neg (by omega), if_neg (by omega)]
    exact h2 j hj'
  · have hp' : p < v 0 5 := hp
    unfold vPair
    rw [if_neg (by omega), if_neg (by omega), if_neg (by omega), if_neg (by omega)]
    exact h3 f a b p hp'
  · exact absurd hj (Nat.not_lt_zero _)
theorem VE.kin {v w : VT} {x : Nat} (h : VE v w) : VE (vKin v x) (vKin w x) := by
  obtain ⟨h0, h1, h2, h3, h4⟩ := h
  have e4 := h0 4 (by omega)
  have ef : ∀ u : VT, ∀ f i, 1 ≤ f → f ≠ 5 → vKin u x f i = u f i := fun u f i hf h5 => by unfold vKin; rw [if_neg (by omega), if_neg (by omega)]
  refine ⟨fun i hi => ?_, fun f a b p hp => ?_, fun j hj => ?_, fun f a b p hp => ?_, fun j hj => ?_⟩
  · show (if i = 4 then v 0 4 + 1 else v 0 i) = (if i = 4 then w 0 4 + 1 else w 0 i)
    rw [e4, h0 i hi]
  · rw [ef v _ _ (by omega) (by omega), ef w _ _ (by omega) (by omega)]; exact h1 f a b p hp
  · have hj' : j < v 0 4 + 1 := hj
    unfold vKin
    have hf0 : ¬ (5 : Nat) = 0 := by omega
    simp only [if_neg hf0]
    rw [← e4]
    by_cases hq : j = v 0 4
    · simp [hq]
    · simp [hq]; exact h2 j (by omega)
  · rw [ef v _ _ (by omega) (by omega), ef w _ _ (by omega) (by omega)]; exact h3 f a b p hp
  · rw [ef v _ _ (by omega) (by omega), ef w _ _ (by omega) (by omega)]
    refine ⟨(h4 j hj).1, fun p hp => ?_⟩
    rw [ef v _ _ (by omega) (by omega), ef w _ _ (by omega) (by omega), ef v _ _ (by omega) (by omega), ef w _ _ (by omega) (by omega)]
    exact (h4 j hj).2 p hp
def T3 (a b : Bool × Nat × VT) : Prop := a.1 = b.1 ∧ a.2.1 = b.2.1 ∧ VE a.2.2 b.2.2
theorem itmD_ve {tx : Nat → Nat} {tl k f : Nat} {v w : VT} (h : VE v w) (hk : 1 ≤ k) (hk2 : k ≤ 2) : T3 (itmD tx tl k f v) (itmD tx tl k f w) := by
  unfold itmD
  rcases yrs tx tl 151 f 0 with ⟨o, g⟩
  cases o with
  | none => exact ⟨rfl, rfl, h⟩
  | some ys => exact ⟨rfl, rfl, h.set hk hk2 (by rw [h.1 k (by omega)])⟩
theorem itm_ve {tx : Nat → Nat} {tl f : Nat} {v w : VT} (h : VE v w) : T3 (itm tx tl f v) (itm tx tl f w) := by
  have e3 := h.1 3 (by omega)
  have e4 := h.1 4 (by omega)
  have hd1 := itmD_ve (tx := tx) (tl := tl) (f := f) h (k := 1) (by omega) (by omega)
  have hd2 := itmD_ve (tx := tx) (tl := tl) (f := f) h (k := 2) (by omega) (by omega)
  have hp : T3 (itmP tx tl f v) (itmP tx tl f w) := by
    unfold itmP
    rw [← e3]
    by_cases q1 : 6 ≤ v 0 3
    · simp only [if_pos q1]; exact ⟨rfl, rfl, h⟩
    · simp only [if_neg q1]
      by_cases q2 : nmB tx tl (nx tx tl f) 0 5 = false
      · simp only [if_pos q2]; exact ⟨rfl, rfl, h⟩
      · simp only [if_neg q2]
        by_cases q3 : nmB tx tl (nx tx tl (nx tx tl f)) 0 60 = false
        · simp only [if_pos q3]; exact ⟨rfl, rfl, h⟩
        · simp only [if_neg q3]; exact ⟨rfl, rfl, h.pair⟩
  have hk : T3 (itmK tx tl f v) (itmK tx tl f w) := by
    unfold itmK
    rw [← e4]
    by_cases q1 : 8 ≤ v 0 4
    · simp only [if_pos q1]; exact ⟨rfl, rfl, h⟩
    · simp only [if_neg q1]
      by_cases q2 : nmB tx tl (nx tx tl f) 1 20 = false
      · simp only [if_pos q2]; exact ⟨rfl, rfl, h⟩
      · simp only [if_neg q2]; exact ⟨rfl, rfl, h.kin⟩
  unfold itm
  by_cases q0 : tkK tx tl f = 1
  · rw [if_pos q0, if_pos q0]
    by_cases q1 : isW tx tl f 1
    · rw [if_pos q1, if_pos q1]; exact hd1
    · rw [if_neg q1, if_neg q1]
      by_cases q2 : isW tx tl f 2
      · rw [if_pos q2, if_pos q2]; exact hd2
      · rw [if_neg q2, if_neg q2]
        by_cases q3 : isW tx tl f 3
        · rw [if_pos q3, if_pos q3]; exact hp
        · rw [if_neg q3, if_neg q3]
          by_cases q4 : isW tx tl f 4
          · rw [if_pos q4, if_pos q4]; exact hk
          · rw [if_neg q4, if_neg q4]; exact ⟨rfl, rfl, h⟩
  · rw [if_neg q0, if_neg q0]; exact ⟨rfl, rfl, h⟩
theorem rdL_ve {tx : Nat → Nat} {tl : Nat} : ∀ r q f v w, VE v w → (rdL tx tl r q f v).1 = (rdL tx tl r q f w).1 ∧ (rdL tx tl r q f v).2.1 = (rdL tx tl r q f w).2.1 ∧ VE (rdL tx tl r q f v).2.2 (rdL tx tl r q f w).2.2
  | 0, q, f, v, w, h => ⟨rfl, rfl, h⟩
  | r + 1, q, f, v, w, h => by
    unfold rdL
    by_cases hk : tkK tx tl (nx tx tl f) = 0
    · rw [if_pos hk, if_pos hk]; exact ⟨rfl, rfl, h⟩
    · rw [if_neg hk, if_neg hk]
      have hi := itm_ve (tx := tx) (tl := tl) (f := nx tx tl f) h
      generalize itm tx tl (nx tx tl f) v = A at hi ⊢
      generalize itm tx tl (nx tx tl f) w = B at hi ⊢
      rcases A with ⟨t, g, v1⟩
      rcases B with ⟨t2, g2, w1⟩
      obtain ⟨e1, e2, e3⟩ := hi
      have e1 : t = t2 := e1
      have e2 : g = g2 := e2
      subst e1; subst e2
      cases t with
      | false => exact ⟨rfl, rfl, e3⟩
      | true => exact rdL_ve r (q + 1) g v1 w1 e3
theorem rdA_ve {tx : Nat → Nat} {tl : Nat} {v w : VT} (h : VE v w) : (rdA tx tl v).1 = (rdA tx tl w).1 ∧ (rdA tx tl v).2.1 = (rdA tx tl w).2.1 ∧ VE (rdA tx tl v).2.2 (rdA tx tl w).2.2 := by
  unfold rdA
  rcases itmV tx tl (tkF tx tl 0) with ⟨t, g⟩
  cases t with
  | false => exact ⟨rfl, rfl, h⟩
  | true => exact rdL_ve _ _ _ _ _ h
