theorem VM.mp {I : HI} {v : VT} (h : VM 34 0 I v) : I 34 0 = nI (v 0 3) := h.1.1
theorem VM.mk {I : HI} {v : VT} (h : VM 34 0 I v) : I 34 1 = nI (v 0 4) := h.1.2.1
theorem VM.my {I : HI} {v : VT} (h : VM 34 0 I v) : I 34 2 = nI (v 0 0) := h.1.2.2.1
theorem VM.ma {I : HI} {v : VT} (h : VM 34 0 I v) : I 34 3 = nI (v 0 1) := h.1.2.2.2.1
theorem VM.mr {I : HI} {v : VT} (h : VM 34 0 I v) : I 34 4 = nI (v 0 2) := h.1.2.2.2.2.1
theorem VM.mc {I : HI} {v : VT} (h : VM 34 0 I v) : I 34 5 = nI (v 0 5) := h.1.2.2.2.2.2.1
theorem VM.mb {I : HI} {v : VT} (h : VM 34 0 I v) : I 34 6 = nI (v 0 6) := h.1.2.2.2.2.2.2
theorem VM.kd {I : HI} {v : VT} (h : VM 34 0 I v) {p : Nat} (hp : p < v 0 3) : I 34 (7 + p) = nI (v 1 p) := (h.2.1 p hp).1
theorem VM.lv {I : HI} {v : VT} (h : VM 34 0 I v) {p : Nat} (hp : p < v 0 3) : I 34 (13 + p) = nI (v 2 p) := (h.2.1 p hp).2.1
theorem VM.sn {I : HI} {v : VT} (h : VM 34 0 I v) {p : Nat} (hp : p < v 0 3) : I 34 (19 + p) = nI (v 3 p) := (h.2.1 p hp).2.2.1
theorem VM.en {I : HI} {v : VT} (h : VM 34 0 I v) {p : Nat} (hp : p < v 0 3) : I 34 (25 + p) = nI (v 4 p) - 1 := (h.2.1 p hp).2.2.2
theorem VM.fl {I : HI} {v : VT} (h : VM 34 0 I v) {p : Nat} (hp : p < v 0 4) : I 34 (31 + p) = nI (v 5 p) := h.2.2.1 p hp
theorem VM.cp {I : HI} {v : VT} (h : VM 34 0 I v) {p : Nat} (hp : p < v 0 5) : I 34 (39 + 3 * p) = nI (v 6 p) := (h.2.2.2.1 p hp).1
theorem VM.cm {I : HI} {v : VT} (h : VM 34 0 I v) {p : Nat} (hp : p < v 0 5) : I 34 (40 + 3 * p) = nI (v 7 p) := (h.2.2.2.1 p hp).2.1
theorem VM.cv {I : HI} {v : VT} (h : VM 34 0 I v) {p : Nat} (hp : p < v 0 5) : I 34 (41 + 3 * p) = nI (v 8 p) := (h.2.2.2.1 p hp).2.2
theorem VM.congr {b o : Nat} {I I' : HI} {v : VT} (h : VM b o I v) (he : I' b = I b) : VM b o I' v := by
  unfold VM
  rw [he]
  exact h
def mimK (I : HI) (j : Nat) (k : Option VT) : Prop := (k = none ∧ I 37 j = nI 0) ∨ ∃ u, k = some u ∧ I 37 j = nI 1 ∧ VM 36 (167 * j) I u
/-- the model's cells tell S -/
def MI (S : SS) (I : HI) (J : HJ) : Prop :=
  VM 34 0 I S.v ∧ (I 33 4 = nI S.tl ∧ (∀ i, i < S.tl → I 38 i = nI (S.tx i)) ∧ S.tl ≤ 150 ∧ ∀ i, i < S.tl → S.tx i ≤ 127) ∧ (I 39 0 = S.r0 ∧ I 39 1 = S.r1 ∧ I 39 2 = S.r2) ∧ (J 33 12 = lN S.up ∧ J 33 13 = lN S.lo) ∧ mimK I 0 S.k0 ∧ mimK I 1 S.k1
/-- the class's cells are as they were -/
def CF (I : HI) (J : HJ) (I' : HI) (J' : HJ) : Prop := ∀ a, (a < 33 ∨ 43 < a) → I' a = I a ∧ J' a = J a
def MP (Q : jPost) (T : SS × Int32) (n : Nat) (I : HI) (J : HJ) (P : HP) : Prop := ∀ I' J', MI T.1 I' J' → CF I J I' J' → Q (some (.int T.2)) n I' J' P
theorem CF.rf {I : HI} {J : HJ} : CF I J I J := fun _ _ => ⟨rfl, rfl⟩
theorem CF.trans {I I1 I2 : HI} {J J1 J2 : HJ} (h : CF I J I1 J1) (h2 : CF I1 J1 I2 J2) : CF I J I2 J2 := fun a h3 => ⟨(h2 a h3).1.trans (h a h3).1, (h2 a h3).2.trans (h a h3).2⟩
theorem MI.v {S : SS} {I : HI} {J : HJ} (h : MI S I J) : VM 34 0 I S.v := h.1
theorem mimK.congr {I I' : HI} {j : Nat} {k : Option VT} (h : mimK I j k) (h6 : I' 36 = I 36) (h7 : I' 37 = I 37) : mimK I' j k := by
  rcases h with ⟨a, b⟩ | ⟨u, a, b, c⟩
  · exact Or.inl ⟨a, by rw [h7]; exact b⟩
  · exact Or.inr ⟨u, a, by rw [h7]; exact b, c.congr h6⟩
theorem MI.one {S : SS} {I I' : HI} {J : HJ} {v : VT} (h : MI S I J) (hv : VM 34 0 I' v) (he : ∀ a, a ≠ 34 → I' a = I a) : MI (S.set v) I' J := by
  refine ⟨hv, ?_, ?_, h.2.2.2.1, h.2.2.2.2.1.congr (he 36 (by omega)) (he 37 (by omega)), h.2.2.2.2.2.congr (he 36 (by omega)) (he 37 (by omega))⟩
  · rw [he 33 (by omega), he 38 (by omega)]; exact h.2.1
  · rw [he 39 (by omega)]; exact h.2.2.1
set_option maxHeartbeats 4000000 in
set_option maxRecDepth 100000 in
theorem c_min {X : jX} {d n : Nat} {I : HI} {J : HJ} {P : HP} {Q : jPost} {a b c : Int32} (hQ1 : inR a b c → Q (some (.int (nI 1))) n I J P) (hQ0 : ¬ inR a b c → Q (some (.int (nI 0))) n I J P) : Cj X d 0 0 mX10_in [.int a, .int b, .int c] n I J P Q := by
  refine Cj.intro rfl (Nat.le_of_ble_eq_true rfl) (L := [.int a, .int b, .int c]) rfl ?_
  refine j_iload_n dX10_in_0 rfl rfl rfl ?_
  refine j_iload_n dX10_in_1 rfl rfl rfl ?_
  refine j_icmplt (tgt := 14) dX10_in_2 rfl rfl (fun h1 => ?_) (fun h1 => ?_)
  · refine j_iconst (v := nI 0) dX10_in_14 rfl rfl ?_
    refine j_iret dX10_in_15 rfl rfl ?_
    exact hQ0 (fun q => by first | exact absurd (by assumption) q.1 | exact absurd (by assumption) q.2)
  · refine j_iload_n dX10_in_5 rfl rfl rfl ?_
    refine j_iload_n dX10_in_6 rfl rfl rfl ?_
    refine j_icmpgt (tgt := 14) dX10_in_7 rfl rfl (fun h2 => ?_) (fun h2 => ?_)
    · refine j_iconst (v := nI 0) dX10_in_14 rfl rfl ?_
      refine j_iret dX10_in_15 rfl rfl ?_
      exact hQ0 (fun q => by first | exact absurd (by assumption) q.1 | exact absurd (by assumption) q.2)
    · refine j_iconst (v := nI 1) dX10_in_10 rfl rfl ?_
      refine j_goto (tgt := 15) dX10_in_11 rfl ?_
      refine j_iret dX10_in_15 rfl rfl ?_
      exact hQ1 ⟨by assumption, by assumption⟩
