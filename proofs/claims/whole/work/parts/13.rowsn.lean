/-! rows over natural numbers, and rows whose answer is named -/
theorem nI_lt31 {a : Nat} (h : a < 2 ^ 31) : a < 2 ^ 31 := h
section JM
variable {X : jX} {d bc bs : Nat} {M : MD} {Q : jPost} {pc : Nat} {L st : List Value} {n : Nat} {I : HI} {J : HJ} {P : HP}
theorem j_iaddN {pc' a b c : Nat} (hd : decode M.2.1 pc = .ok (.iadd, 1)) (hp : pc + 1 = pc') (hc : a + b = c) (k : Rj X d bc bs M Q pc' L (.int (nI c) :: st) n I J P) : Rj X d bc bs M Q pc L (.int (nI b) :: .int (nI a) :: st) n I J P :=
  j_iadd hd hp (by rw [nI_add, hc]; exact k)
theorem j_isubN {pc' a b c : Nat} (hd : decode M.2.1 pc = .ok (.isub, 1)) (hp : pc + 1 = pc') (h : b ≤ a) (hc : a - b = c) (k : Rj X d bc bs M Q pc' L (.int (nI c) :: st) n I J P) : Rj X d bc bs M Q pc L (.int (nI b) :: .int (nI a) :: st) n I J P :=
  j_isub hd hp (by rw [pk_sub h, hc]; exact k)
theorem j_imulN {pc' a b c : Nat} (hd : decode M.2.1 pc = .ok (.imul, 1)) (hp : pc + 1 = pc') (hc : a * b = c) (k : Rj X d bc bs M Q pc' L (.int (nI c) :: st) n I J P) : Rj X d bc bs M Q pc L (.int (nI b) :: .int (nI a) :: st) n I J P :=
  j_imul hd hp (by rw [pk_mul, hc]; exact k)
theorem j_idivN {pc' a b c : Nat} (hd : decode M.2.1 pc = .ok (.idiv, 1)) (hp : pc + 1 = pc') (ha : a < 2 ^ 31) (h0 : 0 < b) (hb : b < 2 ^ 31) (hc : a / b = c) (k : Rj X d bc bs M Q pc' L (.int (nI c) :: st) n I J P) : Rj X d bc bs M Q pc L (.int (nI b) :: .int (nI a) :: st) n I J P :=
  j_idiv hd hp (nI_ne0 h0 hb) (by rw [pk_div ha h0 hb, hc]; exact k)
theorem j_iremN {pc' a b c : Nat} (hd : decode M.2.1 pc = .ok (.irem, 1)) (hp : pc + 1 = pc') (ha : a < 2 ^ 31) (h0 : 0 < b) (hb : b < 2 ^ 31) (hc : a % b = c) (k : Rj X d bc bs M Q pc' L (.int (nI c) :: st) n I J P) : Rj X d bc bs M Q pc L (.int (nI b) :: .int (nI a) :: st) n I J P :=
  j_irem hd hp (nI_ne0 h0 hb) (by rw [pk_rem ha h0 hb, hc]; exact k)
theorem j_iincN {pc' i a b c : Nat} {z : Int} {L' : List Value} (hd : decode M.2.1 pc = .ok (.iinc i z, 3)) (hp : pc + 3 = pc') (h0 : L[i]? = some (.int (nI a))) (hz : Int32.ofInt z = nI b) (hc : a + b = c) (hL : L.set i (.int (nI c)) = L') (hn : i < M.2.2.1) (hg : jv_g L i = true) (k : Rj X d bc bs M Q pc' L' st n I J P) : Rj X d bc bs M Q pc L st n I J P :=
  j_iinc hd hp h0 (by rw [hz, nI_add, hc]) hL hn hg k
theorem j_val {v w : Int32} (h : v = w) (k : Rj X d bc bs M Q pc L (.int w :: st) n I J P) : Rj X d bc bs M Q pc L (.int v :: st) n I J P := by rw [h]; exact k
theorem j_valJ {v w : Int64} (h : v = w) (k : Rj X d bc bs M Q pc L (.long w :: st) n I J P) : Rj X d bc bs M Q pc L (.long v :: st) n I J P := by rw [h]; exact k
theorem j_getIv {pc' idx ci k a : Nat} {v : Int32} (hd : decode M.2.1 pc = .ok (.getfield idx, 3)) (hp : pc + 3 = pc') (hf : PF M.1.cls idx ci k) (hs : shp a = (0, ci)) (ha : a < 1000) (ht : jty ci k = .int) (hv : I a k = v) (kk : Rj X d bc bs M Q pc' L (.int v :: st) n I J P) : Rj X d bc bs M Q pc L (.ref a :: st) n I J P :=
  j_getI hd hp hf hs ha ht (by rw [hv]; exact kk)
theorem j_getJv {pc' idx ci k a : Nat} {v : Int64} (hd : decode M.2.1 pc = .ok (.getfield idx, 3)) (hp : pc + 3 = pc') (hf : PF M.1.cls idx ci k) (hs : shp a = (0, ci)) (ha : a < 1000) (ht : jty ci k = .long) (hv : J a k = v) (kk : Rj X d bc bs M Q pc' L (.long v :: st) n I J P) : Rj X d bc bs M Q pc L (.ref a :: st) n I J P :=
  j_getJ hd hp hf hs ha ht (by rw [hv]; exact kk)
theorem jin {i : Int32} {j len : Nat} (hi : i = nI j) (hj : j < len) (hl : len < 2 ^ 31) : vp_in i len ∧ i.toNatClampNeg = j := by
  subst hi
  exact ⟨vp_in_nI hj hl, nI_clamp (by omega)⟩

theorem j_iald {pc' a len j : Nat} {i : Int32} {v : Int32} (hd : decode M.2.1 pc = .ok (.iaload, 1)) (hp : pc + 1 = pc') (hs : shp a = (1, len)) (ha : a < 1000) (hi : i = nI j) (hj : j < len) (hl : len < 2 ^ 31) (hv : I a j = v) (kk : Rj X d bc bs M Q pc' L (.int v :: st) n I J P) : Rj X d bc bs M Q pc L (.int i :: .ref a :: st) n I J P := by
  obtain ⟨h1, h2⟩ := jin hi hj hl
  exact j_iaload hd hp hs ha h1 (by rw [h2, hv]; exact kk)
theorem j_bald {pc' a len j : Nat} {i : Int32} {v : Int32} (hd : decode M.2.1 pc = .ok (.baload, 1)) (hp : pc + 1 = pc') (hs : shp a = (3, len)) (ha : a < 1000) (hi : i = nI j) (hj : j < len) (hl : len < 2 ^ 31) (hv : I a j = v) (kk : Rj X d bc bs M Q pc' L (.int v :: st) n I J P) : Rj X d bc bs M Q pc L (.int i :: .ref a :: st) n I J P := by
  obtain ⟨h1, h2⟩ := jin hi hj hl
  exact j_baload hd hp hs ha h1 (by rw [h2, hv]; exact kk)
theorem j_zald {pc' a len j : Nat} {i : Int32} {v : Int32} (hd : decode M.2.1 pc = .ok (.baload, 1)) (hp : pc + 1 = pc') (hs : shp a = (4, len)) (ha : a < 1000) (hi : i = nI j) (hj : j < len) (hl : len < 2 ^ 31) (hv : I a j = v) (kk : Rj X d bc bs M Q pc' L (.int v :: st) n I J P) : Rj X d bc bs M Q pc L (.int i :: .ref a :: st) n I J P := by
  obtain ⟨h1, h2⟩ := jin hi hj hl
  exact j_zaload hd hp hs ha h1 (by rw [h2, hv]; exact kk)
theorem j_lald {pc' a len j : Nat} {i : Int32} {v : Int64} (hd : decode M.2.1 pc = .ok (.laload, 1)) (hp : pc + 1 = pc') (hs : shp a = (2, len)) (ha : a < 1000) (hi : i = nI j) (hj : j < len) (hl : len < 2 ^ 31) (hv : J a j = v) (kk : Rj X d bc bs M Q pc' L (.long v :: st) n I J P) : Rj X d bc bs M Q pc L (.int i :: .ref a :: st) n I J P := by
  obtain ⟨h1, h2⟩ := jin hi hj hl
  exact j_laload hd hp hs ha h1 (by rw [h2, hv]; exact kk)
theorem j_iast {pc' a len j : Nat} {i : Int32} {v : Int32} (hd : decode M.2.1 pc = .ok (.iastore, 1)) (hp : pc + 1 = pc') (hs : shp a = (1, len)) (ha : a < 1000) (hi : i = nI j) (hj : j < len) (hl : len < 2 ^ 31) (kk : Rj X d bc bs M Q pc' L st n (u2 I a j v) J P) : Rj X d bc bs M Q pc L (.int v :: .int i :: .ref a :: st) n I J P := by
  obtain ⟨h1, h2⟩ := jin hi hj hl
  exact j_iastore hd hp hs ha h1 (by rw [h2]; exact kk)
theorem j_bast {pc' a len j : Nat} {i : Int32} {v : Int32} (hd : decode M.2.1 pc = .ok (.bastore, 1)) (hp : pc + 1 = pc') (hs : shp a = (3, len)) (ha : a < 1000) (hi : i = nI j) (hj : j < len) (hl : len < 2 ^ 31) (kk : Rj X d bc bs M Q pc' L st n (u2 I a j (vp_nar .byte v)) J P) : Rj X d bc bs M Q pc L (.int v :: .int i :: .ref a :: st) n I J P := by
  obtain ⟨h1, h2⟩ := jin hi hj hl
  exact j_bastore hd hp hs ha h1 (by rw [h2]; exact kk)
theorem j_zast {pc' a len j : Nat} {i : Int32} {v : Int32} (hd : decode M.2.1 pc = .ok (.bastore, 1)) (hp : pc + 1 = pc') (hs : shp a = (4, len)) (ha : a < 1000) (hi : i = nI j) (hj : j < len) (hl : len < 2 ^ 31) (kk : Rj X d bc bs M Q pc' L st n (u2 I a j (vp_nar .boolean v)) J P) : Rj X d bc bs M Q pc L (.int v :: .int i :: .ref a :: st) n I J P := by
  obtain ⟨h1, h2⟩ := jin hi hj hl
  exact j_zastore hd hp hs ha h1 (by rw [h2]; exact kk)
theorem j_last {pc' a len j : Nat} {i : Int32} {v : Int64} (hd : decode M.2.1 pc = .ok (.lastore, 1)) (hp : pc + 1 = pc') (hs : shp a = (2, len)) (ha : a < 1000) (hi : i = nI j) (hj : j < len) (hl : len < 2 ^ 31) (kk : Rj X d bc bs M Q pc' L st n I (u2 J a j v) P) : Rj X d bc bs M Q pc L (.long v :: .int i :: .ref a :: st) n I J P := by
  obtain ⟨h1, h2⟩ := jin hi hj hl
  exact j_lastore hd hp hs ha h1 (by rw [h2]; exact kk)
theorem j_icmpeqN {tgt pc' : Nat} {off : Int} {a b : Nat} (hd : decode M.2.1 pc = .ok (.if_icmp .eq off, 3)) (ht : (pc : Int) + off = (tgt : Int)) (hp : pc + 3 = pc') (ha : a < 2 ^ 31) (hb : b < 2 ^ 31) (k1 : a = b → Rj X d bc bs M Q tgt L st n I J P) (k2 : ¬ a = b → Rj X d bc bs M Q pc' L st n I J P) : Rj X d bc bs M Q pc L (.int (nI b) :: .int (nI a) :: st) n I J P :=
  j_icmpeq hd ht hp (fun h => k1 ((nI_eq ha hb).mp h)) (fun h => k2 (fun q => h ((nI_eq ha hb).mpr q)))
theorem j_ifeqN {tgt pc' : Nat} {off : Int} {a : Nat} (hd : decode M.2.1 pc = .ok (.ifCond .eq off, 3)) (ht : (pc : Int) + off = (tgt : Int)) (hp : pc + 3 = pc') (ha : a < 2 ^ 31) (k1 : a = 0 → Rj X d bc bs M Q tgt L st n I J P) (k2 : ¬ a = 0 → Rj X d bc bs M Q pc' L st n I J P) : Rj X d bc bs M Q pc L (.int (nI a) :: st) n I J P :=
  j_ifeq hd ht hp (fun h => k1 ((nI_eq ha (Nat.le_of_ble_eq_true rfl : 0 < 2 ^ 31)).mp h)) (fun h => k2 (fun q => h ((nI_eq ha (Nat.le_of_ble_eq_true rfl : 0 < 2 ^ 31)).mpr q)))
theorem j_icmpltN {tgt pc' : Nat} {off : Int} {a b : Nat} (hd : decode M.2.1 pc = .ok (.if_icmp .lt off, 3)) (ht : (pc : Int) + off = (tgt : Int)) (hp : pc + 3 = pc') (ha : a < 2 ^ 31) (hb : b < 2 ^ 31) (k1 : a < b → Rj X d bc bs M Q tgt L st n I J P) (k2 : ¬ a < b → Rj X d bc bs M Q pc' L st n I J P) : Rj X d bc bs M Q pc L (.int (nI b) :: .int (nI a) :: st) n I J P :=
  j_icmplt hd ht hp (fun h => k1 ((nI_ltI ha hb).mp h)) (fun h => k2 (fun q => h ((nI_ltI ha hb).mpr q)))
theorem j_ifltN {tgt pc' : Nat} {off : Int} {a : Nat} (hd : decode M.2.1 pc = .ok (.ifCond .lt off, 3)) (ht : (pc : Int) + off = (tgt : Int)) (hp : pc + 3 = pc') (ha : a < 2 ^ 31) (k1 : a < 0 → Rj X d bc bs M Q tgt L st n I J P) (k2 : ¬ a < 0 → Rj X d bc bs M Q pc' L st n I J P) : Rj X d bc bs M Q pc L (.int (nI a) :: st) n I J P :=
  j_iflt hd ht hp (fun h => k1 ((nI_ltI ha (Nat.le_of_ble_eq_true rfl : 0 < 2 ^ 31)).mp h)) (fun h => k2 (fun q => h ((nI_ltI ha (Nat.le_of_ble_eq_true rfl : 0 < 2 ^ 31)).mpr q)))
theorem j_icmpgeN {tgt pc' : Nat} {off : Int} {a b : Nat} (hd : decode M.2.1 pc = .ok (.if_icmp .ge off, 3)) (ht : (pc : Int) + off = (tgt : Int)) (hp : pc + 3 = pc') (ha : a < 2 ^ 31) (hb : b < 2 ^ 31) (k1 : b ≤ a → Rj X d bc bs M Q tgt L st n I J P) (k2 : ¬ b ≤ a → Rj X d bc bs M Q pc' L st n I J P) : Rj X d bc bs M Q pc L (.int (nI b) :: .int (nI a) :: st) n I J P :=
  j_icmpge hd ht hp (fun h => k1 ((nI_leI hb ha).mp h)) (fun h => k2 (fun q => h ((nI_leI hb ha).mpr q)))
theorem j_ifgeN {tgt pc' : Nat} {off : Int} {a : Nat} (hd : decode M.2.1 pc = .ok (.ifCond .ge off, 3)) (ht : (pc : Int) + off = (tgt : Int)) (hp : pc + 3 = pc') (ha : a < 2 ^ 31) (k1 : 0 ≤ a → Rj X d bc bs M Q tgt L st n I J P) (k2 : ¬ 0 ≤ a → Rj X d bc bs M Q pc' L st n I J P) : Rj X d bc bs M Q pc L (.int (nI a) :: st) n I J P :=
  j_ifge hd ht hp (fun h => k1 ((nI_leI (Nat.le_of_ble_eq_true rfl : 0 < 2 ^ 31) ha).mp h)) (fun h => k2 (fun q => h ((nI_leI (Nat.le_of_ble_eq_true rfl : 0 < 2 ^ 31) ha).mpr q)))
theorem j_icmpgtN {tgt pc' : Nat} {off : Int} {a b : Nat} (hd : decode M.2.1 pc = .ok (.if_icmp .gt off, 3)) (ht : (pc : Int) + off = (tgt : Int)) (hp : pc + 3 = pc') (ha : a < 2 ^ 31) (hb : b < 2 ^ 31) (k1 : b < a → Rj X d bc bs M Q tgt L st n I J P) (k2 : ¬ b < a → Rj X d bc bs M Q pc' L st n I J P) : Rj X d bc bs M Q pc L (.int (nI b) :: .int (nI a) :: st) n I J P :=
  j_icmpgt hd ht hp (fun h => k1 ((nI_ltI hb ha).mp h)) (fun h => k2 (fun q => h ((nI_ltI hb ha).mpr q)))
theorem j_ifgtN {tgt pc' : Nat} {off : Int} {a : Nat} (hd : decode M.2.1 pc = .ok (.ifCond .gt off, 3)) (ht : (pc : Int) + off = (tgt : Int)) (hp : pc + 3 = pc') (ha : a < 2 ^ 31) (k1 : 0 < a → Rj X d bc bs M Q tgt L st n I J P) (k2 : ¬ 0 < a → Rj X d bc bs M Q pc' L st n I J P) : Rj X d bc bs M Q pc L (.int (nI a) :: st) n I J P :=
  j_ifgt hd ht hp (fun h => k1 ((nI_ltI (Nat.le_of_ble_eq_true rfl : 0 < 2 ^ 31) ha).mp h)) (fun h => k2 (fun q => h ((nI_ltI (Nat.le_of_ble_eq_true rfl : 0 < 2 ^ 31) ha).mpr q)))
theorem j_icmpleN {tgt pc' : Nat} {off : Int} {a b : Nat} (hd : decode M.2.1 pc = .ok (.if_icmp .le off, 3)) (ht : (pc : Int) + off = (tgt : Int)) (hp : pc + 3 = pc') (ha : a < 2 ^ 31) (hb : b < 2 ^ 31) (k1 : a ≤ b → Rj X d bc bs M Q tgt L st n I J P) (k2 : ¬ a ≤ b → Rj X d bc bs M Q pc' L st n I J P) : Rj X d bc bs M Q pc L (.int (nI b) :: .int (nI a) :: st) n I J P :=
  j_icmple hd ht hp (fun h => k1 ((nI_leI ha hb).mp h)) (fun h => k2 (fun q => h ((nI_leI ha hb).mpr q)))
theorem j_ifleN {tgt pc' : Nat} {off : Int} {a : Nat} (hd : decode M.2.1 pc = .ok (.ifCond .le off, 3)) (ht : (pc : Int) + off = (tgt : Int)) (hp : pc + 3 = pc') (ha : a < 2 ^ 31) (k1 : a ≤ 0 → Rj X d bc bs M Q tgt L st n I J P) (k2 : ¬ a ≤ 0 → Rj X d bc bs M Q pc' L st n I J P) : Rj X d bc bs M Q pc L (.int (nI a) :: st) n I J P :=
  j_ifle hd ht hp (fun h => k1 ((nI_leI ha (Nat.le_of_ble_eq_true rfl : 0 < 2 ^ 31)).mp h)) (fun h => k2 (fun q => h ((nI_leI ha (Nat.le_of_ble_eq_true rfl : 0 < 2 ^ 31)).mpr q)))
theorem j_icmpneN {tgt pc' : Nat} {off : Int} {a b : Nat} (hd : decode M.2.1 pc = .ok (.if_icmp .ne off, 3)) (ht : (pc : Int) + off = (tgt : Int)) (hp : pc + 3 = pc') (ha : a < 2 ^ 31) (hb : b < 2 ^ 31) (k1 : ¬ a = b → Rj X d bc bs M Q tgt L st n I J P) (k2 : a = b → Rj X d bc bs M Q pc' L st n I J P) : Rj X d bc bs M Q pc L (.int (nI b) :: .int (nI a) :: st) n I J P :=
  j_icmpne hd ht hp (fun h => k1 (fun q => h ((nI_eq ha hb).mpr q))) (fun h => k2 ((nI_eq ha hb).mp h))
theorem j_ifneN {tgt pc' : Nat} {off : Int} {a : Nat} (hd : decode M.2.1 pc = .ok (.ifCond .ne off, 3)) (ht : (pc : Int) + off = (tgt : Int)) (hp : pc + 3 = pc') (ha : a < 2 ^ 31) (k1 : ¬ a = 0 → Rj X d bc bs M Q tgt L st n I J P) (k2 : a = 0 → Rj X d bc bs M Q pc' L st n I J P) : Rj X d bc bs M Q pc L (.int (nI a) :: st) n I J P :=
  j_ifne hd ht hp (fun h => k1 (fun q => h ((nI_eq ha (Nat.le_of_ble_eq_true rfl : 0 < 2 ^ 31)).mpr q))) (fun h => k2 ((nI_eq ha (Nat.le_of_ble_eq_true rfl : 0 < 2 ^ 31)).mp h))
/-- a truth as an int -/
def bI (c : Prop) [Decidable c] : Int32 := if c then 1 else 0
theorem bI_t {c : Prop} [Decidable c] (h : c) : bI c = 1 := if_pos h
theorem bI_f {c : Prop} [Decidable c] (h : ¬ c) : bI c = 0 := if_neg h
theorem bI_nar (c : Prop) [Decidable c] : narrow .boolean (.int (bI c)) = .int (bI c) := by
  unfold bI
  split <;> rfl
theorem bI_eq0 {c : Prop} [Decidable c] : bI c = 0 ↔ ¬ c := by
  unfold bI
  split <;> simp [*]
theorem j_ifneB {tgt pc' : Nat} {off : Int} {c : Prop} [Decidable c] (hd : decode M.2.1 pc = .ok (.ifCond .ne off, 3)) (ht : (pc : Int) + off = (tgt : Int)) (hp : pc + 3 = pc') (k1 : c → Rj X d bc bs M Q tgt L st n I J P) (k2 : ¬ c → Rj X d bc bs M Q pc' L st n I J P) : Rj X d bc bs M Q pc L (.int (bI c) :: st) n I J P :=
  j_ifne hd ht hp (fun h => k1 (Classical.not_not.mp (fun q => h (bI_eq0.mpr q)))) (fun h => k2 (bI_eq0.mp h))
theorem j_ifeqB {tgt pc' : Nat} {off : Int} {c : Prop} [Decidable c] (hd : decode M.2.1 pc = .ok (.ifCond .eq off, 3)) (ht : (pc : Int) + off = (tgt : Int)) (hp : pc + 3 = pc') (k1 : ¬ c → Rj X d bc bs M Q tgt L st n I J P) (k2 : c → Rj X d bc bs M Q pc' L st n I J P) : Rj X d bc bs M Q pc L (.int (bI c) :: st) n I J P :=
  j_ifeq hd ht hp (fun h => k1 (bI_eq0.mp h)) (fun h => k2 (Classical.not_not.mp (fun q => h (bI_eq0.mpr q))))
/-! calls, the caller's rest as the callee's end -/
theorem j_callVw {pc' idx b ci bc1 bs1 bc2 bs2 : Nat} {N : MD} {As st0 : List Value} (hd : decode M.2.1 pc = .ok (.invokevirtual idx, 3)) (hp : pc + 3 = pc') (hm : PMv M.1.cls idx N As.length) (hci : ci < jNc) (hs : shp b = (0, ci)) (hcn : jC ci = N.1.cls) (hb : b < 1000) (hst : As.reverse ++ .ref b :: st = st0) (hcat : (st.map fun v => v.category).sum ≤ 8) (hbc : bc2 + bc1 = bc) (hbs : bs2 + bs1 = bs)
    (hC : Cj X d bc1 bs1 N (.ref b :: As) n I J P (fun r n' I' J' P' => Rj X (d + 1) bc2 bs2 M Q pc' L (r.toList ++ st) n' I' J' P')) : Rj X (d + 1) bc bs M Q pc L st0 n I J P := by
  subst hp
  exact j_callV hd hm hC hci hs hcn hb hst hcat hbc hbs (fun _ _ _ _ _ h => h)
theorem j_callSw {pc' idx bc1 bs1 bc2 bs2 : Nat} {N : MD} {As st0 : List Value} (hd : decode M.2.1 pc = .ok (.invokestatic idx, 3)) (hp : pc + 3 = pc') (hm : PMs M.1.cls idx N As.length) (hst : As.reverse ++ st = st0) (hcat : (st.map fun v => v.category).sum ≤ 8) (hbc : bc2 + bc1 = bc) (hbs : bs2 + bs1 = bs)
    (hC : Cj X d bc1 bs1 N As n I J P (fun r n' I' J' P' => Rj X (d + 1) bc2 bs2 M Q pc' L (r.toList ++ st) n' I' J' P')) : Rj X (d + 1) bc bs M Q pc L st0 n I J P := by
  subst hp
  exact j_callS hd hm hC hst hcat hbc hbs (fun _ _ _ _ _ h => h)
theorem j_callSNw {pc' idx bc1 bs1 bc2 bs2 : Nat} {N : MD} {As st0 : List Value} (hd : decode M.2.1 pc = .ok (.invokestatic idx, 3)) (hp : pc + 3 = pc') (hm : PMsn M.1.cls idx N As.length) (hst : As.reverse ++ st = st0) (hcat : (st.map fun v => v.category).sum ≤ 8) (hbc : bc2 + bc1 = bc) (hbs : bs2 + bs1 = bs)
    (hC : Cj X d bc1 bs1 N As n I J P (fun r n' I' J' P' => Rj X (d + 1) bc2 bs2 M Q pc' L (r.toList ++ st) n' I' J' P')) : Rj X (d + 1) bc bs M Q pc L st0 n I J P := by
  subst hp
  exact j_callSN hd hm hC hst hcat hbc hbs (fun _ _ _ _ _ h => h)
theorem j_callIw {pc' idx b bc1 bs1 bc2 bs2 : Nat} {N : MD} {As st0 : List Value} (hd : decode M.2.1 pc = .ok (.invokespecial idx, 3)) (hp : pc + 3 = pc') (hm : PMi M.1.cls idx N As.length) (hst : As.reverse ++ .ref b :: st = st0) (hcat : (st.map fun v => v.category).sum ≤ 8) (hbc : bc2 + bc1 = bc) (hbs : bs2 + bs1 = bs)
    (hC : Cj X d bc1 bs1 N (.ref b :: As) n I J P (fun r n' I' J' P' => Rj X (d + 1) bc2 bs2 M Q pc' L (r.toList ++ st) n' I' J' P')) : Rj X (d + 1) bc bs M Q pc L st0 n I J P := by
  subst hp
  exact j_callI hd hm hC hst hcat hbc hbs (fun _ _ _ _ _ h => h)
theorem j_callINw {pc' idx b bc1 bs1 bc2 bs2 : Nat} {N : MD} {As st0 : List Value} (hd : decode M.2.1 pc = .ok (.invokespecial idx, 3)) (hp : pc + 3 = pc') (hm : PMin M.1.cls idx N As.length) (hst : As.reverse ++ .ref b :: st = st0) (hcat : (st.map fun v => v.category).sum ≤ 8) (hbc : bc2 + bc1 = bc) (hbs : bs2 + bs1 = bs)
    (hC : Cj X d bc1 bs1 N (.ref b :: As) n I J P (fun r n' I' J' P' => Rj X (d + 1) bc2 bs2 M Q pc' L (r.toList ++ st) n' I' J' P')) : Rj X (d + 1) bc bs M Q pc L st0 n I J P := by
  subst hp
  exact j_callIN hd hm hC hst hcat hbc hbs (fun _ _ _ _ _ h => h)
theorem j_callVSw {pc' idx i bc1 bs1 bc2 bs2 : Nat} {N : MD} {As st0 : List Value} (hi : i < 5) (hd : decode M.2.1 pc = .ok (.invokevirtual idx, 3)) (hp : pc + 3 = pc') (hm : PMv M.1.cls idx N As.length) (hcn : N.1.cls = "java/lang/String") (hst : As.reverse ++ .ref (1000 + i) :: st = st0) (hcat : (st.map fun v => v.category).sum ≤ 8) (hbc : bc2 + bc1 = bc) (hbs : bs2 + bs1 = bs)
    (hC : Cj X d bc1 bs1 N (.ref (1000 + i) :: As) n I J P (fun r n' I' J' P' => Rj X (d + 1) bc2 bs2 M Q pc' L (r.toList ++ st) n' I' J' P')) : Rj X (d + 1) bc bs M Q pc L st0 n I J P := by
  subst hp
  exact j_callVS hi hd hm hC hcn hst hcat hbc hbs (fun _ _ _ _ _ h => h)
end JM
