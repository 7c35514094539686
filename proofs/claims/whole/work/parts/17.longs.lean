/-! rows over longs that are natural numbers -/
section JL
variable {X : jX} {d bc bs : Nat} {M : MD} {Q : jPost} {pc : Nat} {L st : List Value} {n : Nat} {I : HI} {J : HJ} {P : HP}
theorem lN_ne0 {b : Nat} (h0 : 0 < b) (hb : b < 2 ^ 63) : ¬ lN b = 0 := fun q => by
  have h : lN b = lN 0 := q
  rw [pk_lEQ hb (by omega)] at h
  omega
theorem j_laddN {pc' a b c : Nat} (hd : decode M.2.1 pc = .ok (.ladd, 1)) (hp : pc + 1 = pc') (hc : a + b = c) (k : Rj X d bc bs M Q pc' L (.long (lN c) :: st) n I J P) : Rj X d bc bs M Q pc L (.long (lN b) :: .long (lN a) :: st) n I J P :=
  j_ladd hd hp (by rw [lN_add, hc]; exact k)
theorem j_lmulN {pc' a b c : Nat} (hd : decode M.2.1 pc = .ok (.lmul, 1)) (hp : pc + 1 = pc') (hc : a * b = c) (k : Rj X d bc bs M Q pc' L (.long (lN c) :: st) n I J P) : Rj X d bc bs M Q pc L (.long (lN b) :: .long (lN a) :: st) n I J P :=
  j_lmul hd hp (by rw [lN_mul, hc]; exact k)
theorem j_lsubN {pc' a b c : Nat} (hd : decode M.2.1 pc = .ok (.lsub, 1)) (hp : pc + 1 = pc') (h : b ≤ a) (hc : a - b = c) (k : Rj X d bc bs M Q pc' L (.long (lN c) :: st) n I J P) : Rj X d bc bs M Q pc L (.long (lN b) :: .long (lN a) :: st) n I J P :=
  j_lsub hd hp (by rw [lN_sub h, hc]; exact k)
theorem j_ldivN {pc' a b c : Nat} (hd : decode M.2.1 pc = .ok (.ldiv, 1)) (hp : pc + 1 = pc') (ha : a < 2 ^ 63) (h0 : 0 < b) (hb : b < 2 ^ 63) (hc : a / b = c) (k : Rj X d bc bs M Q pc' L (.long (lN c) :: st) n I J P) : Rj X d bc bs M Q pc L (.long (lN b) :: .long (lN a) :: st) n I J P :=
  j_ldiv hd hp (lN_ne0 h0 hb) (by rw [pk_lDiv ha h0 hb, hc]; exact k)
theorem j_lremN {pc' a b c : Nat} (hd : decode M.2.1 pc = .ok (.lrem, 1)) (hp : pc + 1 = pc') (ha : a < 2 ^ 63) (h0 : 0 < b) (hb : b < 2 ^ 63) (hc : a % b = c) (k : Rj X d bc bs M Q pc' L (.long (lN c) :: st) n I J P) : Rj X d bc bs M Q pc L (.long (lN b) :: .long (lN a) :: st) n I J P :=
  j_lrem hd hp (lN_ne0 h0 hb) (by rw [pk_lRem ha h0 hb, hc]; exact k)
theorem j_i2lN {pc' a : Nat} (hd : decode M.2.1 pc = .ok (.i2l, 1)) (hp : pc + 1 = pc') (ha : a < 2 ^ 31) (k : Rj X d bc bs M Q pc' L (.long (lN a) :: st) n I J P) : Rj X d bc bs M Q pc L (.int (nI a) :: st) n I J P :=
  j_i2l hd hp (by rw [nI_l ha]; exact k)
theorem j_ifeqL {tgt pc' : Nat} {off : Int} {a b : Nat} (hd : decode M.2.1 pc = .ok (.ifCond .eq off, 3)) (ht : (pc : Int) + off = (tgt : Int)) (hp : pc + 3 = pc') (ha : a < 2 ^ 63) (hb : b < 2 ^ 63) (k1 : a = b → Rj X d bc bs M Q tgt L st n I J P) (k2 : ¬ a = b → Rj X d bc bs M Q pc' L st n I J P) : Rj X d bc bs M Q pc L (.int (lg_cmp (lN a) (lN b)) :: st) n I J P :=
  j_ifeq hd ht hp (fun h => k1 (((lg_cmp_eq _ _).trans (pk_lEQ ha hb)).mp h)) (fun h => k2 (fun q => h (((lg_cmp_eq _ _).trans (pk_lEQ ha hb)).mpr q)))
theorem j_ifltL {tgt pc' : Nat} {off : Int} {a b : Nat} (hd : decode M.2.1 pc = .ok (.ifCond .lt off, 3)) (ht : (pc : Int) + off = (tgt : Int)) (hp : pc + 3 = pc') (ha : a < 2 ^ 63) (hb : b < 2 ^ 63) (k1 : a < b → Rj X d bc bs M Q tgt L st n I J P) (k2 : ¬ a < b → Rj X d bc bs M Q pc' L st n I J P) : Rj X d bc bs M Q pc L (.int (lg_cmp (lN a) (lN b)) :: st) n I J P :=
  j_iflt hd ht hp (fun h => k1 (((lg_cmp_lt _ _).trans (pk_lLT ha hb)).mp h)) (fun h => k2 (fun q => h (((lg_cmp_lt _ _).trans (pk_lLT ha hb)).mpr q)))
theorem j_ifgeL {tgt pc' : Nat} {off : Int} {a b : Nat} (hd : decode M.2.1 pc = .ok (.ifCond .ge off, 3)) (ht : (pc : Int) + off = (tgt : Int)) (hp : pc + 3 = pc') (ha : a < 2 ^ 63) (hb : b < 2 ^ 63) (k1 : b ≤ a → Rj X d bc bs M Q tgt L st n I J P) (k2 : ¬ b ≤ a → Rj X d bc bs M Q pc' L st n I J P) : Rj X d bc bs M Q pc L (.int (lg_cmp (lN a) (lN b)) :: st) n I J P :=
  j_ifge hd ht hp (fun h => k1 (((lg_cmp_ge _ _).trans (pk_lLE hb ha)).mp h)) (fun h => k2 (fun q => h (((lg_cmp_ge _ _).trans (pk_lLE hb ha)).mpr q)))
theorem j_ifgtL {tgt pc' : Nat} {off : Int} {a b : Nat} (hd : decode M.2.1 pc = .ok (.ifCond .gt off, 3)) (ht : (pc : Int) + off = (tgt : Int)) (hp : pc + 3 = pc') (ha : a < 2 ^ 63) (hb : b < 2 ^ 63) (k1 : b < a → Rj X d bc bs M Q tgt L st n I J P) (k2 : ¬ b < a → Rj X d bc bs M Q pc' L st n I J P) : Rj X d bc bs M Q pc L (.int (lg_cmp (lN a) (lN b)) :: st) n I J P :=
  j_ifgt hd ht hp (fun h => k1 (((lg_cmp_gt _ _).trans (pk_lLT hb ha)).mp h)) (fun h => k2 (fun q => h (((lg_cmp_gt _ _).trans (pk_lLT hb ha)).mpr q)))
theorem j_ifleL {tgt pc' : Nat} {off : Int} {a b : Nat} (hd : decode M.2.1 pc = .ok (.ifCond .le off, 3)) (ht : (pc : Int) + off = (tgt : Int)) (hp : pc + 3 = pc') (ha : a < 2 ^ 63) (hb : b < 2 ^ 63) (k1 : a ≤ b → Rj X d bc bs M Q tgt L st n I J P) (k2 : ¬ a ≤ b → Rj X d bc bs M Q pc' L st n I J P) : Rj X d bc bs M Q pc L (.int (lg_cmp (lN a) (lN b)) :: st) n I J P :=
  j_ifle hd ht hp (fun h => k1 (((lg_cmp_le _ _).trans (pk_lLE ha hb)).mp h)) (fun h => k2 (fun q => h (((lg_cmp_le _ _).trans (pk_lLE ha hb)).mpr q)))
theorem j_ifneL {tgt pc' : Nat} {off : Int} {a b : Nat} (hd : decode M.2.1 pc = .ok (.ifCond .ne off, 3)) (ht : (pc : Int) + off = (tgt : Int)) (hp : pc + 3 = pc') (ha : a < 2 ^ 63) (hb : b < 2 ^ 63) (k1 : ¬ a = b → Rj X d bc bs M Q tgt L st n I J P) (k2 : a = b → Rj X d bc bs M Q pc' L st n I J P) : Rj X d bc bs M Q pc L (.int (lg_cmp (lN a) (lN b)) :: st) n I J P :=
  j_ifne hd ht hp (fun h => k1 (fun q => h (((lg_cmp_eq _ _).trans (pk_lEQ ha hb)).mpr q))) (fun h => k2 (((lg_cmp_eq _ _).trans (pk_lEQ ha hb)).mp h))
end JL
