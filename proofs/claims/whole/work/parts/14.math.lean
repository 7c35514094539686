/-! bits over naturals -/
theorem nI_bv (n : Nat) : (nI n).toBitVec = BitVec.ofNat 32 n := rfl
theorem nI_or (a b : Nat) : nI a ||| nI b = nI (a ||| b) := by
  apply Int32.toBitVec_inj.mp
  rw [Int32.toBitVec_or, nI_bv, nI_bv, nI_bv, BitVec.ofNat_or]
theorem nI_and (a b : Nat) : nI a &&& nI b = nI (a &&& b) := by
  apply Int32.toBitVec_inj.mp
  rw [Int32.toBitVec_and, nI_bv, nI_bv, nI_bv, BitVec.ofNat_and]
theorem nI_31 {b : Nat} (h : b < 32) : nI b &&& 31 = nI b := by
  rw [show (31 : Int32) = nI 31 from rfl, nI_and]
  congr 1
  have h1 := Nat.and_two_pow_sub_one_eq_mod b 5
  rw [show (31 : Nat) = 2 ^ 5 - 1 from rfl, h1]
  exact Nat.mod_eq_of_lt h
theorem nI_smod {b : Nat} (h : b < 32) : ((nI b).toBitVec.smod 32).toNat = b := by
  rw [nI_bv]
  have : ∀ b : Fin 32, ((BitVec.ofNat 32 b.val).smod 32).toNat = b.val := by decide +kernel
  exact this ⟨b, h⟩
theorem nI_shr {a b : Nat} (ha : a < 2 ^ 31) (hb : b < 32) : nI a >>> (nI b &&& 31) = nI (a / 2 ^ b) := by
  rw [nI_31 hb]
  exact pk_shrN ha _ b (nI_smod hb)
theorem nI_shl {a b : Nat} (hb : b < 32) : nI a <<< (nI b &&& 31) = nI (a * 2 ^ b) := by
  rw [nI_31 hb]
  apply Int32.toBitVec_inj.mp
  apply BitVec.eq_of_toNat_eq
  rw [pk_shl _ _ b (nI_smod hb), nI_bv, nI_bv, BitVec.toNat_ofNat, BitVec.toNat_ofNat, Nat.mod_mul_mod]
theorem nI_and1 (a : Nat) : nI a &&& nI 1 = nI (a % 2) := by
  rw [nI_and]
  congr 1
  exact Nat.and_one_is_mod a
section JB
variable {X : jX} {d bc bs : Nat} {M : MD} {Q : jPost} {pc : Nat} {L st : List Value} {n : Nat} {I : HI} {J : HJ} {P : HP}
theorem j_ishrN {pc' a b c : Nat} (hd : decode M.2.1 pc = .ok (.ishr, 1)) (hp : pc + 1 = pc') (ha : a < 2 ^ 31) (hb : b < 32) (hc : a / 2 ^ b = c) (k : Rj X d bc bs M Q pc' L (.int (nI c) :: st) n I J P) : Rj X d bc bs M Q pc L (.int (nI b) :: .int (nI a) :: st) n I J P :=
  j_ishr hd hp (by rw [nI_shr ha hb, hc]; exact k)
theorem j_ishlN {pc' a b c : Nat} (hd : decode M.2.1 pc = .ok (.ishl, 1)) (hp : pc + 1 = pc') (hb : b < 32) (hc : a * 2 ^ b = c) (k : Rj X d bc bs M Q pc' L (.int (nI c) :: st) n I J P) : Rj X d bc bs M Q pc L (.int (nI b) :: .int (nI a) :: st) n I J P :=
  j_ishl hd hp (by rw [nI_shl hb, hc]; exact k)
theorem j_iorN {pc' a b c : Nat} (hd : decode M.2.1 pc = .ok (.ior, 1)) (hp : pc + 1 = pc') (hc : a ||| b = c) (k : Rj X d bc bs M Q pc' L (.int (nI c) :: st) n I J P) : Rj X d bc bs M Q pc L (.int (nI b) :: .int (nI a) :: st) n I J P :=
  j_ior hd hp (by rw [nI_or, hc]; exact k)
theorem j_iand1N {pc' a c : Nat} (hd : decode M.2.1 pc = .ok (.iand, 1)) (hp : pc + 1 = pc') (hc : a % 2 = c) (k : Rj X d bc bs M Q pc' L (.int (nI c) :: st) n I J P) : Rj X d bc bs M Q pc L (.int (nI 1) :: .int (nI a) :: st) n I J P :=
  j_iand hd hp (by rw [nI_and1, hc]; exact k)
/-- a switch over a small natural number -/
theorem j_tabN {tgt len a k : Nat} {dflt off : Int} {lo hi : Int} {offs : Array Int} (hd : decode M.2.1 pc = .ok (.tableswitch dflt lo hi offs, len)) (ha : a < 2 ^ 31) (h1 : lo = (k : Int)) (h2 : k ≤ a) (h3 : (a : Int) ≤ hi) (ho : offs[a - k]? = some off) (ht : (pc : Int) + off = (tgt : Int)) (kk : Rj X d bc bs M Q tgt L st n I J P) : Rj X d bc bs M Q pc L (.int (nI a) :: st) n I J P := by
  subst h1
  have e := nI_toInt ha
  refine j_tabIn hd (by rw [e]; omega) (by rw [e]; omega) (off := off) ?_ ht kk
  rw [e, show ((a : Int) - (k : Int)).toNat = a - k by omega]
  exact ho
theorem j_tabD {tgt len a : Nat} {dflt lo hi : Int} {offs : Array Int} (hd : decode M.2.1 pc = .ok (.tableswitch dflt lo hi offs, len)) (ha : a < 2 ^ 31) (h : (a : Int) < lo ∨ hi < (a : Int)) (ht : (pc : Int) + dflt = (tgt : Int)) (kk : Rj X d bc bs M Q tgt L st n I J P) : Rj X d bc bs M Q pc L (.int (nI a) :: st) n I J P := by
  have e := nI_toInt ha
  exact j_tabOut hd (by rw [e]; exact h) ht kk
end JB
/-! what goes in a year -/
def tb (m j : Nat) : Nat := m / 2 ^ j % 2
def gPl (y dr : Nat) : Nat := if dr / 2 ^ (y % 12) % 2 = 1 then 2 else 1
def gRi (y dr : Nat) : Nat := if y % 2 = 0 then gPl y dr else 0
def gQu (y dr : Nat) : Nat := if y % 5 = 4 then gPl y dr + 2 else gPl y dr
def gos (k y da dr : Nat) : Nat := match k with
  | 1 => gRi y dr
  | 2 => gQu y dr
  | 3 => if da / 2 ^ (y % 12) % 2 = 1 then 2 * gPl y dr else gPl y dr
  | 4 => if y % 3 = 2 then gQu y dr + 1 else gQu y dr
  | 5 => if y % 5 = 4 then gRi y dr else if gRi y dr = 0 then gRi y dr else gRi y dr - 1
  | _ => gPl y dr
theorem gPl_le (y dr : Nat) : gPl y dr ≤ 2 := by unfold gPl; split <;> omega
theorem gPl_pos (y dr : Nat) : 1 ≤ gPl y dr := by unfold gPl; split <;> omega
theorem gRi_le (y dr : Nat) : gRi y dr ≤ 2 := by unfold gRi; have := gPl_le y dr; split <;> omega
theorem gQu_le (y dr : Nat) : gQu y dr ≤ 4 := by unfold gQu; have := gPl_le y dr; split <;> omega
theorem gos_le (k y da dr : Nat) : gos k y da dr ≤ 5 := by
  have h1 := gPl_le y dr; have h2 := gRi_le y dr; have h3 := gQu_le y dr
  unfold gos
  split <;> (try split) <;> (try split) <;> omega
