/-! THE ABSTRACT HEAP: cells by their numbers in the order in which they are made; ints, longs, references by cell and place -/
abbrev HI : Type := Nat → Nat → Int32
abbrev HJ : Type := Nat → Nat → Int64
abbrev HP : Type := Nat → Nat → Option Nat
abbrev jX : Type := Nat × (Nat → Int32)
abbrev jPost : Type := Option Value → Nat → HI → HJ → HP → Prop
/-- a local that isn't known -/
def jU : Value := .retAddr 0
def jv_ren (ad : Nat → Nat) (v : Value) : Value := match v with
  | .ref a => .ref (ad a)
  | w => w
/-- kinds of cells: 0 an object of a class, 1 ints, 2 longs, 3 bytes, 4 booleans, 5 references -/
def jsh : List (Nat × Nat) := [(0, 7), (0, 6), (1, 6), (1, 6), (1, 6), (1, 6), (1, 8), (1, 8), (1, 8), (1, 8), (0, 3), (1, 104), (5, 2), (0, 4), (3, 150), (0, 6), (1, 6), (1, 6), (1, 6), (1, 6), (1, 8), (1, 8), (1, 8), (1, 8), (0, 3), (1, 104), (0, 0), (1, 6), (2, 61), (0, 2), (0, 5), (1, 6), (0, 1), (0, 8), (1, 167), (1, 167), (1, 334), (4, 2), (1, 150), (1, 3), (1, 6), (1, 15), (2, 61), (2, 61), (0, 6), (1, 6), (1, 6), (1, 6), (1, 6), (1, 8), (1, 8), (1, 8), (1, 8), (0, 3), (1, 104), (0, 6), (1, 6), (1, 6), (1, 6), (1, 6), (1, 8), (1, 8), (1, 8), (1, 8), (0, 3), (1, 104)]
def shp (a : Nat) : Nat × Nat := jsh.getD a (9, 0)
def jv_fld (ad : Nat → Nat) (I : HI) (J : HJ) (P : HP) (ci a k : Nat) : Value := match jty ci k with
  | .int => .int (I a k)
  | .long => .long (J a k)
  | _ => va_rf ((P a k).map ad)
def jv_cell (tc : Nat → ClassId) (ad : Nat → Nat) (I : HI) (J : HJ) (P : HP) (a : Nat) : va_E := match (shp a).1 with
  | 0 => .inr ((shp a).2, (List.range (fnm (shp a).2)).map (jv_fld ad I J P (shp a).2 a))
  | 1 => .inl (tc 0, (shp a).2, .inl (I a))
  | 2 => .inl (tc 1, (shp a).2, .inr (.inl (J a)))
  | 3 => .inl (tc 2, (shp a).2, .inl (I a))
  | 4 => .inl (tc 3, (shp a).2, .inl (I a))
  | _ => .inl (tc 4, (shp a).2, .inr (.inr (.inr (.inr (fun k => (P a k).map ad)))))
def jv_ws (tc : Nat → ClassId) (ad : Nat → Nat) (n : Nat) (I : HI) (J : HJ) (P : HP) : va_W := (List.range n).map (fun a => (ad a, jv_cell tc ad I J P a))
abbrev jv_tys (tc : Nat → ClassId) : List (ClassId × FieldType) := [(tc 0, .int), (tc 1, .long), (tc 2, .byte), (tc 3, .boolean), (tc 4, .object RX8)]
def u2 {α : Type} (I : Nat → Nat → α) (a k : Nat) (v : α) : Nat → Nat → α := fun b j => if b = a then (if j = k then v else I b j) else I b j
def ur {α : Type} (I : Nat → Nat → α) (a : Nat) (f : Nat → α) : Nat → Nat → α := fun b j => if b = a then f j else I b j
theorem ur_row {α : Type} (I : Nat → Nat → α) (a : Nat) (f : Nat → α) : ur I a f a = f := by funext j; simp [ur]
theorem ur_ne {α : Type} (I : Nat → Nat → α) {a b : Nat} (f : Nat → α) (h : b ≠ a) : ur I a f b = I b := by funext j; simp [ur, h]
theorem u2_row {α : Type} (I : Nat → Nat → α) (a k : Nat) (v : α) : u2 I a k v a = fun j => if j = k then v else I a j := by funext j; simp [u2]
theorem u2_ne {α : Type} (I : Nat → Nat → α) {a b : Nat} (k : Nat) (v : α) (h : b ≠ a) : u2 I a k v b = I b := by funext j; simp [u2, h]
theorem jws_len (tc : Nat → ClassId) (ad : Nat → Nat) (n : Nat) (I : HI) (J : HJ) (P : HP) : (jv_ws tc ad n I J P).length = n := by simp [jv_ws]
theorem jws_get {tc : Nat → ClassId} {ad : Nat → Nat} {n : Nat} {I : HI} {J : HJ} {P : HP} {a : Nat} (h : a < n) : (jv_ws tc ad n I J P)[a]? = some (ad a, jv_cell tc ad I J P a) := by
  simp [jv_ws, h]
theorem jws_none {tc : Nat → ClassId} {ad : Nat → Nat} {n : Nat} {I : HI} {J : HJ} {P : HP} {a : Nat} (h : ¬ a < n) : (jv_ws tc ad n I J P)[a]? = none := by
  rw [List.getElem?_eq_none_iff, jws_len]; omega
theorem jws_set {tc : Nat → ClassId} {ad : Nat → Nat} {n : Nat} {I I' : HI} {J J' : HJ} {P P' : HP} {a : Nat} {x : va_E} (h : a < n) (hx : jv_cell tc ad I' J' P' a = x) (ho : ∀ b, b < n → b ≠ a → jv_cell tc ad I' J' P' b = jv_cell tc ad I J P b) :
    (jv_ws tc ad n I J P).set a (ad a, x) = jv_ws tc ad n I' J' P' := by
  apply List.ext_getElem?
  intro b
  by_cases hb : b < n
  · rw [jws_get hb]
    by_cases hba : b = a
    · subst hba
      rw [List.getElem?_set_self (by rw [jws_len]; exact h), hx]
    · rw [List.getElem?_set_ne (Ne.symm hba), jws_get hb, ho b hb hba]
  · rw [jws_none hb, List.getElem?_eq_none_iff, List.length_set, jws_len]; omega
theorem jws_congr {tc : Nat → ClassId} {ad ad' : Nat → Nat} {n : Nat} {I I' : HI} {J J' : HJ} {P P' : HP} (hd : ∀ b, b < n → ad' b = ad b) (hc : ∀ b, b < n → jv_cell tc ad' I' J' P' b = jv_cell tc ad I J P b) : jv_ws tc ad' n I' J' P' = jv_ws tc ad n I J P := by
  apply List.ext_getElem?
  intro b
  by_cases hb : b < n
  · rw [jws_get hb, jws_get hb, hd b hb, hc b hb]
  · rw [jws_none hb, jws_none hb]
theorem jws_push {tc : Nat → ClassId} {ad ad' : Nat → Nat} {n q : Nat} {I I' : HI} {J J' : HJ} {P P' : HP} {x : va_E} (hd : ∀ b, b < n → ad' b = ad b) (hc : ∀ b, b < n → jv_cell tc ad' I' J' P' b = jv_cell tc ad I J P b) (hq : ad' n = q) (hx : jv_cell tc ad' I' J' P' n = x) :
    jv_ws tc ad n I J P ++ [(q, x)] = jv_ws tc ad' (n + 1) I' J' P' := by
  apply List.ext_getElem?
  intro b
  by_cases hb : b < n
  · rw [List.getElem?_append_left (by rw [jws_len]; exact hb), jws_get hb, jws_get (by omega), hd b hb, hc b hb]
  · by_cases hbn : b = n
    · subst hbn
      rw [List.getElem?_append_right (by rw [jws_len]; omega), jws_len, jws_get (by omega), hq, hx]
      simp
    · rw [jws_none (by omega), List.getElem?_eq_none_iff, List.length_append, jws_len]
      simp
      omega
theorem jmap_set {α : Type} {N k : Nat} {f g : Nat → α} {v : α} (hk : g k = v) (ho : ∀ j, j < N → j ≠ k → g j = f j) : ((List.range N).map f).set k v = (List.range N).map g := by
  apply List.ext_getElem?
  intro j
  by_cases hj : j < N
  · by_cases hjk : j = k
    · subst hjk
      rw [List.getElem?_set_self (by simpa using hj)]
      simp [hj, hk]
    · rw [List.getElem?_set_ne (Ne.symm hjk)]
      simp [hj, ho j hj hjk]
  · have h1 : (((List.range N).map f).set k v)[j]? = none := by
      rw [List.getElem?_eq_none_iff]; simp; omega
    have h2 : ((List.range N).map g)[j]? = none := by
      rw [List.getElem?_eq_none_iff]; simp; omega
    rw [h1, h2]
/-! cells by kind -/
theorem jcell_obj {tc : Nat → ClassId} {ad : Nat → Nat} {I : HI} {J : HJ} {P : HP} {a ci : Nat} (h : shp a = (0, ci)) : jv_cell tc ad I J P a = .inr (ci, (List.range (fnm ci)).map (jv_fld ad I J P ci a)) := by
  simp only [jv_cell, h]
theorem jcell_int {tc : Nat → ClassId} {ad : Nat → Nat} {I : HI} {J : HJ} {P : HP} {a n : Nat} (h : shp a = (1, n)) : jv_cell tc ad I J P a = .inl (tc 0, n, .inl (I a)) := by
  simp only [jv_cell, h]
theorem jcell_long {tc : Nat → ClassId} {ad : Nat → Nat} {I : HI} {J : HJ} {P : HP} {a n : Nat} (h : shp a = (2, n)) : jv_cell tc ad I J P a = .inl (tc 1, n, .inr (.inl (J a))) := by
  simp only [jv_cell, h]
theorem jcell_byte {tc : Nat → ClassId} {ad : Nat → Nat} {I : HI} {J : HJ} {P : HP} {a n : Nat} (h : shp a = (3, n)) : jv_cell tc ad I J P a = .inl (tc 2, n, .inl (I a)) := by
  simp only [jv_cell, h]
theorem jcell_bool {tc : Nat → ClassId} {ad : Nat → Nat} {I : HI} {J : HJ} {P : HP} {a n : Nat} (h : shp a = (4, n)) : jv_cell tc ad I J P a = .inl (tc 3, n, .inl (I a)) := by
  simp only [jv_cell, h]
theorem jcell_ref {tc : Nat → ClassId} {ad : Nat → Nat} {I : HI} {J : HJ} {P : HP} {a n : Nat} (h : shp a = (5, n)) : jv_cell tc ad I J P a = .inl (tc 4, n, .inr (.inr (.inr (.inr (fun k => (P a k).map ad))))) := by
  simp only [jv_cell, h]
/-- a cell depends on its own row alone, and on the addresses of what it holds -/
theorem jcell_congr {tc : Nat → ClassId} {ad ad' : Nat → Nat} {I I' : HI} {J J' : HJ} {P P' : HP} {a : Nat} (hI : I' a = I a) (hJ : J' a = J a) (hP : ∀ k, (P' a k).map ad' = (P a k).map ad) : jv_cell tc ad' I' J' P' a = jv_cell tc ad I J P a := by
  have hf : jv_fld ad' I' J' P' (shp a).2 a = jv_fld ad I J P (shp a).2 a := by
    funext k
    simp only [jv_fld, hI, hJ, hP]
  have hp : (fun k => (P' a k).map ad') = (fun k => (P a k).map ad) := funext hP
  simp only [jv_cell, hI, hJ, hf, hp]
/-! which references are alive -/
def jv_ok (n : Nat) (v : Value) : Prop := ∀ a : Nat, v = .ref a → (a < n ∨ 1000 ≤ a)
def jv_okP (n : Nat) (P : HP) : Prop := ∀ a k b : Nat, a < n → P a k = some b → b < n
theorem jv_ok.int {n : Nat} {x : Int32} : jv_ok n (.int x) := fun _ h => by cases h
theorem jv_ok.long {n : Nat} {x : Int64} : jv_ok n (.long x) := fun _ h => by cases h
theorem jv_ok.nul {n : Nat} : jv_ok n .null := fun _ h => by cases h
theorem jv_ok.uns {n : Nat} : jv_ok n jU := fun _ h => by cases h
theorem jv_ok.mono {n n' : Nat} {v : Value} (h : jv_ok n v) (hn : n ≤ n') : jv_ok n' v := fun a e => (h a e).elim (fun q => Or.inl (Nat.lt_of_lt_of_le q hn)) Or.inr
def jv_ext (n : Nat) (ad : Nat → Nat) (n' : Nat) (ad' : Nat → Nat) : Prop := n ≤ n' ∧ ∀ a : Nat, (a < n ∨ 1000 ≤ a) → ad' a = ad a
theorem jv_ext.rf {n : Nat} {ad : Nat → Nat} : jv_ext n ad n ad := ⟨Nat.le_refl _, fun _ _ => rfl⟩
theorem jv_ext.trans {n n1 n2 : Nat} {ad ad1 ad2 : Nat → Nat} (h : jv_ext n ad n1 ad1) (h2 : jv_ext n1 ad1 n2 ad2) : jv_ext n ad n2 ad2 :=
  ⟨Nat.le_trans h.1 h2.1, fun a ha => (h2.2 a (ha.elim (fun q => Or.inl (Nat.lt_of_lt_of_le q h.1)) Or.inr)).trans (h.2 a ha)⟩
theorem jv_ren_ext {n n' : Nat} {ad ad' : Nat → Nat} (h : jv_ext n ad n' ad') {v : Value} (hv : jv_ok n v) : jv_ren ad' v = jv_ren ad v := by
  cases v with
  | ref a => exact congrArg Value.ref (h.2 a (hv a rfl))
  | _ => rfl
theorem jv_rens_ext {n n' : Nat} {ad ad' : Nat → Nat} (h : jv_ext n ad n' ad') {L : List Value} (hv : ∀ v ∈ L, jv_ok n v) : L.map (jv_ren ad') = L.map (jv_ren ad) :=
  List.map_congr_left (fun v hm => jv_ren_ext h (hv v hm))
theorem jv_ren_cat (ad : Nat → Nat) (v : Value) : (jv_ren ad v).category = v.category := by cases v <;> rfl
theorem jv_ren_rf (ad : Nat → Nat) (r : Option Nat) : jv_ren ad (va_rf r) = va_rf (r.map ad) := by cases r <;> rfl
