/-! THE JUDGEMENT: a method's body runs from a place to its end, over the abstract heap; the machine is hidden -/
def jv_tbl : List Cond := lw_tbl.filter goodWord
theorem jv_tbl_good : GoodIn jv_tbl jv_tbl := fun w hw => ⟨hw, good_of_word (List.mem_filter.mp hw).2⟩
theorem jv_in {i : Nat} {w : Cond} (h : lw_tbl[i]? = some w) (hg : goodWord w = true) : w ∈ jv_tbl := List.mem_filter.mpr ⟨List.mem_of_getElem? h, hg⟩
def jv_strs : List (Nat × String) := [(52, "valley"), (62, "damp"), (67, "dry"), (72, "pair"), (77, "kin")]
def jv_byt : List (List Int32) := [[118, 97, 108, 108, 101, 121], [100, 97, 109, 112], [100, 114, 121], [112, 97, 105, 114], [107, 105, 110]]
def jv_len : List Nat := [6, 4, 3, 4, 3]
def jv_nest : List (String × Nat × MethodName × String) := [(RX9, 9, yX8_init, RX9), (RX8, 57, yX5_init, RX9), (RX9, 22, yX6_init, RX9), (RX6, 21, yX8_init, RX9), (RX9, 29, yX1_init, RX9), (RX9, 36, yX3_init, RX9), (RX9, 43, yX7_init, RX9), (RX9, 50, yX2_init, RX9), (RX6, 107, yX9_within, RX9)]
/-- what is only read: the text constants, two statics, the script; links of nest mates -/
def jv_RO (X : jX) (ad : Nat → Nat) (A : Nat → Prop) (U : State) (H : Heap) : Prop :=
  vk_S 5 jv_len jv_byt (fun i => ad (1000 + i)) (fun i => ad (1100 + i)) A U H ∧ (∀ i q, jv_strs[i]? = some q → vk_R RX6 q.1 q.2 (ad (1000 + i)) U) ∧
  va_Z "java/lang/String" "COMPACT_STRINGS" "Z" (.int 1) A U H ∧ (va_Z "jdk/internal/util/Preconditions" "SIOOBE_FORMATTER" "Ljava/util/function/BiFunction;" .null A U H ∨ va_Z "jdk/internal/util/Preconditions" "SIOOBE_FORMATTER" "Ljava/util/function/BiFunction;" (.ref (ad 1300)) A U H) ∧
  (va_X (ad 1200) X.1 X.2 U H ∧ ad 1200 < H.size ∧ ¬ A (ad 1200)) ∧ (∀ q ∈ jv_nest, va_Nw (.methodLinkNest q.1 q.2.1 q.2.2.1 q.2.2.2) U) ∧ va_AO RX8 U
theorem jv_RO.congr {X : jX} {ad ad' : Nat → Nat} {A : Nat → Prop} {U : State} {H : Heap} (h : jv_RO X ad A U H) (he : ∀ a, 1000 ≤ a → ad' a = ad a) : jv_RO X ad' A U H := by
  obtain ⟨h1, h2, h3, h4, h5, h6, h7⟩ := h
  have e1 : (fun i => ad' (1000 + i)) = fun i => ad (1000 + i) := funext fun i => he _ (by omega)
  have e2 : (fun i => ad' (1100 + i)) = fun i => ad (1100 + i) := funext fun i => he _ (by omega)
  have e3 : ad' 1200 = ad 1200 := he _ (by omega)
  refine ⟨by rw [e1, e2]; exact h1, fun i q hq => by rw [he _ (by omega)]; exact h2 i q hq, h3, by rw [he 1300 (by omega)]; exact h4, by rw [e3]; exact h5, h6, h7⟩
theorem jv_RO.next {X : jX} {ad : Nat → Nat} {A : Nat → Prop} {s U : State} {H0 H : Heap} (h : jv_RO X ad A s H0) (hW : s.WarmedH U.vm) (hz : H0.size ≤ H.size) (hq : ∀ q : Nat, q < H0.size → ¬ A q → H[q]? = H0[q]?) : jv_RO X ad A U H := by
  obtain ⟨h1, h2, h3, h4, ⟨h5, h5b, h5c⟩, h6, h7⟩ := h
  have ha := hW.alike
  exact ⟨(h1.moved ha).kept hq, fun i q e => (h2 i q e).warm hW, (h3.moved ha).kept hq, h4.imp (fun h => (h.moved ha).kept hq) (fun h => (h.moved ha).kept hq), ⟨(h5.moved ha).kept (hq _ h5b h5c), by omega, h5c⟩, fun q e => (h6 q e).warmM hW, h7.moved ha⟩
theorem jv_RO.same {X : jX} {ad : Nat → Nat} {A : Nat → Prop} {s U : State} {H : Heap} (h : jv_RO X ad A s H) (hv : U.vm = s.vm) : jv_RO X ad A U H := by
  obtain ⟨h1, h2, h3, h4, ⟨h5, h5b, h5c⟩, h6, h7⟩ := h
  have ha : s.vm.Alike U.vm := by rw [hv]; exact Vm.Alike.refl _
  exact ⟨h1.moved ha, fun i q e => (h2 i q e).same hv, h3.moved ha, h4.imp (fun h => h.moved ha) (fun h => h.moved ha), ⟨h5.moved ha, h5b, h5c⟩, fun q e => (h6 q e).same rfl hv.symm, h7.moved ha⟩
def jv_room (R : Room) (d bc bs cells slots : Nat) : Prop := d ≤ R.frames ∧ 64 * d ≤ R.locals ∧ cells + bc ≤ R.cells ∧ slots + bs ≤ R.slots
def jv_lv (ls : Array Slot) (nL : Nat) (L : List Value) : Prop := ls.size = nL ∧ lv_wf ls ∧ L.length = nL ∧ ∀ (i : Nat) (v : Value), L[i]? = some v → v = jU ∨ ls[i]? = some (.val v)
def jv_Fix (M : MD) (A : Nat → Prop) (D : va_G) (tc : Nat → ClassId) (p : Program) (s : State) (m : MethodId) (args : Array Value) (meth : Method) (c : Code) : Prop :=
  p.tables.exec = Jvm.exec ∧ c.code = M.2.1 ∧ c.maxLocals = M.2.2.1 ∧ meth.sig.returnType = M.2.2.2 ∧ s.vm.findClass M.1.cls = some m.cls ∧ (∀ w ∈ jv_tbl, w.before args s = true) ∧ va_K D vwCl (jv_tys tc) s ∧ (∀ q, s.heap.size ≤ q → A q) ∧ meth.locks = false ∧ (M.1.name = "<init>" → meth.name = "<init>")
def jv_Dyn (X : jX) (A : Nat → Prop) (D : va_G) (tc : Nat → ClassId) (s : State) (H : Heap) (locs : List Loc) (ad : Nat → Nat) (n : Nat) (I : HI) (J : HJ) (P : HP) : Prop :=
  va_P D vwCl (jv_ws tc ad n I J P) H ∧ va_D A (jv_ws tc ad n I J P) ∧ va_S A s.heap H locs ∧ jv_RO X ad A s s.heap ∧ jv_okP n P
def jv_Frm (M : MD) (ad : Nat → Nat) (n : Nat) (ls : Array Slot) (L st : List Value) : Prop := jv_lv ls M.2.2.1 (L.map (jv_ren ad)) ∧ (∀ v ∈ L, jv_ok n v) ∧ ∀ v ∈ st, jv_ok n v
def jv_Ret (M : MD) (pc : Nat) (r : Option Value) (st : List Value) : Prop :=
  (r = none ∧ st = [] ∧ decode M.2.1 pc = .ok (.return_, 1) ∧ M.2.2.2 = none) ∨ (∃ (v : Int32) (ty : FieldType), r = some (.int v) ∧ st = [.int v] ∧ decode M.2.1 pc = .ok (.ireturn, 1) ∧ M.2.2.2 = some ty ∧ narrow ty (.int v) = .int v) ∨
  (∃ v : Int64, r = some (.long v) ∧ st = [.long v] ∧ decode M.2.1 pc = .ok (.lreturn, 1) ∧ M.2.2.2 = some .long)
def jv_End (X : jX) (M : MD) (Q : jPost) (A : Nat → Prop) (D : va_G) (tc : Nat → ClassId) (p : Program) (l : Launch) (e : Env) (R : Room) (s : State) (m : MethodId) (args : Array Value) (below : List Frame) (meth : Method) (c : Code) (Z : State → Prop) (ad : Nat → Nat) (n : Nat) : Prop :=
  ∀ (r : Option Value) (n' : Nat) (I' : HI) (J' : HJ) (P' : HP) (H' : Heap) (locs' : List Loc) (cells' slots' : Nat) (ls' : Array Slot) (ad' : Nat → Nat) (pc' : Nat) (st' : List Value), Q r n' I' J' P' → jv_ext n ad n' ad' → (cells' ≤ R.cells ∧ slots' ≤ R.slots) → jv_Dyn X A D tc s H' locs' ad' n' I' J' P' → jv_Ret M pc' r st' → W p l e R s m args below meth c H' locs' cells' slots' Z (F0 m pc' ls' st')
def Rj (X : jX) (d bc bs : Nat) (M : MD) (Q : jPost) (pc : Nat) (L st : List Value) (n : Nat) (I : HI) (J : HJ) (P : HP) : Prop :=
  ∀ (A : Nat → Prop) (D : va_G) (tc : Nat → ClassId) (p : Program) (l : Launch) (e : Env) (R : Room) (s : State) (m : MethodId) (args : Array Value) (below : List Frame) (meth : Method) (c : Code) (H : Heap) (locs : List Loc) (cells slots : Nat) (Z : State → Prop) (ls : Array Slot) (ad : Nat → Nat),
    jv_Fix M A D tc p s m args meth c → jv_room R d bc bs cells slots → jv_Dyn X A D tc s H locs ad n I J P → jv_Frm M ad n ls L st → jv_End X M Q A D tc p l e R s m args below meth c Z ad n →
    W p l e R s m args below meth c H locs cells slots Z (F0 m pc ls (st.map (jv_ren ad)))
/-! locals -/
theorem jv_lv.at {ls : Array Slot} {nL : Nat} {L : List Value} {ad : Nat → Nat} (h : jv_lv ls nL (L.map (jv_ren ad))) {i : Nat} {v : Value} (hi : L[i]? = some v) (hv : v ≠ jU) : ls[i]? = some (.val (jv_ren ad v)) := by
  rcases h.2.2.2 i (jv_ren ad v) (by rw [List.getElem?_map, hi]; rfl) with q | q
  · exfalso
    apply hv
    cases v <;> first | exact q | cases q
  · exact q
/-- the locals that are known, by their places -/
def jv_as (L : List Value) : List (Nat × Value) := (List.range L.length).filterMap (fun i => (L[i]?).bind fun v => if v = jU then none else some (i, v))
theorem jv_as_mem {L : List Value} {q : Nat × Value} : q ∈ jv_as L ↔ L[q.1]? = some q.2 ∧ q.2 ≠ jU := by
  unfold jv_as
  rw [List.mem_filterMap]
  constructor
  · rintro ⟨i, -, hi⟩
    cases hL : L[i]? with
    | none => rw [hL] at hi; cases hi
    | some v =>
      rw [hL] at hi
      by_cases hv : v = jU
      · simp [hv] at hi
      · simp [hv] at hi
        subst hi
        exact ⟨hL, hv⟩
  · rintro ⟨h1, h2⟩
    refine ⟨q.1, List.mem_range.mpr (List.getElem?_eq_some_iff.mp h1).1, ?_⟩
    rw [h1]
    simp [h2]
theorem jv_lv.has {ls : Array Slot} {nL : Nat} {L : List Value} (h : jv_lv ls nL L) : lv_has ls nL (jv_as L) := by
  refine ⟨h.1, h.2.1, fun q hq => ?_⟩
  obtain ⟨h1, h2⟩ := jv_as_mem.mp hq
  rcases h.2.2.2 q.1 q.2 h1 with e | e
  · exact absurd e h2
  · exact e
/-- no long ends in this place -/
def jv_g (L : List Value) (i : Nat) : Bool := match i with
  | 0 => true
  | j + 1 => match L[j]? with
    | some v => v.category == 1
    | none => true
theorem jv_g_spec {L : List Value} {i : Nat} (h : jv_g L i = true) {j : Nat} {v : Value} (hj : L[j]? = some v) (hi : j + 1 = i) : v.category = 1 := by
  subst hi
  simp only [jv_g, hj] at h
  simpa using h
theorem jv_lv.st1 {ls : Array Slot} {nL : Nat} {L : List Value} {i : Nat} {v : Value} (h : jv_lv ls nL L) (hi : i < nL) (hg : jv_g L i = true) (hc : v.category = 1) : ∃ ls', storeLocals ls i v = some ls' ∧ jv_lv ls' nL (L.set i v) := by
  obtain ⟨ls', h1, h2, h3, h4⟩ := lv_store1 (v := v) h.has hi hc
  refine ⟨ls', h1, h2, h3, by rw [List.length_set]; exact h.2.2.1, fun j w hj => ?_⟩
  by_cases hji : j = i
  · subst hji
    rw [List.getElem?_set_self (by rw [h.2.2.1]; exact hi)] at hj
    cases hj
    exact Or.inr (h4 (j, v) List.mem_cons_self)
  · rw [List.getElem?_set_ne (Ne.symm hji)] at hj
    by_cases hw : w = jU
    · exact Or.inl hw
    · refine Or.inr (h4 (j, w) (List.mem_cons_of_mem _ (List.mem_filter.mpr ⟨jv_as_mem.mpr ⟨hj, hw⟩, ?_⟩)))
      have h5 : ¬ (j + 1 = i ∧ w.category = 2) := fun q => by
        have := jv_g_spec hg hj q.1
        omega
      by_cases hj1 : j + 1 = i
      · have h6 : ¬ w.category = 2 := fun q => h5 ⟨hj1, q⟩
        simp [hji, h6]
      · simp [hji, hj1]
theorem jv_lv.st2 {ls : Array Slot} {nL : Nat} {L : List Value} {i : Nat} {v : Value} (h : jv_lv ls nL L) (hi : i + 1 < nL) (hg : jv_g L i = true) (hc : v.category = 2) : ∃ ls', storeLocals ls i v = some ls' ∧ jv_lv ls' nL ((L.set i v).set (i + 1) jU) := by
  obtain ⟨ls', h1, h2, h3, h4⟩ := lv_store2 (v := v) h.has hi hc
  refine ⟨ls', h1, h2, h3, by rw [List.length_set, List.length_set]; exact h.2.2.1, fun j w hj => ?_⟩
  by_cases hj1 : j = i + 1
  · subst hj1
    rw [List.getElem?_set_self (by rw [List.length_set, h.2.2.1]; exact hi)] at hj
    cases hj
    exact Or.inl rfl
  · rw [List.getElem?_set_ne (Ne.symm hj1)] at hj
    by_cases hji : j = i
    · subst hji
      rw [List.getElem?_set_self (by rw [h.2.2.1]; omega)] at hj
      cases hj
      exact Or.inr (h4 (j, v) List.mem_cons_self)
    · rw [List.getElem?_set_ne (Ne.symm hji)] at hj
      by_cases hw : w = jU
      · exact Or.inl hw
      · refine Or.inr (h4 (j, w) (List.mem_cons_of_mem _ (List.mem_filter.mpr ⟨jv_as_mem.mpr ⟨hj, hw⟩, ?_⟩)))
        have h5 : ¬ (j + 1 = i ∧ w.category = 2) := fun q => by
          have := jv_g_spec hg hj q.1
          omega
        by_cases hj2 : j + 1 = i
        · have h6 : ¬ w.category = 2 := fun q => h5 ⟨hj2, q⟩
          simp [hji, hj1, h6]
        · simp [hji, hj1, hj2]
/-- the locals at a method's entry -/
def jv_ent : List Value → Nat → List Value
  | [], n => List.replicate n jU
  | .long x :: vs, n => .long x :: jU :: jv_ent vs (n - 2)
  | .double x :: vs, n => .double x :: jU :: jv_ent vs (n - 2)
  | v :: vs, n => v :: jv_ent vs (n - 1)
def jv_wd : List Value → Nat
  | [] => 0
  | v :: vs => (if v.category = 2 then 2 else 1) + jv_wd vs
theorem jv_wd_sl (vs : List Value) : (lg_sl vs).length = jv_wd vs := by
  induction vs with
  | nil => rfl
  | cons v vs ih =>
    have e : lg_sl (v :: vs) = (if v.category = 2 then [.val v, .second] else [.val v]) ++ lg_sl vs := by simp [lg_sl]
    rw [e, List.length_append, ih]
    by_cases h : v.category = 2 <;> simp [h, jv_wd]
theorem jv_ent_len (vs : List Value) : ∀ n, jv_wd vs ≤ n → (jv_ent vs n).length = n := by
  induction vs with
  | nil => intro n _; simp [jv_ent]
  | cons v vs ih =>
    intro n hn
    cases v <;> simp only [jv_wd, Value.category] at hn <;> simp only [jv_ent, List.length_cons] <;> rw [ih _ (by simp at hn; omega)] <;> simp at hn <;> omega
theorem jv_ent_at (vs : List Value) : ∀ (n i k : Nat) (w : Value), (jv_ent vs n)[i]? = some w → w ≠ jU → (k + i, w) ∈ lv_args k vs := by
  induction vs with
  | nil =>
    intro n i k w h hw
    exfalso
    apply hw
    simp only [jv_ent] at h
    have := List.mem_of_getElem? h
    exact List.eq_of_mem_replicate this
  | cons v vs ih =>
    intro n i k w h hw
    have one : ∀ (m : Nat), (v :: jv_ent vs m)[i]? = some w → v.category ≠ 2 → (k + i, w) ∈ lv_args k (v :: vs) := by
      intro m h hc
      simp only [lv_args, if_neg hc]
      cases i with
      | zero => simp at h; subst h; exact List.mem_cons_self
      | succ i =>
        rw [List.getElem?_cons_succ] at h
        refine List.mem_cons_of_mem _ ?_
        have := ih m i (k + 1) w h hw
        rwa [show k + 1 + i = k + (i + 1) by omega] at this
    have two : ∀ (m : Nat), (v :: jU :: jv_ent vs m)[i]? = some w → v.category = 2 → (k + i, w) ∈ lv_args k (v :: vs) := by
      intro m h hc
      simp only [lv_args, if_pos hc]
      match i, h with
      | 0, h => simp at h; subst h; exact List.mem_cons_self
      | 1, h => simp at h; exact absurd h.symm hw
      | i + 2, h =>
        rw [List.getElem?_cons_succ, List.getElem?_cons_succ] at h
        refine List.mem_cons_of_mem _ ?_
        have := ih m i (k + 2) w h hw
        rwa [show k + 2 + i = k + (i + 2) by omega] at this
    cases v with
    | long x => exact two _ (by simpa only [jv_ent] using h) rfl
    | double x => exact two _ (by simpa only [jv_ent] using h) rfl
    | int x => exact one _ (by simpa only [jv_ent] using h) (by simp [Value.category])
    | float x => exact one _ (by simpa only [jv_ent] using h) (by simp [Value.category])
    | null => exact one _ (by simpa only [jv_ent] using h) (by simp [Value.category])
    | ref x => exact one _ (by simpa only [jv_ent] using h) (by simp [Value.category])
    | retAddr x => exact one _ (by simpa only [jv_ent] using h) (by simp [Value.category])
theorem jv_ent_ren (ad : Nat → Nat) (vs : List Value) : ∀ n, (jv_ent vs n).map (jv_ren ad) = jv_ent (vs.map (jv_ren ad)) n := by
  induction vs with
  | nil => intro n; simp [jv_ent, jv_ren, jU]
  | cons v vs ih =>
    intro n
    cases v <;> simp [jv_ent, jv_ren, jU, ih]
theorem jv_lv.entry (vs : List Value) {n : Nat} (h : jv_wd vs ≤ n) : jv_lv ((lg_sl vs ++ List.replicate (n - (lg_sl vs).length) Slot.unset).toArray) n (jv_ent vs n) := by
  obtain ⟨h1, h2, h3⟩ := lv_entry vs (n := n) (by rw [jv_wd_sl]; exact h)
  refine ⟨h1, h2, jv_ent_len vs n h, fun i v hi => ?_⟩
  by_cases hv : v = jU
  · exact Or.inl hv
  · have := jv_ent_at vs n i 0 v hi hv
    rw [Nat.zero_add] at this
    exact Or.inr (h3 (i, v) this)
theorem jv_ent_ok {n : Nat} (vs : List Value) : ∀ k, (∀ v ∈ vs, jv_ok n v) → ∀ v ∈ jv_ent vs k, jv_ok n v := by
  induction vs with
  | nil => intro k _ v hv; simp only [jv_ent] at hv; rw [List.eq_of_mem_replicate hv]; exact jv_ok.uns
  | cons w vs ih =>
    intro k h v hv
    have hw := h w List.mem_cons_self
    have ht := fun k => ih k (fun x hx => h x (List.mem_cons_of_mem _ hx))
    cases w <;> simp only [jv_ent, List.mem_cons] at hv
    case long x => rcases hv with e | e | e; exact e ▸ hw; exact e ▸ jv_ok.uns; exact ht _ v e
    case double x => rcases hv with e | e | e; exact e ▸ hw; exact e ▸ jv_ok.uns; exact ht _ v e
    all_goals (rcases hv with e | e; exact e ▸ hw; exact ht _ v e)
