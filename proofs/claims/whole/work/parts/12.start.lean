/-! THE CLAIM OUT OF ONE WALK OF THE LAW'S BODY. Your part is whole_start (and what it stands on); all else here is the same for every law, but numbers. -/
def R_law : String := "LoafWedLaw"
def lw_P (b : Addr) (xs : List Int32) (args : Array Value) (s : State) : Prop := args = #[.ref b] ∧ s.IntsAt b xs ∧ xs.length ≤ 320 ∧ (Jvm.Cond.and given_1 narrow_1).before args s = true
def lw_Q (_ : Array Value) (s : State) (o : Outcome) (t : State) : Prop := o = .returned (some (.int 1)) ∧ Framed s o t [] 600000 7302250
def lw_Z (below : List Frame) (a : Array Value) (s : State) : State → Prop := fun t => ∃ o, t.status = .running ∧ Ended t below o ∧ lw_Q a s o t
/-- the law's own end, with 1 on the stack, nothing written that was there before, its room as the claim has it -/
theorem lw_ret {p : Program} {l : Launch} {e : Env} {s : State} {m : MethodId} {below : List Frame} {meth : Method} {c : Code} {b : Nat} (hx : p.tables.exec = Jvm.exec) (hb : c.code = code) (hr : meth.sig.returnType = ret) (hlocks : meth.locks = false) {pc : Nat} {H : Heap} {ls : Array Slot} (hdg : decode code pc = .ok (.ireturn, 1)) : W p l e room_1 s m #[Value.ref b] below meth c H [] 600000 7302250 (lw_Z below #[Value.ref b] s) (F0 m pc ls [.int 1]) := by
  intro T hT X
  obtain ⟨fs, hret, hrun, hended, hW, hframe⟩ := X.leave (v := some (.int 1)) (hlocks := hlocks) (fun h => by rw [hr] at h; cases h)
  have hmeth' : T.vm.method? m = some meth := X.method'
  refine ⟨T.setFrames fs, ?_, .returned (some (.int 1)), hrun, hended, rfl, ⟨_, rfl⟩, hW, hframe⟩
  jvm_step X.here [X.here.top, hx, hb, hdg, hmeth', hr, ret, narrow_b1]
  (try refine ⟨rfl, ?_⟩); (try refine ⟨rfl, ?_⟩)
  first | (intro acts; rw [hret _ acts rfl rfl rfl]) | rw [hret _ _ rfl rfl rfl]
  exact Steps.refl _
/-- what holds at the law's entry: the machine, the code, the tables' words (any of lw_tbl by 'hts w (by decide +kernel)'), the script of L ints xs at the cell b, what the Statement gives of the start (any of its parts by flat_of_before) -/
def lw_At (p : Program) (s : State) (m : MethodId) (meth : Method) (c : Code) (b L : Nat) (xs : Nat → Int32) : Prop :=
  p.tables.exec = Jvm.exec ∧ c.code = code ∧ meth.sig.returnType = ret ∧ c.maxLocals = 4 ∧ s.vm.findClass R_law = some m.cls ∧ (∀ w ∈ lw_tbl, w.before #[Value.ref b] s = true) ∧ va_X b L xs s s.heap ∧ b < s.heap.size ∧ meth.locks = false ∧ (Jvm.Cond.and given_1 narrow_1).before #[Value.ref b] s = true

theorem jins (ci : Nat) (h : ci < jNc) : Cond.instantiable (jC ci) (fnm ci) ∈ jv_tbl := by
  have : ∀ i, i < 9 → Cond.instantiable (jC i) (fnm i) ∈ jv_tbl := by
    intro i hi
    match i, hi with
    | 0, _ => exact insX1
    | 1, _ => exact insX2
    | 2, _ => exact insX3
    | 3, _ => exact insX5
    | 4, _ => exact insX6
    | 5, _ => exact insX7
    | 6, _ => exact insX8
    | 7, _ => exact insX9
    | 8, _ => exact insX10
  exact this ci h
theorem jv_arr {args : Array Value} {s : State} {ty : FieldType} (h : (Cond.arrayClass ty).before args s = true) (hty : ∀ C, ty ≠ .object C) : ∃ cA, ArrOfT s cA ty ∧ va_RA s cA ty := by
  obtain ⟨cA, kA, comp, h1, h2, h3⟩ := Cond.arrayClass_spec h
  refine ⟨cA, fun n z => ⟨fun k h => (by cases h), kA, h2, comp, h3⟩, ?_⟩
  cases ty with
  | object C => exact absurd rfl (hty C)
  | _ => exact h1
theorem jv_arrO {args : Array Value} {s : State} {C : String} (h : (Cond.arrayOver (.object C)).before args s = true) : ∃ cA, ArrOfT s cA (.object C) ∧ va_RA s cA (.object C) := by
  obtain ⟨comp, cA, kA, h1, h2, h3, h4, h5⟩ := Cond.arrayOver_spec h
  exact ⟨cA, fun n z => ⟨fun k h => (by cases h), kA, h3, comp, h4⟩, kA, comp, h3, h4, h1, h5⟩
def jtm (i : Nat) : Term := .string RX6 (jv_strs.getD i (0, "")).1
set_option maxHeartbeats 4000000 in
set_option maxRecDepth 100000 in
/-- the law's whole walk, from what the judgement says of it -/
theorem jv_start (hlaw : ∀ X : jX, X.1 ≤ 320 → Rj X 64 1000 20000 mL_law (fun r _ _ _ _ => r = some (.int 1)) 0 [.ref 1200, jU, jU, jU] [] 0 (fun _ _ => 0) (fun _ _ => 0) (fun _ _ => none))
    {p : Program} {e : Env} {s : State} {m : MethodId} {below : List Frame} {meth : Method} {c : Code} (l : Launch) {b L : Nat} {xs : Nat → Int32} (hL : L ≤ 320) (C0 : lw_At p s m meth c b L xs) : W p l e room_1 s m #[Value.ref b] below meth c s.heap [] 0 0 (lw_Z below #[Value.ref b] s) (entryFrame m ([Value.ref b] : List Value).toArray 4) := by
  obtain ⟨hx, hb, hr, hml, hown, hts, hX, hbl, hlocks, hgv⟩ := id C0
  have htj : ∀ w ∈ jv_tbl, w.before #[Value.ref b] s = true := fun w hw => hts w (List.mem_filter.mp hw).1
  have hg := flat_of_before _ hgv
  have hA0 : ∀ a : Nat, a < s.heap.size → ¬ (fun q : Nat => s.heap.size ≤ q) a := fun a h => Nat.not_le.mpr h
  have hex : ∀ ci : Nat, ∃ q : ClassId × (Nat → Nat), ci < jNc → u_Kn s (jC ci) (jT ci) (fnm ci) q.1 q.2 := by
    intro ci
    by_cases h : ci < jNc
    · obtain ⟨cC, iS, h1⟩ := u_known htj (jlay ci h) (htj _ (jins ci h))
      exact ⟨(cC, iS), fun _ => h1⟩
    · exact ⟨(0, fun _ => 0), fun q => absurd q h⟩
  obtain ⟨gC, hgC⟩ := Classical.axiomOfChoice hex
  obtain ⟨t0, ht0⟩ := jv_arr (htj _ jvw_int) (fun C h => by cases h)
  obtain ⟨t1, ht1⟩ := jv_arr (htj _ jvw_long) (fun C h => by cases h)
  obtain ⟨t2, ht2⟩ := jv_arr (htj _ jvw_byte) (fun C h => by cases h)
  obtain ⟨t3, ht3⟩ := jv_arr (htj _ jvw_boolean) (fun C h => by cases h)
  have hao : (Cond.arrayOver (.object RX8)).before #[Value.ref b] s = true := hts _ (by decide +kernel)
  obtain ⟨t4, ht4⟩ := jv_arrO hao
  have hK : va_K (fun ci => (gC ci).1, fun ci => (gC ci).2) vwCl (jv_tys (fun i => if i = 0 then t0 else if i = 1 then t1 else if i = 2 then t2 else if i = 3 then t3 else t4)) s := by
    refine ⟨fun ci q hq => ?_, fun k q hk => ?_⟩
    · have hlt : ci < jNc := (List.getElem?_eq_some_iff.mp hq).1
      have := hq.symm.trans (jcl ci hlt)
      cases this
      exact hgC ci hlt
    · match k, hk with
      | 0, hk => cases hk; exact ht0
      | 1, hk => cases hk; exact ht1
      | 2, hk => cases hk; exact ht2
      | 3, hk => cases hk; exact ht3
      | 4, hk => cases hk; exact ht4
      | k + 5, hk => simp at hk
  have m5 : ∀ {φ : Nat → Prop}, φ 0 → φ 1 → φ 2 → φ 3 → φ 4 → ∀ i : Nat, i < 5 → φ i := by
    intro φ a0 a1 a2 a3 a4 i hi
    match i, hi with
    | 0, _ => exact a0
    | 1, _ => exact a1
    | 2, _ => exact a2
    | 3, _ => exact a3
    | 4, _ => exact a4
  obtain ⟨adK, adV, hStr, hEv⟩ := vk_Sof (args := #[Value.ref b]) (s := s) (N := 5) (tm := jtm) (len := jv_len) (byt := jv_byt) (A := fun q : Nat => s.heap.size ≤ q) (by decide)
    (m5 (hg _ (by decide +kernel)) (hg _ (by decide +kernel)) (hg _ (by decide +kernel)) (hg _ (by decide +kernel)) (hg _ (by decide +kernel)))
    (m5 (hg _ (by decide +kernel)) (hg _ (by decide +kernel)) (hg _ (by decide +kernel)) (hg _ (by decide +kernel)) (hg _ (by decide +kernel)))
    (m5 (hg _ (by decide +kernel)) (hg _ (by decide +kernel)) (hg _ (by decide +kernel)) (hg _ (by decide +kernel)) (hg _ (by decide +kernel)))
    (m5 (hg _ (by decide +kernel)) (hg _ (by decide +kernel)) (hg _ (by decide +kernel)) (hg _ (by decide +kernel)) (hg _ (by decide +kernel)))
    (by
      intro i hi j hj
      have : ∀ i, i < 5 → ∀ j, j < jv_len.getD i 0 → (Cond.eq (.elem (.field (jtm i) "java/lang/String" "value" "[B") (.int (Int32.ofNat j))) (.int ((jv_byt.getD i []).getD j 0))) ∈ flatC (Jvm.Cond.and given_1 narrow_1) := by decide +kernel
      exact hg _ (this i hi j hj))
    (by
      intro i j hi hj hij
      have : ∀ i, i < 5 → ∀ j, j < 5 → i ≠ j → (Cond.not (Cond.eq (jtm i) (jtm j))) ∈ flatC (Jvm.Cond.and given_1 narrow_1) ∨ (Cond.not (Cond.eq (jtm j) (jtm i))) ∈ flatC (Jvm.Cond.and given_1 narrow_1) := by decide +kernel
      exact (this i hi j hj hij).imp (hg _) (hg _)) hA0
  have hZ1 : va_Z "java/lang/String" "COMPACT_STRINGS" "Z" (.int 1) (fun q : Nat => s.heap.size ≤ q) s s.heap := va_Zof (hts _ (by decide +kernel)) (hts _ (by decide +kernel)) (va_eqi (hg _ (by decide +kernel))) hA0
  have hZ2 : va_Zq "jdk/internal/util/Preconditions" "SIOOBE_FORMATTER" "Ljava/util/function/BiFunction;" (fun q : Nat => s.heap.size ≤ q) s s.heap := va_Zqof (hts _ (by decide +kernel)) (hts _ (by decide +kernel)) (hg _ (by decide +kernel)) hA0
  obtain ⟨t9, hZ3⟩ : ∃ t9 : Nat, va_Z "jdk/internal/util/Preconditions" "SIOOBE_FORMATTER" "Ljava/util/function/BiFunction;" .null (fun q : Nat => s.heap.size ≤ q) s s.heap ∨ va_Z "jdk/internal/util/Preconditions" "SIOOBE_FORMATTER" "Ljava/util/function/BiFunction;" (.ref t9) (fun q : Nat => s.heap.size ≤ q) s s.heap := by
    rcases hZ2 with h | ⟨t, h⟩
    · exact ⟨0, Or.inl h⟩
    · exact ⟨t, Or.inr h⟩
  have hRO : jv_RO (L, xs) (fun a => if a = 1200 then b else if a = 1300 then t9 else if a < 1100 then adK (a - 1000) else adV (a - 1100)) (fun q : Nat => s.heap.size ≤ q) s s.heap := by
    have e1 : ∀ i, i < 5 → (fun a => if a = 1200 then b else if a = 1300 then t9 else if a < 1100 then adK (a - 1000) else adV (a - 1100)) (1000 + i) = adK i := by
      intro i hi
      show (if 1000 + i = 1200 then b else if 1000 + i = 1300 then t9 else if 1000 + i < 1100 then adK (1000 + i - 1000) else adV (1000 + i - 1100)) = adK i
      rw [if_neg (by omega), if_neg (by omega), if_pos (by omega), Nat.add_sub_cancel_left]
    have e2 : ∀ i, i < 5 → (fun a => if a = 1200 then b else if a = 1300 then t9 else if a < 1100 then adK (a - 1000) else adV (a - 1100)) (1100 + i) = adV i := by
      intro i hi
      show (if 1100 + i = 1200 then b else if 1100 + i = 1300 then t9 else if 1100 + i < 1100 then adK (1100 + i - 1000) else adV (1100 + i - 1100)) = adV i
      rw [if_neg (by omega), if_neg (by omega), if_neg (by omega), Nat.add_sub_cancel_left]
    refine ⟨⟨fun i hi => ?_, fun i j hi hj h => ?_⟩, fun i q hq => ?_, hZ1, hZ3, ⟨hX, hbl, Nat.not_le.mpr hbl⟩, fun q hq => ?_, hao⟩
    · rw [e1 i hi, e2 i hi]; exact hStr.1 i hi
    · rw [e1 i hi, e1 j hj] at h; exact hStr.2 i j hi hj h
    · have hi : i < 5 := (List.getElem?_eq_some_iff.mp hq).1
      rw [e1 i hi]
      have hw : Cond.stringRef RX6 q.1 q.2 ∈ lw_tbl := by
        have : ∀ z ∈ jv_strs, Cond.stringRef RX6 z.1 z.2 ∈ lw_tbl := by decide +kernel
        exact this q (List.mem_of_getElem? hq)
      have hv := hEv i hi
      have e3 : jtm i = .string RX6 q.1 := by unfold jtm; rw [List.getD_eq_getElem?_getD, hq]; rfl
      rw [e3] at hv
      refine ⟨?_, ?_⟩
      · exact hts _ hw
      · exact hv
    · have : ∀ z ∈ jv_nest, Cond.methodLinkNest z.1 z.2.1 z.2.2.1 z.2.2.2 ∈ lw_tbl := by decide +kernel
      exact va_Nw.of rfl (hts _ (this q hq))
  have hl := jv_lv.entry [Value.ref b] (n := 4) (Nat.le_of_ble_eq_true rfl)
  rw [lg_entry_eq]
  generalize (lg_sl ([Value.ref b]) ++ List.replicate (4 - (lg_sl ([Value.ref b])).length) Slot.unset).toArray = ls at hl ⊢
  refine hlaw (L, xs) hL (fun q : Nat => s.heap.size ≤ q) _ _ p l e room_1 s m #[Value.ref b] below meth c s.heap [] 0 0 (lw_Z below #[Value.ref b] s) ls (fun a => if a = 1200 then b else if a = 1300 then t9 else if a < 1100 then adK (a - 1000) else adV (a - 1100)) ⟨hx, hb, hml, hr, hown, htj, hK, fun _ h => h, hlocks, fun h => absurd h (by decide)⟩ ⟨Nat.le_of_ble_eq_true rfl, Nat.le_of_ble_eq_true rfl, Nat.le_of_ble_eq_true rfl, Nat.le_of_ble_eq_true rfl⟩ ⟨fun k q h => by simp [jv_ws] at h, ⟨fun i j p q h => by simp [jv_ws] at h, fun k q h => by simp [jv_ws] at h⟩, va_S.rf, hRO, fun a k b' h1 h2 => by cases h2⟩ ⟨hl, fun v hv => ?_, fun v hv => by cases hv⟩ ?_
  · simp only [List.mem_cons, List.not_mem_nil, or_false] at hv
    rcases hv with rfl | rfl | rfl | rfl
    · intro a ha; cases ha; exact Or.inr (by omega)
    · exact jv_ok.uns
    · exact jv_ok.uns
    · exact jv_ok.uns
  · intro r n' I' J' P' H' locs' cells' slots' ls' ad' pc' st' hq hext hcs hDn hret
    subst hq
    rcases hret with ⟨h, -⟩ | ⟨v, ty, h, rfl, hd, hr2, hn⟩ | ⟨v, h, -⟩
    · cases h
    · cases h
      refine va_forget hDn.2.2.1.2.2 (W.widen (k := 600000) (n := 7302250) hcs.1 hcs.2 (lw_ret hx hb hr hlocks hd))
    · cases h
