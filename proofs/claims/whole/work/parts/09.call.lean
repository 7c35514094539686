/-! new cells -/
theorem jtyk : ∀ ci, ci < 9 → ∀ k, k < fnm ci → (jty ci k = .int ∨ jty ci k = .long ∨ jrt (jty ci k) = true) := by decide +kernel
section JN
variable {X : jX} {d bc bs : Nat} {M : MD} {Q : jPost} {pc : Nat} {L st : List Value} {n : Nat} {I : HI} {J : HJ} {P : HP}
theorem jv_grow {A : Nat → Prop} {D : va_G} {tc : Nat → ClassId} {s : State} {H H1 : Heap} {locs locs1 : List Loc} {ad : Nat → Nat} {q : Nat} {x : va_E} (hn : n < 1000) (hD : jv_Dyn X A D tc s H locs ad n I J P) (hP1 : va_P D vwCl (jv_ws tc ad n I J P ++ [(q, x)]) H1) (hD1 : va_D A (jv_ws tc ad n I J P ++ [(q, x)])) (hS1 : va_S A s.heap H1 locs1)
    (hx : jv_cell tc (fun a => if a = n then q else ad a) (ur I n (fun _ => 0)) (ur J n (fun _ => 0)) (ur P n (fun _ => none)) n = x) :
    jv_Dyn X A D tc s H1 locs1 (fun a => if a = n then q else ad a) (n + 1) (ur I n (fun _ => 0)) (ur J n (fun _ => 0)) (ur P n (fun _ => none)) ∧ jv_ext n ad (n + 1) (fun a => if a = n then q else ad a) := by
  have hext : jv_ext n ad (n + 1) (fun a => if a = n then q else ad a) := ⟨Nat.le_succ n, fun a ha => if_neg (by omega)⟩
  have hws : jv_ws tc ad n I J P ++ [(q, x)] = jv_ws tc (fun a => if a = n then q else ad a) (n + 1) (ur I n (fun _ => 0)) (ur J n (fun _ => 0)) (ur P n (fun _ => none)) := by
    refine jws_push (fun b hb => if_neg (by omega)) (fun b hb => ?_) (if_pos rfl) hx
    refine jcell_congr (ur_ne I _ (by omega)) (ur_ne J _ (by omega)) (fun k => ?_)
    rw [ur_ne P _ (show b ≠ n by omega)]
    cases hq : P b k with
    | none => rfl
    | some c =>
      have hc := hD.2.2.2.2 b k c hb hq
      show some (if c = n then q else ad c) = some (ad c)
      rw [if_neg (by omega)]
  rw [hws] at hP1 hD1
  refine ⟨⟨hP1, hD1, hS1, hD.2.2.2.1.congr (fun a ha => if_neg (by omega)), fun a k b h1 h2 => ?_⟩, hext⟩
  by_cases han : a = n
  · subst han; rw [ur_row] at h2; cases h2
  · rw [ur_ne P _ han] at h2
    have := hD.2.2.2.2 a k b (by omega) h2
    omega
theorem jv_Frm.grow {ad ad' : Nat → Nat} {n' : Nat} {ls : Array Slot} {st' : List Value} (h : jv_Frm M ad n ls L st) (he : jv_ext n ad n' ad') (hst : ∀ v ∈ st', jv_ok n' v) : jv_Frm M ad' n' ls L st' :=
  ⟨by rw [jv_rens_ext he h.2.1]; exact h.1, fun v hv => (h.2.1 v hv).mono he.1, hst⟩
theorem jv_End.grow {A : Nat → Prop} {D : va_G} {tc : Nat → ClassId} {p : Program} {l : Launch} {e : Env} {R : Room} {s : State} {m : MethodId} {args : Array Value} {below : List Frame} {meth : Method} {c : Code} {Z : State → Prop} {ad ad' : Nat → Nat} {n' : Nat} (h : jv_End X M Q A D tc p l e R s m args below meth c Z ad n) (he : jv_ext n ad n' ad') : jv_End X M Q A D tc p l e R s m args below meth c Z ad' n' :=
  fun r n2 I' J' P' H' locs' cells' slots' ls' ad2 pc' st' hq h2 => h r n2 I' J' P' H' locs' cells' slots' ls' ad2 pc' st' hq (he.trans h2)
theorem j_new {pc' idx ci bc' bs' : Nat} (hd : decode M.2.1 pc = .ok (.new idx, 3)) (hp : pc + 3 = pc') (hci : ci < jNc) (hs : shp n = (0, ci)) (hn : n < 1000) (hcl : Cond.classLink M.1.cls idx (jC ci) ∈ jv_tbl) (hins : Cond.instantiable (jC ci) (fnm ci) ∈ jv_tbl) (hini : Cond.initialized (jC ci) ∈ jv_tbl) (hbc : bc + 1 = bc') (hbs : bs + fnm ci = bs')
    (kk : Rj X d bc bs M Q pc' L (.ref n :: st) (n + 1) (ur I n (fun _ => 0)) (ur J n (fun _ => 0)) (ur P n (fun _ => none))) : Rj X d bc' bs' M Q pc L st n I J P := by
  subst hp; subst hbc; subst hbs
  intro A D tc p l e R s m args below meth c H locs cells slots Z ls ad hF hR hD hf2 hend
  obtain ⟨hx, hb, hml, hr, hown, hts, hK, hA, -⟩ := id hF
  obtain ⟨hR1, hR2, hR3, hR4⟩ := hR
  refine va_new (ci := ci) (C := jC ci) (T := jT ci) (N := fnm ci) (fs := (List.range (fnm ci)).map (jv_fld ad (ur I n (fun _ => 0)) (ur J n (fun _ => 0)) (ur P n (fun _ => none)) ci n)) hx hb hts (jlay ci hci) (jty ci) (jtyok ci hci) hown (hts _ hcl) (hts _ hins) (hts _ hini) hK hD.1 hD.2.1 hD.2.2.1 hA (jcl ci hci) (fun j hj => ?_) (by omega) (by omega) hd (fun q H1 h1 h2 h3 => ?_)
  · rw [vp_V, List.getD_eq_getElem?_getD, List.getElem?_map, List.getElem?_range hj]
    simp only [Option.map_some, Option.getD_some, jv_fld, ur_row]
    rcases jtyk ci hci j hj with h | h | h
    · rw [h]; rfl
    · rw [h]; rfl
    · cases h9 : jty ci j <;> rw [h9] at h <;> first | rfl | cases h
  · obtain ⟨g1, g2⟩ := jv_grow hn hD h1 h2 h3 (by
      rw [jcell_obj hs]
      congr 2
      apply List.map_congr_left
      intro k _
      simp only [jv_fld, ur_row]
      split <;> rfl)
    have := kk A D tc p l e R s m args below meth c H1 locs (cells + 1) (slots + fnm ci) Z ls _ hF ⟨hR1, hR2, by omega, by omega⟩ g1 (hf2.grow g2 (j_ok1 (fun b e => by cases e; exact Or.inl (Nat.lt_succ_self n)) (fun v hv => (hf2.2.2 v hv).mono g2.1))) (hend.grow g2)
    rw [List.map_cons, jv_rens_ext g2 hf2.2.2] at this
    simpa only [jv_ren, if_true] using this
theorem j_newa0 {A : Nat → Prop} {D : va_G} {tc : Nat → ClassId} {s : State} {H H1 : Heap} {locs locs1 : List Loc} {ad : Nat → Nat} {q t0 : Nat} {ty : FieldType} {cA : ClassId} (hK : va_K D vwCl (jv_tys tc ++ [(cA, ty)]) s) (ht : (jv_tys tc)[t0]? = some (tc t0, ty)) : cA = tc t0 := by
  have h1 := (hK.2 5 (cA, ty) (by rfl)).2
  have h2 := (hK.2 t0 (tc t0, ty) (by rw [List.getElem?_append_left (List.getElem?_eq_some_iff.mp ht).1]; exact ht)).2
  cases ty with
  | object C =>
    obtain ⟨_, _, _, _, _, a⟩ := h1
    obtain ⟨_, _, _, _, _, b⟩ := h2
    exact Option.some.inj (a.symm.trans b)
  | _ => exact Option.some.inj (Eq.trans (Eq.symm h1) h2)
theorem j_newarr {pc' len t0 kd bc' bs' : Nat} {v : Int32} {at0 : ArrayType} {ty : FieldType} {a0 : vp_A} (hd : decode M.2.1 pc = .ok (.newarray at0, 2)) (hp : pc + 2 = pc') (hs : shp n = (kd, len)) (hn : n < 1000) (hty : newarray.typeOf at0 = ty) (ht : ∀ tc : Nat → ClassId, (jv_tys tc)[t0]? = some (tc t0, ty)) (hcl : Cond.arrayClass ty ∈ jv_tbl) (ha : ∀ cA : ClassId, vp_cell cA a0 = arrV cA len (fun _ => defaultValue ty))
    (hcell : ∀ (tc : Nat → ClassId) (ad : Nat → Nat), jv_cell tc ad (ur I n (fun _ => 0)) (ur J n (fun _ => 0)) (ur P n (fun _ => none)) n = .inl (tc t0, a0)) (hv : ¬ v < 0) (hlen : v.toNatClampNeg = len) (hby : len * componentBytes ty ≤ 536870912) (hbc : bc + 1 = bc') (hbs : bs + len = bs')
    (kk : Rj X d bc bs M Q pc' L (.ref n :: st) (n + 1) (ur I n (fun _ => 0)) (ur J n (fun _ => 0)) (ur P n (fun _ => none))) : Rj X d bc' bs' M Q pc L (.int v :: st) n I J P := by
  subst hp; subst hbc; subst hbs
  intro A D tc p l e R s m args below meth c H locs cells slots Z ls ad hF hR hD hf2 hend
  obtain ⟨hx, hb, hml, hr, hown, hts, hK, hA, -⟩ := id hF
  obtain ⟨hR1, hR2, hR3, hR4⟩ := hR
  show W p l e R s m args below meth c H locs cells slots Z (F0 m pc ls (.int v :: st.map (jv_ren ad)))
  refine va_newa (atype := at0) (ty := ty) (a0 := a0) (N' := len) hx hb (by rw [hty]; exact hts _ hcl) hty hK hD.1 hD.2.1 hD.2.2.1 hA ha hv hlen hby (by omega) (by omega) hd (fun q cA H1 h0 h1 h2 h3 => ?_)
  have hcA : cA = tc t0 := j_newa0 (A := A) (H := H) (H1 := H1) (locs := locs) (locs1 := locs) (ad := ad) (q := q) h0 (ht tc)
  subst hcA
  obtain ⟨g1, g2⟩ := jv_grow hn hD h1 h2 h3 (hcell tc _)
  have := kk A D tc p l e R s m args below meth c H1 locs (cells + 1) (slots + len) Z ls _ hF ⟨hR1, hR2, by omega, by omega⟩ g1 (hf2.grow g2 (j_ok1 (fun b e => by cases e; exact Or.inl (Nat.lt_succ_self n)) (fun v hv => (hf2.2.2 v (List.mem_cons_of_mem _ hv)).mono g2.1))) (hend.grow g2)
  rw [List.map_cons, jv_rens_ext g2 (j_tl hf2.2.2)] at this
  simpa only [jv_ren, if_true] using this
theorem j_newI {pc' len bc' bs' : Nat} {v : Int32} (hd : decode M.2.1 pc = .ok (.newarray .int, 2)) (hp : pc + 2 = pc') (hs : shp n = (1, len)) (hn : n < 1000) (hcl : Cond.arrayClass .int ∈ jv_tbl) (hv : ¬ v < 0) (hlen : v.toNatClampNeg = len) (hby : len * componentBytes .int ≤ 536870912) (hbc : bc + 1 = bc') (hbs : bs + len = bs')
    (kk : Rj X d bc bs M Q pc' L (.ref n :: st) (n + 1) (ur I n (fun _ => 0)) (ur J n (fun _ => 0)) (ur P n (fun _ => none))) : Rj X d bc' bs' M Q pc L (.int v :: st) n I J P :=
  j_newarr (t0 := 0) (a0 := (len, .inl (fun _ => 0))) hd hp hs hn rfl (fun _ => rfl) hcl (fun _ => rfl) (fun tc ad => by rw [jcell_int hs, ur_row]) hv hlen hby hbc hbs kk
theorem j_newL {pc' len bc' bs' : Nat} {v : Int32} (hd : decode M.2.1 pc = .ok (.newarray .long, 2)) (hp : pc + 2 = pc') (hs : shp n = (2, len)) (hn : n < 1000) (hcl : Cond.arrayClass .long ∈ jv_tbl) (hv : ¬ v < 0) (hlen : v.toNatClampNeg = len) (hby : len * componentBytes .long ≤ 536870912) (hbc : bc + 1 = bc') (hbs : bs + len = bs')
    (kk : Rj X d bc bs M Q pc' L (.ref n :: st) (n + 1) (ur I n (fun _ => 0)) (ur J n (fun _ => 0)) (ur P n (fun _ => none))) : Rj X d bc' bs' M Q pc L (.int v :: st) n I J P :=
  j_newarr (t0 := 1) (a0 := (len, .inr (.inl (fun _ => 0)))) hd hp hs hn rfl (fun _ => rfl) hcl (fun _ => rfl) (fun tc ad => by rw [jcell_long hs, ur_row]) hv hlen hby hbc hbs kk
theorem j_newB {pc' len bc' bs' : Nat} {v : Int32} (hd : decode M.2.1 pc = .ok (.newarray .byte, 2)) (hp : pc + 2 = pc') (hs : shp n = (3, len)) (hn : n < 1000) (hcl : Cond.arrayClass .byte ∈ jv_tbl) (hv : ¬ v < 0) (hlen : v.toNatClampNeg = len) (hby : len * componentBytes .byte ≤ 536870912) (hbc : bc + 1 = bc') (hbs : bs + len = bs')
    (kk : Rj X d bc bs M Q pc' L (.ref n :: st) (n + 1) (ur I n (fun _ => 0)) (ur J n (fun _ => 0)) (ur P n (fun _ => none))) : Rj X d bc' bs' M Q pc L (.int v :: st) n I J P :=
  j_newarr (t0 := 2) (a0 := (len, .inl (fun _ => 0))) hd hp hs hn rfl (fun _ => rfl) hcl (fun _ => rfl) (fun tc ad => by rw [jcell_byte hs, ur_row]) hv hlen hby hbc hbs kk
theorem j_newZ {pc' len bc' bs' : Nat} {v : Int32} (hd : decode M.2.1 pc = .ok (.newarray .boolean, 2)) (hp : pc + 2 = pc') (hs : shp n = (4, len)) (hn : n < 1000) (hcl : Cond.arrayClass .boolean ∈ jv_tbl) (hv : ¬ v < 0) (hlen : v.toNatClampNeg = len) (hby : len * componentBytes .boolean ≤ 536870912) (hbc : bc + 1 = bc') (hbs : bs + len = bs')
    (kk : Rj X d bc bs M Q pc' L (.ref n :: st) (n + 1) (ur I n (fun _ => 0)) (ur J n (fun _ => 0)) (ur P n (fun _ => none))) : Rj X d bc' bs' M Q pc L (.int v :: st) n I J P :=
  j_newarr (t0 := 3) (a0 := (len, .inl (fun _ => 0))) hd hp hs hn rfl (fun _ => rfl) hcl (fun _ => rfl) (fun tc ad => by rw [jcell_bool hs, ur_row]) hv hlen hby hbc hbs kk
theorem j_newP {pc' idx len bc' bs' : Nat} {v : Int32} (hd : decode M.2.1 pc = .ok (.anewarray idx, 3)) (hp : pc + 3 = pc') (hs : shp n = (5, len)) (hn : n < 1000) (hcl : Cond.classLink M.1.cls idx RX8 ∈ jv_tbl) (hv : ¬ v < 0) (hlen : v.toNatClampNeg = len) (hby : len * 4 ≤ 536870912) (hbc : bc + 1 = bc') (hbs : bs + len = bs')
    (kk : Rj X d bc bs M Q pc' L (.ref n :: st) (n + 1) (ur I n (fun _ => 0)) (ur J n (fun _ => 0)) (ur P n (fun _ => none))) : Rj X d bc' bs' M Q pc L (.int v :: st) n I J P := by
  subst hp; subst hbc; subst hbs
  intro A D tc p l e R s m args below meth c H locs cells slots Z ls ad hF hR hD hf2 hend
  obtain ⟨hx, hb, hml, hr, hown, hts, hK, hA, -⟩ := id hF
  obtain ⟨hR1, hR2, hR3, hR4⟩ := hR
  show W p l e R s m args below meth c H locs cells slots Z (F0 m pc ls (.int v :: st.map (jv_ren ad)))
  refine va_newq (C := RX8) (N' := len) hx hb hown (hts _ hcl) hD.2.2.2.1.2.2.2.2.2.2 hK hD.1 hD.2.1 hD.2.2.1 hA hv hlen hby (by omega) (by omega) hd (fun q cA H1 h0 h1 h2 h3 => ?_)
  have hcA : cA = tc 4 := j_newa0 (t0 := 4) (A := A) (H := H) (H1 := H1) (locs := locs) (locs1 := locs) (ad := ad) (q := q) h0 rfl
  subst hcA
  obtain ⟨g1, g2⟩ := jv_grow hn hD h1 h2 h3 (by rw [jcell_ref hs, ur_row]; rfl)
  have := kk A D tc p l e R s m args below meth c H1 locs (cells + 1) (slots + len) Z ls _ hF ⟨hR1, hR2, by omega, by omega⟩ g1 (hf2.grow g2 (j_ok1 (fun b e => by cases e; exact Or.inl (Nat.lt_succ_self n)) (fun v hv => (hf2.2.2 v (List.mem_cons_of_mem _ hv)).mono g2.1))) (hend.grow g2)
  rw [List.map_cons, jv_rens_ext g2 (j_tl hf2.2.2)] at this
  simpa only [jv_ren, if_true] using this
/-! calls -/
def jv_W (X : jX) (A : Nat → Prop) (D : va_G) (tc : Nat → ClassId) (ad : Nat → Nat) (n : Nat) (I : HI) (J : HJ) (P : HP) (U : State) : Prop :=
  va_P D vwCl (jv_ws tc ad n I J P) U.heap ∧ va_K D vwCl (jv_tys tc) U ∧ va_D A (jv_ws tc ad n I J P) ∧ jv_RO X ad A U U.heap ∧ jv_okP n P ∧ ∀ q, U.heap.size ≤ q → A q
def jv_num (r : Option Value) : Prop := r = none ∨ (∃ v, r = some (.int v)) ∨ ∃ v, r = some (.long v)
def jv_Qc (X : jX) (A : Nat → Prop) (D : va_G) (tc : Nat → ClassId) (ad : Nat → Nat) (n : Nat) (Q : jPost) : Array Value → State → Outcome → State → Prop := fun _ st oc t =>
  (∃ (r : Option Value) (n' : Nat) (I' : HI) (J' : HJ) (P' : HP) (ad' : Nat → Nat), oc = .returned r ∧ jv_num r ∧ Q r n' I' J' P' ∧ jv_ext n ad n' ad' ∧ va_P D vwCl (jv_ws tc ad' n' I' J' P') t.heap ∧ va_D A (jv_ws tc ad' n' I' J' P') ∧ jv_okP n' P') ∧ va_F A st t
def jv_wsM (M : MD) : List Cond := .code M.1 M.2.1 M.2.2.1 M.2.2.2 :: jv_tbl
/-- a contract -/
def Cj (X : jX) (d bc bs : Nat) (M : MD) (as : List Value) (n : Nat) (I : HI) (J : HJ) (P : HP) (Q : jPost) : Prop :=
  ∀ (l : Launch) (A : Nat → Prop) (D : va_G) (tc : Nat → ClassId) (ad : Nat → Nat), Met l M.1 (jv_wsM M) { frames := d, cells := bc, slots := bs, locals := 64 * d } (va_Pc (as.map (jv_ren ad)) (fun U => jv_W X A D tc ad n I J P U ∧ ∀ v ∈ as, jv_ok n v)) (jv_Qc X A D tc ad n Q) bc bs A
theorem Cj.intro {as : List Value} (hy : plainName M.1.cls = true) (hwd : jv_wd as ≤ M.2.2.1) (hL : jv_ent as M.2.2.1 = L) (k : Rj X d bc bs M Q 0 L [] n I J P) : Cj X d bc bs M as n I J P Q := by
  intro l A D tc ad
  subst hL
  refine Met.ofW (cc := M.2.1) (maxL := M.2.2.1) (ret := M.2.2.2) (ws' := jv_tbl) hy rfl ?_
  intro p e s m args below meth c s₁ B hml hv
  obtain ⟨rfl, ⟨hP, hK, hD, hRO, hoP, hA⟩, hok⟩ := hv
  have hts := atoms_spec (ws := jv_wsM M) B.pre
  have hl := jv_lv.entry (as.map (jv_ren ad)) (n := M.2.2.1) (by
    have : ∀ vs : List Value, jv_wd (vs.map (jv_ren ad)) = jv_wd vs := by
      intro vs
      induction vs with
      | nil => rfl
      | cons v vs ih => simp only [List.map_cons, jv_wd, jv_ren_cat, ih]
    rw [this]; exact hwd)
  rw [← jv_ent_ren] at hl
  rw [lg_entry_eq]
  generalize (lg_sl (as.map (jv_ren ad)) ++ List.replicate (M.2.2.1 - (lg_sl (as.map (jv_ren ad))).length) Slot.unset).toArray = ls at hl ⊢
  have hlk := B.notSynchronized
  refine k A D tc p l e _ s m _ below meth c s.heap [] 0 0 _ ls ad ⟨B.exec, B.bytes, hml, B.returns, findClass_of_methodNamed B.named, fun w hw => hts w (List.mem_cons_of_mem _ hw), hK, hA, hlk, fun h => (name_of_methodNamed B.named B.method).1.trans h⟩ ⟨Nat.le_refl _, Nat.le_refl _, Nat.le_of_eq (Nat.zero_add _), Nat.le_of_eq (Nat.zero_add _)⟩ ⟨hP, hD, va_S.rf, hRO, hoP⟩ ⟨hl, jv_ent_ok as _ hok, fun v hv => by cases hv⟩ ?_
  intro r n' I' J' P' H' locs' cells' slots' ls' ad' pc' st' hq hext hcs hDn hret
  refine W.widen (k := bc) (n := bs) hcs.1 hcs.2 ?_
  rcases hret with ⟨rfl, rfl, hd, hr⟩ | ⟨v, ty, rfl, rfl, hd, hr, hn⟩ | ⟨v, rfl, rfl, hd, hr⟩
  · exact W.vret B.exec B.bytes (B.returns.trans hr) (fun t ht hW => ⟨⟨_, n', I', J', P', ad', rfl, Or.inl rfl, hq, hext, by rw [ht]; exact hDn.1, hDn.2.1, hDn.2.2.2.2⟩, hDn.2.2.1.F ht⟩) hDn.2.2.1.2.2 hd
  · exact W.zret B.exec B.bytes (B.returns.trans hr) hn (fun t ht hW => ⟨⟨_, n', I', J', P', ad', rfl, Or.inr (Or.inl ⟨v, rfl⟩), hq, hext, by rw [ht]; exact hDn.1, hDn.2.1, hDn.2.2.2.2⟩, hDn.2.2.1.F ht⟩) hDn.2.2.1.2.2 hd
  · exact W.lret B.exec B.bytes (B.returns.trans hr) (fun t ht hW => ⟨⟨_, n', I', J', P', ad', rfl, Or.inr (Or.inr ⟨v, rfl⟩), hq, hext, by rw [ht]; exact hDn.1, hDn.2.1, hDn.2.2.2.2⟩, hDn.2.2.1.F ht⟩) hDn.2.2.1.2.2 hd
theorem Cj.blind {A : Nat → Prop} {D : va_G} {tc : Nat → ClassId} {ad : Nat → Nat} {as : List Value} {av : List Value} : FrameBlind (va_Pc av (fun U => jv_W X A D tc ad n I J P U ∧ ∀ v ∈ as, jv_ok n v)) := by
  intro a U g mk q
  obtain ⟨q0, ⟨q1, q2, q3, q4, q5, q6⟩, q7⟩ := q
  exact ⟨q0, ⟨q1, va_K.moved (u := U) (U := U.calling g mk a) (Vm.Alike.refl U.vm) q2, q3, q4.same rfl, q5, q6⟩, q7⟩
theorem jv_W.of {A : Nat → Prop} {D : va_G} {tc : Nat → ClassId} {ad : Nat → Nat} {s U : State} {H : Heap} {locs : List Loc} (hD : jv_Dyn X A D tc s H locs ad n I J P) (hK : va_K D vwCl (jv_tys tc) s) (hA : ∀ q, s.heap.size ≤ q → A q) (hU : U.heap = H) (hW : s.WarmedH U.vm) : jv_W X A D tc ad n I J P U := by
  subst hU
  exact ⟨hD.1, va_K.moved hW.alike hK, hD.2.1, hD.2.2.2.1.next hW hD.2.2.1.1 hD.2.2.1.2.1, hD.2.2.2.2, fun q h => hA q (Nat.le_trans hD.2.2.1.1 h)⟩
theorem jv_num.ren {r : Option Value} (h : jv_num r) (ad : Nat → Nat) : r.toList.map (jv_ren ad) = r.toList := by
  rcases h with rfl | ⟨v, rfl⟩ | ⟨v, rfl⟩ <;> rfl
theorem jv_num.ok {r : Option Value} (h : jv_num r) (k : Nat) : ∀ v ∈ r.toList, jv_ok k v := by
  rcases h with rfl | ⟨v, rfl⟩ | ⟨v, rfl⟩ <;> intro w hw <;> simp at hw <;> subst hw
  · exact jv_ok.int
  · exact jv_ok.long
/-- behind a call, whatever its form -/
theorem jv_back {bc1 bs1 bc2 bs2 : Nat} {Q1 : jPost} {A : Nat → Prop} {D : va_G} {tc : Nat → ClassId} {p : Program} {l : Launch} {e : Env} {R : Room} {s : State} {m : MethodId} {args : Array Value} {below : List Frame} {meth : Method} {c : Code} {H : Heap} {locs : List Loc} {cells slots : Nat} {Z : State → Prop} {ls : Array Slot} {ad : Nat → Nat} {a : Array Value} {st0 : List Value} {stq : List Value}
    (hF : jv_Fix M A D tc p s m args meth c) (hR : jv_room R d bc bs cells slots) (hD : jv_Dyn X A D tc s H locs ad n I J P) (hf : jv_Frm M ad n ls L stq) (hst : ∀ v ∈ st, jv_ok n v) (hend : jv_End X M Q A D tc p l e R s m args below meth c Z ad n) (hbc : bc2 + bc1 = bc) (hbs : bs2 + bs1 = bs)
    (hr : va_Run p l e R s m args below meth c H locs cells slots bc1 bs1 (F0 m pc ls st0) (st.map (jv_ren ad)) (jv_Qc X A D tc ad n Q1 a) A)
    (kk : ∀ r n' I' J' P', Q1 r n' I' J' P' → Rj X d bc2 bs2 M Q (pc + 3) L (r.toList ++ st) n' I' J' P') : W p l e R s m args below meth c H locs cells slots Z (F0 m pc ls st0) := by
  intro T hT X0
  obtain ⟨v, st₀, t, T', L', h0, X', hL, e1, e2, ⟨⟨r, n', I', J', P', ad', hv, hnum, hq, hext, hP', hD', hok'⟩, hz, hk⟩, stp⟩ := hr T hT X0
  cases hv
  rw [h0] at hz hk
  obtain ⟨hR1, hR2, hR3, hR4⟩ := hR
  have hS : va_S A s.heap T'.heap (locs ++ L') := ⟨Nat.le_trans hD.2.2.1.1 (by rw [e1]; exact hz), fun q h1 h2 => by rw [e1, hk q (Nat.lt_of_lt_of_le h1 hD.2.2.1.1) h2]; exact hD.2.2.1.2.1 q h1 h2, fun q hq => by
      rcases List.mem_append.mp hq with h | h
      · exact hD.2.2.1.2.2 q h
      · exact hL q h⟩
  have h9 := kk v n' I' J' P' hq A D tc p l e R s m args below meth c T'.heap (locs ++ L') (cells + bc1) (slots + bs1) Z ls ad' hF ⟨hR1, hR2, by omega, by omega⟩ ⟨by rw [e1]; exact hP', hD', hS, hD.2.2.2.1.congr (fun a ha => hext.2 a (Or.inr ha)), hok'⟩ (hf.grow hext (fun w hw => by
      rcases List.mem_append.mp hw with h | h
      · exact hnum.ok _ w h
      · exact (hst w h).mono hext.1)) (hend.grow hext)
  rw [List.map_append, hnum.ren, jv_rens_ext hext hst] at h9
  obtain ⟨t2, a1, b1⟩ := h9 T' rfl X'
  exact ⟨t2, stp t2 a1, b1⟩
def PMd (own : String) (N : MD) (k : Nat) : Prop := Cond.code N.1 N.2.1 N.2.2.1 N.2.2.2 ∈ jv_tbl ∧ Cond.initialized N.1.cls ∈ jv_tbl ∧ N.1.cls ≠ "java/lang/invoke/MethodHandle" ∧ N.1.cls ≠ "java/lang/invoke/VarHandle" ∧ (parseMethodDescriptor N.1.desc).map (fun d => d.parameters.length) = some k ∧ N.2.2.1 ≤ 45
def PMv (own : String) (idx : Nat) (N : MD) (k : Nat) : Prop := PMd own N k ∧ Cond.methodLink own idx N.1 ∈ jv_tbl ∧ Cond.instanceMethod N.1 ∈ jv_tbl ∧ Cond.selects N.1.cls N.1 N.1 ∈ jv_tbl
def PMs (own : String) (idx : Nat) (N : MD) (k : Nat) : Prop := PMd own N k ∧ Cond.methodLink own idx N.1 ∈ jv_tbl ∧ Cond.static N.1 ∈ jv_tbl
def PMi (own : String) (idx : Nat) (N : MD) (k : Nat) : Prop := PMd own N k ∧ Cond.methodLink own idx N.1 ∈ jv_tbl ∧ Cond.instanceMethod N.1 ∈ jv_tbl ∧ N.1.name = "<init>" ∧ N.2.2.2 = none
def PMin (own : String) (idx : Nat) (N : MD) (k : Nat) : Prop := PMd own N k ∧ (own, idx, N.1, RX9) ∈ jv_nest ∧ Cond.instanceMethod N.1 ∈ jv_tbl ∧ N.1.name = "<init>" ∧ N.2.2.2 = none
def PMsn (own : String) (idx : Nat) (N : MD) (k : Nat) : Prop := PMd own N k ∧ (own, idx, N.1, RX9) ∈ jv_nest ∧ Cond.static N.1 ∈ jv_tbl
theorem jv_goodM {N : MD} {own : String} {k : Nat} (h : PMd own N k) : GoodIn jv_tbl (jv_wsM N) := fun w hw => by
  rcases List.mem_cons.mp hw with e | e
  · rw [e]; exact jv_tbl_good _ h.1
  · exact jv_tbl_good _ e
theorem jv_rest {ad : Nat → Nat} (h : (st.map fun v => v.category).sum ≤ 8) : ((st.map (jv_ren ad)).map fun v => v.category).sum ≤ 8 := by
  rw [List.map_map]
  have : ((fun v : Value => v.category) ∘ jv_ren ad) = fun v => v.category := funext fun v => jv_ren_cat ad v
  rw [this]; exact h
theorem j_callV {idx b ci bc1 bs1 bc2 bs2 : Nat} {N : MD} {As st0 : List Value} {Q1 : jPost} (hd : decode M.2.1 pc = .ok (.invokevirtual idx, 3)) (hm : PMv M.1.cls idx N As.length) (hC : Cj X d bc1 bs1 N (.ref b :: As) n I J P Q1) (hci : ci < jNc) (hs : shp b = (0, ci)) (hcn : jC ci = N.1.cls) (hb : b < 1000) (hst : As.reverse ++ .ref b :: st = st0) (hcat : (st.map fun v => v.category).sum ≤ 8) (hbc : bc2 + bc1 = bc) (hbs : bs2 + bs1 = bs)
    (kk : ∀ r n' I' J' P', Q1 r n' I' J' P' → Rj X (d + 1) bc2 bs2 M Q (pc + 3) L (r.toList ++ st) n' I' J' P') : Rj X (d + 1) bc bs M Q pc L st0 n I J P := by
  intro A D tc p l e R s m args below meth c H locs cells slots Z ls ad hF hR hD hf hend
  subst hst
  obtain ⟨hx, hbt, hml, hr, hown, hts, hK, hA, -⟩ := id hF
  have hokA : ∀ v ∈ Value.ref b :: As, jv_ok n v := fun v hv => hf.2.2 v (by
    rcases List.mem_cons.mp hv with e | e
    · exact List.mem_append_right _ (e ▸ List.mem_cons_self)
    · exact List.mem_append_left _ (List.mem_reverse.mpr e))
  have hbn : b < n := (hokA _ List.mem_cons_self b rfl).elim id (fun q => by omega)
  have hgt := jws_get (tc := tc) (ad := ad) (I := I) (J := J) (P := P) hbn
  rw [jcell_obj hs] at hgt
  have hrm : (d : Nat) + 1 ≤ R.frames ∧ 8 + (N.2.2.1 + 11) + 64 * d ≤ R.locals := by
    obtain ⟨h1, h2, -, -⟩ := hR
    have := hm.1.2.2.2.2.2
    omega
  have hcc : cells + bc1 ≤ R.cells ∧ slots + bs1 ≤ R.slots := by
    obtain ⟨-, -, h3, h4⟩ := hR
    omega
  rw [List.map_append, List.map_reverse, List.map_cons]
  have hrv := va_recv hK hD.1 (jcl ci hci) hgt
  rw [show (jC ci, jT ci, fnm ci).1 = N.1.cls from hcn] at hrv
  refine jv_back (stq := As.reverse ++ Value.ref b :: st) hF hR hD hf (fun v hv => hf.2.2 v (List.mem_append_right _ (List.mem_cons_of_mem _ hv))) hend hbc hbs (Q1 := Q1) (a := (Value.ref (ad b) :: As.map (jv_ren ad)).toArray) ?_ kk
  exact va_runV (As := As.map (jv_ren ad)) (rest := st.map (jv_ren ad)) (b := ad b) ⟨hx, hbt, hml, hown, hts⟩ (hC l A D tc ad) (cwV (mc := bc1) (ms := bs1) As.length hts (fun w hw => by
      unfold wsV at hw
      rcases List.mem_append.mp hw with e | e
      · have : w = Cond.methodLink M.1.cls idx N.1 ∨ w = Cond.instanceMethod N.1 ∨ w = Cond.selects N.1.cls N.1 N.1 ∨ w = Cond.initialized N.1.cls := by simpa using e
        rcases this with rfl | rfl | rfl | rfl
        · exact jv_tbl_good _ hm.2.1
        · exact jv_tbl_good _ hm.2.2.1
        · exact jv_tbl_good _ hm.2.2.2
        · exact jv_tbl_good _ hm.1.2.1
      · exact jv_goodM hm.1 w e) rfl rfl rfl ⟨rfl, hm.1.2.2.1, hm.1.2.2.2.1, hm.1.2.2.2.2.1⟩ hrm) ⟨Cj.blind, hrv, fun U hU hW => ⟨rfl, jv_W.of hD hK hA hU hW, hokA⟩⟩ rfl (by simp) hf.1.1 rfl (lv_room (jv_rest hcat)) hd hcc
theorem j_callS {idx bc1 bs1 bc2 bs2 : Nat} {N : MD} {As st0 : List Value} {Q1 : jPost} (hd : decode M.2.1 pc = .ok (.invokestatic idx, 3)) (hm : PMs M.1.cls idx N As.length) (hC : Cj X d bc1 bs1 N As n I J P Q1) (hst : As.reverse ++ st = st0) (hcat : (st.map fun v => v.category).sum ≤ 8) (hbc : bc2 + bc1 = bc) (hbs : bs2 + bs1 = bs)
    (kk : ∀ r n' I' J' P', Q1 r n' I' J' P' → Rj X (d + 1) bc2 bs2 M Q (pc + 3) L (r.toList ++ st) n' I' J' P') : Rj X (d + 1) bc bs M Q pc L st0 n I J P := by
  intro A D tc p l e R s m args below meth c H locs cells slots Z ls ad hF hR hD hf hend
  subst hst
  obtain ⟨hx, hbt, hml, hr, hown, hts, hK, hA, -⟩ := id hF
  have hokA : ∀ v ∈ As, jv_ok n v := fun v hv => hf.2.2 v (List.mem_append_left _ (List.mem_reverse.mpr hv))
  have hrm : (d : Nat) + 1 ≤ R.frames ∧ 8 + (N.2.2.1 + 11) + 64 * d ≤ R.locals := by
    obtain ⟨h1, h2, -, -⟩ := hR
    have := hm.1.2.2.2.2.2
    omega
  have hcc : cells + bc1 ≤ R.cells ∧ slots + bs1 ≤ R.slots := by
    obtain ⟨-, -, h3, h4⟩ := hR
    omega
  rw [List.map_append, List.map_reverse]
  refine jv_back (stq := As.reverse ++ st) hF hR hD hf (fun v hv => hf.2.2 v (List.mem_append_right _ hv)) hend hbc hbs (Q1 := Q1) (a := (As.map (jv_ren ad)).toArray) ?_ kk
  exact va_runS (As := As.map (jv_ren ad)) (rest := st.map (jv_ren ad)) ⟨hx, hbt, hml, hown, hts⟩ (hC l A D tc ad) (va_cwS (mc := bc1) (ms := bs1) As.length hts (fun w hw => by
      unfold va_wsS at hw
      rcases List.mem_append.mp hw with e | e
      · have : w = Cond.methodLink M.1.cls idx N.1 ∨ w = Cond.static N.1 ∨ w = Cond.initialized N.1.cls := by simpa using e
        rcases this with rfl | rfl | rfl
        · exact jv_tbl_good _ hm.2.1
        · exact jv_tbl_good _ hm.2.2
        · exact jv_tbl_good _ hm.1.2.1
      · exact jv_goodM hm.1 w e) rfl rfl rfl ⟨hm.1.2.2.1, hm.1.2.2.2.1, hm.1.2.2.2.2.1⟩ hrm) ⟨Cj.blind, fun U hU hW => ⟨rfl, jv_W.of hD hK hA hU hW, hokA⟩⟩ rfl (by simp) hf.1.1 rfl (lv_room (jv_rest hcat)) hd hcc
theorem j_callSN {idx bc1 bs1 bc2 bs2 : Nat} {N : MD} {As st0 : List Value} {Q1 : jPost} (hd : decode M.2.1 pc = .ok (.invokestatic idx, 3)) (hm : PMsn M.1.cls idx N As.length) (hC : Cj X d bc1 bs1 N As n I J P Q1) (hst : As.reverse ++ st = st0) (hcat : (st.map fun v => v.category).sum ≤ 8) (hbc : bc2 + bc1 = bc) (hbs : bs2 + bs1 = bs)
    (kk : ∀ r n' I' J' P', Q1 r n' I' J' P' → Rj X (d + 1) bc2 bs2 M Q (pc + 3) L (r.toList ++ st) n' I' J' P') : Rj X (d + 1) bc bs M Q pc L st0 n I J P := by
  intro A D tc p l e R s m args below meth c H locs cells slots Z ls ad hF hR hD hf hend
  subst hst
  obtain ⟨hx, hbt, hml, hr, hown, hts, hK, hA, -⟩ := id hF
  have hokA : ∀ v ∈ As, jv_ok n v := fun v hv => hf.2.2 v (List.mem_append_left _ (List.mem_reverse.mpr hv))
  have hrm : (d : Nat) + 1 ≤ R.frames ∧ 8 + (N.2.2.1 + 11) + 64 * d ≤ R.locals := by
    obtain ⟨h1, h2, -, -⟩ := hR
    have := hm.1.2.2.2.2.2
    omega
  have hcc : cells + bc1 ≤ R.cells ∧ slots + bs1 ≤ R.slots := by
    obtain ⟨-, -, h3, h4⟩ := hR
    omega
  rw [List.map_append, List.map_reverse]
  refine jv_back (stq := As.reverse ++ st) hF hR hD hf (fun v hv => hf.2.2 v (List.mem_append_right _ hv)) hend hbc hbs (Q1 := Q1) (a := (As.map (jv_ren ad)).toArray) ?_ kk
  exact va_runSN (host := RX9) (As := As.map (jv_ren ad)) (rest := st.map (jv_ren ad)) ⟨hx, hbt, hml, hown, hts⟩ (hC l A D tc ad) ⟨va_cnB (mc := bc1) (ms := bs1) As.length hts (jv_goodM hm.1) rfl rfl rfl (hD.2.2.2.1.2.2.2.2.2.1 _ hm.2.1) (hts _ hm.1.2.1) ⟨hm.1.2.2.1, hm.1.2.2.2.1, hm.1.2.2.2.2.1⟩ hrm, hts _ hm.2.2, trivial⟩ ⟨Cj.blind, fun U hU hW => ⟨rfl, jv_W.of hD hK hA hU hW, hokA⟩⟩ rfl (by simp) hf.1.1 rfl (lv_room (jv_rest hcat)) hd hcc
theorem j_callI {idx b bc1 bs1 bc2 bs2 : Nat} {N : MD} {As st0 : List Value} {Q1 : jPost} (hd : decode M.2.1 pc = .ok (.invokespecial idx, 3)) (hm : PMi M.1.cls idx N As.length) (hC : Cj X d bc1 bs1 N (.ref b :: As) n I J P Q1) (hst : As.reverse ++ .ref b :: st = st0) (hcat : (st.map fun v => v.category).sum ≤ 8) (hbc : bc2 + bc1 = bc) (hbs : bs2 + bs1 = bs)
    (kk : ∀ r n' I' J' P', Q1 r n' I' J' P' → Rj X (d + 1) bc2 bs2 M Q (pc + 3) L (r.toList ++ st) n' I' J' P') : Rj X (d + 1) bc bs M Q pc L st0 n I J P := by
  intro A D tc p l e R s m args below meth c H locs cells slots Z ls ad hF hR hD hf hend
  subst hst
  obtain ⟨hx, hbt, hml, hr, hown, hts, hK, hA, -⟩ := id hF
  have hokA : ∀ v ∈ Value.ref b :: As, jv_ok n v := fun v hv => hf.2.2 v (by
    rcases List.mem_cons.mp hv with e | e
    · exact List.mem_append_right _ (e ▸ List.mem_cons_self)
    · exact List.mem_append_left _ (List.mem_reverse.mpr e))
  have hrm : (d : Nat) + 1 ≤ R.frames ∧ 8 + (N.2.2.1 + 11) + 64 * d ≤ R.locals := by
    obtain ⟨h1, h2, -, -⟩ := hR
    have := hm.1.2.2.2.2.2
    omega
  have hcc : cells + bc1 ≤ R.cells ∧ slots + bs1 ≤ R.slots := by
    obtain ⟨-, -, h3, h4⟩ := hR
    omega
  rw [List.map_append, List.map_reverse, List.map_cons]
  refine jv_back (stq := As.reverse ++ Value.ref b :: st) hF hR hD hf (fun v hv => hf.2.2 v (List.mem_append_right _ (List.mem_cons_of_mem _ hv))) hend hbc hbs (Q1 := Q1) (a := (Value.ref (ad b) :: As.map (jv_ren ad)).toArray) ?_ kk
  have hMet := hC l A D tc ad
  have hw : jv_wsM N = Cond.code N.1 N.2.1 N.2.2.1 none :: jv_tbl := by unfold jv_wsM; rw [hm.2.2.2.2]
  exact va_runI (As := As.map (jv_ren ad)) (rest := st.map (jv_ren ad)) (b := ad b) ⟨hx, hbt, hml, hown, hts⟩ hMet (cwI (mc := bc1) (ms := bs1) (bytes := N.2.1) (maxL := N.2.2.1) As.length hts (jv_goodM hm.1) hw rfl rfl (hts _ hm.1.2.1) (hts _ hm.2.1) (hts _ hm.2.2.1) hm.2.2.2.1 ⟨hm.1.2.2.1, hm.1.2.2.2.1, hm.1.2.2.2.2.1⟩ hrm) ⟨Cj.blind, fun U hU hW => ⟨rfl, jv_W.of hD hK hA hU hW, hokA⟩⟩ rfl (by simp) hf.1.1 rfl (lv_room (jv_rest hcat)) hd hcc
theorem j_callIN {idx b bc1 bs1 bc2 bs2 : Nat} {N : MD} {As st0 : List Value} {Q1 : jPost} (hd : decode M.2.1 pc = .ok (.invokespecial idx, 3)) (hm : PMin M.1.cls idx N As.length) (hC : Cj X d bc1 bs1 N (.ref b :: As) n I J P Q1) (hst : As.reverse ++ .ref b :: st = st0) (hcat : (st.map fun v => v.category).sum ≤ 8) (hbc : bc2 + bc1 = bc) (hbs : bs2 + bs1 = bs)
    (kk : ∀ r n' I' J' P', Q1 r n' I' J' P' → Rj X (d + 1) bc2 bs2 M Q (pc + 3) L (r.toList ++ st) n' I' J' P') : Rj X (d + 1) bc bs M Q pc L st0 n I J P := by
  intro A D tc p l e R s m args below meth c H locs cells slots Z ls ad hF hR hD hf hend
  subst hst
  obtain ⟨hx, hbt, hml, hr, hown, hts, hK, hA, -⟩ := id hF
  have hokA : ∀ v ∈ Value.ref b :: As, jv_ok n v := fun v hv => hf.2.2 v (by
    rcases List.mem_cons.mp hv with e | e
    · exact List.mem_append_right _ (e ▸ List.mem_cons_self)
    · exact List.mem_append_left _ (List.mem_reverse.mpr e))
  have hrm : (d : Nat) + 1 ≤ R.frames ∧ 8 + (N.2.2.1 + 11) + 64 * d ≤ R.locals := by
    obtain ⟨h1, h2, -, -⟩ := hR
    have := hm.1.2.2.2.2.2
    omega
  have hcc : cells + bc1 ≤ R.cells ∧ slots + bs1 ≤ R.slots := by
    obtain ⟨-, -, h3, h4⟩ := hR
    omega
  rw [List.map_append, List.map_reverse, List.map_cons]
  refine jv_back (stq := As.reverse ++ Value.ref b :: st) hF hR hD hf (fun v hv => hf.2.2 v (List.mem_append_right _ (List.mem_cons_of_mem _ hv))) hend hbc hbs (Q1 := Q1) (a := (Value.ref (ad b) :: As.map (jv_ren ad)).toArray) ?_ kk
  have hMet := hC l A D tc ad
  have hw : jv_wsM N = Cond.code N.1 N.2.1 N.2.2.1 none :: jv_tbl := by unfold jv_wsM; rw [hm.2.2.2.2]
  exact va_runIN (host := RX9) (As := As.map (jv_ren ad)) (rest := st.map (jv_ren ad)) (b := ad b) ⟨hx, hbt, hml, hown, hts⟩ hMet ⟨va_cnB (mc := bc1) (ms := bs1) (bytes := N.2.1) (maxL := N.2.2.1) As.length hts (jv_goodM hm.1) hw rfl rfl (hD.2.2.2.1.2.2.2.2.2.1 _ hm.2.1) (hts _ hm.1.2.1) ⟨hm.1.2.2.1, hm.1.2.2.2.1, hm.1.2.2.2.2.1⟩ hrm, hm.2.2.2.1, hts _ hm.2.2.1⟩ ⟨Cj.blind, fun U hU hW => ⟨rfl, jv_W.of hD hK hA hU hW, hokA⟩⟩ rfl (by simp) hf.1.1 rfl (lv_room (jv_rest hcat)) hd hcc
end JN
