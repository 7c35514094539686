/-! rows that read and write cells -/
theorem jcl (ci : Nat) (h : ci < jNc) : vwCl[ci]? = some (jC ci, jT ci, fnm ci) := by
  have : ∀ i, i < 9 → vwCl[i]? = some (jC i, jT i, fnm i) := by
    intro i hi
    match i, hi with
    | 0, _ => rfl
    | 1, _ => rfl
    | 2, _ => rfl
    | 3, _ => rfl
    | 4, _ => rfl
    | 5, _ => rfl
    | 6, _ => rfl
    | 7, _ => rfl
    | 8, _ => rfl
  exact this ci h
theorem jlay (ci : Nat) (h : ci < jNc) : ∀ w ∈ u_ws (jC ci) (jT ci) (fnm ci), w ∈ jv_tbl := by
  have : ∀ i, i < 9 → ∀ w ∈ u_ws (jC i) (jT i) (fnm i), w ∈ jv_tbl := by decide +kernel
  exact this ci h
theorem jtyok (ci : Nat) (h : ci < jNc) : ∀ k, k < fnm ci → parseFieldDescriptor (jT ci k).2.2.1 = some (jty ci k) := by
  have : ∀ i, i < 9 → ∀ k, k < fnm i → parseFieldDescriptor (jT i k).2.2.1 = some (jty i k) := by decide +kernel
  exact this ci h
theorem jnm (ci : Nat) (h : ci < jNc) : ∀ a, a < fnm ci → ∀ b, b < fnm ci → a ≠ b → (jT ci a).2.1 ≠ (jT ci b).2.1 := by
  have : ∀ i, i < 9 → ∀ a, a < fnm i → ∀ b, b < fnm i → a ≠ b → (jT i a).2.1 ≠ (jT i b).2.1 := by decide +kernel
  exact this ci h
/-- a pool entry that is a field of a class of ours -/
def PF (own : String) (idx ci k : Nat) : Prop := ci < jNc ∧ k < fnm ci ∧ Cond.fieldLink own idx (jT ci k).1 (jT ci k).2.1 (jT ci k).2.2.1 ∈ jv_tbl
section JH
variable {X : jX} {d bc bs : Nat} {M : MD} {Q : jPost} {pc : Nat} {L st : List Value} {n : Nat} {I : HI} {J : HJ} {P : HP}
theorem jv_lt {v : Value} {a : Nat} (h : jv_ok n (.ref a)) (ha : a < 1000) : a < n := (h a rfl).elim id (fun q => by omega)
theorem j_get0 {pc' idx ci k a : Nat} {v : Value} (hd : decode M.2.1 pc = .ok (.getfield idx, 3)) (hp : pc + 3 = pc') (hf : PF M.1.cls idx ci k) (hs : shp a = (0, ci)) (ha : a < 1000) (hv : ∀ ad : Nat → Nat, jv_fld ad I J P ci a k = jv_ren ad v) (hok : a < n → jv_okP n P → jv_ok n v)
    (kk : Rj X d bc bs M Q pc' L (v :: st) n I J P) : Rj X d bc bs M Q pc L (.ref a :: st) n I J P := by
  subst hp
  intro A D tc p l e R s m args below meth c H locs cells slots Z ls ad hF hR hD hf2 hend
  obtain ⟨hx, hb, hml, hr, hown, hts, hK, hA, -⟩ := id hF
  obtain ⟨hP, hDD, hS, hRO, hoP⟩ := id hD
  have han : a < n := (hf2.2.2 _ List.mem_cons_self a rfl).elim id (fun q => by omega)
  have hgt := jws_get (tc := tc) (ad := ad) (I := I) (J := J) (P := P) han
  rw [jcell_obj hs] at hgt
  show W p l e R s m args below meth c H locs cells slots Z (F0 m pc ls (.ref (ad a) :: st.map (jv_ren ad)))
  refine va_get (D := D) (ci := ci) (v := jv_ren ad v) (C := jC ci) (T := jT ci) (N := fnm ci) hx hb hts (jlay ci hf.1) hown hK hP a hgt (jcl ci hf.1) k hf.2.1 (hts _ hf.2.2) (fun _ h9 => h9) (by rw [List.getElem?_map, List.getElem?_range hf.2.1, Option.map_some, hv]) hd ?_
  exact kk A D tc p l e R s m args below meth c H locs cells slots Z ls ad hF hR hD ⟨hf2.1, hf2.2.1, j_ok1 (hok han hoP) (j_tl hf2.2.2)⟩ hend
theorem j_getI {pc' idx ci k a : Nat} (hd : decode M.2.1 pc = .ok (.getfield idx, 3)) (hp : pc + 3 = pc') (hf : PF M.1.cls idx ci k) (hs : shp a = (0, ci)) (ha : a < 1000) (ht : jty ci k = .int) (kk : Rj X d bc bs M Q pc' L (.int (I a k) :: st) n I J P) : Rj X d bc bs M Q pc L (.ref a :: st) n I J P :=
  j_get0 hd hp hf hs ha (fun ad => by simp only [jv_fld, ht, jv_ren]) (fun _ _ => jv_ok.int) kk
theorem j_getJ {pc' idx ci k a : Nat} (hd : decode M.2.1 pc = .ok (.getfield idx, 3)) (hp : pc + 3 = pc') (hf : PF M.1.cls idx ci k) (hs : shp a = (0, ci)) (ha : a < 1000) (ht : jty ci k = .long) (kk : Rj X d bc bs M Q pc' L (.long (J a k) :: st) n I J P) : Rj X d bc bs M Q pc L (.ref a :: st) n I J P :=
  j_get0 hd hp hf hs ha (fun ad => by simp only [jv_fld, ht, jv_ren]) (fun _ _ => jv_ok.long) kk
/-- a type whose values are references -/
def jrt (t : FieldType) : Bool := match t with
  | .object _ => true
  | .array _ => true
  | _ => false
theorem jv_fld_ref {ad : Nat → Nat} {ci a k : Nat} (ht : jrt (jty ci k) = true) : jv_fld ad I J P ci a k = va_rf ((P a k).map ad) := by
  unfold jv_fld
  cases h : jty ci k <;> rw [h] at ht <;> first | rfl | cases ht
theorem j_getP {pc' idx ci k a b : Nat} (hd : decode M.2.1 pc = .ok (.getfield idx, 3)) (hp : pc + 3 = pc') (hf : PF M.1.cls idx ci k) (hs : shp a = (0, ci)) (ha : a < 1000) (ht : jrt (jty ci k) = true) (hb : P a k = some b) (kk : Rj X d bc bs M Q pc' L (.ref b :: st) n I J P) : Rj X d bc bs M Q pc L (.ref a :: st) n I J P :=
  j_get0 hd hp hf hs ha (fun ad => by rw [jv_fld_ref ht, hb]; rfl) (fun han hoP => fun b' e => by cases e; exact Or.inl (hoP a k b han hb)) kk
/-- a field is written: its value fits, the cell's row is the new one -/
theorem j_put0 {pc' idx ci k a : Nat} {v : Value} {I' : HI} {J' : HJ} {P' : HP} (hd : decode M.2.1 pc = .ok (.putfield idx, 3)) (hp : pc + 3 = pc') (hf : PF M.1.cls idx ci k) (hs : shp a = (0, ci)) (ha : a < 1000) (hfin : (jT ci k).2.2.2 = false ∨ (M.1.name = "<init>" ∧ (jT ci k).1 = M.1.cls))
    (hn : ∀ ad : Nat → Nat, narrow (jty ci k) (jv_ren ad v) = jv_ren ad v) (hfit : ∀ ad : Nat → Nat, fits (jty ci k) (jv_ren ad v) = true) (hv : ∀ ad : Nat → Nat, jv_fld ad I' J' P' ci a k = jv_ren ad v) (ho : ∀ (ad : Nat → Nat) (j : Nat), j ≠ k → jv_fld ad I' J' P' ci a j = jv_fld ad I J P ci a j)
    (hoc : ∀ b, b ≠ a → I' b = I b ∧ J' b = J b ∧ P' b = P b) (hoP : (a < n) → jv_ok n v → jv_okP n P → jv_okP n P') (kk : Rj X d bc bs M Q pc' L st n I' J' P') : Rj X d bc bs M Q pc L (v :: .ref a :: st) n I J P := by
  subst hp
  intro A D tc p l e R s m args below meth c H locs cells slots Z ls ad hF hR hD hf2 hend
  obtain ⟨hx, hb, hml, hr, hown, hts, hK, hA, hlk, hnm⟩ := id hF
  obtain ⟨hP, hDD, hS, hRO, hokP⟩ := id hD
  have hva := hf2.2.2 _ List.mem_cons_self
  have han : a < n := (hf2.2.2 _ (List.mem_cons_of_mem _ List.mem_cons_self) a rfl).elim id (fun q => by omega)
  have hgt := jws_get (tc := tc) (ad := ad) (I := I) (J := J) (P := P) han
  rw [jcell_obj hs] at hgt
  have hws : (jv_ws tc ad n I J P).set a (ad a, .inr (ci, ((List.range (fnm ci)).map (jv_fld ad I J P ci a)).set k (jv_ren ad v))) = jv_ws tc ad n I' J' P' := by
    refine jws_set han ?_ (fun b _ hba => ?_)
    · rw [jcell_obj hs, jmap_set (hv ad) (fun j _ hj => ho ad j hj)]
    · obtain ⟨e1, e2, e3⟩ := hoc b hba
      exact jcell_congr e1 e2 (fun j => by rw [e3])
  have hlen : k < ((List.range (fnm ci)).map (jv_fld ad I J P ci a)).length := by simpa using hf.2.1
  show W p l e R s m args below meth c H locs cells slots Z (F0 m pc ls (jv_ren ad v :: .ref (ad a) :: st.map (jv_ren ad)))
  have fin : ∀ (H1 : Heap) (locs1 : List Loc), va_P D vwCl ((jv_ws tc ad n I J P).set a (ad a, .inr (ci, ((List.range (fnm ci)).map (jv_fld ad I J P ci a)).set k (jv_ren ad v)))) H1 → va_D A ((jv_ws tc ad n I J P).set a (ad a, .inr (ci, ((List.range (fnm ci)).map (jv_fld ad I J P ci a)).set k (jv_ren ad v)))) → va_S A s.heap H1 locs1 →
      W p l e R s m args below meth c H1 locs1 cells slots Z (F0 m (pc + 3) ls (st.map (jv_ren ad))) := by
    intro H1 locs1 h1 h2 h3
    rw [hws] at h1 h2
    exact kk A D tc p l e R s m args below meth c H1 locs1 cells slots Z ls ad hF hR ⟨h1, h2, h3, hRO, hoP han hva hokP⟩ ⟨hf2.1, hf2.2.1, j_tl (j_tl hf2.2.2)⟩ hend
  rcases hfin with hfin | ⟨hi1, hi2⟩
  · exact va_put (D := D) (ci := ci) (v := jv_ren ad v) (ty := jty ci k) (C := jC ci) (T := jT ci) (N := fnm ci) hx hb hts (jlay ci hf.1) (jty ci) (jtyok ci hf.1) (jnm ci hf.1) hown hK hP hDD hS a hgt (jcl ci hf.1) k hf.2.1 (hts _ hf.2.2) (fun _ h9 => h9) hfin (jtyok ci hf.1 k hf.2.1) (hn ad) (hfit ad) hlen hd fin
  · by_cases hfb : (jT ci k).2.2.2 = false
    · exact va_put (D := D) (ci := ci) (v := jv_ren ad v) (ty := jty ci k) (C := jC ci) (T := jT ci) (N := fnm ci) hx hb hts (jlay ci hf.1) (jty ci) (jtyok ci hf.1) (jnm ci hf.1) hown hK hP hDD hS a hgt (jcl ci hf.1) k hf.2.1 (hts _ hf.2.2) (fun _ h9 => h9) hfb (jtyok ci hf.1 k hf.2.1) (hn ad) (hfit ad) hlen hd fin
    · have hft : (jT ci k).2.2.2 = true := by cases h : (jT ci k).2.2.2 <;> simp_all
      exact va_putF (D := D) (ci := ci) (v := jv_ren ad v) (ty := jty ci k) (C := jC ci) (T := jT ci) (N := fnm ci) hx hb hts (jlay ci hf.1) (jty ci) (jtyok ci hf.1) (jnm ci hf.1) hown hK hP hDD hS a hgt (jcl ci hf.1) k hf.2.1 (hts _ hf.2.2) (fun _ h9 => h9) hft (hnm hi1) hi2 (jtyok ci hf.1 k hf.2.1) (hn ad) (hfit ad) hlen hd fin
theorem j_putI {pc' idx ci k a : Nat} {v : Int32} (hd : decode M.2.1 pc = .ok (.putfield idx, 3)) (hp : pc + 3 = pc') (hf : PF M.1.cls idx ci k) (hs : shp a = (0, ci)) (ha : a < 1000) (ht : jty ci k = .int) (hfin : (jT ci k).2.2.2 = false) (kk : Rj X d bc bs M Q pc' L st n (u2 I a k v) J P) : Rj X d bc bs M Q pc L (.int v :: .ref a :: st) n I J P := by
  refine j_put0 (v := .int v) hd hp hf hs ha (Or.inl hfin) (fun ad => by rw [ht]; rfl) (fun ad => by rw [ht]; rfl) (fun ad => by simp [jv_fld, ht, jv_ren, u2]) (fun ad j hj => by simp [jv_fld, u2, hj]) (fun b hb => ⟨u2_ne I k v hb, rfl, rfl⟩) (fun _ _ h => h) kk
theorem j_putJ {pc' idx ci k a : Nat} {v : Int64} (hd : decode M.2.1 pc = .ok (.putfield idx, 3)) (hp : pc + 3 = pc') (hf : PF M.1.cls idx ci k) (hs : shp a = (0, ci)) (ha : a < 1000) (ht : jty ci k = .long) (hfin : (jT ci k).2.2.2 = false) (kk : Rj X d bc bs M Q pc' L st n I (u2 J a k v) P) : Rj X d bc bs M Q pc L (.long v :: .ref a :: st) n I J P := by
  refine j_put0 (v := .long v) hd hp hf hs ha (Or.inl hfin) (fun ad => by rw [ht]; rfl) (fun ad => by rw [ht]; rfl) (fun ad => by simp [jv_fld, ht, jv_ren, u2]) (fun ad j hj => by simp [jv_fld, u2, hj]) (fun b hb => ⟨rfl, u2_ne J k v hb, rfl⟩) (fun _ _ h => h) kk
theorem j_putP {pc' idx ci k a b : Nat} (hd : decode M.2.1 pc = .ok (.putfield idx, 3)) (hp : pc + 3 = pc') (hf : PF M.1.cls idx ci k) (hs : shp a = (0, ci)) (ha : a < 1000) (hb : b < 1000) (ht : jrt (jty ci k) = true) (hfin : (jT ci k).2.2.2 = false ∨ (M.1.name = "<init>" ∧ (jT ci k).1 = M.1.cls)) (kk : Rj X d bc bs M Q pc' L st n I J (u2 P a k (some b))) : Rj X d bc bs M Q pc L (.ref b :: .ref a :: st) n I J P := by
  refine j_put0 (v := .ref b) hd hp hf hs ha hfin (fun ad => ?_) (fun ad => ?_) (fun ad => by rw [jv_fld_ref ht]; simp [u2, va_rf, jv_ren]) (fun ad j hj => by simp [jv_fld, u2, hj]) (fun b hb => ⟨rfl, rfl, u2_ne P k _ hb⟩) (fun han hv h => ?_) kk
  · cases h : jty ci k <;> rw [h] at ht <;> first | rfl | cases ht
  · cases h : jty ci k <;> rw [h] at ht <;> first | rfl | cases ht
  · intro a' k' b' h1 h2
    simp only [u2] at h2
    split at h2
    · split at h2
      · cases h2
        exact (hv b rfl).elim id (fun q => by omega)
      · exact h a' k' b' h1 h2
    · exact h a' k' b' h1 h2
/-! arrays -/
theorem j_iaload {pc' a len : Nat} {i : Int32} (hd : decode M.2.1 pc = .ok (.iaload, 1)) (hp : pc + 1 = pc') (hs : shp a = (1, len)) (ha : a < 1000) (hin : vp_in i len) (kk : Rj X d bc bs M Q pc' L (.int (I a i.toNatClampNeg) :: st) n I J P) : Rj X d bc bs M Q pc L (.int i :: .ref a :: st) n I J P := by
  subst hp
  intro A D tc p l e R s m args below meth c H locs cells slots Z ls ad hF hR hD hf2 hend
  have han : a < n := (hf2.2.2 _ (List.mem_cons_of_mem _ List.mem_cons_self) a rfl).elim id (fun q => by omega)
  have hgt := jws_get (tc := tc) (ad := ad) (I := I) (J := J) (P := P) han
  rw [jcell_int hs] at hgt
  exact va_iald hF.1 hF.2.1 hF.2.2.2.2.2.2.1 hD.1 a 0 hgt rfl hin hd (kk A D tc p l e R s m args below meth c H locs cells slots Z ls ad hF hR hD ⟨hf2.1, hf2.2.1, j_ok1 jv_ok.int (j_tl (j_tl hf2.2.2))⟩ hend)
theorem j_baload {pc' a len : Nat} {i : Int32} (hd : decode M.2.1 pc = .ok (.baload, 1)) (hp : pc + 1 = pc') (hs : shp a = (3, len)) (ha : a < 1000) (hin : vp_in i len) (kk : Rj X d bc bs M Q pc' L (.int (I a i.toNatClampNeg) :: st) n I J P) : Rj X d bc bs M Q pc L (.int i :: .ref a :: st) n I J P := by
  subst hp
  intro A D tc p l e R s m args below meth c H locs cells slots Z ls ad hF hR hD hf2 hend
  have han : a < n := (hf2.2.2 _ (List.mem_cons_of_mem _ List.mem_cons_self) a rfl).elim id (fun q => by omega)
  have hgt := jws_get (tc := tc) (ad := ad) (I := I) (J := J) (P := P) han
  rw [jcell_byte hs] at hgt
  exact va_bald hF.1 hF.2.1 hF.2.2.2.2.2.2.1 hD.1 a 2 hgt rfl hin hd (kk A D tc p l e R s m args below meth c H locs cells slots Z ls ad hF hR hD ⟨hf2.1, hf2.2.1, j_ok1 jv_ok.int (j_tl (j_tl hf2.2.2))⟩ hend)
theorem j_zaload {pc' a len : Nat} {i : Int32} (hd : decode M.2.1 pc = .ok (.baload, 1)) (hp : pc + 1 = pc') (hs : shp a = (4, len)) (ha : a < 1000) (hin : vp_in i len) (kk : Rj X d bc bs M Q pc' L (.int (I a i.toNatClampNeg) :: st) n I J P) : Rj X d bc bs M Q pc L (.int i :: .ref a :: st) n I J P := by
  subst hp
  intro A D tc p l e R s m args below meth c H locs cells slots Z ls ad hF hR hD hf2 hend
  have han : a < n := (hf2.2.2 _ (List.mem_cons_of_mem _ List.mem_cons_self) a rfl).elim id (fun q => by omega)
  have hgt := jws_get (tc := tc) (ad := ad) (I := I) (J := J) (P := P) han
  rw [jcell_bool hs] at hgt
  exact va_zald hF.1 hF.2.1 hF.2.2.2.2.2.2.1 hD.1 a 3 hgt rfl hin hd (kk A D tc p l e R s m args below meth c H locs cells slots Z ls ad hF hR hD ⟨hf2.1, hf2.2.1, j_ok1 jv_ok.int (j_tl (j_tl hf2.2.2))⟩ hend)
theorem j_laload {pc' a len : Nat} {i : Int32} (hd : decode M.2.1 pc = .ok (.laload, 1)) (hp : pc + 1 = pc') (hs : shp a = (2, len)) (ha : a < 1000) (hin : vp_in i len) (kk : Rj X d bc bs M Q pc' L (.long (J a i.toNatClampNeg) :: st) n I J P) : Rj X d bc bs M Q pc L (.int i :: .ref a :: st) n I J P := by
  subst hp
  intro A D tc p l e R s m args below meth c H locs cells slots Z ls ad hF hR hD hf2 hend
  have han : a < n := (hf2.2.2 _ (List.mem_cons_of_mem _ List.mem_cons_self) a rfl).elim id (fun q => by omega)
  have hgt := jws_get (tc := tc) (ad := ad) (I := I) (J := J) (P := P) han
  rw [jcell_long hs] at hgt
  exact va_lald hF.1 hF.2.1 hF.2.2.2.2.2.2.1 hD.1 a 1 hgt rfl hin hd (kk A D tc p l e R s m args below meth c H locs cells slots Z ls ad hF hR hD ⟨hf2.1, hf2.2.1, j_ok1 jv_ok.long (j_tl (j_tl hf2.2.2))⟩ hend)
theorem j_aaload {pc' a len : Nat} {i : Int32} {r : Option Nat} (hd : decode M.2.1 pc = .ok (.aaload, 1)) (hp : pc + 1 = pc') (hs : shp a = (5, len)) (ha : a < 1000) (hin : vp_in i len) (hr : P a i.toNatClampNeg = r) (kk : Rj X d bc bs M Q pc' L (va_rf r :: st) n I J P) : Rj X d bc bs M Q pc L (.int i :: .ref a :: st) n I J P := by
  subst hp
  subst hr
  intro A D tc p l e R s m args below meth c H locs cells slots Z ls ad hF hR hD hf2 hend
  have han : a < n := (hf2.2.2 _ (List.mem_cons_of_mem _ List.mem_cons_self) a rfl).elim id (fun q => by omega)
  have hgt := jws_get (tc := tc) (ad := ad) (I := I) (J := J) (P := P) han
  rw [jcell_ref hs] at hgt
  refine va_aldq hF.1 hF.2.1 hF.2.2.2.2.2.2.1 hD.1 a 4 hgt rfl hin hd ?_
  have := kk A D tc p l e R s m args below meth c H locs cells slots Z ls ad hF hR hD ⟨hf2.1, hf2.2.1, j_ok1 (fun b e => ?_) (j_tl (j_tl hf2.2.2))⟩ hend
  · rw [List.map_cons, jv_ren_rf] at this
    exact this
  · cases hq : P a i.toNatClampNeg with
    | none => rw [hq] at e; cases e
    | some b' => rw [hq] at e; cases e; exact Or.inl (hD.2.2.2.2 a _ b han hq)
theorem j_iastore {pc' a len : Nat} {i v : Int32} (hd : decode M.2.1 pc = .ok (.iastore, 1)) (hp : pc + 1 = pc') (hs : shp a = (1, len)) (ha : a < 1000) (hin : vp_in i len) (kk : Rj X d bc bs M Q pc' L st n (u2 I a i.toNatClampNeg v) J P) : Rj X d bc bs M Q pc L (.int v :: .int i :: .ref a :: st) n I J P := by
  subst hp
  intro A D tc p l e R s m args below meth c H locs cells slots Z ls ad hF hR hD hf2 hend
  have han : a < n := (hf2.2.2 _ (List.mem_cons_of_mem _ (List.mem_cons_of_mem _ List.mem_cons_self)) a rfl).elim id (fun q => by omega)
  have hgt := jws_get (tc := tc) (ad := ad) (I := I) (J := J) (P := P) han
  rw [jcell_int hs] at hgt
  refine va_iast hF.1 hF.2.1 hF.2.2.2.2.2.2.1 hD.1 hD.2.1 hD.2.2.1 a 0 hgt rfl (x := v) hin hd (fun H1 locs1 h1 h2 h3 => ?_)
  have hws : (jv_ws tc ad n I J P).set a (ad a, .inl (tc 0, len, .inl (upd (I a) i.toNatClampNeg v))) = jv_ws tc ad n (u2 I a i.toNatClampNeg v) J P :=
    jws_set han (by rw [jcell_int hs, u2_row]; rfl) (fun b _ hb => jcell_congr (u2_ne I _ v hb) rfl (fun _ => rfl))
  rw [hws] at h1 h2
  exact kk A D tc p l e R s m args below meth c H1 locs1 cells slots Z ls ad hF hR ⟨h1, h2, h3, hD.2.2.2.1, hD.2.2.2.2⟩ ⟨hf2.1, hf2.2.1, j_tl (j_tl (j_tl hf2.2.2))⟩ hend
theorem j_bastore {pc' a len : Nat} {i v : Int32} (hd : decode M.2.1 pc = .ok (.bastore, 1)) (hp : pc + 1 = pc') (hs : shp a = (3, len)) (ha : a < 1000) (hin : vp_in i len) (kk : Rj X d bc bs M Q pc' L st n (u2 I a i.toNatClampNeg (vp_nar .byte v)) J P) : Rj X d bc bs M Q pc L (.int v :: .int i :: .ref a :: st) n I J P := by
  subst hp
  intro A D tc p l e R s m args below meth c H locs cells slots Z ls ad hF hR hD hf2 hend
  have han : a < n := (hf2.2.2 _ (List.mem_cons_of_mem _ (List.mem_cons_of_mem _ List.mem_cons_self)) a rfl).elim id (fun q => by omega)
  have hgt := jws_get (tc := tc) (ad := ad) (I := I) (J := J) (P := P) han
  rw [jcell_byte hs] at hgt
  refine va_bast hF.1 hF.2.1 hF.2.2.2.2.2.2.1 hD.1 hD.2.1 hD.2.2.1 a 2 hgt rfl (x := v) hin hd (fun H1 locs1 h1 h2 h3 => ?_)
  have hws : (jv_ws tc ad n I J P).set a (ad a, .inl (tc 2, len, .inl (upd (I a) i.toNatClampNeg (vp_nar .byte v)))) = jv_ws tc ad n (u2 I a i.toNatClampNeg (vp_nar .byte v)) J P :=
    jws_set han (by rw [jcell_byte hs, u2_row]; rfl) (fun b _ hb => jcell_congr (u2_ne I _ _ hb) rfl (fun _ => rfl))
  rw [hws] at h1 h2
  exact kk A D tc p l e R s m args below meth c H1 locs1 cells slots Z ls ad hF hR ⟨h1, h2, h3, hD.2.2.2.1, hD.2.2.2.2⟩ ⟨hf2.1, hf2.2.1, j_tl (j_tl (j_tl hf2.2.2))⟩ hend
theorem j_zastore {pc' a len : Nat} {i v : Int32} (hd : decode M.2.1 pc = .ok (.bastore, 1)) (hp : pc + 1 = pc') (hs : shp a = (4, len)) (ha : a < 1000) (hin : vp_in i len) (kk : Rj X d bc bs M Q pc' L st n (u2 I a i.toNatClampNeg (vp_nar .boolean v)) J P) : Rj X d bc bs M Q pc L (.int v :: .int i :: .ref a :: st) n I J P := by
  subst hp
  intro A D tc p l e R s m args below meth c H locs cells slots Z ls ad hF hR hD hf2 hend
  have han : a < n := (hf2.2.2 _ (List.mem_cons_of_mem _ (List.mem_cons_of_mem _ List.mem_cons_self)) a rfl).elim id (fun q => by omega)
  have hgt := jws_get (tc := tc) (ad := ad) (I := I) (J := J) (P := P) han
  rw [jcell_bool hs] at hgt
  refine va_zast hF.1 hF.2.1 hF.2.2.2.2.2.2.1 hD.1 hD.2.1 hD.2.2.1 a 3 hgt rfl (x := v) hin hd (fun H1 locs1 h1 h2 h3 => ?_)
  have hws : (jv_ws tc ad n I J P).set a (ad a, .inl (tc 3, len, .inl (upd (I a) i.toNatClampNeg (vp_nar .boolean v)))) = jv_ws tc ad n (u2 I a i.toNatClampNeg (vp_nar .boolean v)) J P :=
    jws_set han (by rw [jcell_bool hs, u2_row]; rfl) (fun b _ hb => jcell_congr (u2_ne I _ _ hb) rfl (fun _ => rfl))
  rw [hws] at h1 h2
  exact kk A D tc p l e R s m args below meth c H1 locs1 cells slots Z ls ad hF hR ⟨h1, h2, h3, hD.2.2.2.1, hD.2.2.2.2⟩ ⟨hf2.1, hf2.2.1, j_tl (j_tl (j_tl hf2.2.2))⟩ hend
theorem j_lastore {pc' a len : Nat} {i : Int32} {v : Int64} (hd : decode M.2.1 pc = .ok (.lastore, 1)) (hp : pc + 1 = pc') (hs : shp a = (2, len)) (ha : a < 1000) (hin : vp_in i len) (kk : Rj X d bc bs M Q pc' L st n I (u2 J a i.toNatClampNeg v) P) : Rj X d bc bs M Q pc L (.long v :: .int i :: .ref a :: st) n I J P := by
  subst hp
  intro A D tc p l e R s m args below meth c H locs cells slots Z ls ad hF hR hD hf2 hend
  have han : a < n := (hf2.2.2 _ (List.mem_cons_of_mem _ (List.mem_cons_of_mem _ List.mem_cons_self)) a rfl).elim id (fun q => by omega)
  have hgt := jws_get (tc := tc) (ad := ad) (I := I) (J := J) (P := P) han
  rw [jcell_long hs] at hgt
  refine va_last hF.1 hF.2.1 hF.2.2.2.2.2.2.1 hD.1 hD.2.1 hD.2.2.1 a 1 hgt rfl (x := v) hin hd (fun H1 locs1 h1 h2 h3 => ?_)
  have hws : (jv_ws tc ad n I J P).set a (ad a, .inl (tc 1, len, .inr (.inl (vp_updL (J a) i.toNatClampNeg v)))) = jv_ws tc ad n I (u2 J a i.toNatClampNeg v) P :=
    jws_set han (by rw [jcell_long hs, u2_row]; rfl) (fun b _ hb => jcell_congr rfl (u2_ne J _ _ hb) (fun _ => rfl))
  rw [hws] at h1 h2
  exact kk A D tc p l e R s m args below meth c H1 locs1 cells slots Z ls ad hF hR ⟨h1, h2, h3, hD.2.2.2.1, hD.2.2.2.2⟩ ⟨hf2.1, hf2.2.1, j_tl (j_tl (j_tl hf2.2.2))⟩ hend
theorem j_aastore {pc' a len b : Nat} {i : Int32} (hd : decode M.2.1 pc = .ok (.aastore, 1)) (hp : pc + 1 = pc') (hs : shp a = (5, len)) (ha : a < 1000) (hb : shp b = (0, 6)) (hb2 : b < 1000) (hin : vp_in i len) (kk : Rj X d bc bs M Q pc' L st n I J (u2 P a i.toNatClampNeg (some b))) : Rj X d bc bs M Q pc L (.ref b :: .int i :: .ref a :: st) n I J P := by
  subst hp
  intro A D tc p l e R s m args below meth c H locs cells slots Z ls ad hF hR hD hf2 hend
  have han : a < n := (hf2.2.2 _ (List.mem_cons_of_mem _ (List.mem_cons_of_mem _ List.mem_cons_self)) a rfl).elim id (fun q => by omega)
  have hbn : b < n := (hf2.2.2 _ List.mem_cons_self b rfl).elim id (fun q => by omega)
  have hgt := jws_get (tc := tc) (ad := ad) (I := I) (J := J) (P := P) han
  rw [jcell_ref hs] at hgt
  have hgb := jws_get (tc := tc) (ad := ad) (I := I) (J := J) (P := P) hbn
  rw [jcell_obj hb] at hgb
  refine va_astq hF.1 hF.2.1 hF.2.2.2.2.2.2.1 hD.1 hD.2.1 hD.2.2.1 a 4 b 6 (r := (jC 6, jT 6, fnm 6)) hgt rfl hgb rfl hin hd (fun H1 locs1 h1 h2 h3 => ?_)
  have hws : (jv_ws tc ad n I J P).set a (ad a, .inl (tc 4, len, .inr (.inr (.inr (.inr (va_up (fun k => (P a k).map ad) i.toNatClampNeg (some (ad b)))))))) = jv_ws tc ad n I J (u2 P a i.toNatClampNeg (some b)) := by
    refine jws_set han ?_ (fun b _ hb => jcell_congr rfl rfl (fun _ => by rw [u2_ne P _ _ hb]))
    rw [jcell_ref hs]
    have : (fun k => (u2 P a i.toNatClampNeg (some b) a k).map ad) = va_up (fun k => (P a k).map ad) i.toNatClampNeg (some (ad b)) := by
      funext k
      simp only [u2, va_up, if_true]
      split <;> rfl
    rw [this]
  rw [hws] at h1 h2
  refine kk A D tc p l e R s m args below meth c H1 locs1 cells slots Z ls ad hF hR ⟨h1, h2, h3, hD.2.2.2.1, fun a' k' b' q1 q2 => ?_⟩ ⟨hf2.1, hf2.2.1, j_tl (j_tl (j_tl hf2.2.2))⟩ hend
  simp only [u2] at q2
  split at q2
  · split at q2
    · cases q2; exact hbn
    · exact hD.2.2.2.2 a' k' b' q1 q2
  · exact hD.2.2.2.2 a' k' b' q1 q2
/-! the script -/
theorem j_sload {pc' : Nat} {i : Int32} (hd : decode M.2.1 pc = .ok (.iaload, 1)) (hp : pc + 1 = pc') (hin : vp_in i X.1) (kk : Rj X d bc bs M Q pc' L (.int (X.2 i.toNatClampNeg) :: st) n I J P) : Rj X d bc bs M Q pc L (.int i :: .ref 1200 :: st) n I J P := by
  subst hp
  intro A D tc p l e R s m args below meth c H locs cells slots Z ls ad hF hR hD hf2 hend
  obtain ⟨h1, h2, h3⟩ := hD.2.2.2.1.2.2.2.2.1
  exact va_sld hF.1 hF.2.1 h1 h2 h3 hD.2.2.1 hin hd (kk A D tc p l e R s m args below meth c H locs cells slots Z ls ad hF hR hD ⟨hf2.1, hf2.2.1, j_ok1 jv_ok.int (j_tl (j_tl hf2.2.2))⟩ hend)
theorem j_slen {pc' : Nat} (hd : decode M.2.1 pc = .ok (.arraylength, 1)) (hp : pc + 1 = pc') (kk : Rj X d bc bs M Q pc' L (.int (nI X.1) :: st) n I J P) : Rj X d bc bs M Q pc L (.ref 1200 :: st) n I J P := by
  subst hp
  intro A D tc p l e R s m args below meth c H locs cells slots Z ls ad hF hR hD hf2 hend
  obtain ⟨h1, h2, h3⟩ := hD.2.2.2.1.2.2.2.2.1
  exact va_slen hF.1 hF.2.1 h1 h2 h3 hD.2.2.1 hd (kk A D tc p l e R s m args below meth c H locs cells slots Z ls ad hF hR hD ⟨hf2.1, hf2.2.1, j_ok1 jv_ok.int (j_tl hf2.2.2)⟩ hend)
/-! constants of the pool -/
theorem j_ldc {pc' idx : Nat} {v : Int32} (hd : decode M.2.1 pc = .ok (.ldc idx, 2)) (hp : pc + 2 = pc') (hc : Cond.constant M.1.cls idx v ∈ jv_tbl) (kk : Rj X d bc bs M Q pc' L (.int v :: st) n I J P) : Rj X d bc bs M Q pc L st n I J P := by
  subst hp
  intro A D tc p l e R s m args below meth c H locs cells slots Z ls ad hF hR hD hf2 hend
  exact lv_ldc hF.1 hF.2.1 hF.2.2.2.2.1 (hF.2.2.2.2.2.1 _ hc) hd (kk A D tc p l e R s m args below meth c H locs cells slots Z ls ad hF hR hD ⟨hf2.1, hf2.2.1, j_ok1 jv_ok.int hf2.2.2⟩ hend)
theorem j_ldcw {pc' idx : Nat} {v : Int32} (hd : decode M.2.1 pc = .ok (.ldc_w idx, 3)) (hp : pc + 3 = pc') (hc : Cond.constant M.1.cls idx v ∈ jv_tbl) (kk : Rj X d bc bs M Q pc' L (.int v :: st) n I J P) : Rj X d bc bs M Q pc L st n I J P := by
  subst hp
  intro A D tc p l e R s m args below meth c H locs cells slots Z ls ad hF hR hD hf2 hend
  exact lv_ldcw hF.1 hF.2.1 hF.2.2.2.2.1 (hF.2.2.2.2.2.1 _ hc) hd (kk A D tc p l e R s m args below meth c H locs cells slots Z ls ad hF hR hD ⟨hf2.1, hf2.2.1, j_ok1 jv_ok.int hf2.2.2⟩ hend)
theorem j_ldc2 {pc' idx : Nat} {v : Int64} (hd : decode M.2.1 pc = .ok (.ldc2_w idx, 3)) (hp : pc + 3 = pc') (hc : Cond.constantLong M.1.cls idx v ∈ jv_tbl) (kk : Rj X d bc bs M Q pc' L (.long v :: st) n I J P) : Rj X d bc bs M Q pc L st n I J P := by
  subst hp
  intro A D tc p l e R s m args below meth c H locs cells slots Z ls ad hF hR hD hf2 hend
  exact lv_ldc2 hF.1 hF.2.1 hF.2.2.2.2.1 (hF.2.2.2.2.2.1 _ hc) hd (kk A D tc p l e R s m args below meth c H locs cells slots Z ls ad hF hR hD ⟨hf2.1, hf2.2.1, j_ok1 jv_ok.long hf2.2.2⟩ hend)
theorem j_ldcS {pc' idx i : Nat} {tx : String} (hd : decode M.2.1 pc = .ok (.ldc idx, 2)) (hp : pc + 2 = pc') (ho : M.1.cls = RX6) (hc : jv_strs[i]? = some (idx, tx)) (kk : Rj X d bc bs M Q pc' L (.ref (1000 + i) :: st) n I J P) : Rj X d bc bs M Q pc L st n I J P := by
  subst hp
  intro A D tc p l e R s m args below meth c H locs cells slots Z ls ad hF hR hD hf2 hend
  refine va_ldcS hF.1 hF.2.1 (by rw [← ho]; exact hF.2.2.2.2.1) (hD.2.2.2.1.2.1 i _ hc) hd (kk A D tc p l e R s m args below meth c H locs cells slots Z ls ad hF hR hD ⟨hf2.1, hf2.2.1, j_ok1 (fun b e => ?_) hf2.2.2⟩ hend)
  cases e
  exact Or.inr (by omega)
/-! switches -/
theorem j_tabOut {tgt len : Nat} {dflt lo hi : Int} {offs : Array Int} {x : Int32} (hd : decode M.2.1 pc = .ok (.tableswitch dflt lo hi offs, len)) (h : x.toInt < lo ∨ hi < x.toInt) (ht : (pc : Int) + dflt = (tgt : Int)) (k : Rj X d bc bs M Q tgt L st n I J P) : Rj X d bc bs M Q pc L (.int x :: st) n I J P :=
  j_go k (fun _ hs => j_tl hs) (fun p l e R s m args below meth c H locs cells slots Z ls ad hx hb hl kk => lv_tableOut hx hb hd h ht kk)
theorem j_tabIn {tgt len : Nat} {dflt lo hi off : Int} {offs : Array Int} {x : Int32} (hd : decode M.2.1 pc = .ok (.tableswitch dflt lo hi offs, len)) (h1 : ¬ x.toInt < lo) (h2 : ¬ hi < x.toInt) (ho : offs[(x.toInt - lo).toNat]? = some off) (ht : (pc : Int) + off = (tgt : Int)) (k : Rj X d bc bs M Q tgt L st n I J P) : Rj X d bc bs M Q pc L (.int x :: st) n I J P :=
  j_go k (fun _ hs => j_tl hs) (fun p l e R s m args below meth c H locs cells slots Z ls ad hx hb hl kk => lv_tableIn hx hb hd h1 h2 ho ht kk)
/-! the end of a method -/
theorem j_iret {v : Int32} {ty : FieldType} (hd : decode M.2.1 pc = .ok (.ireturn, 1)) (hr : M.2.2.2 = some ty) (hn : narrow ty (.int v) = .int v) (hq : Q (some (.int v)) n I J P) : Rj X d bc bs M Q pc L [.int v] n I J P := by
  intro A D tc p l e R s m args below meth c H locs cells slots Z ls ad hF hR hD hf2 hend
  exact hend _ n I J P H locs cells slots ls ad pc _ hq jv_ext.rf ⟨Nat.le_trans (Nat.le_add_right _ _) hR.2.2.1, Nat.le_trans (Nat.le_add_right _ _) hR.2.2.2⟩ hD (Or.inr (Or.inl ⟨v, ty, rfl, rfl, hd, hr, hn⟩))
theorem j_lret {v : Int64} (hd : decode M.2.1 pc = .ok (.lreturn, 1)) (hr : M.2.2.2 = some .long) (hq : Q (some (.long v)) n I J P) : Rj X d bc bs M Q pc L [.long v] n I J P := by
  intro A D tc p l e R s m args below meth c H locs cells slots Z ls ad hF hR hD hf2 hend
  exact hend _ n I J P H locs cells slots ls ad pc _ hq jv_ext.rf ⟨Nat.le_trans (Nat.le_add_right _ _) hR.2.2.1, Nat.le_trans (Nat.le_add_right _ _) hR.2.2.2⟩ hD (Or.inr (Or.inr ⟨v, rfl, rfl, hd, hr⟩))
theorem j_vret (hd : decode M.2.1 pc = .ok (.return_, 1)) (hr : M.2.2.2 = none) (hq : Q none n I J P) : Rj X d bc bs M Q pc L [] n I J P := by
  intro A D tc p l e R s m args below meth c H locs cells slots Z ls ad hF hR hD hf2 hend
  exact hend _ n I J P H locs cells slots ls ad pc _ hq jv_ext.rf ⟨Nat.le_trans (Nat.le_add_right _ _) hR.2.2.1, Nat.le_trans (Nat.le_add_right _ _) hR.2.2.2⟩ hD (Or.inl ⟨rfl, rfl, hd, hr⟩)
/-! what may be changed about a goal -/
theorem j_post {Q' : jPost} (hQ : ∀ r n' I' J' P', Q' r n' I' J' P' → Q r n' I' J' P') (k : Rj X d bc bs M Q' pc L st n I J P) : Rj X d bc bs M Q pc L st n I J P := by
  intro A D tc p l e R s m args below meth c H locs cells slots Z ls ad hF hR hD hf2 hend
  exact k A D tc p l e R s m args below meth c H locs cells slots Z ls ad hF hR hD hf2 (fun r n' I' J' P' H' locs' cells' slots' ls' ad' pc' st' hq => hend r n' I' J' P' H' locs' cells' slots' ls' ad' pc' st' (hQ _ _ _ _ _ hq))
/-- the heap's functions may be changed where there is no cell -/
theorem j_heap {I' : HI} {J' : HJ} {P' : HP} (hI : ∀ a, a < n → I' a = I a) (hJ : ∀ a, a < n → J' a = J a) (hP : ∀ a, a < n → P' a = P a) (k : Rj X d bc bs M Q pc L st n I' J' P') : Rj X d bc bs M Q pc L st n I J P := by
  intro A D tc p l e R s m args below meth c H locs cells slots Z ls ad hF hR hD hf2 hend
  have hw : jv_ws tc ad n I' J' P' = jv_ws tc ad n I J P := jws_congr (fun _ _ => rfl) (fun b hb => jcell_congr (hI b hb) (hJ b hb) (fun k => by rw [hP b hb]))
  refine k A D tc p l e R s m args below meth c H locs cells slots Z ls ad hF hR ⟨by rw [hw]; exact hD.1, by rw [hw]; exact hD.2.1, hD.2.2.1, hD.2.2.2.1, fun a k b h1 h2 => hD.2.2.2.2 a k b h1 (by rw [← hP a h1]; exact h2)⟩ hf2 hend
end JH
