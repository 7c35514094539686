section JR
variable {X : jX} {d bc bs : Nat} {M : MD} {Q : jPost} {pc : Nat} {L st : List Value} {n : Nat} {I : HI} {J : HJ} {P : HP}
/-- an instruction that changes pc and stack alone -/
theorem j_go {pc' : Nat} {st' : List Value} (k : Rj X d bc bs M Q pc' L st' n I J P) (hok : (∀ v ∈ L, jv_ok n v) → (∀ v ∈ st, jv_ok n v) → ∀ v ∈ st', jv_ok n v)
    (hw : ∀ (p : Program) (l : Launch) (e : Env) (R : Room) (s : State) (m : MethodId) (args : Array Value) (below : List Frame) (meth : Method) (c : Code) (H : Heap) (locs : List Loc) (cells slots : Nat) (Z : State → Prop) (ls : Array Slot) (ad : Nat → Nat), p.tables.exec = Jvm.exec → c.code = M.2.1 → jv_lv ls M.2.2.1 (L.map (jv_ren ad)) →
      W p l e R s m args below meth c H locs cells slots Z (F0 m pc' ls (st'.map (jv_ren ad))) → W p l e R s m args below meth c H locs cells slots Z (F0 m pc ls (st.map (jv_ren ad)))) : Rj X d bc bs M Q pc L st n I J P := by
  intro A D tc p l e R s m args below meth c H locs cells slots Z ls ad hF hR hD hf hend
  exact hw p l e R s m args below meth c H locs cells slots Z ls ad hF.1 hF.2.1 hf.1 (k A D tc p l e R s m args below meth c H locs cells slots Z ls ad hF hR hD ⟨hf.1, hf.2.1, hok hf.2.1 hf.2.2⟩ hend)
/-- an instruction that stores into a local of one word -/
theorem j_st1 {pc' i : Nat} {v : Value} {L' st' : List Value} (k : Rj X d bc bs M Q pc' L' st' n I J P) (hL : L.set i v = L') (hi : i < M.2.2.1) (hg : jv_g L i = true) (hc : v.category = 1) (hv : (∀ w ∈ L, jv_ok n w) → (∀ w ∈ st, jv_ok n w) → jv_ok n v) (hok : (∀ w ∈ st, jv_ok n w) → ∀ w ∈ st', jv_ok n w)
    (hw : ∀ (p : Program) (l : Launch) (e : Env) (R : Room) (s : State) (m : MethodId) (args : Array Value) (below : List Frame) (meth : Method) (c : Code) (H : Heap) (locs : List Loc) (cells slots : Nat) (Z : State → Prop) (ls ls' : Array Slot) (ad : Nat → Nat), p.tables.exec = Jvm.exec → c.code = M.2.1 → jv_lv ls M.2.2.1 (L.map (jv_ren ad)) → storeLocals ls i (jv_ren ad v) = some ls' →
      W p l e R s m args below meth c H locs cells slots Z (F0 m pc' ls' (st'.map (jv_ren ad))) → W p l e R s m args below meth c H locs cells slots Z (F0 m pc ls (st.map (jv_ren ad)))) : Rj X d bc bs M Q pc L st n I J P := by
  intro A D tc p l e R s m args below meth c H locs cells slots Z ls ad hF hR hD hf hend
  subst hL
  obtain ⟨ls', h1, h2⟩ := hf.1.st1 (v := jv_ren ad v) hi (by
    cases i with
    | zero => rfl
    | succ j =>
      simp only [jv_g, List.getElem?_map] at hg ⊢
      cases hj : L[j]? with
      | none => rfl
      | some w => simp only [hj, Option.map_some, jv_ren_cat] at hg ⊢; exact hg) (by rw [jv_ren_cat]; exact hc)
  rw [← List.map_set] at h2
  refine hw p l e R s m args below meth c H locs cells slots Z ls ls' ad hF.1 hF.2.1 hf.1 h1 (k A D tc p l e R s m args below meth c H locs cells slots Z ls' ad hF hR hD ⟨h2, fun w hm => ?_, hok hf.2.2⟩ hend)
  rcases List.mem_or_eq_of_mem_set hm with h | h
  · exact hf.2.1 w h
  · rw [h]; exact hv hf.2.1 hf.2.2
theorem j_st2 {pc' i : Nat} {v : Value} {L' st' : List Value} (k : Rj X d bc bs M Q pc' L' st' n I J P) (hL : (L.set i v).set (i + 1) jU = L') (hi : i + 1 < M.2.2.1) (hg : jv_g L i = true) (hc : v.category = 2) (hv : jv_ok n v) (hok : (∀ w ∈ st, jv_ok n w) → ∀ w ∈ st', jv_ok n w)
    (hw : ∀ (p : Program) (l : Launch) (e : Env) (R : Room) (s : State) (m : MethodId) (args : Array Value) (below : List Frame) (meth : Method) (c : Code) (H : Heap) (locs : List Loc) (cells slots : Nat) (Z : State → Prop) (ls ls' : Array Slot) (ad : Nat → Nat), p.tables.exec = Jvm.exec → c.code = M.2.1 → jv_lv ls M.2.2.1 (L.map (jv_ren ad)) → storeLocals ls i (jv_ren ad v) = some ls' →
      W p l e R s m args below meth c H locs cells slots Z (F0 m pc' ls' (st'.map (jv_ren ad))) → W p l e R s m args below meth c H locs cells slots Z (F0 m pc ls (st.map (jv_ren ad)))) : Rj X d bc bs M Q pc L st n I J P := by
  intro A D tc p l e R s m args below meth c H locs cells slots Z ls ad hF hR hD hf hend
  subst hL
  obtain ⟨ls', h1, h2⟩ := hf.1.st2 (v := jv_ren ad v) hi (by
    cases i with
    | zero => rfl
    | succ j =>
      simp only [jv_g, List.getElem?_map] at hg ⊢
      cases hj : L[j]? with
      | none => rfl
      | some w => simp only [hj, Option.map_some, jv_ren_cat] at hg ⊢; exact hg) (by rw [jv_ren_cat]; exact hc)
  rw [← List.map_set, show jU = jv_ren ad jU from rfl, ← List.map_set] at h2
  refine hw p l e R s m args below meth c H locs cells slots Z ls ls' ad hF.1 hF.2.1 hf.1 h1 (k A D tc p l e R s m args below meth c H locs cells slots Z ls' ad hF hR hD ⟨h2, fun w hm => ?_, hok hf.2.2⟩ hend)
  rcases List.mem_or_eq_of_mem_set hm with h | h
  · rcases List.mem_or_eq_of_mem_set h with h | h
    · exact hf.2.1 w h
    · rw [h]; exact hv
  · rw [h]; exact jv_ok.uns
theorem j_ok1 {a : Value} {st : List Value} (ha : jv_ok n a) (h : ∀ v ∈ st, jv_ok n v) : ∀ v ∈ a :: st, jv_ok n v := fun v hv => (List.mem_cons.mp hv).elim (fun e => e ▸ ha) (h v)
theorem j_tl {a : Value} {st : List Value} (h : ∀ v ∈ a :: st, jv_ok n v) : ∀ v ∈ st, jv_ok n v := fun v hv => h v (List.mem_cons_of_mem _ hv)

theorem j_iconst {pc' : Nat} {z : Int} {v : Int32} (hd : decode M.2.1 pc = .ok (.iconst z, 1)) (hp : pc + 1 = pc') (hv : Int32.ofInt z = v) (k : Rj X d bc bs M Q pc' L (.int v :: st) n I J P) : Rj X d bc bs M Q pc L (st) n I J P := by
  subst hp
  exact j_go k (fun hL hs => j_ok1 jv_ok.int hs) (fun p l e R s m args below meth c H locs cells slots Z ls ad hx hb hl kk => lv_iconst hx hb hd hv kk)
theorem j_bipush {pc' : Nat} {z : Int} {v : Int32} (hd : decode M.2.1 pc = .ok (.bipush z, 2)) (hp : pc + 2 = pc') (hv : (Int8.ofInt z).toInt32 = v) (k : Rj X d bc bs M Q pc' L (.int v :: st) n I J P) : Rj X d bc bs M Q pc L (st) n I J P := by
  subst hp
  exact j_go k (fun hL hs => j_ok1 jv_ok.int hs) (fun p l e R s m args below meth c H locs cells slots Z ls ad hx hb hl kk => lv_bipush hx hb hd hv kk)
theorem j_sipush {pc' : Nat} {z : Int} {v : Int32} (hd : decode M.2.1 pc = .ok (.sipush z, 3)) (hp : pc + 3 = pc') (hv : (Int16.ofInt z).toInt32 = v) (k : Rj X d bc bs M Q pc' L (.int v :: st) n I J P) : Rj X d bc bs M Q pc L (st) n I J P := by
  subst hp
  exact j_go k (fun hL hs => j_ok1 jv_ok.int hs) (fun p l e R s m args below meth c H locs cells slots Z ls ad hx hb hl kk => lv_sipush hx hb hd hv kk)
theorem j_lconst {pc' : Nat} {z : Fin 2} {v : Int64} (hd : decode M.2.1 pc = .ok (.lconst z, 1)) (hp : pc + 1 = pc') (hv : Int64.ofNat (z : Nat) = v) (k : Rj X d bc bs M Q pc' L (.long v :: st) n I J P) : Rj X d bc bs M Q pc L (st) n I J P := by
  subst hp
  exact j_go k (fun hL hs => j_ok1 jv_ok.long hs) (fun p l e R s m args below meth c H locs cells slots Z ls ad hx hb hl kk => lv_lconst hx hb hd hv kk)
theorem j_iload_n {pc' : Nat} {z : Fin 4} {i : Nat} {v : Int32} (hd : decode M.2.1 pc = .ok (.iload_n z, 1)) (hp : pc + 1 = pc') (hi : (z : Nat) = i) (hl : L[i]? = some (.int v)) (k : Rj X d bc bs M Q pc' L (.int v :: st) n I J P) : Rj X d bc bs M Q pc L (st) n I J P := by
  subst hp
  exact j_go k (fun hL hs => j_ok1 jv_ok.int hs) (fun p l e R s m args below meth c H locs cells slots Z ls ad hx hb hl kk => lv_iload_n hx hb hd hi (hl.at (v := .int v) ‹L[i]? = some (.int v)› (by simp [jU])) kk)
theorem j_iload {pc' : Nat} {i : Nat} {v : Int32} (hd : decode M.2.1 pc = .ok (.iload i, 2)) (hp : pc + 2 = pc') (hl : L[i]? = some (.int v)) (k : Rj X d bc bs M Q pc' L (.int v :: st) n I J P) : Rj X d bc bs M Q pc L (st) n I J P := by
  subst hp
  exact j_go k (fun hL hs => j_ok1 jv_ok.int hs) (fun p l e R s m args below meth c H locs cells slots Z ls ad hx hb hl kk => lv_iload hx hb hd (hl.at (v := .int v) ‹L[i]? = some (.int v)› (by simp [jU])) kk)
theorem j_lload_n {pc' : Nat} {z : Fin 4} {i : Nat} {v : Int64} (hd : decode M.2.1 pc = .ok (.lload_n z, 1)) (hp : pc + 1 = pc') (hi : (z : Nat) = i) (hl : L[i]? = some (.long v)) (k : Rj X d bc bs M Q pc' L (.long v :: st) n I J P) : Rj X d bc bs M Q pc L (st) n I J P := by
  subst hp
  exact j_go k (fun hL hs => j_ok1 jv_ok.long hs) (fun p l e R s m args below meth c H locs cells slots Z ls ad hx hb hl kk => lv_lload_n hx hb hd hi (hl.at (v := .long v) ‹L[i]? = some (.long v)› (by simp [jU])) kk)
theorem j_lload {pc' : Nat} {i : Nat} {v : Int64} (hd : decode M.2.1 pc = .ok (.lload i, 2)) (hp : pc + 2 = pc') (hl : L[i]? = some (.long v)) (k : Rj X d bc bs M Q pc' L (.long v :: st) n I J P) : Rj X d bc bs M Q pc L (st) n I J P := by
  subst hp
  exact j_go k (fun hL hs => j_ok1 jv_ok.long hs) (fun p l e R s m args below meth c H locs cells slots Z ls ad hx hb hl kk => lv_lload hx hb hd (hl.at (v := .long v) ‹L[i]? = some (.long v)› (by simp [jU])) kk)
theorem j_aload_n {pc' : Nat} {z : Fin 4} {i a : Nat} (hd : decode M.2.1 pc = .ok (.aload_n z, 1)) (hp : pc + 1 = pc') (hi : (z : Nat) = i) (h0 : L[i]? = some (.ref a)) (k : Rj X d bc bs M Q pc' L (.ref a :: st) n I J P) : Rj X d bc bs M Q pc L (st) n I J P := by
  subst hp
  exact j_go k (fun hL hs => j_ok1 (hL _ (List.mem_of_getElem? h0)) hs) (fun p l e R s m args below meth c H locs cells slots Z ls ad hx hb hl kk => lv_aload_n hx hb hd hi (hl.at (v := .ref a) h0 (by simp [jU])) kk)
theorem j_aload {pc' : Nat} {i a : Nat} (hd : decode M.2.1 pc = .ok (.aload i, 2)) (hp : pc + 2 = pc') (h0 : L[i]? = some (.ref a)) (k : Rj X d bc bs M Q pc' L (.ref a :: st) n I J P) : Rj X d bc bs M Q pc L (st) n I J P := by
  subst hp
  exact j_go k (fun hL hs => j_ok1 (hL _ (List.mem_of_getElem? h0)) hs) (fun p l e R s m args below meth c H locs cells slots Z ls ad hx hb hl kk => lv_aload hx hb hd (hl.at (v := .ref a) h0 (by simp [jU])) kk)
theorem j_aload_nN {pc' : Nat} {z : Fin 4} {i : Nat} (hd : decode M.2.1 pc = .ok (.aload_n z, 1)) (hp : pc + 1 = pc') (hi : (z : Nat) = i) (h0 : L[i]? = some .null) (k : Rj X d bc bs M Q pc' L (.null :: st) n I J P) : Rj X d bc bs M Q pc L (st) n I J P := by
  subst hp
  exact j_go k (fun hL hs => j_ok1 (hL _ (List.mem_of_getElem? h0)) hs) (fun p l e R s m args below meth c H locs cells slots Z ls ad hx hb hl kk => lv_aload_nN hx hb hd hi (hl.at (v := .null) h0 (by simp [jU])) kk)
theorem j_iadd {pc' : Nat} {a b : Int32} (hd : decode M.2.1 pc = .ok (.iadd, 1)) (hp : pc + 1 = pc')  (k : Rj X d bc bs M Q pc' L (.int (a + b) :: st) n I J P) : Rj X d bc bs M Q pc L (.int b :: .int a :: st) n I J P := by
  subst hp
  exact j_go k (fun hL hs => j_ok1 jv_ok.int (j_tl (j_tl hs))) (fun p l e R s m args below meth c H locs cells slots Z ls ad hx hb hl kk => lv_iadd hx hb hd kk)
theorem j_isub {pc' : Nat} {a b : Int32} (hd : decode M.2.1 pc = .ok (.isub, 1)) (hp : pc + 1 = pc')  (k : Rj X d bc bs M Q pc' L (.int (a - b) :: st) n I J P) : Rj X d bc bs M Q pc L (.int b :: .int a :: st) n I J P := by
  subst hp
  exact j_go k (fun hL hs => j_ok1 jv_ok.int (j_tl (j_tl hs))) (fun p l e R s m args below meth c H locs cells slots Z ls ad hx hb hl kk => lv_isub hx hb hd kk)
theorem j_imul {pc' : Nat} {a b : Int32} (hd : decode M.2.1 pc = .ok (.imul, 1)) (hp : pc + 1 = pc')  (k : Rj X d bc bs M Q pc' L (.int (a * b) :: st) n I J P) : Rj X d bc bs M Q pc L (.int b :: .int a :: st) n I J P := by
  subst hp
  exact j_go k (fun hL hs => j_ok1 jv_ok.int (j_tl (j_tl hs))) (fun p l e R s m args below meth c H locs cells slots Z ls ad hx hb hl kk => lv_imul hx hb hd kk)
theorem j_iand {pc' : Nat} {a b : Int32} (hd : decode M.2.1 pc = .ok (.iand, 1)) (hp : pc + 1 = pc')  (k : Rj X d bc bs M Q pc' L (.int (a &&& b) :: st) n I J P) : Rj X d bc bs M Q pc L (.int b :: .int a :: st) n I J P := by
  subst hp
  exact j_go k (fun hL hs => j_ok1 jv_ok.int (j_tl (j_tl hs))) (fun p l e R s m args below meth c H locs cells slots Z ls ad hx hb hl kk => lv_iand hx hb hd kk)
theorem j_ior {pc' : Nat} {a b : Int32} (hd : decode M.2.1 pc = .ok (.ior, 1)) (hp : pc + 1 = pc')  (k : Rj X d bc bs M Q pc' L (.int (a ||| b) :: st) n I J P) : Rj X d bc bs M Q pc L (.int b :: .int a :: st) n I J P := by
  subst hp
  exact j_go k (fun hL hs => j_ok1 jv_ok.int (j_tl (j_tl hs))) (fun p l e R s m args below meth c H locs cells slots Z ls ad hx hb hl kk => lv_ior hx hb hd kk)
theorem j_ixor {pc' : Nat} {a b : Int32} (hd : decode M.2.1 pc = .ok (.ixor, 1)) (hp : pc + 1 = pc')  (k : Rj X d bc bs M Q pc' L (.int (a ^^^ b) :: st) n I J P) : Rj X d bc bs M Q pc L (.int b :: .int a :: st) n I J P := by
  subst hp
  exact j_go k (fun hL hs => j_ok1 jv_ok.int (j_tl (j_tl hs))) (fun p l e R s m args below meth c H locs cells slots Z ls ad hx hb hl kk => lv_ixor hx hb hd kk)
theorem j_ishl {pc' : Nat} {a b : Int32} (hd : decode M.2.1 pc = .ok (.ishl, 1)) (hp : pc + 1 = pc')  (k : Rj X d bc bs M Q pc' L (.int (a <<< (b &&& 31)) :: st) n I J P) : Rj X d bc bs M Q pc L (.int b :: .int a :: st) n I J P := by
  subst hp
  exact j_go k (fun hL hs => j_ok1 jv_ok.int (j_tl (j_tl hs))) (fun p l e R s m args below meth c H locs cells slots Z ls ad hx hb hl kk => lv_ishl hx hb hd kk)
theorem j_ishr {pc' : Nat} {a b : Int32} (hd : decode M.2.1 pc = .ok (.ishr, 1)) (hp : pc + 1 = pc')  (k : Rj X d bc bs M Q pc' L (.int (a >>> (b &&& 31)) :: st) n I J P) : Rj X d bc bs M Q pc L (.int b :: .int a :: st) n I J P := by
  subst hp
  exact j_go k (fun hL hs => j_ok1 jv_ok.int (j_tl (j_tl hs))) (fun p l e R s m args below meth c H locs cells slots Z ls ad hx hb hl kk => lv_ishr hx hb hd kk)
theorem j_iushr {pc' : Nat} {a b v : Int32} (hd : decode M.2.1 pc = .ok (.iushr, 1)) (hp : pc + 1 = pc') (hv : (a.toUInt32 >>> (b.toUInt32 &&& Int32.toUInt32 31)).toInt32 = v) (k : Rj X d bc bs M Q pc' L (.int v :: st) n I J P) : Rj X d bc bs M Q pc L (.int b :: .int a :: st) n I J P := by
  subst hp
  exact j_go k (fun hL hs => j_ok1 jv_ok.int (j_tl (j_tl hs))) (fun p l e R s m args below meth c H locs cells slots Z ls ad hx hb hl kk => lv_iushr hx hb hd hv kk)
theorem j_idiv {pc' : Nat} {a b : Int32} (hd : decode M.2.1 pc = .ok (.idiv, 1)) (hp : pc + 1 = pc') (h0 : ¬ b = 0) (k : Rj X d bc bs M Q pc' L (.int (a / b) :: st) n I J P) : Rj X d bc bs M Q pc L (.int b :: .int a :: st) n I J P := by
  subst hp
  exact j_go k (fun hL hs => j_ok1 jv_ok.int (j_tl (j_tl hs))) (fun p l e R s m args below meth c H locs cells slots Z ls ad hx hb hl kk => lv_idiv hx hb hd h0 kk)
theorem j_irem {pc' : Nat} {a b : Int32} (hd : decode M.2.1 pc = .ok (.irem, 1)) (hp : pc + 1 = pc') (h0 : ¬ b = 0) (k : Rj X d bc bs M Q pc' L (.int (a - a / b * b) :: st) n I J P) : Rj X d bc bs M Q pc L (.int b :: .int a :: st) n I J P := by
  subst hp
  exact j_go k (fun hL hs => j_ok1 jv_ok.int (j_tl (j_tl hs))) (fun p l e R s m args below meth c H locs cells slots Z ls ad hx hb hl kk => lv_irem hx hb hd h0 kk)
theorem j_ladd {pc' : Nat} {a b : Int64} (hd : decode M.2.1 pc = .ok (.ladd, 1)) (hp : pc + 1 = pc')  (k : Rj X d bc bs M Q pc' L (.long (a + b) :: st) n I J P) : Rj X d bc bs M Q pc L (.long b :: .long a :: st) n I J P := by
  subst hp
  exact j_go k (fun hL hs => j_ok1 jv_ok.long (j_tl (j_tl hs))) (fun p l e R s m args below meth c H locs cells slots Z ls ad hx hb hl kk => lv_ladd hx hb hd kk)
theorem j_lsub {pc' : Nat} {a b : Int64} (hd : decode M.2.1 pc = .ok (.lsub, 1)) (hp : pc + 1 = pc')  (k : Rj X d bc bs M Q pc' L (.long (a - b) :: st) n I J P) : Rj X d bc bs M Q pc L (.long b :: .long a :: st) n I J P := by
  subst hp
  exact j_go k (fun hL hs => j_ok1 jv_ok.long (j_tl (j_tl hs))) (fun p l e R s m args below meth c H locs cells slots Z ls ad hx hb hl kk => lv_lsub hx hb hd kk)
theorem j_lmul {pc' : Nat} {a b : Int64} (hd : decode M.2.1 pc = .ok (.lmul, 1)) (hp : pc + 1 = pc')  (k : Rj X d bc bs M Q pc' L (.long (a * b) :: st) n I J P) : Rj X d bc bs M Q pc L (.long b :: .long a :: st) n I J P := by
  subst hp
  exact j_go k (fun hL hs => j_ok1 jv_ok.long (j_tl (j_tl hs))) (fun p l e R s m args below meth c H locs cells slots Z ls ad hx hb hl kk => lv_lmul hx hb hd kk)
theorem j_ldiv {pc' : Nat} {a b : Int64} (hd : decode M.2.1 pc = .ok (.ldiv, 1)) (hp : pc + 1 = pc') (h0 : ¬ b = 0) (k : Rj X d bc bs M Q pc' L (.long (a / b) :: st) n I J P) : Rj X d bc bs M Q pc L (.long b :: .long a :: st) n I J P := by
  subst hp
  exact j_go k (fun hL hs => j_ok1 jv_ok.long (j_tl (j_tl hs))) (fun p l e R s m args below meth c H locs cells slots Z ls ad hx hb hl kk => lv_ldiv hx hb hd h0 kk)
theorem j_lrem {pc' : Nat} {a b : Int64} (hd : decode M.2.1 pc = .ok (.lrem, 1)) (hp : pc + 1 = pc') (h0 : ¬ b = 0) (k : Rj X d bc bs M Q pc' L (.long (a - a / b * b) :: st) n I J P) : Rj X d bc bs M Q pc L (.long b :: .long a :: st) n I J P := by
  subst hp
  exact j_go k (fun hL hs => j_ok1 jv_ok.long (j_tl (j_tl hs))) (fun p l e R s m args below meth c H locs cells slots Z ls ad hx hb hl kk => lv_lrem hx hb hd h0 kk)
theorem j_lcmp {pc' : Nat} {a b : Int64} (hd : decode M.2.1 pc = .ok (.lcmp, 1)) (hp : pc + 1 = pc')  (k : Rj X d bc bs M Q pc' L (.int (lg_cmp a b) :: st) n I J P) : Rj X d bc bs M Q pc L (.long b :: .long a :: st) n I J P := by
  subst hp
  exact j_go k (fun hL hs => j_ok1 jv_ok.int (j_tl (j_tl hs))) (fun p l e R s m args below meth c H locs cells slots Z ls ad hx hb hl kk => W.lcmp hx hb hd kk)
theorem j_i2l {pc' : Nat} {a : Int32} (hd : decode M.2.1 pc = .ok (.i2l, 1)) (hp : pc + 1 = pc')  (k : Rj X d bc bs M Q pc' L (.long a.toInt64 :: st) n I J P) : Rj X d bc bs M Q pc L (.int a :: st) n I J P := by
  subst hp
  exact j_go k (fun hL hs => j_ok1 jv_ok.long (j_tl hs)) (fun p l e R s m args below meth c H locs cells slots Z ls ad hx hb hl kk => lv_i2l hx hb hd rfl kk)
theorem j_i2b {pc' : Nat} {a : Int32} (hd : decode M.2.1 pc = .ok (.i2b, 1)) (hp : pc + 1 = pc')  (k : Rj X d bc bs M Q pc' L (.int a.toInt8.toInt32 :: st) n I J P) : Rj X d bc bs M Q pc L (.int a :: st) n I J P := by
  subst hp
  exact j_go k (fun hL hs => j_ok1 jv_ok.int (j_tl hs)) (fun p l e R s m args below meth c H locs cells slots Z ls ad hx hb hl kk => lv_i2b hx hb hd rfl kk)
theorem j_i2c {pc' : Nat} {a v : Int32} (hd : decode M.2.1 pc = .ok (.i2c, 1)) (hp : pc + 1 = pc') (hv : (a.toUInt32 % 65536).toInt32 = v) (k : Rj X d bc bs M Q pc' L (.int v :: st) n I J P) : Rj X d bc bs M Q pc L (.int a :: st) n I J P := by
  subst hp
  exact j_go k (fun hL hs => j_ok1 jv_ok.int (j_tl hs)) (fun p l e R s m args below meth c H locs cells slots Z ls ad hx hb hl kk => lv_i2c hx hb hd hv kk)
theorem j_dup {pc' : Nat} {v : Value} (hd : decode M.2.1 pc = .ok (.dup, 1)) (hp : pc + 1 = pc') (hc : v.category = 1) (k : Rj X d bc bs M Q pc' L (v :: v :: st) n I J P) : Rj X d bc bs M Q pc L (v :: st) n I J P := by
  subst hp
  exact j_go k (fun hL hs => j_ok1 (hs _ List.mem_cons_self) hs) (fun p l e R s m args below meth c H locs cells slots Z ls ad hx hb hl kk => lv_dup hx hb hd (by rw [jv_ren_cat]; exact hc) kk)
theorem j_pop {pc' : Nat} {v : Value} (hd : decode M.2.1 pc = .ok (.pop, 1)) (hp : pc + 1 = pc') (hc : v.category = 1) (k : Rj X d bc bs M Q pc' L (st) n I J P) : Rj X d bc bs M Q pc L (v :: st) n I J P := by
  subst hp
  exact j_go k (fun hL hs => j_tl hs) (fun p l e R s m args below meth c H locs cells slots Z ls ad hx hb hl kk => lv_pop hx hb hd (by rw [jv_ren_cat]; exact hc) kk)
theorem j_dup_x1 {pc' : Nat} {v w : Value} (hd : decode M.2.1 pc = .ok (.dup_x1, 1)) (hp : pc + 1 = pc') (hc : v.category = 1) (hc2 : w.category = 1) (k : Rj X d bc bs M Q pc' L (v :: w :: v :: st) n I J P) : Rj X d bc bs M Q pc L (v :: w :: st) n I J P := by
  subst hp
  exact j_go k (fun hL hs => j_ok1 (hs _ List.mem_cons_self) (j_ok1 (j_tl hs _ List.mem_cons_self) (j_ok1 (hs _ List.mem_cons_self) (j_tl (j_tl hs))))) (fun p l e R s m args below meth c H locs cells slots Z ls ad hx hb hl kk => lv_dup_x1 hx hb hd (by rw [jv_ren_cat]; exact hc) (by rw [jv_ren_cat]; exact hc2) kk)
theorem j_dup2 {pc' : Nat} {v w : Value} (hd : decode M.2.1 pc = .ok (.dup2, 1)) (hp : pc + 1 = pc') (hc : v.category = 1) (hc2 : w.category = 1) (k : Rj X d bc bs M Q pc' L (v :: w :: v :: w :: st) n I J P) : Rj X d bc bs M Q pc L (v :: w :: st) n I J P := by
  subst hp
  exact j_go k (fun hL hs => j_ok1 (hs _ List.mem_cons_self) (j_ok1 (j_tl hs _ List.mem_cons_self) hs)) (fun p l e R s m args below meth c H locs cells slots Z ls ad hx hb hl kk => lv_dup2_11 hx hb hd (by rw [jv_ren_cat]; exact hc) (by rw [jv_ren_cat]; exact hc2) kk)
theorem j_goto {tgt : Nat} {off : Int} (hd : decode M.2.1 pc = .ok (.goto off, 3)) (ht : (pc : Int) + off = (tgt : Int)) (k : Rj X d bc bs M Q tgt L st n I J P) : Rj X d bc bs M Q pc L st n I J P :=
  j_go k (fun _ hs => hs) (fun p l e R s m args below meth c H locs cells slots Z ls ad hx hb hl kk => lv_goto hx hb hd ht kk)
theorem j_ifnonnull {tgt a : Nat} {off : Int} (hd : decode M.2.1 pc = .ok (.ifnonnull off, 3)) (ht : (pc : Int) + off = (tgt : Int)) (k : Rj X d bc bs M Q tgt L st n I J P) : Rj X d bc bs M Q pc L (.ref a :: st) n I J P :=
  j_go k (fun _ hs => j_tl hs) (fun p l e R s m args below meth c H locs cells slots Z ls ad hx hb hl kk => lv_ifnonnull hx hb hd ht kk)
theorem j_ifnonnullN {pc' : Nat} {off : Int} (hd : decode M.2.1 pc = .ok (.ifnonnull off, 3)) (hp : pc + 3 = pc') (k : Rj X d bc bs M Q pc' L st n I J P) : Rj X d bc bs M Q pc L (.null :: st) n I J P := by
  subst hp
  exact j_go k (fun _ hs => j_tl hs) (fun p l e R s m args below meth c H locs cells slots Z ls ad hx hb hl kk => lv_ifnonnullN hx hb hd kk)
/-- two ways: the machine's own test decides -/
theorem j_br {C : Prop} {pc1 pc2 : Nat} {st' : List Value} (k1 : C → Rj X d bc bs M Q pc1 L st' n I J P) (k2 : ¬ C → Rj X d bc bs M Q pc2 L st' n I J P) (hok : (∀ v ∈ st, jv_ok n v) → ∀ v ∈ st', jv_ok n v)
    (hw : ∀ (p : Program) (l : Launch) (e : Env) (R : Room) (s : State) (m : MethodId) (args : Array Value) (below : List Frame) (meth : Method) (c : Code) (H : Heap) (locs : List Loc) (cells slots : Nat) (Z : State → Prop) (ls : Array Slot) (ad : Nat → Nat), p.tables.exec = Jvm.exec → c.code = M.2.1 →
      (C → W p l e R s m args below meth c H locs cells slots Z (F0 m pc1 ls (st'.map (jv_ren ad)))) → (¬ C → W p l e R s m args below meth c H locs cells slots Z (F0 m pc2 ls (st'.map (jv_ren ad)))) → W p l e R s m args below meth c H locs cells slots Z (F0 m pc ls (st.map (jv_ren ad)))) : Rj X d bc bs M Q pc L st n I J P := by
  intro A D tc p l e R s m args below meth c H locs cells slots Z ls ad hF hR hD hf hend
  exact hw p l e R s m args below meth c H locs cells slots Z ls ad hF.1 hF.2.1 (fun h => k1 h A D tc p l e R s m args below meth c H locs cells slots Z ls ad hF hR hD ⟨hf.1, hf.2.1, hok hf.2.2⟩ hend) (fun h => k2 h A D tc p l e R s m args below meth c H locs cells slots Z ls ad hF hR hD ⟨hf.1, hf.2.1, hok hf.2.2⟩ hend)
theorem j_ifeq {tgt pc' : Nat} {off : Int} {a : Int32} (hd : decode M.2.1 pc = .ok (.ifCond .eq off, 3)) (ht : (pc : Int) + off = (tgt : Int)) (hp : pc + 3 = pc') (k1 : a = 0 → Rj X d bc bs M Q tgt L st n I J P) (k2 : ¬ a = 0 → Rj X d bc bs M Q pc' L st n I J P) : Rj X d bc bs M Q pc L (.int a :: st) n I J P := by
  subst hp
  exact j_br (C := a = 0) k1 (fun h => k2 (h)) j_tl (fun p l e R s m args below meth c H locs cells slots Z ls ad hx hb h1 h2 => lv_if_eq hx hb hd ht h1 (fun h => h2 (h)))
theorem j_ifne {tgt pc' : Nat} {off : Int} {a : Int32} (hd : decode M.2.1 pc = .ok (.ifCond .ne off, 3)) (ht : (pc : Int) + off = (tgt : Int)) (hp : pc + 3 = pc') (k1 : ¬ a = 0 → Rj X d bc bs M Q tgt L st n I J P) (k2 : a = 0 → Rj X d bc bs M Q pc' L st n I J P) : Rj X d bc bs M Q pc L (.int a :: st) n I J P := by
  subst hp
  exact j_br (C := ¬ a = 0) k1 (fun h => k2 (Classical.not_not.mp h)) j_tl (fun p l e R s m args below meth c H locs cells slots Z ls ad hx hb h1 h2 => lv_if_ne hx hb hd ht h1 (fun h => h2 (fun q => q h)))
theorem j_iflt {tgt pc' : Nat} {off : Int} {a : Int32} (hd : decode M.2.1 pc = .ok (.ifCond .lt off, 3)) (ht : (pc : Int) + off = (tgt : Int)) (hp : pc + 3 = pc') (k1 : a < 0 → Rj X d bc bs M Q tgt L st n I J P) (k2 : ¬ a < 0 → Rj X d bc bs M Q pc' L st n I J P) : Rj X d bc bs M Q pc L (.int a :: st) n I J P := by
  subst hp
  exact j_br (C := a < 0) k1 (fun h => k2 (h)) j_tl (fun p l e R s m args below meth c H locs cells slots Z ls ad hx hb h1 h2 => lv_if_lt hx hb hd ht h1 (fun h => h2 (h)))
theorem j_ifge {tgt pc' : Nat} {off : Int} {a : Int32} (hd : decode M.2.1 pc = .ok (.ifCond .ge off, 3)) (ht : (pc : Int) + off = (tgt : Int)) (hp : pc + 3 = pc') (k1 : 0 ≤ a → Rj X d bc bs M Q tgt L st n I J P) (k2 : ¬ 0 ≤ a → Rj X d bc bs M Q pc' L st n I J P) : Rj X d bc bs M Q pc L (.int a :: st) n I J P := by
  subst hp
  exact j_br (C := 0 ≤ a) k1 (fun h => k2 (h)) j_tl (fun p l e R s m args below meth c H locs cells slots Z ls ad hx hb h1 h2 => lv_if_ge hx hb hd ht h1 (fun h => h2 (h)))
theorem j_ifgt {tgt pc' : Nat} {off : Int} {a : Int32} (hd : decode M.2.1 pc = .ok (.ifCond .gt off, 3)) (ht : (pc : Int) + off = (tgt : Int)) (hp : pc + 3 = pc') (k1 : 0 < a → Rj X d bc bs M Q tgt L st n I J P) (k2 : ¬ 0 < a → Rj X d bc bs M Q pc' L st n I J P) : Rj X d bc bs M Q pc L (.int a :: st) n I J P := by
  subst hp
  exact j_br (C := 0 < a) k1 (fun h => k2 (h)) j_tl (fun p l e R s m args below meth c H locs cells slots Z ls ad hx hb h1 h2 => lv_if_gt hx hb hd ht h1 (fun h => h2 (h)))
theorem j_ifle {tgt pc' : Nat} {off : Int} {a : Int32} (hd : decode M.2.1 pc = .ok (.ifCond .le off, 3)) (ht : (pc : Int) + off = (tgt : Int)) (hp : pc + 3 = pc') (k1 : a ≤ 0 → Rj X d bc bs M Q tgt L st n I J P) (k2 : ¬ a ≤ 0 → Rj X d bc bs M Q pc' L st n I J P) : Rj X d bc bs M Q pc L (.int a :: st) n I J P := by
  subst hp
  exact j_br (C := a ≤ 0) k1 (fun h => k2 (h)) j_tl (fun p l e R s m args below meth c H locs cells slots Z ls ad hx hb h1 h2 => lv_if_le hx hb hd ht h1 (fun h => h2 (h)))
theorem j_icmpeq {tgt pc' : Nat} {off : Int} {a b : Int32} (hd : decode M.2.1 pc = .ok (.if_icmp .eq off, 3)) (ht : (pc : Int) + off = (tgt : Int)) (hp : pc + 3 = pc') (k1 : a = b → Rj X d bc bs M Q tgt L st n I J P) (k2 : ¬ a = b → Rj X d bc bs M Q pc' L st n I J P) : Rj X d bc bs M Q pc L (.int b :: .int a :: st) n I J P := by
  subst hp
  exact j_br (C := a = b) k1 (fun h => k2 (h)) (fun hs => j_tl (j_tl hs)) (fun p l e R s m args below meth c H locs cells slots Z ls ad hx hb h1 h2 => lv_icmp_eq hx hb hd ht h1 (fun h => h2 (h)))
theorem j_icmpne {tgt pc' : Nat} {off : Int} {a b : Int32} (hd : decode M.2.1 pc = .ok (.if_icmp .ne off, 3)) (ht : (pc : Int) + off = (tgt : Int)) (hp : pc + 3 = pc') (k1 : ¬ a = b → Rj X d bc bs M Q tgt L st n I J P) (k2 : a = b → Rj X d bc bs M Q pc' L st n I J P) : Rj X d bc bs M Q pc L (.int b :: .int a :: st) n I J P := by
  subst hp
  exact j_br (C := ¬ a = b) k1 (fun h => k2 (Classical.not_not.mp h)) (fun hs => j_tl (j_tl hs)) (fun p l e R s m args below meth c H locs cells slots Z ls ad hx hb h1 h2 => lv_icmp_ne hx hb hd ht h1 (fun h => h2 (fun q => q h)))
theorem j_icmplt {tgt pc' : Nat} {off : Int} {a b : Int32} (hd : decode M.2.1 pc = .ok (.if_icmp .lt off, 3)) (ht : (pc : Int) + off = (tgt : Int)) (hp : pc + 3 = pc') (k1 : a < b → Rj X d bc bs M Q tgt L st n I J P) (k2 : ¬ a < b → Rj X d bc bs M Q pc' L st n I J P) : Rj X d bc bs M Q pc L (.int b :: .int a :: st) n I J P := by
  subst hp
  exact j_br (C := a < b) k1 (fun h => k2 (h)) (fun hs => j_tl (j_tl hs)) (fun p l e R s m args below meth c H locs cells slots Z ls ad hx hb h1 h2 => lv_icmp_lt hx hb hd ht h1 (fun h => h2 (h)))
theorem j_icmpge {tgt pc' : Nat} {off : Int} {a b : Int32} (hd : decode M.2.1 pc = .ok (.if_icmp .ge off, 3)) (ht : (pc : Int) + off = (tgt : Int)) (hp : pc + 3 = pc') (k1 : b ≤ a → Rj X d bc bs M Q tgt L st n I J P) (k2 : ¬ b ≤ a → Rj X d bc bs M Q pc' L st n I J P) : Rj X d bc bs M Q pc L (.int b :: .int a :: st) n I J P := by
  subst hp
  exact j_br (C := b ≤ a) k1 (fun h => k2 (h)) (fun hs => j_tl (j_tl hs)) (fun p l e R s m args below meth c H locs cells slots Z ls ad hx hb h1 h2 => lv_icmp_ge hx hb hd ht h1 (fun h => h2 (h)))
theorem j_icmpgt {tgt pc' : Nat} {off : Int} {a b : Int32} (hd : decode M.2.1 pc = .ok (.if_icmp .gt off, 3)) (ht : (pc : Int) + off = (tgt : Int)) (hp : pc + 3 = pc') (k1 : b < a → Rj X d bc bs M Q tgt L st n I J P) (k2 : ¬ b < a → Rj X d bc bs M Q pc' L st n I J P) : Rj X d bc bs M Q pc L (.int b :: .int a :: st) n I J P := by
  subst hp
  exact j_br (C := b < a) k1 (fun h => k2 (h)) (fun hs => j_tl (j_tl hs)) (fun p l e R s m args below meth c H locs cells slots Z ls ad hx hb h1 h2 => lv_icmp_gt hx hb hd ht h1 (fun h => h2 (h)))
theorem j_icmple {tgt pc' : Nat} {off : Int} {a b : Int32} (hd : decode M.2.1 pc = .ok (.if_icmp .le off, 3)) (ht : (pc : Int) + off = (tgt : Int)) (hp : pc + 3 = pc') (k1 : a ≤ b → Rj X d bc bs M Q tgt L st n I J P) (k2 : ¬ a ≤ b → Rj X d bc bs M Q pc' L st n I J P) : Rj X d bc bs M Q pc L (.int b :: .int a :: st) n I J P := by
  subst hp
  exact j_br (C := a ≤ b) k1 (fun h => k2 (h)) (fun hs => j_tl (j_tl hs)) (fun p l e R s m args below meth c H locs cells slots Z ls ad hx hb h1 h2 => lv_icmp_le hx hb hd ht h1 (fun h => h2 (h)))
theorem j_istore_n {pc' : Nat} {L' : List Value} {z : Fin 4} {i : Nat} {v : Int32} (hd : decode M.2.1 pc = .ok (.istore_n z, 1)) (hp : pc + 1 = pc') (hi : (z : Nat) = i) (hL : L.set i (.int v) = L') (hn : i < M.2.2.1) (hg : jv_g L i = true) (k : Rj X d bc bs M Q pc' L' st n I J P) : Rj X d bc bs M Q pc L ((.int v) :: st) n I J P := by
  subst hp
  refine j_st1 (v := .int v) k hL hn hg rfl (fun _ hs => hs _ List.mem_cons_self) j_tl (fun p l e R s m args below meth c H locs cells slots Z ls ls' ad hx hb hl hst kk => ?_)
  show W p l e R s m args below meth c H locs cells slots Z (F0 m pc ls (jv_ren ad (.int v) :: st.map (jv_ren ad)))
  have hst2 : storeLocals ls i (.int v) = some ls' := hst
  subst hi
  intro T hT X0
  obtain ⟨t, a1, b1⟩ := kk T hT X0
  refine ⟨t, ?_, b1⟩
  show Steps p.tables e below (T.setTop (F0 m pc ls (.int v :: st.map (jv_ren ad)))) t
  jvm_step X0.here [X0.here.top, ↓top_set X0.here.top, hx, hb, hd, hst2]
  first | exact a1 | exact ⟨rfl, a1⟩
theorem j_istore {pc' : Nat} {L' : List Value} {i : Nat} {v : Int32} (hd : decode M.2.1 pc = .ok (.istore i, 2)) (hp : pc + 2 = pc')  (hL : L.set i (.int v) = L') (hn : i < M.2.2.1) (hg : jv_g L i = true) (k : Rj X d bc bs M Q pc' L' st n I J P) : Rj X d bc bs M Q pc L ((.int v) :: st) n I J P := by
  subst hp
  refine j_st1 (v := .int v) k hL hn hg rfl (fun _ hs => hs _ List.mem_cons_self) j_tl (fun p l e R s m args below meth c H locs cells slots Z ls ls' ad hx hb hl hst kk => ?_)
  show W p l e R s m args below meth c H locs cells slots Z (F0 m pc ls (jv_ren ad (.int v) :: st.map (jv_ren ad)))
  have hst2 : storeLocals ls i (.int v) = some ls' := hst
  skip
  intro T hT X0
  obtain ⟨t, a1, b1⟩ := kk T hT X0
  refine ⟨t, ?_, b1⟩
  show Steps p.tables e below (T.setTop (F0 m pc ls (.int v :: st.map (jv_ren ad)))) t
  jvm_step X0.here [X0.here.top, ↓top_set X0.here.top, hx, hb, hd, hst2]
  first | exact a1 | exact ⟨rfl, a1⟩
theorem j_lstore_n {pc' : Nat} {L' : List Value} {z : Fin 4} {i : Nat} {v : Int64} (hd : decode M.2.1 pc = .ok (.lstore_n z, 1)) (hp : pc + 1 = pc') (hi : (z : Nat) = i) (hL : (L.set i (.long v)).set (i + 1) jU = L') (hn : i + 1 < M.2.2.1) (hg : jv_g L i = true) (k : Rj X d bc bs M Q pc' L' st n I J P) : Rj X d bc bs M Q pc L ((.long v) :: st) n I J P := by
  subst hp
  refine j_st2 (v := .long v) k hL hn hg rfl jv_ok.long j_tl (fun p l e R s m args below meth c H locs cells slots Z ls ls' ad hx hb hl hst kk => ?_)
  show W p l e R s m args below meth c H locs cells slots Z (F0 m pc ls (jv_ren ad (.long v) :: st.map (jv_ren ad)))
  have hst2 : storeLocals ls i (.long v) = some ls' := hst
  subst hi
  intro T hT X0
  obtain ⟨t, a1, b1⟩ := kk T hT X0
  refine ⟨t, ?_, b1⟩
  show Steps p.tables e below (T.setTop (F0 m pc ls (.long v :: st.map (jv_ren ad)))) t
  jvm_step X0.here [X0.here.top, ↓top_set X0.here.top, hx, hb, hd, hst2]
  first | exact a1 | exact ⟨rfl, a1⟩
theorem j_lstore {pc' : Nat} {L' : List Value} {i : Nat} {v : Int64} (hd : decode M.2.1 pc = .ok (.lstore i, 2)) (hp : pc + 2 = pc')  (hL : (L.set i (.long v)).set (i + 1) jU = L') (hn : i + 1 < M.2.2.1) (hg : jv_g L i = true) (k : Rj X d bc bs M Q pc' L' st n I J P) : Rj X d bc bs M Q pc L ((.long v) :: st) n I J P := by
  subst hp
  refine j_st2 (v := .long v) k hL hn hg rfl jv_ok.long j_tl (fun p l e R s m args below meth c H locs cells slots Z ls ls' ad hx hb hl hst kk => ?_)
  show W p l e R s m args below meth c H locs cells slots Z (F0 m pc ls (jv_ren ad (.long v) :: st.map (jv_ren ad)))
  have hst2 : storeLocals ls i (.long v) = some ls' := hst
  skip
  intro T hT X0
  obtain ⟨t, a1, b1⟩ := kk T hT X0
  refine ⟨t, ?_, b1⟩
  show Steps p.tables e below (T.setTop (F0 m pc ls (.long v :: st.map (jv_ren ad)))) t
  jvm_step X0.here [X0.here.top, ↓top_set X0.here.top, hx, hb, hd, hst2]
  first | exact a1 | exact ⟨rfl, a1⟩
theorem j_astore_n {pc' : Nat} {L' : List Value} {z : Fin 4} {i v : Nat} (hd : decode M.2.1 pc = .ok (.astore_n z, 1)) (hp : pc + 1 = pc') (hi : (z : Nat) = i) (hL : L.set i (.ref v) = L') (hn : i < M.2.2.1) (hg : jv_g L i = true) (k : Rj X d bc bs M Q pc' L' st n I J P) : Rj X d bc bs M Q pc L ((.ref v) :: st) n I J P := by
  subst hp
  refine j_st1 (v := .ref v) k hL hn hg rfl (fun _ hs => hs _ List.mem_cons_self) j_tl (fun p l e R s m args below meth c H locs cells slots Z ls ls' ad hx hb hl hst kk => ?_)
  show W p l e R s m args below meth c H locs cells slots Z (F0 m pc ls (jv_ren ad (.ref v) :: st.map (jv_ren ad)))
  have hst2 : storeLocals ls i (.ref (ad v)) = some ls' := hst
  subst hi
  intro T hT X0
  obtain ⟨t, a1, b1⟩ := kk T hT X0
  refine ⟨t, ?_, b1⟩
  show Steps p.tables e below (T.setTop (F0 m pc ls (.ref (ad v) :: st.map (jv_ren ad)))) t
  jvm_step X0.here [X0.here.top, ↓top_set X0.here.top, hx, hb, hd, hst2]
  first | exact a1 | exact ⟨rfl, a1⟩
theorem j_astore {pc' : Nat} {L' : List Value} {i v : Nat} (hd : decode M.2.1 pc = .ok (.astore i, 2)) (hp : pc + 2 = pc')  (hL : L.set i (.ref v) = L') (hn : i < M.2.2.1) (hg : jv_g L i = true) (k : Rj X d bc bs M Q pc' L' st n I J P) : Rj X d bc bs M Q pc L ((.ref v) :: st) n I J P := by
  subst hp
  refine j_st1 (v := .ref v) k hL hn hg rfl (fun _ hs => hs _ List.mem_cons_self) j_tl (fun p l e R s m args below meth c H locs cells slots Z ls ls' ad hx hb hl hst kk => ?_)
  show W p l e R s m args below meth c H locs cells slots Z (F0 m pc ls (jv_ren ad (.ref v) :: st.map (jv_ren ad)))
  have hst2 : storeLocals ls i (.ref (ad v)) = some ls' := hst
  skip
  intro T hT X0
  obtain ⟨t, a1, b1⟩ := kk T hT X0
  refine ⟨t, ?_, b1⟩
  show Steps p.tables e below (T.setTop (F0 m pc ls (.ref (ad v) :: st.map (jv_ren ad)))) t
  jvm_step X0.here [X0.here.top, ↓top_set X0.here.top, hx, hb, hd, hst2]
  first | exact a1 | exact ⟨rfl, a1⟩
theorem j_astore_nN {pc' : Nat} {L' : List Value} {z : Fin 4} {i : Nat} (hd : decode M.2.1 pc = .ok (.astore_n z, 1)) (hp : pc + 1 = pc') (hi : (z : Nat) = i) (hL : L.set i (.null) = L') (hn : i < M.2.2.1) (hg : jv_g L i = true) (k : Rj X d bc bs M Q pc' L' st n I J P) : Rj X d bc bs M Q pc L ((.null) :: st) n I J P := by
  subst hp
  refine j_st1 (v := .null) k hL hn hg rfl (fun _ hs => hs _ List.mem_cons_self) j_tl (fun p l e R s m args below meth c H locs cells slots Z ls ls' ad hx hb hl hst kk => ?_)
  show W p l e R s m args below meth c H locs cells slots Z (F0 m pc ls (jv_ren ad (.null) :: st.map (jv_ren ad)))
  have hst2 : storeLocals ls i (.null) = some ls' := hst
  subst hi
  intro T hT X0
  obtain ⟨t, a1, b1⟩ := kk T hT X0
  refine ⟨t, ?_, b1⟩
  show Steps p.tables e below (T.setTop (F0 m pc ls (.null :: st.map (jv_ren ad)))) t
  jvm_step X0.here [X0.here.top, ↓top_set X0.here.top, hx, hb, hd, hst2]
  first | exact a1 | exact ⟨rfl, a1⟩
theorem j_iinc {pc' i : Nat} {z : Int} {a v : Int32} {L' : List Value} (hd : decode M.2.1 pc = .ok (.iinc i z, 3)) (hp : pc + 3 = pc') (h0 : L[i]? = some (.int a)) (hv : a + Int32.ofInt z = v) (hL : L.set i (.int v) = L') (hn : i < M.2.2.1) (hg : jv_g L i = true) (k : Rj X d bc bs M Q pc' L' st n I J P) : Rj X d bc bs M Q pc L st n I J P := by
  subst hp
  subst hv
  refine j_st1 (v := .int (a + Int32.ofInt z)) k hL hn hg rfl (fun _ _ => jv_ok.int) (fun h => h) (fun p l e R s m args below meth c H locs cells slots Z ls ls' ad hx hb hl hst kk => ?_)
  have hst2 : storeLocals ls i (.int (a + Int32.ofInt z)) = some ls' := hst
  have hgt : ls[i]? = some (.val (.int a)) := hl.at (v := .int a) h0 (by simp [jU])
  intro T hT X0
  obtain ⟨t, a1, b1⟩ := kk T hT X0
  refine ⟨t, ?_, b1⟩
  jvm_step X0.here [X0.here.top, ↓top_set X0.here.top, hx, hb, hd, hgt, hst2]
  first | exact a1 | exact ⟨rfl, a1⟩
end JR
