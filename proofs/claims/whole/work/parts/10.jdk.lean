/-! rows for the JDK: Object's constructor, arraycopy, the text constants -/
section JK
variable {X : jX} {d bc bs : Nat} {M : MD} {Q : jPost} {pc : Nat} {L st : List Value} {n : Nat} {I : HI} {J : HJ} {P : HP}
theorem j_objInit {pc' idx a : Nat} (hd : decode M.2.1 pc = .ok (.invokespecial idx, 3)) (hp : pc + 3 = pc') (hl : Cond.methodLink M.1.cls idx objectInit ∈ jv_tbl) (hi : Cond.instanceMethod objectInit ∈ jv_tbl) (hc : Cond.code objectInit ⟨#[0xb1]⟩ 1 none ∈ jv_tbl) (hcat : (st.map fun v => v.category).sum ≤ 8) (kk : Rj X (d + 1) bc bs M Q pc' L st n I J P) : Rj X (d + 1) bc bs M Q pc L (.ref a :: st) n I J P := by
  subst hp
  intro A D tc p l e R s m args below meth c H locs cells slots Z ls ad hF hR hD hf2 hend
  obtain ⟨hx, hb, hml, hr, hown, hts, hK, hA, -⟩ := id hF
  have h9 := jv_rest (ad := ad) hcat
  show W p l e R s m args below meth c H locs cells slots Z (F0 m pc ls (.ref (ad a) :: st.map (jv_ren ad)))
  refine W.objInit hx hb hown (hts _ hl) (hts _ hi) (hts _ hc) rfl (by rw [hml]; exact hf2.1.1) rfl hd (by have := hR.1; omega) (by have := hR.2.1; show 2 * 0 + _ + 12 ≤ _; omega) ?_
  exact kk A D tc p l e R s m args below meth c H locs cells slots Z ls ad hF hR hD ⟨hf2.1, hf2.2.1, j_tl hf2.2.2⟩ hend
theorem j_copy {pc' idx a0 a n0 n1 sp dp cn : Nat} {vs vd vc : Int32} (hd : decode M.2.1 pc = .ok (.invokestatic idx, 3)) (hp : pc + 3 = pc') (hl : Cond.methodLink M.1.cls idx arraycopyName ∈ jv_tbl) (hn : Cond.native arraycopyName ∈ jv_tbl) (hs : Cond.static arraycopyName ∈ jv_tbl) (hi : Cond.initialized "java/lang/System" ∈ jv_tbl)
    (h0 : shp a0 = (1, n0)) (h1 : shp a = (1, n1)) (ha0 : a0 < 1000) (ha : a < 1000) (es : vs = nI sp) (ed : vd = nI dp) (ec : vc = nI cn) (b1 : sp + cn ≤ n0) (b2 : dp + cn ≤ n1) (bn : n0 < 2 ^ 31) (bm : n1 < 2 ^ 31) (hcat : (st.map fun v => v.category).sum ≤ 8) (kk : Rj X (d + 1) bc bs M Q pc' L st n (ur I a (va_cpy (I a0) (I a) sp dp cn)) J P) : Rj X (d + 1) bc bs M Q pc L (.int vc :: .int vd :: .ref a :: .int vs :: .ref a0 :: st) n I J P := by
  subst hp; subst es; subst ed; subst ec
  intro A D tc p l e R s m args below meth c H locs cells slots Z ls ad hF hR hD hf2 hend
  obtain ⟨hx, hb, hml, hr, hown, hts, hK, hA, -⟩ := id hF
  have hm1 : (.ref a : Value) ∈ (.int (nI cn) :: .int (nI dp) :: .ref a :: .int (nI sp) :: .ref a0 :: st : List Value) := by simp
  have hm0 : (.ref a0 : Value) ∈ (.int (nI cn) :: .int (nI dp) :: .ref a :: .int (nI sp) :: .ref a0 :: st : List Value) := by simp
  have han : a < n := (hf2.2.2 _ hm1 a rfl).elim id (fun q => by omega)
  have ha0n : a0 < n := (hf2.2.2 _ hm0 a0 rfl).elim id (fun q => by omega)
  have hg0 := jws_get (tc := tc) (ad := ad) (I := I) (J := J) (P := P) ha0n
  have hg1 := jws_get (tc := tc) (ad := ad) (I := I) (J := J) (P := P) han
  rw [jcell_int h0] at hg0
  rw [jcell_int h1] at hg1
  have cs : (nI sp).toNatClampNeg = sp := nI_clamp (by omega)
  have cd : (nI dp).toNatClampNeg = dp := nI_clamp (by omega)
  have ccn : (nI cn).toNatClampNeg = cn := nI_clamp (by omega)
  have h9 := jv_rest (ad := ad) hcat
  have hnf : nativeFrameWords "java/lang/System" "arraycopy" 5 + 11 ≤ 50 := by decide
  show W p l e R s m args below meth c H locs cells slots Z (F0 m pc ls (.int (nI cn) :: .int (nI dp) :: .ref (ad a) :: .int (nI sp) :: .ref (ad a0) :: st.map (jv_ren ad)))
  refine va_copyi hx hb (by rw [hml, hf2.1.1]) hown (hts _ hl) (hts _ hn) (hts _ hs) (hts _ hi) hK hD.1 hD.2.1 hD.2.2.1 a0 a 0 0 hg0 hg1 rfl rfl rfl (nI_pos (by omega)) (nI_pos (by omega)) (nI_pos (by omega)) (by rw [cs, ccn]; exact b1) (by rw [cd, ccn]; exact b2) (fun i _ => rfl) (by have := hR.1; omega) (by have := hR.2.1; omega) hd (fun H1 locs1 k1 k2 k3 => ?_)
  rw [cs, cd, ccn] at k1 k2
  have hws : (jv_ws tc ad n I J P).set a (ad a, .inl (tc 0, n1, .inl (va_cpy (I a0) (I a) sp dp cn))) = jv_ws tc ad n (ur I a (va_cpy (I a0) (I a) sp dp cn)) J P :=
    jws_set han (by rw [jcell_int h1, ur_row]) (fun b _ hb => jcell_congr (ur_ne I _ hb) rfl (fun _ => rfl))
  rw [hws] at k1 k2
  exact kk A D tc p l e R s m args below meth c H1 locs1 cells slots Z ls ad hF hR ⟨k1, k2, k3, hD.2.2.2.1, hD.2.2.2.2⟩ ⟨hf2.1, hf2.2.1, j_tl (j_tl (j_tl (j_tl (j_tl hf2.2.2))))⟩ hend
/-! text constants -/
theorem j_getsC {pc' idx : Nat} (hd : decode M.2.1 pc = .ok (.getstatic idx, 3)) (hp : pc + 3 = pc') (hl : Cond.fieldLink M.1.cls idx "java/lang/String" "COMPACT_STRINGS" "Z" ∈ jv_tbl) (kk : Rj X d bc bs M Q pc' L (.int 1 :: st) n I J P) : Rj X d bc bs M Q pc L st n I J P := by
  subst hp
  intro A D tc p l e R s m args below meth c H locs cells slots Z ls ad hF hR hD hf2 hend
  exact va_gets hF.1 hF.2.1 hD.2.2.2.1.2.2.1 hD.2.2.1 hF.2.2.2.2.1 (hF.2.2.2.2.2.1 _ hl) (fun _ h => h) hd (kk A D tc p l e R s m args below meth c H locs cells slots Z ls ad hF hR hD ⟨hf2.1, hf2.2.1, j_ok1 jv_ok.int hf2.2.2⟩ hend)
theorem j_getsF {pc' idx : Nat} (hd : decode M.2.1 pc = .ok (.getstatic idx, 3)) (hp : pc + 3 = pc') (hl : Cond.fieldLink M.1.cls idx "jdk/internal/util/Preconditions" "SIOOBE_FORMATTER" "Ljava/util/function/BiFunction;" ∈ jv_tbl) (k1 : Rj X d bc bs M Q pc' L (.null :: st) n I J P) (k2 : Rj X d bc bs M Q pc' L (.ref 1300 :: st) n I J P) : Rj X d bc bs M Q pc L st n I J P := by
  subst hp
  intro A D tc p l e R s m args below meth c H locs cells slots Z ls ad hF hR hD hf2 hend
  rcases hD.2.2.2.1.2.2.2.1 with hz | hz
  · exact va_gets hF.1 hF.2.1 hz hD.2.2.1 hF.2.2.2.2.1 (hF.2.2.2.2.2.1 _ hl) (fun _ h => h) hd (k1 A D tc p l e R s m args below meth c H locs cells slots Z ls ad hF hR hD ⟨hf2.1, hf2.2.1, j_ok1 jv_ok.nul hf2.2.2⟩ hend)
  · exact va_gets hF.1 hF.2.1 hz hD.2.2.1 hF.2.2.2.2.1 (hF.2.2.2.2.2.1 _ hl) (fun _ h => h) hd (k2 A D tc p l e R s m args below meth c H locs cells slots Z ls ad hF hR hD ⟨hf2.1, hf2.2.1, j_ok1 (fun b e => by cases e; exact Or.inr (by omega)) hf2.2.2⟩ hend)
theorem j_getSC {pc' idx i : Nat} (hi : i < 5) (hd : decode M.2.1 pc = .ok (.getfield idx, 3)) (hp : pc + 3 = pc') (hl : Cond.fieldLink M.1.cls idx "java/lang/String" "coder" "B" ∈ jv_tbl) (kk : Rj X d bc bs M Q pc' L (.int 0 :: st) n I J P) : Rj X d bc bs M Q pc L (.ref (1000 + i) :: st) n I J P := by
  subst hp
  intro A D tc p l e R s m args below meth c H locs cells slots Z ls ad hF hR hD hf2 hend
  exact vk_getf hF.1 hF.2.1 (hD.2.2.2.1.1.1 i hi).2.1 hD.2.2.1 hF.2.2.2.2.1 (hF.2.2.2.2.2.1 _ hl) (fun _ h => h) hd (kk A D tc p l e R s m args below meth c H locs cells slots Z ls ad hF hR hD ⟨hf2.1, hf2.2.1, j_ok1 jv_ok.int (j_tl hf2.2.2)⟩ hend)
theorem j_getSV {pc' idx i : Nat} (hi : i < 5) (hd : decode M.2.1 pc = .ok (.getfield idx, 3)) (hp : pc + 3 = pc') (hl : Cond.fieldLink M.1.cls idx "java/lang/String" "value" "[B" ∈ jv_tbl) (kk : Rj X d bc bs M Q pc' L (.ref (1100 + i) :: st) n I J P) : Rj X d bc bs M Q pc L (.ref (1000 + i) :: st) n I J P := by
  subst hp
  intro A D tc p l e R s m args below meth c H locs cells slots Z ls ad hF hR hD hf2 hend
  exact vk_getf hF.1 hF.2.1 (hD.2.2.2.1.1.1 i hi).2.2.1 hD.2.2.1 hF.2.2.2.2.1 (hF.2.2.2.2.2.1 _ hl) (fun _ h => h) hd (kk A D tc p l e R s m args below meth c H locs cells slots Z ls ad hF hR hD ⟨hf2.1, hf2.2.1, j_ok1 (fun b e => by cases e; exact Or.inr (by omega)) (j_tl hf2.2.2)⟩ hend)
theorem j_blen {pc' i : Nat} (hi : i < 5) (hd : decode M.2.1 pc = .ok (.arraylength, 1)) (hp : pc + 1 = pc') (kk : Rj X d bc bs M Q pc' L (.int (nI (jv_len.getD i 0)) :: st) n I J P) : Rj X d bc bs M Q pc L (.ref (1100 + i) :: st) n I J P := by
  subst hp
  intro A D tc p l e R s m args below meth c H locs cells slots Z ls ad hF hR hD hf2 hend
  exact va_tlen hF.1 hF.2.1 (hD.2.2.2.1.1.1 i hi).2.2.2 hD.2.2.1 rfl hd (kk A D tc p l e R s m args below meth c H locs cells slots Z ls ad hF hR hD ⟨hf2.1, hf2.2.1, j_ok1 jv_ok.int (j_tl hf2.2.2)⟩ hend)
theorem j_bld {pc' i : Nat} {v : Int32} (hi : i < 5) (hd : decode M.2.1 pc = .ok (.baload, 1)) (hp : pc + 1 = pc') (hin : vp_in v (jv_len.getD i 0)) (kk : Rj X d bc bs M Q pc' L (.int ((jv_byt.getD i []).getD v.toNatClampNeg 0) :: st) n I J P) : Rj X d bc bs M Q pc L (.int v :: .ref (1100 + i) :: st) n I J P := by
  subst hp
  intro A D tc p l e R s m args below meth c H locs cells slots Z ls ad hF hR hD hf2 hend
  exact va_tb hF.1 hF.2.1 (hD.2.2.2.1.1.1 i hi).2.2.2 hD.2.2.1 hin rfl hd (kk A D tc p l e R s m args below meth c H locs cells slots Z ls ad hF hR hD ⟨hf2.1, hf2.2.1, j_ok1 jv_ok.int (j_tl (j_tl hf2.2.2))⟩ hend)
theorem j_callVS {idx i bc1 bs1 bc2 bs2 : Nat} {N : MD} {As st0 : List Value} {Q1 : jPost} (hi : i < 5) (hd : decode M.2.1 pc = .ok (.invokevirtual idx, 3)) (hm : PMv M.1.cls idx N As.length) (hC : Cj X d bc1 bs1 N (.ref (1000 + i) :: As) n I J P Q1) (hcn : N.1.cls = "java/lang/String") (hst : As.reverse ++ .ref (1000 + i) :: st = st0) (hcat : (st.map fun v => v.category).sum ≤ 8) (hbc : bc2 + bc1 = bc) (hbs : bs2 + bs1 = bs)
    (kk : ∀ r n' I' J' P', Q1 r n' I' J' P' → Rj X (d + 1) bc2 bs2 M Q (pc + 3) L (r.toList ++ st) n' I' J' P') : Rj X (d + 1) bc bs M Q pc L st0 n I J P := by
  intro A D tc p l e R s m args below meth c H locs cells slots Z ls ad hF hR hD hf hend
  subst hst
  obtain ⟨hx, hbt, hml, hr, hown, hts, hK, hA, -⟩ := id hF
  have hokA : ∀ v ∈ Value.ref (1000 + i) :: As, jv_ok n v := fun v hv => hf.2.2 v (by
    rcases List.mem_cons.mp hv with e | e
    · exact List.mem_append_right _ (e ▸ List.mem_cons_self)
    · exact List.mem_append_left _ (List.mem_reverse.mpr e))
  have hrm : (d : Nat) + 1 ≤ R.frames ∧ 8 + (N.2.2.1 + 11) + 64 * d ≤ R.locals := by
    obtain ⟨h1, h2, -, -⟩ := hR
    have := hm.1.2.2.2.2.2
    omega
  have hcc : cells + bc1 ≤ R.cells ∧ slots + bs1 ≤ R.slots := by
    obtain ⟨-, -, h3, h4⟩ := hR
    omega
  rw [List.map_append, List.map_reverse, List.map_cons]
  have hrv := vk_recv hD.2.2.2.1.1 hi hD.2.2.1
  rw [← hcn] at hrv
  refine jv_back (stq := As.reverse ++ Value.ref (1000 + i) :: st) hF hR hD hf (fun v hv => hf.2.2 v (List.mem_append_right _ (List.mem_cons_of_mem _ hv))) hend hbc hbs (Q1 := Q1) (a := (Value.ref (ad (1000 + i)) :: As.map (jv_ren ad)).toArray) ?_ kk
  exact va_runV (As := As.map (jv_ren ad)) (rest := st.map (jv_ren ad)) (b := ad (1000 + i)) ⟨hx, hbt, hml, hown, hts⟩ (hC l A D tc ad) (cwV (mc := bc1) (ms := bs1) As.length hts (fun w hw => by
      unfold wsV at hw
      rcases List.mem_append.mp hw with e | e
      · have : w = Cond.methodLink M.1.cls idx N.1 ∨ w = Cond.instanceMethod N.1 ∨ w = Cond.selects N.1.cls N.1 N.1 ∨ w = Cond.initialized N.1.cls := by simpa using e
        rcases this with rfl | rfl | rfl | rfl
        · exact jv_tbl_good _ hm.2.1
        · exact jv_tbl_good _ hm.2.2.1
        · exact jv_tbl_good _ hm.2.2.2
        · exact jv_tbl_good _ hm.1.2.1
      · exact jv_goodM hm.1 w e) rfl rfl rfl ⟨rfl, hm.1.2.2.1, hm.1.2.2.2.1, hm.1.2.2.2.2.1⟩ hrm) ⟨Cj.blind, hrv, fun U hU hW => ⟨rfl, jv_W.of hD hK hA hU hW, hokA⟩⟩ rfl (by simp) hf.1.1 rfl (lv_room (jv_rest hcat)) hd hcc
end JK
/-! answers -/
abbrev rI (v : Int32) (n : Nat) (I : HI) (J : HJ) (P : HP) : jPost := fun r n' I' J' P' => r = some (.int v) ∧ n' = n ∧ I' = I ∧ J' = J ∧ P' = P
abbrev rJ (v : Int64) (n : Nat) (I : HI) (J : HJ) (P : HP) : jPost := fun r n' I' J' P' => r = some (.long v) ∧ n' = n ∧ I' = I ∧ J' = J ∧ P' = P
abbrev rV (n : Nat) (I : HI) (J : HJ) (P : HP) : jPost := fun r n' I' J' P' => r = none ∧ n' = n ∧ I' = I ∧ J' = J ∧ P' = P
section JZ
variable {X : jX} {d bc bs : Nat} {M : MD} {Q : jPost} {pc pc' : Nat} {L st : List Value} {n n1 : Nat} {I I1 : HI} {J J1 : HJ} {P P1 : HP}
theorem kI {v : Int32} (hp : pc + 3 = pc') (k : Rj X d bc bs M Q pc' L (.int v :: st) n1 I1 J1 P1) : ∀ r n' I' J' P', rI v n1 I1 J1 P1 r n' I' J' P' → Rj X d bc bs M Q (pc + 3) L (r.toList ++ st) n' I' J' P' := by
  rintro r n' I' J' P' ⟨rfl, rfl, rfl, rfl, rfl⟩
  subst hp; exact k
theorem kJ {v : Int64} (hp : pc + 3 = pc') (k : Rj X d bc bs M Q pc' L (.long v :: st) n1 I1 J1 P1) : ∀ r n' I' J' P', rJ v n1 I1 J1 P1 r n' I' J' P' → Rj X d bc bs M Q (pc + 3) L (r.toList ++ st) n' I' J' P' := by
  rintro r n' I' J' P' ⟨rfl, rfl, rfl, rfl, rfl⟩
  subst hp; exact k
theorem kV (hp : pc + 3 = pc') (k : Rj X d bc bs M Q pc' L st n1 I1 J1 P1) : ∀ r n' I' J' P', rV n1 I1 J1 P1 r n' I' J' P' → Rj X d bc bs M Q (pc + 3) L (r.toList ++ st) n' I' J' P' := by
  rintro r n' I' J' P' ⟨rfl, rfl, rfl, rfl, rfl⟩
  subst hp; exact k
end JZ
