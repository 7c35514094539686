section JMX
variable {X : jX} {d bc bs : Nat} {M : MD} {Q : jPost} {pc : Nat} {L st : List Value} {n : Nat} {I : HI} {J : HJ} {P : HP}
theorem j_max {pc' idx : Nat} {a b : Int32} (hd : decode M.2.1 pc = .ok (.invokestatic idx, 3)) (hp : pc + 3 = pc') (hm : PMs M.1.cls idx mJ9_max_7cf53 2) (hcat : (st.map fun v => v.category).sum ≤ 8) (kk : Rj X (d + 1) bc bs M Q pc' L (.int (if a < b then b else a) :: st) n I J P) : Rj X (d + 1) bc bs M Q pc L (.int b :: .int a :: st) n I J P := by
  subst hp
  intro A D tc p l e R s m args below meth c H locs cells slots Z ls ad hF hR hD hf2 hend
  obtain ⟨hx, hb, hml, hr, hown, hts, hK, hA, -⟩ := id hF
  have h9 := jv_rest (ad := ad) hcat
  obtain ⟨r1, r2, r3, r4⟩ := id hR
  show W p l e R s m args below meth c H locs cells slots Z (F0 m pc ls (.int b :: .int a :: st.map (jv_ren ad)))
  exact va_mmax hx hb (by rw [hml, hf2.1.1]) hown (hts _ hm.2.1) (hts _ hm.2.2) (hts _ hm.1.2.1) (hts _ hm.1.1) (by omega) (by omega) (by omega) (by omega) hd (kk A D tc p l e R s m args below meth c H locs cells slots Z ls ad hF hR hD ⟨hf2.1, hf2.2.1, j_ok1 jv_ok.int (j_tl (j_tl hf2.2.2))⟩ hend)
theorem j_min {pc' idx : Nat} {a b : Int32} (hd : decode M.2.1 pc = .ok (.invokestatic idx, 3)) (hp : pc + 3 = pc') (hm : PMs M.1.cls idx mJ9_min_7cf53 2) (hcat : (st.map fun v => v.category).sum ≤ 8) (kk : Rj X (d + 1) bc bs M Q pc' L (.int (if b < a then b else a) :: st) n I J P) : Rj X (d + 1) bc bs M Q pc L (.int b :: .int a :: st) n I J P := by
  subst hp
  intro A D tc p l e R s m args below meth c H locs cells slots Z ls ad hF hR hD hf2 hend
  obtain ⟨hx, hb, hml, hr, hown, hts, hK, hA, -⟩ := id hF
  have h9 := jv_rest (ad := ad) hcat
  obtain ⟨r1, r2, r3, r4⟩ := id hR
  show W p l e R s m args below meth c H locs cells slots Z (F0 m pc ls (.int b :: .int a :: st.map (jv_ren ad)))
  exact va_mmin hx hb (by rw [hml, hf2.1.1]) hown (hts _ hm.2.1) (hts _ hm.2.2) (hts _ hm.1.2.1) (hts _ hm.1.1) (by omega) (by omega) (by omega) (by omega) hd (kk A D tc p l e R s m args below meth c H locs cells slots Z ls ad hF hR hD ⟨hf2.1, hf2.2.1, j_ok1 jv_ok.int (j_tl (j_tl hf2.2.2))⟩ hend)
end JMX
