set_option maxHeartbeats 4000000 in
set_option maxRecDepth 100000 in
theorem c_mword0 {X : jX} {d n : Nat} {I : HI} {J : HJ} {P : HP} {Q : jPost}  (hQ : Q (some (.long (lN 739651769))) n I J P) : Cj X d 0 0 mX10_wordOf [.int (nI 22), .int (nI 1), .int (nI 12), .int (nI 12), .int (nI 5), .int (nI 25)] n I J P Q := by
  refine Cj.intro rfl (Nat.le_of_ble_eq_true rfl) (L := [.int (nI 22), .int (nI 1), .int (nI 12), .int (nI 12), .int (nI 5), .int (nI 25), jU, jU]) rfl ?_
  refine j_lconst (v := lN 0) dX10_wordOf_0 rfl rfl ?_
  refine j_lstore (L' := [.int (nI 22), .int (nI 1), .int (nI 12), .int (nI 12), .int (nI 5), .int (nI 25), .long (lN 0), jU]) dX10_wordOf_1 rfl rfl (by decide) rfl ?_
  refine j_iload_n dX10_wordOf_3 rfl rfl rfl ?_
  refine j_ifleN (tgt := 19) dX10_wordOf_4 rfl rfl (by decide) (fun h1 => by exfalso; omega) (fun h1 => ?_)
  refine j_lload dX10_wordOf_7 rfl rfl ?_
  refine j_ldc2 (v := lN 32) dX10_wordOf_9 rfl kX10_85 ?_
  refine j_lmulN (c := 0) dX10_wordOf_12 rfl rfl ?_
  refine j_iload_n dX10_wordOf_13 rfl rfl rfl ?_
  refine j_i2lN dX10_wordOf_14 rfl (by decide) ?_
  refine j_laddN (c := 22) dX10_wordOf_15 rfl rfl ?_
  refine j_goto (tgt := 21) dX10_wordOf_16 rfl ?_
  refine j_lstore (L' := [.int (nI 22), .int (nI 1), .int (nI 12), .int (nI 12), .int (nI 5), .int (nI 25), .long (lN 22), jU]) dX10_wordOf_21 rfl rfl (by decide) rfl ?_
  refine j_iload_n dX10_wordOf_23 rfl rfl rfl ?_
  refine j_ifleN (tgt := 39) dX10_wordOf_24 rfl rfl (by decide) (fun h2 => by exfalso; omega) (fun h2 => ?_)
  refine j_lload dX10_wordOf_27 rfl rfl ?_
  refine j_ldc2 (v := lN 32) dX10_wordOf_29 rfl kX10_85 ?_
  refine j_lmulN (c := 704) dX10_wordOf_32 rfl rfl ?_
  refine j_iload_n dX10_wordOf_33 rfl rfl rfl ?_
  refine j_i2lN dX10_wordOf_34 rfl (by decide) ?_
  refine j_laddN (c := 705) dX10_wordOf_35 rfl rfl ?_
  refine j_goto (tgt := 41) dX10_wordOf_36 rfl ?_
  refine j_lstore (L' := [.int (nI 22), .int (nI 1), .int (nI 12), .int (nI 12), .int (nI 5), .int (nI 25), .long (lN 705), jU]) dX10_wordOf_41 rfl rfl (by decide) rfl ?_
  refine j_iload_n dX10_wordOf_43 rfl rfl rfl ?_
  refine j_ifleN (tgt := 59) dX10_wordOf_44 rfl rfl (by decide) (fun h3 => by exfalso; omega) (fun h3 => ?_)
  refine j_lload dX10_wordOf_47 rfl rfl ?_
  refine j_ldc2 (v := lN 32) dX10_wordOf_49 rfl kX10_85 ?_
  refine j_lmulN (c := 22560) dX10_wordOf_52 rfl rfl ?_
  refine j_iload_n dX10_wordOf_53 rfl rfl rfl ?_
  refine j_i2lN dX10_wordOf_54 rfl (by decide) ?_
  refine j_laddN (c := 22572) dX10_wordOf_55 rfl rfl ?_
  refine j_goto (tgt := 61) dX10_wordOf_56 rfl ?_
  refine j_lstore (L' := [.int (nI 22), .int (nI 1), .int (nI 12), .int (nI 12), .int (nI 5), .int (nI 25), .long (lN 22572), jU]) dX10_wordOf_61 rfl rfl (by decide) rfl ?_
  refine j_iload_n dX10_wordOf_63 rfl rfl rfl ?_
  refine j_ifleN (tgt := 79) dX10_wordOf_64 rfl rfl (by decide) (fun h4 => by exfalso; omega) (fun h4 => ?_)
  refine j_lload dX10_wordOf_67 rfl rfl ?_
  refine j_ldc2 (v := lN 32) dX10_wordOf_69 rfl kX10_85 ?_
  refine j_lmulN (c := 722304) dX10_wordOf_72 rfl rfl ?_
  refine j_iload_n dX10_wordOf_73 rfl rfl rfl ?_
  refine j_i2lN dX10_wordOf_74 rfl (by decide) ?_
  refine j_laddN (c := 722316) dX10_wordOf_75 rfl rfl ?_
  refine j_goto (tgt := 81) dX10_wordOf_76 rfl ?_
  refine j_lstore (L' := [.int (nI 22), .int (nI 1), .int (nI 12), .int (nI 12), .int (nI 5), .int (nI 25), .long (lN 722316), jU]) dX10_wordOf_81 rfl rfl (by decide) rfl ?_
  refine j_iload dX10_wordOf_83 rfl rfl ?_
  refine j_ifleN (tgt := 101) dX10_wordOf_85 rfl rfl (by decide) (fun h5 => by exfalso; omega) (fun h5 => ?_)
  refine j_lload dX10_wordOf_88 rfl rfl ?_
  refine j_ldc2 (v := lN 32) dX10_wordOf_90 rfl kX10_85 ?_
  refine j_lmulN (c := 23114112) dX10_wordOf_93 rfl rfl ?_
  refine j_iload dX10_wordOf_94 rfl rfl ?_
  refine j_i2lN dX10_wordOf_96 rfl (by decide) ?_
  refine j_laddN (c := 23114117) dX10_wordOf_97 rfl rfl ?_
  refine j_goto (tgt := 103) dX10_wordOf_98 rfl ?_
  refine j_lstore (L' := [.int (nI 22), .int (nI 1), .int (nI 12), .int (nI 12), .int (nI 5), .int (nI 25), .long (lN 23114117), jU]) dX10_wordOf_103 rfl rfl (by decide) rfl ?_
  refine j_iload dX10_wordOf_105 rfl rfl ?_
  refine j_ifleN (tgt := 123) dX10_wordOf_107 rfl rfl (by decide) (fun h6 => by exfalso; omega) (fun h6 => ?_)
  refine j_lload dX10_wordOf_110 rfl rfl ?_
  refine j_ldc2 (v := lN 32) dX10_wordOf_112 rfl kX10_85 ?_
  refine j_lmulN (c := 739651744) dX10_wordOf_115 rfl rfl ?_
  refine j_iload dX10_wordOf_116 rfl rfl ?_
  refine j_i2lN dX10_wordOf_118 rfl (by decide) ?_
  refine j_laddN (c := 739651769) dX10_wordOf_119 rfl rfl ?_
  refine j_goto (tgt := 125) dX10_wordOf_120 rfl ?_
  refine j_lret dX10_wordOf_125 rfl ?_
  exact hQ
set_option maxHeartbeats 4000000 in
set_option maxRecDepth 100000 in
theorem c_mword1 {X : jX} {d n : Nat} {I : HI} {J : HJ} {P : HP} {Q : jPost}  (hQ : Q (some (.long (lN 132528))) n I J P) : Cj X d 0 0 mX10_wordOf [.int (nI 4), .int (nI 1), .int (nI 13), .int (nI 16), .int (nI 0), .int (nI 0)] n I J P Q := by
  refine Cj.intro rfl (Nat.le_of_ble_eq_true rfl) (L := [.int (nI 4), .int (nI 1), .int (nI 13), .int (nI 16), .int (nI 0), .int (nI 0), jU, jU]) rfl ?_
  refine j_lconst (v := lN 0) dX10_wordOf_0 rfl rfl ?_
  refine j_lstore (L' := [.int (nI 4), .int (nI 1), .int (nI 13), .int (nI 16), .int (nI 0), .int (nI 0), .long (lN 0), jU]) dX10_wordOf_1 rfl rfl (by decide) rfl ?_
  refine j_iload_n dX10_wordOf_3 rfl rfl rfl ?_
  refine j_ifleN (tgt := 19) dX10_wordOf_4 rfl rfl (by decide) (fun h1 => by exfalso; omega) (fun h1 => ?_)
  refine j_lload dX10_wordOf_7 rfl rfl ?_
  refine j_ldc2 (v := lN 32) dX10_wordOf_9 rfl kX10_85 ?_
  refine j_lmulN (c := 0) dX10_wordOf_12 rfl rfl ?_
  refine j_iload_n dX10_wordOf_13 rfl rfl rfl ?_
  refine j_i2lN dX10_wordOf_14 rfl (by decide) ?_
  refine j_laddN (c := 4) dX10_wordOf_15 rfl rfl ?_
  refine j_goto (tgt := 21) dX10_wordOf_16 rfl ?_
  refine j_lstore (L' := [.int (nI 4), .int (nI 1), .int (nI 13), .int (nI 16), .int (nI 0), .int (nI 0), .long (lN 4), jU]) dX10_wordOf_21 rfl rfl (by decide) rfl ?_
  refine j_iload_n dX10_wordOf_23 rfl rfl rfl ?_
  refine j_ifleN (tgt := 39) dX10_wordOf_24 rfl rfl (by decide) (fun h2 => by exfalso; omega) (fun h2 => ?_)
  refine j_lload dX10_wordOf_27 rfl rfl ?_
  refine j_ldc2 (v := lN 32) dX10_wordOf_29 rfl kX10_85 ?_
  refine j_lmulN (c := 128) dX10_wordOf_32 rfl rfl ?_
  refine j_iload_n dX10_wordOf_33 rfl rfl rfl ?_
  refine j_i2lN dX10_wordOf_34 rfl (by decide) ?_
  refine j_laddN (c := 129) dX10_wordOf_35 rfl rfl ?_
  refine j_goto (tgt := 41) dX10_wordOf_36 rfl ?_
  refine j_lstore (L' := [.int (nI 4), .int (nI 1), .int (nI 13), .int (nI 16), .int (nI 0), .int (nI 0), .long (lN 129), jU]) dX10_wordOf_41 rfl rfl (by decide) rfl ?_
  refine j_iload_n dX10_wordOf_43 rfl rfl rfl ?_
  refine j_ifleN (tgt := 59) dX10_wordOf_44 rfl rfl (by decide) (fun h3 => by exfalso; omega) (fun h3 => ?_)
  refine j_lload dX10_wordOf_47 rfl rfl ?_
  refine j_ldc2 (v := lN 32) dX10_wordOf_49 rfl kX10_85 ?_
  refine j_lmulN (c := 4128) dX10_wordOf_52 rfl rfl ?_
  refine j_iload_n dX10_wordOf_53 rfl rfl rfl ?_
  refine j_i2lN dX10_wordOf_54 rfl (by decide) ?_
  refine j_laddN (c := 4141) dX10_wordOf_55 rfl rfl ?_
  refine j_goto (tgt := 61) dX10_wordOf_56 rfl ?_
  refine j_lstore (L' := [.int (nI 4), .int (nI 1), .int (nI 13), .int (nI 16), .int (nI 0), .int (nI 0), .long (lN 4141), jU]) dX10_wordOf_61 rfl rfl (by decide) rfl ?_
  refine j_iload_n dX10_wordOf_63 rfl rfl rfl ?_
  refine j_ifleN (tgt := 79) dX10_wordOf_64 rfl rfl (by decide) (fun h4 => by exfalso; omega) (fun h4 => ?_)
  refine j_lload dX10_wordOf_67 rfl rfl ?_
  refine j_ldc2 (v := lN 32) dX10_wordOf_69 rfl kX10_85 ?_
  refine j_lmulN (c := 132512) dX10_wordOf_72 rfl rfl ?_
  refine j_iload_n dX10_wordOf_73 rfl rfl rfl ?_
  refine j_i2lN dX10_wordOf_74 rfl (by decide) ?_
  refine j_laddN (c := 132528) dX10_wordOf_75 rfl rfl ?_
  refine j_goto (tgt := 81) dX10_wordOf_76 rfl ?_
  refine j_lstore (L' := [.int (nI 4), .int (nI 1), .int (nI 13), .int (nI 16), .int (nI 0), .int (nI 0), .long (lN 132528), jU]) dX10_wordOf_81 rfl rfl (by decide) rfl ?_
  refine j_iload dX10_wordOf_83 rfl rfl ?_
  refine j_ifleN (tgt := 101) dX10_wordOf_85 rfl rfl (by decide) (fun h5 => ?_) (fun h5 => by exfalso; omega)
  refine j_lload dX10_wordOf_101 rfl rfl ?_
  refine j_lstore (L' := [.int (nI 4), .int (nI 1), .int (nI 13), .int (nI 16), .int (nI 0), .int (nI 0), .long (lN 132528), jU]) dX10_wordOf_103 rfl rfl (by decide) rfl ?_
  refine j_iload dX10_wordOf_105 rfl rfl ?_
  refine j_ifleN (tgt := 123) dX10_wordOf_107 rfl rfl (by decide) (fun h6 => ?_) (fun h6 => by exfalso; omega)
  refine j_lload dX10_wordOf_123 rfl rfl ?_
  refine j_lret dX10_wordOf_125 rfl ?_
  exact hQ
set_option maxHeartbeats 4000000 in
set_option maxRecDepth 100000 in
theorem c_mword2 {X : jX} {d n : Nat} {I : HI} {J : HJ} {P : HP} {Q : jPost}  (hQ : Q (some (.long (lN 4697))) n I J P) : Cj X d 0 0 mX10_wordOf [.int (nI 4), .int (nI 18), .int (nI 25), .int (nI 0), .int (nI 0), .int (nI 0)] n I J P Q := by
  refine Cj.intro rfl (Nat.le_of_ble_eq_true rfl) (L := [.int (nI 4), .int (nI 18), .int (nI 25), .int (nI 0), .int (nI 0), .int (nI 0), jU, jU]) rfl ?_
  refine j_lconst (v := lN 0) dX10_wordOf_0 rfl rfl ?_
  refine j_lstore (L' := [.int (nI 4), .int (nI 18), .int (nI 25), .int (nI 0), .int (nI 0), .int (nI 0), .long (lN 0), jU]) dX10_wordOf_1 rfl rfl (by decide) rfl ?_
  refine j_iload_n dX10_wordOf_3 rfl rfl rfl ?_
  refine j_ifleN (tgt := 19) dX10_wordOf_4 rfl rfl (by decide) (fun h1 => by exfalso; omega) (fun h1 => ?_)
  refine j_lload dX10_wordOf_7 rfl rfl ?_
  refine j_ldc2 (v := lN 32) dX10_wordOf_9 rfl kX10_85 ?_
  refine j_lmulN (c := 0) dX10_wordOf_12 rfl rfl ?_
  refine j_iload_n dX10_wordOf_13 rfl rfl rfl ?_
  refine j_i2lN dX10_wordOf_14 rfl (by decide) ?_
  refine j_laddN (c := 4) dX10_wordOf_15 rfl rfl ?_
  refine j_goto (tgt := 21) dX10_wordOf_16 rfl ?_
  refine j_lstore (L' := [.int (nI 4), .int (nI 18), .int (nI 25), .int (nI 0), .int (nI 0), .int (nI 0), .long (lN 4), jU]) dX10_wordOf_21 rfl rfl (by decide) rfl ?_
  refine j_iload_n dX10_wordOf_23 rfl rfl rfl ?_
  refine j_ifleN (tgt := 39) dX10_wordOf_24 rfl rfl (by decide) (fun h2 => by exfalso; omega) (fun h2 => ?_)
  refine j_lload dX10_wordOf_27 rfl rfl ?_
  refine j_ldc2 (v := lN 32) dX10_wordOf_29 rfl kX10_85 ?_
  refine j_lmulN (c := 128) dX10_wordOf_32 rfl rfl ?_
  refine j_iload_n dX10_wordOf_33 rfl rfl rfl ?_
  refine j_i2lN dX10_wordOf_34 rfl (by decide) ?_
  refine j_laddN (c := 146) dX10_wordOf_35 rfl rfl ?_
  refine j_goto (tgt := 41) dX10_wordOf_36 rfl ?_
  refine j_lstore (L' := [.int (nI 4), .int (nI 18), .int (nI 25), .int (nI 0), .int (nI 0), .int (nI 0), .long (lN 146), jU]) dX10_wordOf_41 rfl rfl (by decide) rfl ?_
  refine j_iload_n dX10_wordOf_43 rfl rfl rfl ?_
  refine j_ifleN (tgt := 59) dX10_wordOf_44 rfl rfl (by decide) (fun h3 => by exfalso; omega) (fun h3 => ?_)
  refine j_lload dX10_wordOf_47 rfl rfl ?_
  refine j_ldc2 (v := lN 32) dX10_wordOf_49 rfl kX10_85 ?_
  refine j_lmulN (c := 4672) dX10_wordOf_52 rfl rfl ?_
  refine j_iload_n dX10_wordOf_53 rfl rfl rfl ?_
  refine j_i2lN dX10_wordOf_54 rfl (by decide) ?_
  refine j_laddN (c := 4697) dX10_wordOf_55 rfl rfl ?_
  refine j_goto (tgt := 61) dX10_wordOf_56 rfl ?_
  refine j_lstore (L' := [.int (nI 4), .int (nI 18), .int (nI 25), .int (nI 0), .int (nI 0), .int (nI 0), .long (lN 4697), jU]) dX10_wordOf_61 rfl rfl (by decide) rfl ?_
  refine j_iload_n dX10_wordOf_63 rfl rfl rfl ?_
  refine j_ifleN (tgt := 79) dX10_wordOf_64 rfl rfl (by decide) (fun h4 => ?_) (fun h4 => by exfalso; omega)
  refine j_lload dX10_wordOf_79 rfl rfl ?_
  refine j_lstore (L' := [.int (nI 4), .int (nI 18), .int (nI 25), .int (nI 0), .int (nI 0), .int (nI 0), .long (lN 4697), jU]) dX10_wordOf_81 rfl rfl (by decide) rfl ?_
  refine j_iload dX10_wordOf_83 rfl rfl ?_
  refine j_ifleN (tgt := 101) dX10_wordOf_85 rfl rfl (by decide) (fun h5 => ?_) (fun h5 => by exfalso; omega)
  refine j_lload dX10_wordOf_101 rfl rfl ?_
  refine j_lstore (L' := [.int (nI 4), .int (nI 18), .int (nI 25), .int (nI 0), .int (nI 0), .int (nI 0), .long (lN 4697), jU]) dX10_wordOf_103 rfl rfl (by decide) rfl ?_
  refine j_iload dX10_wordOf_105 rfl rfl ?_
  refine j_ifleN (tgt := 123) dX10_wordOf_107 rfl rfl (by decide) (fun h6 => ?_) (fun h6 => by exfalso; omega)
  refine j_lload dX10_wordOf_123 rfl rfl ?_
  refine j_lret dX10_wordOf_125 rfl ?_
  exact hQ
set_option maxHeartbeats 4000000 in
set_option maxRecDepth 100000 in
theorem c_mword3 {X : jX} {d n : Nat} {I : HI} {J : HJ} {P : HP} {Q : jPost}  (hQ : Q (some (.long (lN 525618))) n I J P) : Cj X d 0 0 mX10_wordOf [.int (nI 16), .int (nI 1), .int (nI 9), .int (nI 18), .int (nI 0), .int (nI 0)] n I J P Q := by
  refine Cj.intro rfl (Nat.le_of_ble_eq_true rfl) (L := [.int (nI 16), .int (nI 1), .int (nI 9), .int (nI 18), .int (nI 0), .int (nI 0), jU, jU]) rfl ?_
  refine j_lconst (v := lN 0) dX10_wordOf_0 rfl rfl ?_
  refine j_lstore (L' := [.int (nI 16), .int (nI 1), .int (nI 9), .int (nI 18), .int (nI 0), .int (nI 0), .long (lN 0), jU]) dX10_wordOf_1 rfl rfl (by decide) rfl ?_
  refine j_iload_n dX10_wordOf_3 rfl rfl rfl ?_
  refine j_ifleN (tgt := 19) dX10_wordOf_4 rfl rfl (by decide) (fun h1 => by exfalso; omega) (fun h1 => ?_)
  refine j_lload dX10_wordOf_7 rfl rfl ?_
  refine j_ldc2 (v := lN 32) dX10_wordOf_9 rfl kX10_85 ?_
  refine j_lmulN (c := 0) dX10_wordOf_12 rfl rfl ?_
  refine j_iload_n dX10_wordOf_13 rfl rfl rfl ?_
  refine j_i2lN dX10_wordOf_14 rfl (by decide) ?_
  refine j_laddN (c := 16) dX10_wordOf_15 rfl rfl ?_
  refine j_goto (tgt := 21) dX10_wordOf_16 rfl ?_
  refine j_lstore (L' := [.int (nI 16), .int (nI 1), .int (nI 9), .int (nI 18), .int (nI 0), .int (nI 0), .long (lN 16), jU]) dX10_wordOf_21 rfl rfl (by decide) rfl ?_
  refine j_iload_n dX10_wordOf_23 rfl rfl rfl ?_
  refine j_ifleN (tgt := 39) dX10_wordOf_24 rfl rfl (by decide) (fun h2 => by exfalso; omega) (fun h2 => ?_)
  refine j_lload dX10_wordOf_27 rfl rfl ?_
  refine j_ldc2 (v := lN 32) dX10_wordOf_29 rfl kX10_85 ?_
  refine j_lmulN (c := 512) dX10_wordOf_32 rfl rfl ?_
  refine j_iload_n dX10_wordOf_33 rfl rfl rfl ?_
  refine j_i2lN dX10_wordOf_34 rfl (by decide) ?_
  refine j_laddN (c := 513) dX10_wordOf_35 rfl rfl ?_
  refine j_goto (tgt := 41) dX10_wordOf_36 rfl ?_
  refine j_lstore (L' := [.int (nI 16), .int (nI 1), .int (nI 9), .int (nI 18), .int (nI 0), .int (nI 0), .long (lN 513), jU]) dX10_wordOf_41 rfl rfl (by decide) rfl ?_
  refine j_iload_n dX10_wordOf_43 rfl rfl rfl ?_
  refine j_ifleN (tgt := 59) dX10_wordOf_44 rfl rfl (by decide) (fun h3 => by exfalso; omega) (fun h3 => ?_)
  refine j_lload dX10_wordOf_47 rfl rfl ?_
  refine j_ldc2 (v := lN 32) dX10_wordOf_49 rfl kX10_85 ?_
  refine j_lmulN (c := 16416) dX10_wordOf_52 rfl rfl ?_
  refine j_iload_n dX10_wordOf_53 rfl rfl rfl ?_
  refine j_i2lN dX10_wordOf_54 rfl (by decide) ?_
  refine j_laddN (c := 16425) dX10_wordOf_55 rfl rfl ?_
  refine j_goto (tgt := 61) dX10_wordOf_56 rfl ?_
  refine j_lstore (L' := [.int (nI 16), .int (nI 1), .int (nI 9), .int (nI 18), .int (nI 0), .int (nI 0), .long (lN 16425), jU]) dX10_wordOf_61 rfl rfl (by decide) rfl ?_
  refine j_iload_n dX10_wordOf_63 rfl rfl rfl ?_
  refine j_ifleN (tgt := 79) dX10_wordOf_64 rfl rfl (by decide) (fun h4 => by exfalso; omega) (fun h4 => ?_)
  refine j_lload dX10_wordOf_67 rfl rfl ?_
  refine j_ldc2 (v := lN 32) dX10_wordOf_69 rfl kX10_85 ?_
  refine j_lmulN (c := 525600) dX10_wordOf_72 rfl rfl ?_
  refine j_iload_n dX10_wordOf_73 rfl rfl rfl ?_
  refine j_i2lN dX10_wordOf_74 rfl (by decide) ?_
  refine j_laddN (c := 525618) dX10_wordOf_75 rfl rfl ?_
  refine j_goto (tgt := 81) dX10_wordOf_76 rfl ?_
  refine j_lstore (L' := [.int (nI 16), .int (nI 1), .int (nI 9), .int (nI 18), .int (nI 0), .int (nI 0), .long (lN 525618), jU]) dX10_wordOf_81 rfl rfl (by decide) rfl ?_
  refine j_iload dX10_wordOf_83 rfl rfl ?_
  refine j_ifleN (tgt := 101) dX10_wordOf_85 rfl rfl (by decide) (fun h5 => ?_) (fun h5 => by exfalso; omega)
  refine j_lload dX10_wordOf_101 rfl rfl ?_
  refine j_lstore (L' := [.int (nI 16), .int (nI 1), .int (nI 9), .int (nI 18), .int (nI 0), .int (nI 0), .long (lN 525618), jU]) dX10_wordOf_103 rfl rfl (by decide) rfl ?_
  refine j_iload dX10_wordOf_105 rfl rfl ?_
  refine j_ifleN (tgt := 123) dX10_wordOf_107 rfl rfl (by decide) (fun h6 => ?_) (fun h6 => by exfalso; omega)
  refine j_lload dX10_wordOf_123 rfl rfl ?_
  refine j_lret dX10_wordOf_125 rfl ?_
  exact hQ
set_option maxHeartbeats 4000000 in
set_option maxRecDepth 100000 in
theorem c_mword4 {X : jX} {d n : Nat} {I : HI} {J : HJ} {P : HP} {Q : jPost}  (hQ : Q (some (.long (lN 11566))) n I J P) : Cj X d 0 0 mX10_wordOf [.int (nI 11), .int (nI 9), .int (nI 14), .int (nI 0), .int (nI 0), .int (nI 0)] n I J P Q := by
  refine Cj.intro rfl (Nat.le_of_ble_eq_true rfl) (L := [.int (nI 11), .int (nI 9), .int (nI 14), .int (nI 0), .int (nI 0), .int (nI 0), jU, jU]) rfl ?_
  refine j_lconst (v := lN 0) dX10_wordOf_0 rfl rfl ?_
  refine j_lstore (L' := [.int (nI 11), .int (nI 9), .int (nI 14), .int (nI 0), .int (nI 0), .int (nI 0), .long (lN 0), jU]) dX10_wordOf_1 rfl rfl (by decide) rfl ?_
  refine j_iload_n dX10_wordOf_3 rfl rfl rfl ?_
  refine j_ifleN (tgt := 19) dX10_wordOf_4 rfl rfl (by decide) (fun h1 => by exfalso; omega) (fun h1 => ?_)
  refine j_lload dX10_wordOf_7 rfl rfl ?_
  refine j_ldc2 (v := lN 32) dX10_wordOf_9 rfl kX10_85 ?_
  refine j_lmulN (c := 0) dX10_wordOf_12 rfl rfl ?_
  refine j_iload_n dX10_wordOf_13 rfl rfl rfl ?_
  refine j_i2lN dX10_wordOf_14 rfl (by decide) ?_
  refine j_laddN (c := 11) dX10_wordOf_15 rfl rfl ?_
  refine j_goto (tgt := 21) dX10_wordOf_16 rfl ?_
  refine j_lstore (L' := [.int (nI 11), .int (nI 9), .int (nI 14), .int (nI 0), .int (nI 0), .int (nI 0), .long (lN 11), jU]) dX10_wordOf_21 rfl rfl (by decide) rfl ?_
  refine j_iload_n dX10_wordOf_23 rfl rfl rfl ?_
  refine j_ifleN (tgt := 39) dX10_wordOf_24 rfl rfl (by decide) (fun h2 => by exfalso; omega) (fun h2 => ?_)
  refine j_lload dX10_wordOf_27 rfl rfl ?_
  refine j_ldc2 (v := lN 32) dX10_wordOf_29 rfl kX10_85 ?_
  refine j_lmulN (c := 352) dX10_wordOf_32 rfl rfl ?_
  refine j_iload_n dX10_wordOf_33 rfl rfl rfl ?_
  refine j_i2lN dX10_wordOf_34 rfl (by decide) ?_
  refine j_laddN (c := 361) dX10_wordOf_35 rfl rfl ?_
  refine j_goto (tgt := 41) dX10_wordOf_36 rfl ?_
  refine j_lstore (L' := [.int (nI 11), .int (nI 9), .int (nI 14), .int (nI 0), .int (nI 0), .int (nI 0), .long (lN 361), jU]) dX10_wordOf_41 rfl rfl (by decide) rfl ?_
  refine j_iload_n dX10_wordOf_43 rfl rfl rfl ?_
  refine j_ifleN (tgt := 59) dX10_wordOf_44 rfl rfl (by decide) (fun h3 => by exfalso; omega) (fun h3 => ?_)
  refine j_lload dX10_wordOf_47 rfl rfl ?_
  refine j_ldc2 (v := lN 32) dX10_wordOf_49 rfl kX10_85 ?_
  refine j_lmulN (c := 11552) dX10_wordOf_52 rfl rfl ?_
  refine j_iload_n dX10_wordOf_53 rfl rfl rfl ?_
  refine j_i2lN dX10_wordOf_54 rfl (by decide) ?_
  refine j_laddN (c := 11566) dX10_wordOf_55 rfl rfl ?_
  refine j_goto (tgt := 61) dX10_wordOf_56 rfl ?_
  refine j_lstore (L' := [.int (nI 11), .int (nI 9), .int (nI 14), .int (nI 0), .int (nI 0), .int (nI 0), .long (lN 11566), jU]) dX10_wordOf_61 rfl rfl (by decide) rfl ?_
  refine j_iload_n dX10_wordOf_63 rfl rfl rfl ?_
  refine j_ifleN (tgt := 79) dX10_wordOf_64 rfl rfl (by decide) (fun h4 => ?_) (fun h4 => by exfalso; omega)
  refine j_lload dX10_wordOf_79 rfl rfl ?_
  refine j_lstore (L' := [.int (nI 11), .int (nI 9), .int (nI 14), .int (nI 0), .int (nI 0), .int (nI 0), .long (lN 11566), jU]) dX10_wordOf_81 rfl rfl (by decide) rfl ?_
  refine j_iload dX10_wordOf_83 rfl rfl ?_
  refine j_ifleN (tgt := 101) dX10_wordOf_85 rfl rfl (by decide) (fun h5 => ?_) (fun h5 => by exfalso; omega)
  refine j_lload dX10_wordOf_101 rfl rfl ?_
  refine j_lstore (L' := [.int (nI 11), .int (nI 9), .int (nI 14), .int (nI 0), .int (nI 0), .int (nI 0), .long (lN 11566), jU]) dX10_wordOf_103 rfl rfl (by decide) rfl ?_
  refine j_iload dX10_wordOf_105 rfl rfl ?_
  refine j_ifleN (tgt := 123) dX10_wordOf_107 rfl rfl (by decide) (fun h6 => ?_) (fun h6 => by exfalso; omega)
  refine j_lload dX10_wordOf_123 rfl rfl ?_
  refine j_lret dX10_wordOf_125 rfl ?_
  exact hQ
theorem tkW {tx : Nat → Nat} {tl f : Nat} (h : tkK tx tl f = 1) (hl : f ≤ tl) : 1 ≤ tkE tx tl f - f ∧ ∀ k, k < tkE tx tl f - f → 97 ≤ tx (f + k) ∧ tx (f + k) ≤ 122 := by
  have h0 : f < tl := tkK_lt (tx := tx) (by omega)
  have h1 := tkE_le (tx := tx) hl
  have hw : 97 ≤ tx f ∧ tx f ≤ 122 := by
    unfold tkK at h
    rw [if_neg (by omega)] at h
    by_cases q : 97 ≤ tx f ∧ tx f ≤ 122
    · exact q
    · rw [if_neg q] at h
      split at h
      · split at h <;> omega
      · split at h <;> omega
  have hE : tkE tx tl f = runE tx tl 97 122 (tl - f) f := by unfold tkE; rw [if_neg (by omega), if_pos hw]
  refine ⟨by omega, fun k hk => ?_⟩
  exact runE_in tx tl 97 122 (tl - f) f (f + k) (by omega) (by omega)
theorem wdL_big {tx : Nat → Nat} {l f c : Nat} (h : ¬ l ≤ 7) (hc : c < 2 ^ 63) : ¬ wdL tx l f = lN c := by
  unfold wdL
  rw [if_neg h]
  intro q
  have h1 : (-1 : Int64) = lN (2 ^ 64 - 1) := by decide
  have h2 : (lN c).toBitVec.toNat = c % 2 ^ 64 := rfl
  rw [← q] at h2
  have h3 : (-1 : Int64).toBitVec.toNat = 2 ^ 64 - 1 := by decide
  omega
theorem wv_eq {tx : Nat → Nat} {l f c : Nat} (h : l ≤ 7) (hb : wv tx l f 0 < 2 ^ 63) (hc : c < 2 ^ 63) : wdL tx l f = lN c ↔ wv tx l f 0 = c := by
  unfold wdL
  rw [if_pos h]
  exact pk_lEQ hb hc
theorem wd_0 {tx : Nat → Nat} {tl f : Nat} (h : tkK tx tl f = 1) (hl : f ≤ tl) : wdL tx (tkE tx tl f - f) f = lN 739651769 ↔ isW tx tl f 0 := by
  obtain ⟨h1, h2⟩ := tkW h hl
  generalize hE : tkE tx tl f - f = l at h1 h2
  have hW : isW tx tl f 0 ↔ l = 6 ∧ ∀ k, k < 6 → tx (f + k) = chS 0 k := by
    unfold isW
    rw [hE]
    rfl
  rw [hW]
  by_cases h7 : l ≤ 7
  · rcases (show l = 1 ∨ l = 2 ∨ l = 3 ∨ l = 4 ∨ l = 5 ∨ l = 6 ∨ l = 7 by omega) with rfl | rfl | rfl | rfl | rfl | rfl | rfl
    · have e : wv tx 1 f 0 = ((0) * 32 + tx (f + 0) - 96) := rfl
      have b0 := h2 0 (by omega)
      rw [wv_eq (by omega) (by rw [e]; omega) (by omega), e]
      constructor
      · intro q; exfalso; omega
      · intro q; exfalso; omega
    · have e : wv tx 2 f 0 = ((((0) * 32 + tx (f + 0) - 96)) * 32 + tx (f + 1) - 96) := rfl
      have b0 := h2 0 (by omega)
      have b1 := h2 1 (by omega)
      rw [wv_eq (by omega) (by rw [e]; omega) (by omega), e]
      constructor
      · intro q; exfalso; omega
      · intro q; exfalso; omega
    · have e : wv tx 3 f 0 = ((((((0) * 32 + tx (f + 0) - 96)) * 32 + tx (f + 1) - 96)) * 32 + tx (f + 2) - 96) := rfl
      have b0 := h2 0 (by omega)
      have b1 := h2 1 (by omega)
      have b2 := h2 2 (by omega)
      rw [wv_eq (by omega) (by rw [e]; omega) (by omega), e]
      constructor
      · intro q; exfalso; omega
      · intro q; exfalso; omega
    · have e : wv tx 4 f 0 = ((((((((0) * 32 + tx (f + 0) - 96)) * 32 + tx (f + 1) - 96)) * 32 + tx (f + 2) - 96)) * 32 + tx (f + 3) - 96) := rfl
      have b0 := h2 0 (by omega)
      have b1 := h2 1 (by omega)
      have b2 := h2 2 (by omega)
      have b3 := h2 3 (by omega)
      rw [wv_eq (by omega) (by rw [e]; omega) (by omega), e]
      constructor
      · intro q; exfalso; omega
      · intro q; exfalso; omega
    · have e : wv tx 5 f 0 = ((((((((((0) * 32 + tx (f + 0) - 96)) * 32 + tx (f + 1) - 96)) * 32 + tx (f + 2) - 96)) * 32 + tx (f + 3) - 96)) * 32 + tx (f + 4) - 96) := rfl
      have b0 := h2 0 (by omega)
      have b1 := h2 1 (by omega)
      have b2 := h2 2 (by omega)
      have b3 := h2 3 (by omega)
      have b4 := h2 4 (by omega)
      rw [wv_eq (by omega) (by rw [e]; omega) (by omega), e]
      constructor
      · intro q; exfalso; omega
      · intro q; exfalso; omega
    · have e : wv tx 6 f 0 = ((((((((((((0) * 32 + tx (f + 0) - 96)) * 32 + tx (f + 1) - 96)) * 32 + tx (f + 2) - 96)) * 32 + tx (f + 3) - 96)) * 32 + tx (f + 4) - 96)) * 32 + tx (f + 5) - 96) := rfl
      have b0 := h2 0 (by omega)
      have b1 := h2 1 (by omega)
      have b2 := h2 2 (by omega)
      have b3 := h2 3 (by omega)
      have b4 := h2 4 (by omega)
      have b5 := h2 5 (by omega)
      rw [wv_eq (by omega) (by rw [e]; omega) (by omega), e]
      constructor
      · intro q
        refine ⟨rfl, fun k hk => ?_⟩
        rcases (show k = 0 ∨ k = 1 ∨ k = 2 ∨ k = 3 ∨ k = 4 ∨ k = 5 by omega) with rfl | rfl | rfl | rfl | rfl | rfl
        · show tx (f + 0) = 118; omega
        · show tx (f + 1) = 97; omega
        · show tx (f + 2) = 108; omega
        · show tx (f + 3) = 108; omega
        · show tx (f + 4) = 101; omega
        · show tx (f + 5) = 121; omega
      · intro q
        have a0 : tx (f + 0) = 118 := q.2 0 (by omega)
        have a1 : tx (f + 1) = 97 := q.2 1 (by omega)
        have a2 : tx (f + 2) = 108 := q.2 2 (by omega)
        have a3 : tx (f + 3) = 108 := q.2 3 (by omega)
        have a4 : tx (f + 4) = 101 := q.2 4 (by omega)
        have a5 : tx (f + 5) = 121 := q.2 5 (by omega)
        omega
    · have e : wv tx 7 f 0 = ((((((((((((((0) * 32 + tx (f + 0) - 96)) * 32 + tx (f + 1) - 96)) * 32 + tx (f + 2) - 96)) * 32 + tx (f + 3) - 96)) * 32 + tx (f + 4) - 96)) * 32 + tx (f + 5) - 96)) * 32 + tx (f + 6) - 96) := rfl
      have b0 := h2 0 (by omega)
      have b1 := h2 1 (by omega)
      have b2 := h2 2 (by omega)
      have b3 := h2 3 (by omega)
      have b4 := h2 4 (by omega)
      have b5 := h2 5 (by omega)
      have b6 := h2 6 (by omega)
      rw [wv_eq (by omega) (by rw [e]; omega) (by omega), e]
      constructor
      · intro q; exfalso; omega
      · intro q; exfalso; omega
  · constructor
    · intro q; exact absurd q (wdL_big h7 (by omega))
    · intro q; exfalso; omega
theorem wd_1 {tx : Nat → Nat} {tl f : Nat} (h : tkK tx tl f = 1) (hl : f ≤ tl) : wdL tx (tkE tx tl f - f) f = lN 132528 ↔ isW tx tl f 1 := by
  obtain ⟨h1, h2⟩ := tkW h hl
  generalize hE : tkE tx tl f - f = l at h1 h2
  have hW : isW tx tl f 1 ↔ l = 4 ∧ ∀ k, k < 4 → tx (f + k) = chS 1 k := by
    unfold isW
    rw [hE]
    rfl
  rw [hW]
  by_cases h7 : l ≤ 7
  · rcases (show l = 1 ∨ l = 2 ∨ l = 3 ∨ l = 4 ∨ l = 5 ∨ l = 6 ∨ l = 7 by omega) with rfl | rfl | rfl | rfl | rfl | rfl | rfl
    · have e : wv tx 1 f 0 = ((0) * 32 + tx (f + 0) - 96) := rfl
      have b0 := h2 0 (by omega)
      rw [wv_eq (by omega) (by rw [e]; omega) (by omega), e]
      constructor
      · intro q; exfalso; omega
      · intro q; exfalso; omega
    · have e : wv tx 2 f 0 = ((((0) * 32 + tx (f + 0) - 96)) * 32 + tx (f + 1) - 96) := rfl
      have b0 := h2 0 (by omega)
      have b1 := h2 1 (by omega)
      rw [wv_eq (by omega) (by rw [e]; omega) (by omega), e]
      constructor
      · intro q; exfalso; omega
      · intro q; exfalso; omega
    · have e : wv tx 3 f 0 = ((((((0) * 32 + tx (f + 0) - 96)) * 32 + tx (f + 1) - 96)) * 32 + tx (f + 2) - 96) := rfl
      have b0 := h2 0 (by omega)
      have b1 := h2 1 (by omega)
      have b2 := h2 2 (by omega)
      rw [wv_eq (by omega) (by rw [e]; omega) (by omega), e]
      constructor
      · intro q; exfalso; omega
      · intro q; exfalso; omega
    · have e : wv tx 4 f 0 = ((((((((0) * 32 + tx (f + 0) - 96)) * 32 + tx (f + 1) - 96)) * 32 + tx (f + 2) - 96)) * 32 + tx (f + 3) - 96) := rfl
      have b0 := h2 0 (by omega)
      have b1 := h2 1 (by omega)
      have b2 := h2 2 (by omega)
      have b3 := h2 3 (by omega)
      rw [wv_eq (by omega) (by rw [e]; omega) (by omega), e]
      constructor
      · intro q
        refine ⟨rfl, fun k hk => ?_⟩
        rcases (show k = 0 ∨ k = 1 ∨ k = 2 ∨ k = 3 by omega) with rfl | rfl | rfl | rfl
        · show tx (f + 0) = 100; omega
        · show tx (f + 1) = 97; omega
        · show tx (f + 2) = 109; omega
        · show tx (f + 3) = 112; omega
      · intro q
        have a0 : tx (f + 0) = 100 := q.2 0 (by omega)
        have a1 : tx (f + 1) = 97 := q.2 1 (by omega)
        have a2 : tx (f + 2) = 109 := q.2 2 (by omega)
        have a3 : tx (f + 3) = 112 := q.2 3 (by omega)
        omega
    · have e : wv tx 5 f 0 = ((((((((((0) * 32 + tx (f + 0) - 96)) * 32 + tx (f + 1) - 96)) * 32 + tx (f + 2) - 96)) * 32 + tx (f + 3) - 96)) * 32 + tx (f + 4) - 96) := rfl
      have b0 := h2 0 (by omega)
      have b1 := h2 1 (by omega)
      have b2 := h2 2 (by omega)
      have b3 := h2 3 (by omega)
      have b4 := h2 4 (by omega)
      rw [wv_eq (by omega) (by rw [e]; omega) (by omega), e]
      constructor
      · intro q; exfalso; omega
      · intro q; exfalso; omega
    · have e : wv tx 6 f 0 = ((((((((((((0) * 32 + tx (f + 0) - 96)) * 32 + tx (f + 1) - 96)) * 32 + tx (f + 2) - 96)) * 32 + tx (f + 3) - 96)) * 32 + tx (f + 4) - 96)) * 32 + tx (f + 5) - 96) := rfl
      have b0 := h2 0 (by omega)
      have b1 := h2 1 (by omega)
      have b2 := h2 2 (by omega)
      have b3 := h2 3 (by omega)
      have b4 := h2 4 (by omega)
      have b5 := h2 5 (by omega)
      rw [wv_eq (by omega) (by rw [e]; omega) (by omega), e]
      constructor
      · intro q; exfalso; omega
      · intro q; exfalso; omega
    · have e : wv tx 7 f 0 = ((((((((((((((0) * 32 + tx (f + 0) - 96)) * 32 + tx (f + 1) - 96)) * 32 + tx (f + 2) - 96)) * 32 + tx (f + 3) - 96)) * 32 + tx (f + 4) - 96)) * 32 + tx (f + 5) - 96)) * 32 + tx (f + 6) - 96) := rfl
      have b0 := h2 0 (by omega)
      have b1 := h2 1 (by omega)
      have b2 := h2 2 (by omega)
      have b3 := h2 3 (by omega)
      have b4 := h2 4 (by omega)
      have b5 := h2 5 (by omega)
      have b6 := h2 6 (by omega)
      rw [wv_eq (by omega) (by rw [e]; omega) (by omega), e]
      constructor
      · intro q; exfalso; omega
      · intro q; exfalso; omega
  · constructor
    · intro q; exact absurd q (wdL_big h7 (by omega))
    · intro q; exfalso; omega
theorem wd_2 {tx : Nat → Nat} {tl f : Nat} (h : tkK tx tl f = 1) (hl : f ≤ tl) : wdL tx (tkE tx tl f - f) f = lN 4697 ↔ isW tx tl f 2 := by
  obtain ⟨h1, h2⟩ := tkW h hl
  generalize hE : tkE tx tl f - f = l at h1 h2
  have hW : isW tx tl f 2 ↔ l = 3 ∧ ∀ k, k < 3 → tx (f + k) = chS 2 k := by
    unfold isW
    rw [hE]
    rfl
  rw [hW]
  by_cases h7 : l ≤ 7
  · rcases (show l = 1 ∨ l = 2 ∨ l = 3 ∨ l = 4 ∨ l = 5 ∨ l = 6 ∨ l = 7 by omega) with rfl | rfl | rfl | rfl | rfl | rfl | rfl
    · have e : wv tx 1 f 0 = ((0) * 32 + tx (f + 0) - 96) := rfl
      have b0 := h2 0 (by omega)
      rw [wv_eq (by omega) (by rw [e]; omega) (by omega), e]
      constructor
      · intro q; exfalso; omega
      · intro q; exfalso; omega
    · have e : wv tx 2 f 0 = ((((0) * 32 + tx (f + 0) - 96)) * 32 + tx (f + 1) - 96) := rfl
      have b0 := h2 0 (by omega)
      have b1 := h2 1 (by omega)
      rw [wv_eq (by omega) (by rw [e]; omega) (by omega), e]
      constructor
      · intro q; exfalso; omega
      · intro q; exfalso; omega
    · have e : wv tx 3 f 0 = ((((((0) * 32 + tx (f + 0) - 96)) * 32 + tx (f + 1) - 96)) * 32 + tx (f + 2) - 96) := rfl
      have b0 := h2 0 (by omega)
      have b1 := h2 1 (by omega)
      have b2 := h2 2 (by omega)
      rw [wv_eq (by omega) (by rw [e]; omega) (by omega), e]
      constructor
      · intro q
        refine ⟨rfl, fun k hk => ?_⟩
        rcases (show k = 0 ∨ k = 1 ∨ k = 2 by omega) with rfl | rfl | rfl
        · show tx (f + 0) = 100; omega
        · show tx (f + 1) = 114; omega
        · show tx (f + 2) = 121; omega
      · intro q
        have a0 : tx (f + 0) = 100 := q.2 0 (by omega)
        have a1 : tx (f + 1) = 114 := q.2 1 (by omega)
        have a2 : tx (f + 2) = 121 := q.2 2 (by omega)
        omega
    · have e : wv tx 4 f 0 = ((((((((0) * 32 + tx (f + 0) - 96)) * 32 + tx (f + 1) - 96)) * 32 + tx (f + 2) - 96)) * 32 + tx (f + 3) - 96) := rfl
      have b0 := h2 0 (by omega)
      have b1 := h2 1 (by omega)
      have b2 := h2 2 (by omega)
      have b3 := h2 3 (by omega)
      rw [wv_eq (by omega) (by rw [e]; omega) (by omega), e]
      constructor
      · intro q; exfalso; omega
      · intro q; exfalso; omega
    · have e : wv tx 5 f 0 = ((((((((((0) * 32 + tx (f + 0) - 96)) * 32 + tx (f + 1) - 96)) * 32 + tx (f + 2) - 96)) * 32 + tx (f + 3) - 96)) * 32 + tx (f + 4) - 96) := rfl
      have b0 := h2 0 (by omega)
      have b1 := h2 1 (by omega)
      have b2 := h2 2 (by omega)
      have b3 := h2 3 (by omega)
      have b4 := h2 4 (by omega)
      rw [wv_eq (by omega) (by rw [e]; omega) (by omega), e]
      constructor
      · intro q; exfalso; omega
      · intro q; exfalso; omega
    · have e : wv tx 6 f 0 = ((((((((((((0) * 32 + tx (f + 0) - 96)) * 32 + tx (f + 1) - 96)) * 32 + tx (f + 2) - 96)) * 32 + tx (f + 3) - 96)) * 32 + tx (f + 4) - 96)) * 32 + tx (f + 5) - 96) := rfl
      have b0 := h2 0 (by omega)
      have b1 := h2 1 (by omega)
      have b2 := h2 2 (by omega)
      have b3 := h2 3 (by omega)
      have b4 := h2 4 (by omega)
      have b5 := h2 5 (by omega)
      rw [wv_eq (by omega) (by rw [e]; omega) (by omega), e]
      constructor
      · intro q; exfalso; omega
      · intro q; exfalso; omega
    · have e : wv tx 7 f 0 = ((((((((((((((0) * 32 + tx (f + 0) - 96)) * 32 + tx (f + 1) - 96)) * 32 + tx (f + 2) - 96)) * 32 + tx (f + 3) - 96)) * 32 + tx (f + 4) - 96)) * 32 + tx (f + 5) - 96)) * 32 + tx (f + 6) - 96) := rfl
      have b0 := h2 0 (by omega)
      have b1 := h2 1 (by omega)
      have b2 := h2 2 (by omega)
      have b3 := h2 3 (by omega)
      have b4 := h2 4 (by omega)
      have b5 := h2 5 (by omega)
      have b6 := h2 6 (by omega)
      rw [wv_eq (by omega) (by rw [e]; omega) (by omega), e]
      constructor
      · intro q; exfalso; omega
      · intro q; exfalso; omega
  · constructor
    · intro q; exact absurd q (wdL_big h7 (by omega))
    · intro q; exfalso; omega
theorem wd_3 {tx : Nat → Nat} {tl f : Nat} (h : tkK tx tl f = 1) (hl : f ≤ tl) : wdL tx (tkE tx tl f - f) f = lN 525618 ↔ isW tx tl f 3 := by
  obtain ⟨h1, h2⟩ := tkW h hl
  generalize hE : tkE tx tl f - f = l at h1 h2
  have hW : isW tx tl f 3 ↔ l = 4 ∧ ∀ k, k < 4 → tx (f + k) = chS 3 k := by
    unfold isW
    rw [hE]
    rfl
  rw [hW]
  by_cases h7 : l ≤ 7
  · rcases (show l = 1 ∨ l = 2 ∨ l = 3 ∨ l = 4 ∨ l = 5 ∨ l = 6 ∨ l = 7 by omega) with rfl | rfl | rfl | rfl | rfl | rfl | rfl
    · have e : wv tx 1 f 0 = ((0) * 32 + tx (f + 0) - 96) := rfl
      have b0 := h2 0 (by omega)
      rw [wv_eq (by omega) (by rw [e]; omega) (by omega), e]
      constructor
      · intro q; exfalso; omega
      · intro q; exfalso; omega
    · have e : wv tx 2 f 0 = ((((0) * 32 + tx (f + 0) - 96)) * 32 + tx (f + 1) - 96) := rfl
      have b0 := h2 0 (by omega)
      have b1 := h2 1 (by omega)
      rw [wv_eq (by omega) (by rw [e]; omega) (by omega), e]
      constructor
      · intro q; exfalso; omega
      · intro q; exfalso; omega
    · have e : wv tx 3 f 0 = ((((((0) * 32 + tx (f + 0) - 96)) * 32 + tx (f + 1) - 96)) * 32 + tx (f + 2) - 96) := rfl
      have b0 := h2 0 (by omega)
      have b1 := h2 1 (by omega)
      have b2 := h2 2 (by omega)
      rw [wv_eq (by omega) (by rw [e]; omega) (by omega), e]
      constructor
      · intro q; exfalso; omega
      · intro q; exfalso; omega
    · have e : wv tx 4 f 0 = ((((((((0) * 32 + tx (f + 0) - 96)) * 32 + tx (f + 1) - 96)) * 32 + tx (f + 2) - 96)) * 32 + tx (f + 3) - 96) := rfl
      have b0 := h2 0 (by omega)
      have b1 := h2 1 (by omega)
      have b2 := h2 2 (by omega)
      have b3 := h2 3 (by omega)
      rw [wv_eq (by omega) (by rw [e]; omega) (by omega), e]
      constructor
      · intro q
        refine ⟨rfl, fun k hk => ?_⟩
        rcases (show k = 0 ∨ k = 1 ∨ k = 2 ∨ k = 3 by omega) with rfl | rfl | rfl | rfl
        · show tx (f + 0) = 112; omega
        · show tx (f + 1) = 97; omega
        · show tx (f + 2) = 105; omega
        · show tx (f + 3) = 114; omega
      · intro q
        have a0 : tx (f + 0) = 112 := q.2 0 (by omega)
        have a1 : tx (f + 1) = 97 := q.2 1 (by omega)
        have a2 : tx (f + 2) = 105 := q.2 2 (by omega)
        have a3 : tx (f + 3) = 114 := q.2 3 (by omega)
        omega
    · have e : wv tx 5 f 0 = ((((((((((0) * 32 + tx (f + 0) - 96)) * 32 + tx (f + 1) - 96)) * 32 + tx (f + 2) - 96)) * 32 + tx (f + 3) - 96)) * 32 + tx (f + 4) - 96) := rfl
      have b0 := h2 0 (by omega)
      have b1 := h2 1 (by omega)
      have b2 := h2 2 (by omega)
      have b3 := h2 3 (by omega)
      have b4 := h2 4 (by omega)
      rw [wv_eq (by omega) (by rw [e]; omega) (by omega), e]
      constructor
      · intro q; exfalso; omega
      · intro q; exfalso; omega
    · have e : wv tx 6 f 0 = ((((((((((((0) * 32 + tx (f + 0) - 96)) * 32 + tx (f + 1) - 96)) * 32 + tx (f + 2) - 96)) * 32 + tx (f + 3) - 96)) * 32 + tx (f + 4) - 96)) * 32 + tx (f + 5) - 96) := rfl
      have b0 := h2 0 (by omega)
      have b1 := h2 1 (by omega)
      have b2 := h2 2 (by omega)
      have b3 := h2 3 (by omega)
      have b4 := h2 4 (by omega)
      have b5 := h2 5 (by omega)
      rw [wv_eq (by omega) (by rw [e]; omega) (by omega), e]
      constructor
      · intro q; exfalso; omega
      · intro q; exfalso; omega
    · have e : wv tx 7 f 0 = ((((((((((((((0) * 32 + tx (f + 0) - 96)) * 32 + tx (f + 1) - 96)) * 32 + tx (f + 2) - 96)) * 32 + tx (f + 3) - 96)) * 32 + tx (f + 4) - 96)) * 32 + tx (f + 5) - 96)) * 32 + tx (f + 6) - 96) := rfl
      have b0 := h2 0 (by omega)
      have b1 := h2 1 (by omega)
      have b2 := h2 2 (by omega)
      have b3 := h2 3 (by omega)
      have b4 := h2 4 (by omega)
      have b5 := h2 5 (by omega)
      have b6 := h2 6 (by omega)
      rw [wv_eq (by omega) (by rw [e]; omega) (by omega), e]
      constructor
      · intro q; exfalso; omega
      · intro q; exfalso; omega
  · constructor
    · intro q; exact absurd q (wdL_big h7 (by omega))
    · intro q; exfalso; omega
theorem wd_4 {tx : Nat → Nat} {tl f : Nat} (h : tkK tx tl f = 1) (hl : f ≤ tl) : wdL tx (tkE tx tl f - f) f = lN 11566 ↔ isW tx tl f 4 := by
  obtain ⟨h1, h2⟩ := tkW h hl
  generalize hE : tkE tx tl f - f = l at h1 h2
  have hW : isW tx tl f 4 ↔ l = 3 ∧ ∀ k, k < 3 → tx (f + k) = chS 4 k := by
    unfold isW
    rw [hE]
    rfl
  rw [hW]
  by_cases h7 : l ≤ 7
  · rcases (show l = 1 ∨ l = 2 ∨ l = 3 ∨ l = 4 ∨ l = 5 ∨ l = 6 ∨ l = 7 by omega) with rfl | rfl | rfl | rfl | rfl | rfl | rfl
    · have e : wv tx 1 f 0 = ((0) * 32 + tx (f + 0) - 96) := rfl
      have b0 := h2 0 (by omega)
      rw [wv_eq (by omega) (by rw [e]; omega) (by omega), e]
      constructor
      · intro q; exfalso; omega
      · intro q; exfalso; omega
    · have e : wv tx 2 f 0 = ((((0) * 32 + tx (f + 0) - 96)) * 32 + tx (f + 1) - 96) := rfl
      have b0 := h2 0 (by omega)
      have b1 := h2 1 (by omega)
      rw [wv_eq (by omega) (by rw [e]; omega) (by omega), e]
      constructor
      · intro q; exfalso; omega
      · intro q; exfalso; omega
    · have e : wv tx 3 f 0 = ((((((0) * 32 + tx (f + 0) - 96)) * 32 + tx (f + 1) - 96)) * 32 + tx (f + 2) - 96) := rfl
      have b0 := h2 0 (by omega)
      have b1 := h2 1 (by omega)
      have b2 := h2 2 (by omega)
      rw [wv_eq (by omega) (by rw [e]; omega) (by omega), e]
      constructor
      · intro q
        refine ⟨rfl, fun k hk => ?_⟩
        rcases (show k = 0 ∨ k = 1 ∨ k = 2 by omega) with rfl | rfl | rfl
        · show tx (f + 0) = 107; omega
        · show tx (f + 1) = 105; omega
        · show tx (f + 2) = 110; omega
      · intro q
        have a0 : tx (f + 0) = 107 := q.2 0 (by omega)
        have a1 : tx (f + 1) = 105 := q.2 1 (by omega)
        have a2 : tx (f + 2) = 110 := q.2 2 (by omega)
        omega
    · have e : wv tx 4 f 0 = ((((((((0) * 32 + tx (f + 0) - 96)) * 32 + tx (f + 1) - 96)) * 32 + tx (f + 2) - 96)) * 32 + tx (f + 3) - 96) := rfl
      have b0 := h2 0 (by omega)
      have b1 := h2 1 (by omega)
      have b2 := h2 2 (by omega)
      have b3 := h2 3 (by omega)
      rw [wv_eq (by omega) (by rw [e]; omega) (by omega), e]
      constructor
      · intro q; exfalso; omega
      · intro q; exfalso; omega
    · have e : wv tx 5 f 0 = ((((((((((0) * 32 + tx (f + 0) - 96)) * 32 + tx (f + 1) - 96)) * 32 + tx (f + 2) - 96)) * 32 + tx (f + 3) - 96)) * 32 + tx (f + 4) - 96) := rfl
      have b0 := h2 0 (by omega)
      have b1 := h2 1 (by omega)
      have b2 := h2 2 (by omega)
      have b3 := h2 3 (by omega)
      have b4 := h2 4 (by omega)
      rw [wv_eq (by omega) (by rw [e]; omega) (by omega), e]
      constructor
      · intro q; exfalso; omega
      · intro q; exfalso; omega
    · have e : wv tx 6 f 0 = ((((((((((((0) * 32 + tx (f + 0) - 96)) * 32 + tx (f + 1) - 96)) * 32 + tx (f + 2) - 96)) * 32 + tx (f + 3) - 96)) * 32 + tx (f + 4) - 96)) * 32 + tx (f + 5) - 96) := rfl
      have b0 := h2 0 (by omega)
      have b1 := h2 1 (by omega)
      have b2 := h2 2 (by omega)
      have b3 := h2 3 (by omega)
      have b4 := h2 4 (by omega)
      have b5 := h2 5 (by omega)
      rw [wv_eq (by omega) (by rw [e]; omega) (by omega), e]
      constructor
      · intro q; exfalso; omega
      · intro q; exfalso; omega
    · have e : wv tx 7 f 0 = ((((((((((((((0) * 32 + tx (f + 0) - 96)) * 32 + tx (f + 1) - 96)) * 32 + tx (f + 2) - 96)) * 32 + tx (f + 3) - 96)) * 32 + tx (f + 4) - 96)) * 32 + tx (f + 5) - 96)) * 32 + tx (f + 6) - 96) := rfl
      have b0 := h2 0 (by omega)
      have b1 := h2 1 (by omega)
      have b2 := h2 2 (by omega)
      have b3 := h2 3 (by omega)
      have b4 := h2 4 (by omega)
      have b5 := h2 5 (by omega)
      have b6 := h2 6 (by omega)
      rw [wv_eq (by omega) (by rw [e]; omega) (by omega), e]
      constructor
      · intro q; exfalso; omega
      · intro q; exfalso; omega
  · constructor
    · intro q; exact absurd q (wdL_big h7 (by omega))
    · intro q; exfalso; omega
theorem mkT_le {k : Nat} (h : k ≤ 4) : mkT k ≤ 5 := by unfold mkT; split; omega; split <;> omega
theorem mkT_1 {k : Nat} (h : k ≤ 4) : mkT k = 1 ↔ k = 1 := by unfold mkT; split; omega; split <;> omega
theorem mkT_2 {k : Nat} (h : k ≤ 4) : mkT k = 2 ↔ k = 2 := by unfold mkT; split; omega; split <;> omega
theorem mkT_3 {k : Nat} (h : k ≤ 4) : mkT k = 3 ↔ k = 3 := by unfold mkT; split; omega; split <;> omega
theorem mkT_4 {k : Nat} (h : k ≤ 4) : mkT k = 4 ↔ k = 0 := by unfold mkT; split; omega; split <;> omega
set_option maxHeartbeats 4000000 in
set_option maxRecDepth 100000 in
theorem c_misNum {X : jX} {d n : Nat} {I : HI} {J : HJ} {i0 i1 : Option Nat} {Q : jPost} {tl f lo hi : Nat} {tx : Nat → Nat} (hT : TM I J tx tl f) (hlo : lo ≤ 99) (hhi : hi ≤ 99) (hQ1 : (tkK tx tl f = 2 ∧ lo ≤ tkN tx tl f ∧ tkN tx tl f ≤ hi) → Q (some (.int (nI 1))) n I J (Pg i0 i1)) (hQ0 : ¬ (tkK tx tl f = 2 ∧ lo ≤ tkN tx tl f ∧ tkN tx tl f ≤ hi) → Q (some (.int (nI 0))) n I J (Pg i0 i1)) : Cj X (d + 1) 0 0 mX10_isNumber [.ref 33, .int (nI lo), .int (nI hi)] n I J (Pg i0 i1) Q := by
  refine Cj.intro rfl (Nat.le_of_ble_eq_true rfl) (L := [.ref 33, .int (nI lo), .int (nI hi)]) rfl ?_
  have hk4 := tkK_le tx tl f
  have hm2 := mkT_2 hk4
  have hm5 := mkT_le hk4
  refine j_aload_n dX10_isNumber_0 rfl rfl rfl ?_
  refine j_getIv (v := nI (mkT (tkK tx tl f))) dX10_isNumber_1 rfl fX10_79 rfl (by decide) rfl hT.1.2.2 ?_
  refine j_iconst (v := nI 2) dX10_isNumber_4 rfl rfl ?_
  refine j_icmpneN (tgt := 24) dX10_isNumber_5 rfl rfl (by omega) (by decide) (fun h1 => ?_) (fun h1 => ?_)
  · refine j_iconst (v := nI 0) dX10_isNumber_24 rfl rfl ?_
    refine j_iret dX10_isNumber_25 rfl rfl ?_
    exact hQ0 (by omega)
  · have hk2 : tkK tx tl f = 2 := by omega
    have hn := tkN_le hk2
    refine j_aload_n dX10_isNumber_8 rfl rfl rfl ?_
    refine j_getIv (v := nI (tkN tx tl f)) dX10_isNumber_9 rfl fX10_91 rfl (by decide) rfl (hT.2.1 hk2) ?_
    refine j_iload_n dX10_isNumber_12 rfl rfl rfl ?_
    refine j_iload_n dX10_isNumber_13 rfl rfl rfl ?_
    refine j_callSw (As := [.int (nI (tkN tx tl f)), .int (nI lo), .int (nI hi)]) dX10_isNumber_14 rfl cX10_50 rfl (by decide) rfl rfl (c_min (fun i2 => ?_) (fun i2 => ?_))
    · rw [inR_N (by omega) (by omega) (by omega)] at i2
      show Rj _ _ _ _ _ _ 17 [.ref 33, .int (nI lo), .int (nI hi)] [.int (nI 1)] n I J (Pg i0 i1)
      refine j_ifeqN (tgt := 24) dX10_isNumber_17 rfl rfl (by decide) (fun h3 => by exfalso; omega) (fun h3 => ?_)
      refine j_iconst (v := nI 1) dX10_isNumber_20 rfl rfl ?_
      refine j_goto (tgt := 25) dX10_isNumber_21 rfl ?_
      refine j_iret dX10_isNumber_25 rfl rfl ?_
      exact hQ1 (by omega)
    · rw [inR_N (by omega) (by omega) (by omega)] at i2
      show Rj _ _ _ _ _ _ 17 [.ref 33, .int (nI lo), .int (nI hi)] [.int (nI 0)] n I J (Pg i0 i1)
      refine j_ifeqN (tgt := 24) dX10_isNumber_17 rfl rfl (by decide) (fun h4 => ?_) (fun h4 => by exfalso; omega)
      refine j_iconst (v := nI 0) dX10_isNumber_24 rfl rfl ?_
      refine j_iret dX10_isNumber_25 rfl rfl ?_
      exact hQ0 (by omega)
set_option maxHeartbeats 4000000 in
set_option maxRecDepth 100000 in
theorem c_misEnd {X : jX} {d n : Nat} {I : HI} {J : HJ} {i0 i1 : Option Nat} {Q : jPost} {tl f : Nat} {tx : Nat → Nat} (hR : MR I tl tx) (hT : TM I J tx tl f) (hQ1 : tkK tx tl (nx tx tl f) = 3 → ∀ I' J', TM I' J' tx tl (nx tx tl f) → Ftk I J I' J' → Q (some (.int (nI 1))) n I' J' (Pg i0 i1)) (hQ0 : ¬ tkK tx tl (nx tx tl f) = 3 → ∀ I' J', TM I' J' tx tl (nx tx tl f) → Ftk I J I' J' → Q (some (.int (nI 0))) n I' J' (Pg i0 i1)) : Cj X (d + 2) 0 0 mX10_isEnd [.ref 33] n I J (Pg i0 i1) Q := by
  refine Cj.intro rfl (Nat.le_of_ble_eq_true rfl) (L := [.ref 33]) rfl ?_
  have hk4 := tkK_le tx tl (nx tx tl f)
  have hm3 := mkT_3 hk4
  have hm5 := mkT_le hk4
  refine j_aload_n dX10_isEnd_0 rfl rfl rfl ?_
  refine j_callVw (As := []) dX10_isEnd_1 rfl cX10_94 (by decide) rfl rfl (by decide) rfl (by decide) rfl rfl (c_mtok (b := tkE tx tl f) hR hT.1.1 (tkE_le hT.2.2.2).2.1 (fun I1 J1 hT1 hF1 => ?_))
  have hT1 : TM I1 J1 tx tl (nx tx tl f) := hT1
  show Rj _ _ _ _ _ _ 4 [.ref 33] [] n I1 J1 (Pg i0 i1)
  refine j_aload_n dX10_isEnd_4 rfl rfl rfl ?_
  refine j_getIv (v := nI (mkT (tkK tx tl (nx tx tl f)))) dX10_isEnd_5 rfl fX10_79 rfl (by decide) rfl hT1.1.2.2 ?_
  refine j_iconst (v := nI 3) dX10_isEnd_8 rfl rfl ?_
  refine j_icmpneN (tgt := 16) dX10_isEnd_9 rfl rfl (by omega) (by decide) (fun h1 => ?_) (fun h1 => ?_)
  · refine j_iconst (v := nI 0) dX10_isEnd_16 rfl rfl ?_
    refine j_iret dX10_isEnd_17 rfl rfl ?_
    exact hQ0 (by omega) _ _ hT1 hF1
  · refine j_iconst (v := nI 1) dX10_isEnd_12 rfl rfl ?_
    refine j_goto (tgt := 17) dX10_isEnd_13 rfl ?_
    refine j_iret dX10_isEnd_17 rfl rfl ?_
    exact hQ1 (by omega) _ _ hT1 hF1
