set_option maxHeartbeats 4000000 in
set_option maxRecDepth 100000 in
theorem c_misP {X : jX} {d n : Nat} {I : HI} {J : HJ} {i0 i1 : Option Nat} {Q : jPost} {v : VT} {a : Int32} (hM : VM 34 0 I v) (h6 : v 0 3 ≤ 6) (hQ1 : hasP a (v 0 3) → Q (some (.int (nI 1))) n I J (Pg i0 i1)) (hQ0 : ¬ hasP a (v 0 3) → Q (some (.int (nI 0))) n I J (Pg i0 i1)) : Cj X (d + 1) 0 0 mX10_isPair [.ref 33, .int a] n I J (Pg i0 i1) Q := by
  refine Cj.intro rfl (Nat.le_of_ble_eq_true rfl) (L := [.ref 33, .int a]) rfl ?_
  refine j_iload_n dX10_isPair_0 rfl rfl rfl ?_
  refine j_iconst (v := nI 0) dX10_isPair_1 rfl rfl ?_
  refine j_aload_n dX10_isPair_2 rfl rfl rfl ?_
  refine j_getP (b := 34) dX10_isPair_3 rfl fX10_7 rfl (by decide) rfl rfl ?_
  refine j_iconst (v := nI 0) dX10_isPair_6 rfl rfl ?_
  refine j_iald (j := 0) (v := nI (v 0 3)) dX10_isPair_7 rfl rfl (by decide) rfl (by decide) (by decide) hM.mp ?_
  refine j_iconst (v := nI 1) dX10_isPair_8 rfl rfl ?_
  refine j_isub dX10_isPair_9 rfl ?_
  refine j_callSw (As := [.int a, .int (nI 0), .int ((nI (v 0 3)) - (nI 1))]) dX10_isPair_10 rfl cX10_50 rfl (by decide) rfl rfl (c_min (fun hr => ?_) (fun hr => ?_))
  · show Rj _ _ _ _ _ _ 13 [.ref 33, .int a] [.int (nI 1)] n I J (Pg i0 i1)
    refine j_iret dX10_isPair_13 rfl rfl ?_
    exact hQ1 (by first | exact (inR_hasP h6).mp hr | exact fun q => hr ((inR_hasP h6).mpr q))
  · show Rj _ _ _ _ _ _ 13 [.ref 33, .int a] [.int (nI 0)] n I J (Pg i0 i1)
    refine j_iret dX10_isPair_13 rfl rfl ?_
    exact hQ0 (by first | exact (inR_hasP h6).mp hr | exact fun q => hr ((inR_hasP h6).mpr q))
set_option maxHeartbeats 4000000 in
set_option maxRecDepth 100000 in
theorem c_mgoes {X : jX} {d n : Nat} {I : HI} {J : HJ} {i0 i1 : Option Nat} {Q : jPost} {v : VT} {k y dr : Nat} (hM : VM 34 0 I v) (hk : k ≤ 5) (hy : y < 2 ^ 30) (hda : v 0 1 ≤ 4095) (hdr : dr ≤ 4095) (hQ : Q (some (.int (nI (gos k y (v 0 1) dr)))) n I J (Pg i0 i1)) : Cj X (d + 1) 0 0 mX10_goes [.ref 33, .int (nI k), .int (nI y), .int (nI dr)] n I J (Pg i0 i1) Q := by
  refine Cj.intro rfl (Nat.le_of_ble_eq_true rfl) (L := [.ref 33, .int (nI k), .int (nI y), .int (nI dr), jU, jU, jU]) rfl ?_
  refine j_iload_n dX10_goes_0 rfl rfl rfl ?_
  refine j_iload_n dX10_goes_1 rfl rfl rfl ?_
  refine j_bipush (v := nI 12) dX10_goes_2 rfl rfl ?_
  refine j_iremN (c := y % 12) dX10_goes_4 rfl (by omega) (by decide) (by decide) rfl ?_
  refine j_callSw (As := [.int (nI dr), .int (nI (y % 12))]) dX10_goes_5 rfl cX10_123 rfl (by decide) rfl rfl (c_mhas (by omega) (by omega) (fun g1 => ?_) (fun g1 => ?_))
  · show Rj _ _ _ _ _ _ 8 [.ref 33, .int (nI k), .int (nI y), .int (nI dr), jU, jU, jU] [.int (nI 1)] n I J (Pg i0 i1)
    refine j_ifeqN (tgt := 15) dX10_goes_8 rfl rfl (by decide) (fun h2 => by exfalso; omega) (fun h2 => ?_)
    refine j_iconst (v := nI 2) dX10_goes_11 rfl rfl ?_
    refine j_goto (tgt := 16) dX10_goes_12 rfl ?_
    refine j_istore (L' := [.ref 33, .int (nI k), .int (nI y), .int (nI dr), .int (nI 2), jU, jU]) dX10_goes_16 rfl rfl (by decide) rfl ?_
    refine j_iload_n dX10_goes_18 rfl rfl rfl ?_
    refine j_iconst (v := nI 5) dX10_goes_19 rfl rfl ?_
    refine j_iremN (c := y % 5) dX10_goes_20 rfl (by omega) (by decide) (by decide) rfl ?_
    refine j_iconst (v := nI 4) dX10_goes_21 rfl rfl ?_
    refine j_icmpneN (tgt := 29) dX10_goes_22 rfl rfl (by omega) (by decide) (fun h3 => ?_) (fun h3 => ?_)
    · refine j_iconst (v := nI 0) dX10_goes_29 rfl rfl ?_
      refine j_istore (L' := [.ref 33, .int (nI k), .int (nI y), .int (nI dr), .int (nI 2), .int (nI 0), jU]) dX10_goes_30 rfl rfl (by decide) rfl ?_
      refine j_iload_n dX10_goes_32 rfl rfl rfl ?_
      refine j_iconst (v := nI 2) dX10_goes_33 rfl rfl ?_
      refine j_iremN (c := y % 2) dX10_goes_34 rfl (by omega) (by decide) (by decide) rfl ?_
      refine j_ifneN (tgt := 43) dX10_goes_35 rfl rfl (by omega) (fun h4 => ?_) (fun h4 => ?_)
      · refine j_iconst (v := nI 0) dX10_goes_43 rfl rfl ?_
        refine j_istore (L' := [.ref 33, .int (nI k), .int (nI y), .int (nI dr), .int (nI 2), .int (nI 0), .int (nI 0)]) dX10_goes_44 rfl rfl (by decide) rfl ?_
        refine j_iload_n dX10_goes_46 rfl rfl rfl ?_
        rcases (show k = 0 ∨ k = 1 ∨ k = 2 ∨ k = 3 ∨ k = 4 ∨ k = 5 by omega) with rfl | rfl | rfl | rfl | rfl | rfl
        · refine j_tabD (a := 0) (tgt := 154) dX10_goes_47 (by decide) (by decide) rfl ?_
          refine j_iload dX10_goes_154 rfl rfl ?_
          refine j_iret dX10_goes_156 rfl rfl ?_
          have e : gos 0 y (v 0 1) dr = 2 := by simp only [gos, gPl, gRi, gQu]; simp [*]
          rw [e] at hQ
          exact hQ
        · refine j_tabN (a := 1) (k := 1) (off := 33) (tgt := 80) dX10_goes_47 (by decide) rfl (by decide) (by decide) rfl rfl ?_
          refine j_iload dX10_goes_80 rfl rfl ?_
          refine j_iret dX10_goes_82 rfl rfl ?_
          have e : gos 1 y (v 0 1) dr = 0 := by simp only [gos, gPl, gRi, gQu]; simp [*]
          rw [e] at hQ
          exact hQ
        · refine j_tabN (a := 2) (k := 1) (off := 36) (tgt := 83) dX10_goes_47 (by decide) rfl (by decide) (by decide) rfl rfl ?_
          refine j_iload dX10_goes_83 rfl rfl ?_
          refine j_iload dX10_goes_85 rfl rfl ?_
          refine j_iaddN (c := 2) dX10_goes_87 rfl rfl ?_
          refine j_iret dX10_goes_88 rfl rfl ?_
          have e : gos 2 y (v 0 1) dr = 2 := by simp only [gos, gPl, gRi, gQu]; simp [*]
          rw [e] at hQ
          exact hQ
        · refine j_tabN (a := 3) (k := 1) (off := 42) (tgt := 89) dX10_goes_47 (by decide) rfl (by decide) (by decide) rfl rfl ?_
          refine j_aload_n dX10_goes_89 rfl rfl rfl ?_
          refine j_getP (b := 34) dX10_goes_90 rfl fX10_7 rfl (by decide) rfl rfl ?_
          refine j_iconst (v := nI 3) dX10_goes_93 rfl rfl ?_
          refine j_iald (j := 3) (v := nI (v 0 1)) dX10_goes_94 rfl rfl (by decide) rfl (by decide) (by decide) hM.ma ?_
          refine j_iload_n dX10_goes_95 rfl rfl rfl ?_
          refine j_bipush (v := nI 12) dX10_goes_96 rfl rfl ?_
          refine j_iremN (c := y % 12) dX10_goes_98 rfl (by omega) (by decide) (by decide) rfl ?_
          refine j_callSw (As := [.int (nI (v 0 1)), .int (nI (y % 12))]) dX10_goes_99 rfl cX10_123 rfl (by decide) rfl rfl (c_mhas (by omega) (by omega) (fun g5 => ?_) (fun g5 => ?_))
          · show Rj _ _ _ _ _ _ 102 [.ref 33, .int (nI 3), .int (nI y), .int (nI dr), .int (nI 2), .int (nI 0), .int (nI 0)] [.int (nI 1)] n I J (Pg i0 i1)
            refine j_ifeqN (tgt := 112) dX10_goes_102 rfl rfl (by decide) (fun h6 => by exfalso; omega) (fun h6 => ?_)
            refine j_iconst (v := nI 2) dX10_goes_105 rfl rfl ?_
            refine j_iload dX10_goes_106 rfl rfl ?_
            refine j_imulN (c := 4) dX10_goes_108 rfl rfl ?_
            refine j_goto (tgt := 114) dX10_goes_109 rfl ?_
            refine j_iret dX10_goes_114 rfl rfl ?_
            have e : gos 3 y (v 0 1) dr = 4 := by simp only [gos, gPl, gRi, gQu]; simp [*]
            rw [e] at hQ
            exact hQ
          · show Rj _ _ _ _ _ _ 102 [.ref 33, .int (nI 3), .int (nI y), .int (nI dr), .int (nI 2), .int (nI 0), .int (nI 0)] [.int (nI 0)] n I J (Pg i0 i1)
            refine j_ifeqN (tgt := 112) dX10_goes_102 rfl rfl (by decide) (fun h7 => ?_) (fun h7 => by exfalso; omega)
            refine j_iload dX10_goes_112 rfl rfl ?_
            refine j_iret dX10_goes_114 rfl rfl ?_
            have e : gos 3 y (v 0 1) dr = 2 := by simp only [gos, gPl, gRi, gQu]; simp [*]
            rw [e] at hQ
            exact hQ
        · refine j_tabN (a := 4) (k := 1) (off := 68) (tgt := 115) dX10_goes_47 (by decide) rfl (by decide) (by decide) rfl rfl ?_
          refine j_iload dX10_goes_115 rfl rfl ?_
          refine j_iload dX10_goes_117 rfl rfl ?_
          refine j_iaddN (c := 2) dX10_goes_119 rfl rfl ?_
          refine j_iload_n dX10_goes_120 rfl rfl rfl ?_
          refine j_iconst (v := nI 3) dX10_goes_121 rfl rfl ?_
          refine j_iremN (c := y % 3) dX10_goes_122 rfl (by omega) (by decide) (by decide) rfl ?_
          refine j_iconst (v := nI 2) dX10_goes_123 rfl rfl ?_
          refine j_icmpneN (tgt := 131) dX10_goes_124 rfl rfl (by omega) (by decide) (fun h8 => ?_) (fun h8 => ?_)
          · refine j_iconst (v := nI 0) dX10_goes_131 rfl rfl ?_
            refine j_iaddN (c := 2) dX10_goes_132 rfl rfl ?_
            refine j_iret dX10_goes_133 rfl rfl ?_
            have e : gos 4 y (v 0 1) dr = 2 := by simp only [gos, gPl, gRi, gQu]; simp [*]
            rw [e] at hQ
            exact hQ
          · refine j_iconst (v := nI 1) dX10_goes_127 rfl rfl ?_
            refine j_goto (tgt := 132) dX10_goes_128 rfl ?_
            refine j_iaddN (c := 3) dX10_goes_132 rfl rfl ?_
            refine j_iret dX10_goes_133 rfl rfl ?_
            have e : gos 4 y (v 0 1) dr = 3 := by simp only [gos, gPl, gRi, gQu]; simp [*]
            rw [e] at hQ
            exact hQ
        · refine j_tabN (a := 5) (k := 1) (off := 87) (tgt := 134) dX10_goes_47 (by decide) rfl (by decide) (by decide) rfl rfl ?_
          refine j_iload dX10_goes_134 rfl rfl ?_
          refine j_ifgtN (tgt := 144) dX10_goes_136 rfl rfl (by decide) (fun h9 => by exfalso; omega) (fun h9 => ?_)
          refine j_iload dX10_goes_139 rfl rfl ?_
          refine j_ifneN (tgt := 149) dX10_goes_141 rfl rfl (by decide) (fun h10 => by exfalso; omega) (fun h10 => ?_)
          refine j_iload dX10_goes_144 rfl rfl ?_
          refine j_goto (tgt := 153) dX10_goes_146 rfl ?_
          refine j_iret dX10_goes_153 rfl rfl ?_
          have e : gos 5 y (v 0 1) dr = 0 := by simp only [gos, gPl, gRi, gQu]; simp [*]
          rw [e] at hQ
          exact hQ
      · refine j_iload dX10_goes_38 rfl rfl ?_
        refine j_goto (tgt := 44) dX10_goes_40 rfl ?_
        refine j_istore (L' := [.ref 33, .int (nI k), .int (nI y), .int (nI dr), .int (nI 2), .int (nI 0), .int (nI 2)]) dX10_goes_44 rfl rfl (by decide) rfl ?_
        refine j_iload_n dX10_goes_46 rfl rfl rfl ?_
        rcases (show k = 0 ∨ k = 1 ∨ k = 2 ∨ k = 3 ∨ k = 4 ∨ k = 5 by omega) with rfl | rfl | rfl | rfl | rfl | rfl
        · refine j_tabD (a := 0) (tgt := 154) dX10_goes_47 (by decide) (by decide) rfl ?_
          refine j_iload dX10_goes_154 rfl rfl ?_
          refine j_iret dX10_goes_156 rfl rfl ?_
          have e : gos 0 y (v 0 1) dr = 2 := by simp only [gos, gPl, gRi, gQu]; simp [*]
          rw [e] at hQ
          exact hQ
        · refine j_tabN (a := 1) (k := 1) (off := 33) (tgt := 80) dX10_goes_47 (by decide) rfl (by decide) (by decide) rfl rfl ?_
          refine j_iload dX10_goes_80 rfl rfl ?_
          refine j_iret dX10_goes_82 rfl rfl ?_
          have e : gos 1 y (v 0 1) dr = 2 := by simp only [gos, gPl, gRi, gQu]; simp [*]
          rw [e] at hQ
          exact hQ
        · refine j_tabN (a := 2) (k := 1) (off := 36) (tgt := 83) dX10_goes_47 (by decide) rfl (by decide) (by decide) rfl rfl ?_
          refine j_iload dX10_goes_83 rfl rfl ?_
          refine j_iload dX10_goes_85 rfl rfl ?_
          refine j_iaddN (c := 2) dX10_goes_87 rfl rfl ?_
          refine j_iret dX10_goes_88 rfl rfl ?_
          have e : gos 2 y (v 0 1) dr = 2 := by simp only [gos, gPl, gRi, gQu]; simp [*]
          rw [e] at hQ
          exact hQ
        · refine j_tabN (a := 3) (k := 1) (off := 42) (tgt := 89) dX10_goes_47 (by decide) rfl (by decide) (by decide) rfl rfl ?_
          refine j_aload_n dX10_goes_89 rfl rfl rfl ?_
          refine j_getP (b := 34) dX10_goes_90 rfl fX10_7 rfl (by decide) rfl rfl ?_
          refine j_iconst (v := nI 3) dX10_goes_93 rfl rfl ?_
          refine j_iald (j := 3) (v := nI (v 0 1)) dX10_goes_94 rfl rfl (by decide) rfl (by decide) (by decide) hM.ma ?_
          refine j_iload_n dX10_goes_95 rfl rfl rfl ?_
          refine j_bipush (v := nI 12) dX10_goes_96 rfl rfl ?_
          refine j_iremN (c := y % 12) dX10_goes_98 rfl (by omega) (by decide) (by decide) rfl ?_
          refine j_callSw (As := [.int (nI (v 0 1)), .int (nI (y % 12))]) dX10_goes_99 rfl cX10_123 rfl (by decide) rfl rfl (c_mhas (by omega) (by omega) (fun g11 => ?_) (fun g11 => ?_))
          · show Rj _ _ _ _ _ _ 102 [.ref 33, .int (nI 3), .int (nI y), .int (nI dr), .int (nI 2), .int (nI 0), .int (nI 2)] [.int (nI 1)] n I J (Pg i0 i1)
            refine j_ifeqN (tgt := 112) dX10_goes_102 rfl rfl (by decide) (fun h12 => by exfalso; omega) (fun h12 => ?_)
            refine j_iconst (v := nI 2) dX10_goes_105 rfl rfl ?_
            refine j_iload dX10_goes_106 rfl rfl ?_
            refine j_imulN (c := 4) dX10_goes_108 rfl rfl ?_
            refine j_goto (tgt := 114) dX10_goes_109 rfl ?_
            refine j_iret dX10_goes_114 rfl rfl ?_
            have e : gos 3 y (v 0 1) dr = 4 := by simp only [gos, gPl, gRi, gQu]; simp [*]
            rw [e] at hQ
            exact hQ
          · show Rj _ _ _ _ _ _ 102 [.ref 33, .int (nI 3), .int (nI y), .int (nI dr), .int (nI 2), .int (nI 0), .int (nI 2)] [.int (nI 0)] n I J (Pg i0 i1)
            refine j_ifeqN (tgt := 112) dX10_goes_102 rfl rfl (by decide) (fun h13 => ?_) (fun h13 => by exfalso; omega)
            refine j_iload dX10_goes_112 rfl rfl ?_
            refine j_iret dX10_goes_114 rfl rfl ?_
            have e : gos 3 y (v 0 1) dr = 2 := by simp only [gos, gPl, gRi, gQu]; simp [*]
            rw [e] at hQ
            exact hQ
        · refine j_tabN (a := 4) (k := 1) (off := 68) (tgt := 115) dX10_goes_47 (by decide) rfl (by decide) (by decide) rfl rfl ?_
          refine j_iload dX10_goes_115 rfl rfl ?_
          refine j_iload dX10_goes_117 rfl rfl ?_
          refine j_iaddN (c := 2) dX10_goes_119 rfl rfl ?_
          refine j_iload_n dX10_goes_120 rfl rfl rfl ?_
          refine j_iconst (v := nI 3) dX10_goes_121 rfl rfl ?_
          refine j_iremN (c := y % 3) dX10_goes_122 rfl (by omega) (by decide) (by decide) rfl ?_
          refine j_iconst (v := nI 2) dX10_goes_123 rfl rfl ?_
          refine j_icmpneN (tgt := 131) dX10_goes_124 rfl rfl (by omega) (by decide) (fun h14 => ?_) (fun h14 => ?_)
          · refine j_iconst (v := nI 0) dX10_goes_131 rfl rfl ?_
            refine j_iaddN (c := 2) dX10_goes_132 rfl rfl ?_
            refine j_iret dX10_goes_133 rfl rfl ?_
            have e : gos 4 y (v 0 1) dr = 2 := by simp only [gos, gPl, gRi, gQu]; simp [*]
            rw [e] at hQ
            exact hQ
          · refine j_iconst (v := nI 1) dX10_goes_127 rfl rfl ?_
            refine j_goto (tgt := 132) dX10_goes_128 rfl ?_
            refine j_iaddN (c := 3) dX10_goes_132 rfl rfl ?_
            refine j_iret dX10_goes_133 rfl rfl ?_
            have e : gos 4 y (v 0 1) dr = 3 := by simp only [gos, gPl, gRi, gQu]; simp [*]
            rw [e] at hQ
            exact hQ
        · refine j_tabN (a := 5) (k := 1) (off := 87) (tgt := 134) dX10_goes_47 (by decide) rfl (by decide) (by decide) rfl rfl ?_
          refine j_iload dX10_goes_134 rfl rfl ?_
          refine j_ifgtN (tgt := 144) dX10_goes_136 rfl rfl (by decide) (fun h15 => by exfalso; omega) (fun h15 => ?_)
          refine j_iload dX10_goes_139 rfl rfl ?_
          refine j_ifneN (tgt := 149) dX10_goes_141 rfl rfl (by decide) (fun h16 => ?_) (fun h16 => by exfalso; omega)
          refine j_iload dX10_goes_149 rfl rfl ?_
          refine j_iconst (v := nI 1) dX10_goes_151 rfl rfl ?_
          refine j_isubN (c := 1) dX10_goes_152 rfl (by omega) rfl ?_
          refine j_iret dX10_goes_153 rfl rfl ?_
          have e : gos 5 y (v 0 1) dr = 1 := by simp only [gos, gPl, gRi, gQu]; simp [*]
          rw [e] at hQ
          exact hQ
    · refine j_iconst (v := nI 2) dX10_goes_25 rfl rfl ?_
      refine j_goto (tgt := 30) dX10_goes_26 rfl ?_
      refine j_istore (L' := [.ref 33, .int (nI k), .int (nI y), .int (nI dr), .int (nI 2), .int (nI 2), jU]) dX10_goes_30 rfl rfl (by decide) rfl ?_
      refine j_iload_n dX10_goes_32 rfl rfl rfl ?_
      refine j_iconst (v := nI 2) dX10_goes_33 rfl rfl ?_
      refine j_iremN (c := y % 2) dX10_goes_34 rfl (by omega) (by decide) (by decide) rfl ?_
      refine j_ifneN (tgt := 43) dX10_goes_35 rfl rfl (by omega) (fun h17 => ?_) (fun h17 => ?_)
      · refine j_iconst (v := nI 0) dX10_goes_43 rfl rfl ?_
        refine j_istore (L' := [.ref 33, .int (nI k), .int (nI y), .int (nI dr), .int (nI 2), .int (nI 2), .int (nI 0)]) dX10_goes_44 rfl rfl (by decide) rfl ?_
        refine j_iload_n dX10_goes_46 rfl rfl rfl ?_
        rcases (show k = 0 ∨ k = 1 ∨ k = 2 ∨ k = 3 ∨ k = 4 ∨ k = 5 by omega) with rfl | rfl | rfl | rfl | rfl | rfl
        · refine j_tabD (a := 0) (tgt := 154) dX10_goes_47 (by decide) (by decide) rfl ?_
          refine j_iload dX10_goes_154 rfl rfl ?_
          refine j_iret dX10_goes_156 rfl rfl ?_
          have e : gos 0 y (v 0 1) dr = 2 := by simp only [gos, gPl, gRi, gQu]; simp [*]
          rw [e] at hQ
          exact hQ
        · refine j_tabN (a := 1) (k := 1) (off := 33) (tgt := 80) dX10_goes_47 (by decide) rfl (by decide) (by decide) rfl rfl ?_
          refine j_iload dX10_goes_80 rfl rfl ?_
          refine j_iret dX10_goes_82 rfl rfl ?_
          have e : gos 1 y (v 0 1) dr = 0 := by simp only [gos, gPl, gRi, gQu]; simp [*]
          rw [e] at hQ
          exact hQ
        · refine j_tabN (a := 2) (k := 1) (off := 36) (tgt := 83) dX10_goes_47 (by decide) rfl (by decide) (by decide) rfl rfl ?_
          refine j_iload dX10_goes_83 rfl rfl ?_
          refine j_iload dX10_goes_85 rfl rfl ?_
          refine j_iaddN (c := 4) dX10_goes_87 rfl rfl ?_
          refine j_iret dX10_goes_88 rfl rfl ?_
          have e : gos 2 y (v 0 1) dr = 4 := by simp only [gos, gPl, gRi, gQu]; simp [*]
          rw [e] at hQ
          exact hQ
        · refine j_tabN (a := 3) (k := 1) (off := 42) (tgt := 89) dX10_goes_47 (by decide) rfl (by decide) (by decide) rfl rfl ?_
          refine j_aload_n dX10_goes_89 rfl rfl rfl ?_
          refine j_getP (b := 34) dX10_goes_90 rfl fX10_7 rfl (by decide) rfl rfl ?_
          refine j_iconst (v := nI 3) dX10_goes_93 rfl rfl ?_
          refine j_iald (j := 3) (v := nI (v 0 1)) dX10_goes_94 rfl rfl (by decide) rfl (by decide) (by decide) hM.ma ?_
          refine j_iload_n dX10_goes_95 rfl rfl rfl ?_
          refine j_bipush (v := nI 12) dX10_goes_96 rfl rfl ?_
          refine j_iremN (c := y % 12) dX10_goes_98 rfl (by omega) (by decide) (by decide) rfl ?_
          refine j_callSw (As := [.int (nI (v 0 1)), .int (nI (y % 12))]) dX10_goes_99 rfl cX10_123 rfl (by decide) rfl rfl (c_mhas (by omega) (by omega) (fun g18 => ?_) (fun g18 => ?_))
          · show Rj _ _ _ _ _ _ 102 [.ref 33, .int (nI 3), .int (nI y), .int (nI dr), .int (nI 2), .int (nI 2), .int (nI 0)] [.int (nI 1)] n I J (Pg i0 i1)
            refine j_ifeqN (tgt := 112) dX10_goes_102 rfl rfl (by decide) (fun h19 => by exfalso; omega) (fun h19 => ?_)
            refine j_iconst (v := nI 2) dX10_goes_105 rfl rfl ?_
            refine j_iload dX10_goes_106 rfl rfl ?_
            refine j_imulN (c := 4) dX10_goes_108 rfl rfl ?_
            refine j_goto (tgt := 114) dX10_goes_109 rfl ?_
            refine j_iret dX10_goes_114 rfl rfl ?_
            have e : gos 3 y (v 0 1) dr = 4 := by simp only [gos, gPl, gRi, gQu]; simp [*]
            rw [e] at hQ
            exact hQ
          · show Rj _ _ _ _ _ _ 102 [.ref 33, .int (nI 3), .int (nI y), .int (nI dr), .int (nI 2), .int (nI 2), .int (nI 0)] [.int (nI 0)] n I J (Pg i0 i1)
            refine j_ifeqN (tgt := 112) dX10_goes_102 rfl rfl (by decide) (fun h20 => ?_) (fun h20 => by exfalso; omega)
            refine j_iload dX10_goes_112 rfl rfl ?_
            refine j_iret dX10_goes_114 rfl rfl ?_
            have e : gos 3 y (v 0 1) dr = 2 := by simp only [gos, gPl, gRi, gQu]; simp [*]
            rw [e] at hQ
            exact hQ
        · refine j_tabN (a := 4) (k := 1) (off := 68) (tgt := 115) dX10_goes_47 (by decide) rfl (by decide) (by decide) rfl rfl ?_
          refine j_iload dX10_goes_115 rfl rfl ?_
          refine j_iload dX10_goes_117 rfl rfl ?_
          refine j_iaddN (c := 4) dX10_goes_119 rfl rfl ?_
          refine j_iload_n dX10_goes_120 rfl rfl rfl ?_
          refine j_iconst (v := nI 3) dX10_goes_121 rfl rfl ?_
          refine j_iremN (c := y % 3) dX10_goes_122 rfl (by omega) (by decide) (by decide) rfl ?_
          refine j_iconst (v := nI 2) dX10_goes_123 rfl rfl ?_
          refine j_icmpneN (tgt := 131) dX10_goes_124 rfl rfl (by omega) (by decide) (fun h21 => ?_) (fun h21 => ?_)
          · refine j_iconst (v := nI 0) dX10_goes_131 rfl rfl ?_
            refine j_iaddN (c := 4) dX10_goes_132 rfl rfl ?_
            refine j_iret dX10_goes_133 rfl rfl ?_
            have e : gos 4 y (v 0 1) dr = 4 := by simp only [gos, gPl, gRi, gQu]; simp [*]
            rw [e] at hQ
            exact hQ
          · refine j_iconst (v := nI 1) dX10_goes_127 rfl rfl ?_
            refine j_goto (tgt := 132) dX10_goes_128 rfl ?_
            refine j_iaddN (c := 5) dX10_goes_132 rfl rfl ?_
            refine j_iret dX10_goes_133 rfl rfl ?_
            have e : gos 4 y (v 0 1) dr = 5 := by simp only [gos, gPl, gRi, gQu]; simp [*]
            rw [e] at hQ
            exact hQ
        · refine j_tabN (a := 5) (k := 1) (off := 87) (tgt := 134) dX10_goes_47 (by decide) rfl (by decide) (by decide) rfl rfl ?_
          refine j_iload dX10_goes_134 rfl rfl ?_
          refine j_ifgtN (tgt := 144) dX10_goes_136 rfl rfl (by decide) (fun h22 => ?_) (fun h22 => by exfalso; omega)
          refine j_iload dX10_goes_144 rfl rfl ?_
          refine j_goto (tgt := 153) dX10_goes_146 rfl ?_
          refine j_iret dX10_goes_153 rfl rfl ?_
          have e : gos 5 y (v 0 1) dr = 0 := by simp only [gos, gPl, gRi, gQu]; simp [*]
          rw [e] at hQ
          exact hQ
      · refine j_iload dX10_goes_38 rfl rfl ?_
        refine j_goto (tgt := 44) dX10_goes_40 rfl ?_
        refine j_istore (L' := [.ref 33, .int (nI k), .int (nI y), .int (nI dr), .int (nI 2), .int (nI 2), .int (nI 2)]) dX10_goes_44 rfl rfl (by decide) rfl ?_
        refine j_iload_n dX10_goes_46 rfl rfl rfl ?_
        rcases (show k = 0 ∨ k = 1 ∨ k = 2 ∨ k = 3 ∨ k = 4 ∨ k = 5 by omega) with rfl | rfl | rfl | rfl | rfl | rfl
        · refine j_tabD (a := 0) (tgt := 154) dX10_goes_47 (by decide) (by decide) rfl ?_
          refine j_iload dX10_goes_154 rfl rfl ?_
          refine j_iret dX10_goes_156 rfl rfl ?_
          have e : gos 0 y (v 0 1) dr = 2 := by simp only [gos, gPl, gRi, gQu]; simp [*]
          rw [e] at hQ
          exact hQ
        · refine j_tabN (a := 1) (k := 1) (off := 33) (tgt := 80) dX10_goes_47 (by decide) rfl (by decide) (by decide) rfl rfl ?_
          refine j_iload dX10_goes_80 rfl rfl ?_
          refine j_iret dX10_goes_82 rfl rfl ?_
          have e : gos 1 y (v 0 1) dr = 2 := by simp only [gos, gPl, gRi, gQu]; simp [*]
          rw [e] at hQ
          exact hQ
        · refine j_tabN (a := 2) (k := 1) (off := 36) (tgt := 83) dX10_goes_47 (by decide) rfl (by decide) (by decide) rfl rfl ?_
          refine j_iload dX10_goes_83 rfl rfl ?_
          refine j_iload dX10_goes_85 rfl rfl ?_
          refine j_iaddN (c := 4) dX10_goes_87 rfl rfl ?_
          refine j_iret dX10_goes_88 rfl rfl ?_
          have e : gos 2 y (v 0 1) dr = 4 := by simp only [gos, gPl, gRi, gQu]; simp [*]
          rw [e] at hQ
          exact hQ
        · refine j_tabN (a := 3) (k := 1) (off := 42) (tgt := 89) dX10_goes_47 (by decide) rfl (by decide) (by decide) rfl rfl ?_
          refine j_aload_n dX10_goes_89 rfl rfl rfl ?_
          refine j_getP (b := 34) dX10_goes_90 rfl fX10_7 rfl (by decide) rfl rfl ?_
          refine j_iconst (v := nI 3) dX10_goes_93 rfl rfl ?_
          refine j_iald (j := 3) (v := nI (v 0 1)) dX10_goes_94 rfl rfl (by decide) rfl (by decide) (by decide) hM.ma ?_
          refine j_iload_n dX10_goes_95 rfl rfl rfl ?_
          refine j_bipush (v := nI 12) dX10_goes_96 rfl rfl ?_
          refine j_iremN (c := y % 12) dX10_goes_98 rfl (by omega) (by decide) (by decide) rfl ?_
          refine j_callSw (As := [.int (nI (v 0 1)), .int (nI (y % 12))]) dX10_goes_99 rfl cX10_123 rfl (by decide) rfl rfl (c_mhas (by omega) (by omega) (fun g23 => ?_) (fun g23 => ?_))
          · show Rj _ _ _ _ _ _ 102 [.ref 33, .int (nI 3), .int (nI y), .int (nI dr), .int (nI 2), .int (nI 2), .int (nI 2)] [.int (nI 1)] n I J (Pg i0 i1)
            refine j_ifeqN (tgt := 112) dX10_goes_102 rfl rfl (by decide) (fun h24 => by exfalso; omega) (fun h24 => ?_)
            refine j_iconst (v := nI 2) dX10_goes_105 rfl rfl ?_
            refine j_iload dX10_goes_106 rfl rfl ?_
            refine j_imulN (c := 4) dX10_goes_108 rfl rfl ?_
            refine j_goto (tgt := 114) dX10_goes_109 rfl ?_
            refine j_iret dX10_goes_114 rfl rfl ?_
            have e : gos 3 y (v 0 1) dr = 4 := by simp only [gos, gPl, gRi, gQu]; simp [*]
            rw [e] at hQ
            exact hQ
          · show Rj _ _ _ _ _ _ 102 [.ref 33, .int (nI 3), .int (nI y), .int (nI dr), .int (nI 2), .int (nI 2), .int (nI 2)] [.int (nI 0)] n I J (Pg i0 i1)
            refine j_ifeqN (tgt := 112) dX10_goes_102 rfl rfl (by decide) (fun h25 => ?_) (fun h25 => by exfalso; omega)
            refine j_iload dX10_goes_112 rfl rfl ?_
            refine j_iret dX10_goes_114 rfl rfl ?_
            have e : gos 3 y (v 0 1) dr = 2 := by simp only [gos, gPl, gRi, gQu]; simp [*]
            rw [e] at hQ
            exact hQ
        · refine j_tabN (a := 4) (k := 1) (off := 68) (tgt := 115) dX10_goes_47 (by decide) rfl (by decide) (by decide) rfl rfl ?_
          refine j_iload dX10_goes_115 rfl rfl ?_
          refine j_iload dX10_goes_117 rfl rfl ?_
          refine j_iaddN (c := 4) dX10_goes_119 rfl rfl ?_
          refine j_iload_n dX10_goes_120 rfl rfl rfl ?_
          refine j_iconst (v := nI 3) dX10_goes_121 rfl rfl ?_
          refine j_iremN (c := y % 3) dX10_goes_122 rfl (by omega) (by decide) (by decide) rfl ?_
          refine j_iconst (v := nI 2) dX10_goes_123 rfl rfl ?_
          refine j_icmpneN (tgt := 131) dX10_goes_124 rfl rfl (by omega) (by decide) (fun h26 => ?_) (fun h26 => ?_)
          · refine j_iconst (v := nI 0) dX10_goes_131 rfl rfl ?_
            refine j_iaddN (c := 4) dX10_goes_132 rfl rfl ?_
            refine j_iret dX10_goes_133 rfl rfl ?_
            have e : gos 4 y (v 0 1) dr = 4 := by simp only [gos, gPl, gRi, gQu]; simp [*]
            rw [e] at hQ
            exact hQ
          · refine j_iconst (v := nI 1) dX10_goes_127 rfl rfl ?_
            refine j_goto (tgt := 132) dX10_goes_128 rfl ?_
            refine j_iaddN (c := 5) dX10_goes_132 rfl rfl ?_
            refine j_iret dX10_goes_133 rfl rfl ?_
            have e : gos 4 y (v 0 1) dr = 5 := by simp only [gos, gPl, gRi, gQu]; simp [*]
            rw [e] at hQ
            exact hQ
        · refine j_tabN (a := 5) (k := 1) (off := 87) (tgt := 134) dX10_goes_47 (by decide) rfl (by decide) (by decide) rfl rfl ?_
          refine j_iload dX10_goes_134 rfl rfl ?_
          refine j_ifgtN (tgt := 144) dX10_goes_136 rfl rfl (by decide) (fun h27 => ?_) (fun h27 => by exfalso; omega)
          refine j_iload dX10_goes_144 rfl rfl ?_
          refine j_goto (tgt := 153) dX10_goes_146 rfl ?_
          refine j_iret dX10_goes_153 rfl rfl ?_
          have e : gos 5 y (v 0 1) dr = 2 := by simp only [gos, gPl, gRi, gQu]; simp [*]
          rw [e] at hQ
          exact hQ
  · show Rj _ _ _ _ _ _ 8 [.ref 33, .int (nI k), .int (nI y), .int (nI dr), jU, jU, jU] [.int (nI 0)] n I J (Pg i0 i1)
    refine j_ifeqN (tgt := 15) dX10_goes_8 rfl rfl (by decide) (fun h28 => ?_) (fun h28 => by exfalso; omega)
    refine j_iconst (v := nI 1) dX10_goes_15 rfl rfl ?_
    refine j_istore (L' := [.ref 33, .int (nI k), .int (nI y), .int (nI dr), .int (nI 1), jU, jU]) dX10_goes_16 rfl rfl (by decide) rfl ?_
    refine j_iload_n dX10_goes_18 rfl rfl rfl ?_
    refine j_iconst (v := nI 5) dX10_goes_19 rfl rfl ?_
    refine j_iremN (c := y % 5) dX10_goes_20 rfl (by omega) (by decide) (by decide) rfl ?_
    refine j_iconst (v := nI 4) dX10_goes_21 rfl rfl ?_
    refine j_icmpneN (tgt := 29) dX10_goes_22 rfl rfl (by omega) (by decide) (fun h29 => ?_) (fun h29 => ?_)
    · refine j_iconst (v := nI 0) dX10_goes_29 rfl rfl ?_
      refine j_istore (L' := [.ref 33, .int (nI k), .int (nI y), .int (nI dr), .int (nI 1), .int (nI 0), jU]) dX10_goes_30 rfl rfl (by decide) rfl ?_
      refine j_iload_n dX10_goes_32 rfl rfl rfl ?_
      refine j_iconst (v := nI 2) dX10_goes_33 rfl rfl ?_
      refine j_iremN (c := y % 2) dX10_goes_34 rfl (by omega) (by decide) (by decide) rfl ?_
      refine j_ifneN (tgt := 43) dX10_goes_35 rfl rfl (by omega) (fun h30 => ?_) (fun h30 => ?_)
      · refine j_iconst (v := nI 0) dX10_goes_43 rfl rfl ?_
        refine j_istore (L' := [.ref 33, .int (nI k), .int (nI y), .int (nI dr), .int (nI 1), .int (nI 0), .int (nI 0)]) dX10_goes_44 rfl rfl (by decide) rfl ?_
        refine j_iload_n dX10_goes_46 rfl rfl rfl ?_
        rcases (show k = 0 ∨ k = 1 ∨ k = 2 ∨ k = 3 ∨ k = 4 ∨ k = 5 by omega) with rfl | rfl | rfl | rfl | rfl | rfl
        · refine j_tabD (a := 0) (tgt := 154) dX10_goes_47 (by decide) (by decide) rfl ?_
          refine j_iload dX10_goes_154 rfl rfl ?_
          refine j_iret dX10_goes_156 rfl rfl ?_
          have e : gos 0 y (v 0 1) dr = 1 := by simp only [gos, gPl, gRi, gQu]; simp [*]
          rw [e] at hQ
          exact hQ
        · refine j_tabN (a := 1) (k := 1) (off := 33) (tgt := 80) dX10_goes_47 (by decide) rfl (by decide) (by decide) rfl rfl ?_
          refine j_iload dX10_goes_80 rfl rfl ?_
          refine j_iret dX10_goes_82 rfl rfl ?_
          have e : gos 1 y (v 0 1) dr = 0 := by simp only [gos, gPl, gRi, gQu]; simp [*]
          rw [e] at hQ
          exact hQ
        · refine j_tabN (a := 2) (k := 1) (off := 36) (tgt := 83) dX10_goes_47 (by decide) rfl (by decide) (by decide) rfl rfl ?_
          refine j_iload dX10_goes_83 rfl rfl ?_
          refine j_iload dX10_goes_85 rfl rfl ?_
          refine j_iaddN (c := 1) dX10_goes_87 rfl rfl ?_
          refine j_iret dX10_goes_88 rfl rfl ?_
          have e : gos 2 y (v 0 1) dr = 1 := by simp only [gos, gPl, gRi, gQu]; simp [*]
          rw [e] at hQ
          exact hQ
        · refine j_tabN (a := 3) (k := 1) (off := 42) (tgt := 89) dX10_goes_47 (by decide) rfl (by decide) (by decide) rfl rfl ?_
          refine j_aload_n dX10_goes_89 rfl rfl rfl ?_
          refine j_getP (b := 34) dX10_goes_90 rfl fX10_7 rfl (by decide) rfl rfl ?_
          refine j_iconst (v := nI 3) dX10_goes_93 rfl rfl ?_
          refine j_iald (j := 3) (v := nI (v 0 1)) dX10_goes_94 rfl rfl (by decide) rfl (by decide) (by decide) hM.ma ?_
          refine j_iload_n dX10_goes_95 rfl rfl rfl ?_
          refine j_bipush (v := nI 12) dX10_goes_96 rfl rfl ?_
          refine j_iremN (c := y % 12) dX10_goes_98 rfl (by omega) (by decide) (by decide) rfl ?_
          refine j_callSw (As := [.int (nI (v 0 1)), .int (nI (y % 12))]) dX10_goes_99 rfl cX10_123 rfl (by decide) rfl rfl (c_mhas (by omega) (by omega) (fun g31 => ?_) (fun g31 => ?_))
          · show Rj _ _ _ _ _ _ 102 [.ref 33, .int (nI 3), .int (nI y), .int (nI dr), .int (nI 1), .int (nI 0), .int (nI 0)] [.int (nI 1)] n I J (Pg i0 i1)
            refine j_ifeqN (tgt := 112) dX10_goes_102 rfl rfl (by decide) (fun h32 => by exfalso; omega) (fun h32 => ?_)
            refine j_iconst (v := nI 2) dX10_goes_105 rfl rfl ?_
            refine j_iload dX10_goes_106 rfl rfl ?_
            refine j_imulN (c := 2) dX10_goes_108 rfl rfl ?_
            refine j_goto (tgt := 114) dX10_goes_109 rfl ?_
            refine j_iret dX10_goes_114 rfl rfl ?_
            have e : gos 3 y (v 0 1) dr = 2 := by simp only [gos, gPl, gRi, gQu]; simp [*]
            rw [e] at hQ
            exact hQ
          · show Rj _ _ _ _ _ _ 102 [.ref 33, .int (nI 3), .int (nI y), .int (nI dr), .int (nI 1), .int (nI 0), .int (nI 0)] [.int (nI 0)] n I J (Pg i0 i1)
            refine j_ifeqN (tgt := 112) dX10_goes_102 rfl rfl (by decide) (fun h33 => ?_) (fun h33 => by exfalso; omega)
            refine j_iload dX10_goes_112 rfl rfl ?_
            refine j_iret dX10_goes_114 rfl rfl ?_
            have e : gos 3 y (v 0 1) dr = 1 := by simp only [gos, gPl, gRi, gQu]; simp [*]
            rw [e] at hQ
            exact hQ
        · refine j_tabN (a := 4) (k := 1) (off := 68) (tgt := 115) dX10_goes_47 (by decide) rfl (by decide) (by decide) rfl rfl ?_
          refine j_iload dX10_goes_115 rfl rfl ?_
          refine j_iload dX10_goes_117 rfl rfl ?_
          refine j_iaddN (c := 1) dX10_goes_119 rfl rfl ?_
          refine j_iload_n dX10_goes_120 rfl rfl rfl ?_
          refine j_iconst (v := nI 3) dX10_goes_121 rfl rfl ?_
          refine j_iremN (c := y % 3) dX10_goes_122 rfl (by omega) (by decide) (by decide) rfl ?_
          refine j_iconst (v := nI 2) dX10_goes_123 rfl rfl ?_
          refine j_icmpneN (tgt := 131) dX10_goes_124 rfl rfl (by omega) (by decide) (fun h34 => ?_) (fun h34 => ?_)
          · refine j_iconst (v := nI 0) dX10_goes_131 rfl rfl ?_
            refine j_iaddN (c := 1) dX10_goes_132 rfl rfl ?_
            refine j_iret dX10_goes_133 rfl rfl ?_
            have e : gos 4 y (v 0 1) dr = 1 := by simp only [gos, gPl, gRi, gQu]; simp [*]
            rw [e] at hQ
            exact hQ
          · refine j_iconst (v := nI 1) dX10_goes_127 rfl rfl ?_
            refine j_goto (tgt := 132) dX10_goes_128 rfl ?_
            refine j_iaddN (c := 2) dX10_goes_132 rfl rfl ?_
            refine j_iret dX10_goes_133 rfl rfl ?_
            have e : gos 4 y (v 0 1) dr = 2 := by simp only [gos, gPl, gRi, gQu]; simp [*]
            rw [e] at hQ
            exact hQ
        · refine j_tabN (a := 5) (k := 1) (off := 87) (tgt := 134) dX10_goes_47 (by decide) rfl (by decide) (by decide) rfl rfl ?_
          refine j_iload dX10_goes_134 rfl rfl ?_
          refine j_ifgtN (tgt := 144) dX10_goes_136 rfl rfl (by decide) (fun h35 => by exfalso; omega) (fun h35 => ?_)
          refine j_iload dX10_goes_139 rfl rfl ?_
          refine j_ifneN (tgt := 149) dX10_goes_141 rfl rfl (by decide) (fun h36 => by exfalso; omega) (fun h36 => ?_)
          refine j_iload dX10_goes_144 rfl rfl ?_
          refine j_goto (tgt := 153) dX10_goes_146 rfl ?_
          refine j_iret dX10_goes_153 rfl rfl ?_
          have e : gos 5 y (v 0 1) dr = 0 := by simp only [gos, gPl, gRi, gQu]; simp [*]
          rw [e] at hQ
          exact hQ
      · refine j_iload dX10_goes_38 rfl rfl ?_
        refine j_goto (tgt := 44) dX10_goes_40 rfl ?_
        refine j_istore (L' := [.ref 33, .int (nI k), .int (nI y), .int (nI dr), .int (nI 1), .int (nI 0), .int (nI 1)]) dX10_goes_44 rfl rfl (by decide) rfl ?_
        refine j_iload_n dX10_goes_46 rfl rfl rfl ?_
        rcases (show k = 0 ∨ k = 1 ∨ k = 2 ∨ k = 3 ∨ k = 4 ∨ k = 5 by omega) with rfl | rfl | rfl | rfl | rfl | rfl
        · refine j_tabD (a := 0) (tgt := 154) dX10_goes_47 (by decide) (by decide) rfl ?_
          refine j_iload dX10_goes_154 rfl rfl ?_
          refine j_iret dX10_goes_156 rfl rfl ?_
          have e : gos 0 y (v 0 1) dr = 1 := by simp only [gos, gPl, gRi, gQu]; simp [*]
          rw [e] at hQ
          exact hQ
        · refine j_tabN (a := 1) (k := 1) (off := 33) (tgt := 80) dX10_goes_47 (by decide) rfl (by decide) (by decide) rfl rfl ?_
          refine j_iload dX10_goes_80 rfl rfl ?_
          refine j_iret dX10_goes_82 rfl rfl ?_
          have e : gos 1 y (v 0 1) dr = 1 := by simp only [gos, gPl, gRi, gQu]; simp [*]
          rw [e] at hQ
          exact hQ
        · refine j_tabN (a := 2) (k := 1) (off := 36) (tgt := 83) dX10_goes_47 (by decide) rfl (by decide) (by decide) rfl rfl ?_
          refine j_iload dX10_goes_83 rfl rfl ?_
          refine j_iload dX10_goes_85 rfl rfl ?_
          refine j_iaddN (c := 1) dX10_goes_87 rfl rfl ?_
          refine j_iret dX10_goes_88 rfl rfl ?_
          have e : gos 2 y (v 0 1) dr = 1 := by simp only [gos, gPl, gRi, gQu]; simp [*]
          rw [e] at hQ
          exact hQ
        · refine j_tabN (a := 3) (k := 1) (off := 42) (tgt := 89) dX10_goes_47 (by decide) rfl (by decide) (by decide) rfl rfl ?_
          refine j_aload_n dX10_goes_89 rfl rfl rfl ?_
          refine j_getP (b := 34) dX10_goes_90 rfl fX10_7 rfl (by decide) rfl rfl ?_
          refine j_iconst (v := nI 3) dX10_goes_93 rfl rfl ?_
          refine j_iald (j := 3) (v := nI (v 0 1)) dX10_goes_94 rfl rfl (by decide) rfl (by decide) (by decide) hM.ma ?_
          refine j_iload_n dX10_goes_95 rfl rfl rfl ?_
          refine j_bipush (v := nI 12) dX10_goes_96 rfl rfl ?_
          refine j_iremN (c := y % 12) dX10_goes_98 rfl (by omega) (by decide) (by decide) rfl ?_
          refine j_callSw (As := [.int (nI (v 0 1)), .int (nI (y % 12))]) dX10_goes_99 rfl cX10_123 rfl (by decide) rfl rfl (c_mhas (by omega) (by omega) (fun g37 => ?_) (fun g37 => ?_))
          · show Rj _ _ _ _ _ _ 102 [.ref 33, .int (nI 3), .int (nI y), .int (nI dr), .int (nI 1), .int (nI 0), .int (nI 1)] [.int (nI 1)] n I J (Pg i0 i1)
            refine j_ifeqN (tgt := 112) dX10_goes_102 rfl rfl (by decide) (fun h38 => by exfalso; omega) (fun h38 => ?_)
            refine j_iconst (v := nI 2) dX10_goes_105 rfl rfl ?_
            refine j_iload dX10_goes_106 rfl rfl ?_
            refine j_imulN (c := 2) dX10_goes_108 rfl rfl ?_
            refine j_goto (tgt := 114) dX10_goes_109 rfl ?_
            refine j_iret dX10_goes_114 rfl rfl ?_
            have e : gos 3 y (v 0 1) dr = 2 := by simp only [gos, gPl, gRi, gQu]; simp [*]
            rw [e] at hQ
            exact hQ
          · show Rj _ _ _ _ _ _ 102 [.ref 33, .int (nI 3), .int (nI y), .int (nI dr), .int (nI 1), .int (nI 0), .int (nI 1)] [.int (nI 0)] n I J (Pg i0 i1)
            refine j_ifeqN (tgt := 112) dX10_goes_102 rfl rfl (by decide) (fun h39 => ?_) (fun h39 => by exfalso; omega)
            refine j_iload dX10_goes_112 rfl rfl ?_
            refine j_iret dX10_goes_114 rfl rfl ?_
            have e : gos 3 y (v 0 1) dr = 1 := by simp only [gos, gPl, gRi, gQu]; simp [*]
            rw [e] at hQ
            exact hQ
        · refine j_tabN (a := 4) (k := 1) (off := 68) (tgt := 115) dX10_goes_47 (by decide) rfl (by decide) (by decide) rfl rfl ?_
          refine j_iload dX10_goes_115 rfl rfl ?_
          refine j_iload dX10_goes_117 rfl rfl ?_
          refine j_iaddN (c := 1) dX10_goes_119 rfl rfl ?_
          refine j_iload_n dX10_goes_120 rfl rfl rfl ?_
          refine j_iconst (v := nI 3) dX10_goes_121 rfl rfl ?_
          refine j_iremN (c := y % 3) dX10_goes_122 rfl (by omega) (by decide) (by decide) rfl ?_
          refine j_iconst (v := nI 2) dX10_goes_123 rfl rfl ?_
          refine j_icmpneN (tgt := 131) dX10_goes_124 rfl rfl (by omega) (by decide) (fun h40 => ?_) (fun h40 => ?_)
          · refine j_iconst (v := nI 0) dX10_goes_131 rfl rfl ?_
            refine j_iaddN (c := 1) dX10_goes_132 rfl rfl ?_
            refine j_iret dX10_goes_133 rfl rfl ?_
            have e : gos 4 y (v 0 1) dr = 1 := by simp only [gos, gPl, gRi, gQu]; simp [*]
            rw [e] at hQ
            exact hQ
          · refine j_iconst (v := nI 1) dX10_goes_127 rfl rfl ?_
            refine j_goto (tgt := 132) dX10_goes_128 rfl ?_
            refine j_iaddN (c := 2) dX10_goes_132 rfl rfl ?_
            refine j_iret dX10_goes_133 rfl rfl ?_
            have e : gos 4 y (v 0 1) dr = 2 := by simp only [gos, gPl, gRi, gQu]; simp [*]
            rw [e] at hQ
            exact hQ
        · refine j_tabN (a := 5) (k := 1) (off := 87) (tgt := 134) dX10_goes_47 (by decide) rfl (by decide) (by decide) rfl rfl ?_
          refine j_iload dX10_goes_134 rfl rfl ?_
          refine j_ifgtN (tgt := 144) dX10_goes_136 rfl rfl (by decide) (fun h41 => by exfalso; omega) (fun h41 => ?_)
          refine j_iload dX10_goes_139 rfl rfl ?_
          refine j_ifneN (tgt := 149) dX10_goes_141 rfl rfl (by decide) (fun h42 => ?_) (fun h42 => by exfalso; omega)
          refine j_iload dX10_goes_149 rfl rfl ?_
          refine j_iconst (v := nI 1) dX10_goes_151 rfl rfl ?_
          refine j_isubN (c := 0) dX10_goes_152 rfl (by omega) rfl ?_
          refine j_iret dX10_goes_153 rfl rfl ?_
          have e : gos 5 y (v 0 1) dr = 0 := by simp only [gos, gPl, gRi, gQu]; simp [*]
          rw [e] at hQ
          exact hQ
    · refine j_iconst (v := nI 2) dX10_goes_25 rfl rfl ?_
      refine j_goto (tgt := 30) dX10_goes_26 rfl ?_
      refine j_istore (L' := [.ref 33, .int (nI k), .int (nI y), .int (nI dr), .int (nI 1), .int (nI 2), jU]) dX10_goes_30 rfl rfl (by decide) rfl ?_
      refine j_iload_n dX10_goes_32 rfl rfl rfl ?_
      refine j_iconst (v := nI 2) dX10_goes_33 rfl rfl ?_
      refine j_iremN (c := y % 2) dX10_goes_34 rfl (by omega) (by decide) (by decide) rfl ?_
      refine j_ifneN (tgt := 43) dX10_goes_35 rfl rfl (by omega) (fun h43 => ?_) (fun h43 => ?_)
      · refine j_iconst (v := nI 0) dX10_goes_43 rfl rfl ?_
        refine j_istore (L' := [.ref 33, .int (nI k), .int (nI y), .int (nI dr), .int (nI 1), .int (nI 2), .int (nI 0)]) dX10_goes_44 rfl rfl (by decide) rfl ?_
        refine j_iload_n dX10_goes_46 rfl rfl rfl ?_
        rcases (show k = 0 ∨ k = 1 ∨ k = 2 ∨ k = 3 ∨ k = 4 ∨ k = 5 by omega) with rfl | rfl | rfl | rfl | rfl | rfl
        · refine j_tabD (a := 0) (tgt := 154) dX10_goes_47 (by decide) (by decide) rfl ?_
          refine j_iload dX10_goes_154 rfl rfl ?_
          refine j_iret dX10_goes_156 rfl rfl ?_
          have e : gos 0 y (v 0 1) dr = 1 := by simp only [gos, gPl, gRi, gQu]; simp [*]
          rw [e] at hQ
          exact hQ
        · refine j_tabN (a := 1) (k := 1) (off := 33) (tgt := 80) dX10_goes_47 (by decide) rfl (by decide) (by decide) rfl rfl ?_
          refine j_iload dX10_goes_80 rfl rfl ?_
          refine j_iret dX10_goes_82 rfl rfl ?_
          have e : gos 1 y (v 0 1) dr = 0 := by simp only [gos, gPl, gRi, gQu]; simp [*]
          rw [e] at hQ
          exact hQ
        · refine j_tabN (a := 2) (k := 1) (off := 36) (tgt := 83) dX10_goes_47 (by decide) rfl (by decide) (by decide) rfl rfl ?_
          refine j_iload dX10_goes_83 rfl rfl ?_
          refine j_iload dX10_goes_85 rfl rfl ?_
          refine j_iaddN (c := 3) dX10_goes_87 rfl rfl ?_
          refine j_iret dX10_goes_88 rfl rfl ?_
          have e : gos 2 y (v 0 1) dr = 3 := by simp only [gos, gPl, gRi, gQu]; simp [*]
          rw [e] at hQ
          exact hQ
        · refine j_tabN (a := 3) (k := 1) (off := 42) (tgt := 89) dX10_goes_47 (by decide) rfl (by decide) (by decide) rfl rfl ?_
          refine j_aload_n dX10_goes_89 rfl rfl rfl ?_
          refine j_getP (b := 34) dX10_goes_90 rfl fX10_7 rfl (by decide) rfl rfl ?_
          refine j_iconst (v := nI 3) dX10_goes_93 rfl rfl ?_
          refine j_iald (j := 3) (v := nI (v 0 1)) dX10_goes_94 rfl rfl (by decide) rfl (by decide) (by decide) hM.ma ?_
          refine j_iload_n dX10_goes_95 rfl rfl rfl ?_
          refine j_bipush (v := nI 12) dX10_goes_96 rfl rfl ?_
          refine j_iremN (c := y % 12) dX10_goes_98 rfl (by omega) (by decide) (by decide) rfl ?_
          refine j_callSw (As := [.int (nI (v 0 1)), .int (nI (y % 12))]) dX10_goes_99 rfl cX10_123 rfl (by decide) rfl rfl (c_mhas (by omega) (by omega) (fun g44 => ?_) (fun g44 => ?_))
          · show Rj _ _ _ _ _ _ 102 [.ref 33, .int (nI 3), .int (nI y), .int (nI dr), .int (nI 1), .int (nI 2), .int (nI 0)] [.int (nI 1)] n I J (Pg i0 i1)
            refine j_ifeqN (tgt := 112) dX10_goes_102 rfl rfl (by decide) (fun h45 => by exfalso; omega) (fun h45 => ?_)
            refine j_iconst (v := nI 2) dX10_goes_105 rfl rfl ?_
            refine j_iload dX10_goes_106 rfl rfl ?_
            refine j_imulN (c := 2) dX10_goes_108 rfl rfl ?_
            refine j_goto (tgt := 114) dX10_goes_109 rfl ?_
            refine j_iret dX10_goes_114 rfl rfl ?_
            have e : gos 3 y (v 0 1) dr = 2 := by simp only [gos, gPl, gRi, gQu]; simp [*]
            rw [e] at hQ
            exact hQ
          · show Rj _ _ _ _ _ _ 102 [.ref 33, .int (nI 3), .int (nI y), .int (nI dr), .int (nI 1), .int (nI 2), .int (nI 0)] [.int (nI 0)] n I J (Pg i0 i1)
            refine j_ifeqN (tgt := 112) dX10_goes_102 rfl rfl (by decide) (fun h46 => ?_) (fun h46 => by exfalso; omega)
            refine j_iload dX10_goes_112 rfl rfl ?_
            refine j_iret dX10_goes_114 rfl rfl ?_
            have e : gos 3 y (v 0 1) dr = 1 := by simp only [gos, gPl, gRi, gQu]; simp [*]
            rw [e] at hQ
            exact hQ
        · refine j_tabN (a := 4) (k := 1) (off := 68) (tgt := 115) dX10_goes_47 (by decide) rfl (by decide) (by decide) rfl rfl ?_
          refine j_iload dX10_goes_115 rfl rfl ?_
          refine j_iload dX10_goes_117 rfl rfl ?_
          refine j_iaddN (c := 3) dX10_goes_119 rfl rfl ?_
          refine j_iload_n dX10_goes_120 rfl rfl rfl ?_
          refine j_iconst (v := nI 3) dX10_goes_121 rfl rfl ?_
          refine j_iremN (c := y % 3) dX10_goes_122 rfl (by omega) (by decide) (by decide) rfl ?_
          refine j_iconst (v := nI 2) dX10_goes_123 rfl rfl ?_
          refine j_icmpneN (tgt := 131) dX10_goes_124 rfl rfl (by omega) (by decide) (fun h47 => ?_) (fun h47 => ?_)
          · refine j_iconst (v := nI 0) dX10_goes_131 rfl rfl ?_
            refine j_iaddN (c := 3) dX10_goes_132 rfl rfl ?_
            refine j_iret dX10_goes_133 rfl rfl ?_
            have e : gos 4 y (v 0 1) dr = 3 := by simp only [gos, gPl, gRi, gQu]; simp [*]
            rw [e] at hQ
            exact hQ
          · refine j_iconst (v := nI 1) dX10_goes_127 rfl rfl ?_
            refine j_goto (tgt := 132) dX10_goes_128 rfl ?_
            refine j_iaddN (c := 4) dX10_goes_132 rfl rfl ?_
            refine j_iret dX10_goes_133 rfl rfl ?_
            have e : gos 4 y (v 0 1) dr = 4 := by simp only [gos, gPl, gRi, gQu]; simp [*]
            rw [e] at hQ
            exact hQ
        · refine j_tabN (a := 5) (k := 1) (off := 87) (tgt := 134) dX10_goes_47 (by decide) rfl (by decide) (by decide) rfl rfl ?_
          refine j_iload dX10_goes_134 rfl rfl ?_
          refine j_ifgtN (tgt := 144) dX10_goes_136 rfl rfl (by decide) (fun h48 => ?_) (fun h48 => by exfalso; omega)
          refine j_iload dX10_goes_144 rfl rfl ?_
          refine j_goto (tgt := 153) dX10_goes_146 rfl ?_
          refine j_iret dX10_goes_153 rfl rfl ?_
          have e : gos 5 y (v 0 1) dr = 0 := by simp only [gos, gPl, gRi, gQu]; simp [*]
          rw [e] at hQ
          exact hQ
      · refine j_iload dX10_goes_38 rfl rfl ?_
        refine j_goto (tgt := 44) dX10_goes_40 rfl ?_
        refine j_istore (L' := [.ref 33, .int (nI k), .int (nI y), .int (nI dr), .int (nI 1), .int (nI 2), .int (nI 1)]) dX10_goes_44 rfl rfl (by decide) rfl ?_
        refine j_iload_n dX10_goes_46 rfl rfl rfl ?_
        rcases (show k = 0 ∨ k = 1 ∨ k = 2 ∨ k = 3 ∨ k = 4 ∨ k = 5 by omega) with rfl | rfl | rfl | rfl | rfl | rfl
        · refine j_tabD (a := 0) (tgt := 154) dX10_goes_47 (by decide) (by decide) rfl ?_
          refine j_iload dX10_goes_154 rfl rfl ?_
          refine j_iret dX10_goes_156 rfl rfl ?_
          have e : gos 0 y (v 0 1) dr = 1 := by simp only [gos, gPl, gRi, gQu]; simp [*]
          rw [e] at hQ
          exact hQ
        · refine j_tabN (a := 1) (k := 1) (off := 33) (tgt := 80) dX10_goes_47 (by decide) rfl (by decide) (by decide) rfl rfl ?_
          refine j_iload dX10_goes_80 rfl rfl ?_
          refine j_iret dX10_goes_82 rfl rfl ?_
          have e : gos 1 y (v 0 1) dr = 1 := by simp only [gos, gPl, gRi, gQu]; simp [*]
          rw [e] at hQ
          exact hQ
        · refine j_tabN (a := 2) (k := 1) (off := 36) (tgt := 83) dX10_goes_47 (by decide) rfl (by decide) (by decide) rfl rfl ?_
          refine j_iload dX10_goes_83 rfl rfl ?_
          refine j_iload dX10_goes_85 rfl rfl ?_
          refine j_iaddN (c := 3) dX10_goes_87 rfl rfl ?_
          refine j_iret dX10_goes_88 rfl rfl ?_
          have e : gos 2 y (v 0 1) dr = 3 := by simp only [gos, gPl, gRi, gQu]; simp [*]
          rw [e] at hQ
          exact hQ
        · refine j_tabN (a := 3) (k := 1) (off := 42) (tgt := 89) dX10_goes_47 (by decide) rfl (by decide) (by decide) rfl rfl ?_
          refine j_aload_n dX10_goes_89 rfl rfl rfl ?_
          refine j_getP (b := 34) dX10_goes_90 rfl fX10_7 rfl (by decide) rfl rfl ?_
          refine j_iconst (v := nI 3) dX10_goes_93 rfl rfl ?_
          refine j_iald (j := 3) (v := nI (v 0 1)) dX10_goes_94 rfl rfl (by decide) rfl (by decide) (by decide) hM.ma ?_
          refine j_iload_n dX10_goes_95 rfl rfl rfl ?_
          refine j_bipush (v := nI 12) dX10_goes_96 rfl rfl ?_
          refine j_iremN (c := y % 12) dX10_goes_98 rfl (by omega) (by decide) (by decide) rfl ?_
          refine j_callSw (As := [.int (nI (v 0 1)), .int (nI (y % 12))]) dX10_goes_99 rfl cX10_123 rfl (by decide) rfl rfl (c_mhas (by omega) (by omega) (fun g49 => ?_) (fun g49 => ?_))
          · show Rj _ _ _ _ _ _ 102 [.ref 33, .int (nI 3), .int (nI y), .int (nI dr), .int (nI 1), .int (nI 2), .int (nI 1)] [.int (nI 1)] n I J (Pg i0 i1)
            refine j_ifeqN (tgt := 112) dX10_goes_102 rfl rfl (by decide) (fun h50 => by exfalso; omega) (fun h50 => ?_)
            refine j_iconst (v := nI 2) dX10_goes_105 rfl rfl ?_
            refine j_iload dX10_goes_106 rfl rfl ?_
            refine j_imulN (c := 2) dX10_goes_108 rfl rfl ?_
            refine j_goto (tgt := 114) dX10_goes_109 rfl ?_
            refine j_iret dX10_goes_114 rfl rfl ?_
            have e : gos 3 y (v 0 1) dr = 2 := by simp only [gos, gPl, gRi, gQu]; simp [*]
            rw [e] at hQ
            exact hQ
          · show Rj _ _ _ _ _ _ 102 [.ref 33, .int (nI 3), .int (nI y), .int (nI dr), .int (nI 1), .int (nI 2), .int (nI 1)] [.int (nI 0)] n I J (Pg i0 i1)
            refine j_ifeqN (tgt := 112) dX10_goes_102 rfl rfl (by decide) (fun h51 => ?_) (fun h51 => by exfalso; omega)
            refine j_iload dX10_goes_112 rfl rfl ?_
            refine j_iret dX10_goes_114 rfl rfl ?_
            have e : gos 3 y (v 0 1) dr = 1 := by simp only [gos, gPl, gRi, gQu]; simp [*]
            rw [e] at hQ
            exact hQ
        · refine j_tabN (a := 4) (k := 1) (off := 68) (tgt := 115) dX10_goes_47 (by decide) rfl (by decide) (by decide) rfl rfl ?_
          refine j_iload dX10_goes_115 rfl rfl ?_
          refine j_iload dX10_goes_117 rfl rfl ?_
          refine j_iaddN (c := 3) dX10_goes_119 rfl rfl ?_
          refine j_iload_n dX10_goes_120 rfl rfl rfl ?_
          refine j_iconst (v := nI 3) dX10_goes_121 rfl rfl ?_
          refine j_iremN (c := y % 3) dX10_goes_122 rfl (by omega) (by decide) (by decide) rfl ?_
          refine j_iconst (v := nI 2) dX10_goes_123 rfl rfl ?_
          refine j_icmpneN (tgt := 131) dX10_goes_124 rfl rfl (by omega) (by decide) (fun h52 => ?_) (fun h52 => ?_)
          · refine j_iconst (v := nI 0) dX10_goes_131 rfl rfl ?_
            refine j_iaddN (c := 3) dX10_goes_132 rfl rfl ?_
            refine j_iret dX10_goes_133 rfl rfl ?_
            have e : gos 4 y (v 0 1) dr = 3 := by simp only [gos, gPl, gRi, gQu]; simp [*]
            rw [e] at hQ
            exact hQ
          · refine j_iconst (v := nI 1) dX10_goes_127 rfl rfl ?_
            refine j_goto (tgt := 132) dX10_goes_128 rfl ?_
            refine j_iaddN (c := 4) dX10_goes_132 rfl rfl ?_
            refine j_iret dX10_goes_133 rfl rfl ?_
            have e : gos 4 y (v 0 1) dr = 4 := by simp only [gos, gPl, gRi, gQu]; simp [*]
            rw [e] at hQ
            exact hQ
        · refine j_tabN (a := 5) (k := 1) (off := 87) (tgt := 134) dX10_goes_47 (by decide) rfl (by decide) (by decide) rfl rfl ?_
          refine j_iload dX10_goes_134 rfl rfl ?_
          refine j_ifgtN (tgt := 144) dX10_goes_136 rfl rfl (by decide) (fun h53 => ?_) (fun h53 => by exfalso; omega)
          refine j_iload dX10_goes_144 rfl rfl ?_
          refine j_goto (tgt := 153) dX10_goes_146 rfl ?_
          refine j_iret dX10_goes_153 rfl rfl ?_
          have e : gos 5 y (v 0 1) dr = 1 := by simp only [gos, gPl, gRi, gQu]; simp [*]
          rw [e] at hQ
          exact hQ
