set_option maxRecDepth 20000 in
theorem jvw_oi : Cond.instanceMethod objectInit ∈ jv_tbl := jv_in (i := 66) (by rfl) rfl
set_option maxRecDepth 20000 in
theorem jvw_oc : Cond.code objectInit ⟨#[0xb1]⟩ 1 none ∈ jv_tbl := jv_in (i := 67) (by rfl) rfl
set_option maxRecDepth 20000 in
theorem jvw_an : Cond.native arraycopyName ∈ jv_tbl := jv_in (i := 400) (by rfl) rfl
set_option maxRecDepth 20000 in
theorem jvw_as : Cond.static arraycopyName ∈ jv_tbl := jv_in (i := 399) (by rfl) rfl
set_option maxRecDepth 20000 in
theorem jvw_ai : Cond.initialized "java/lang/System" ∈ jv_tbl := jv_in (i := 51) (by rfl) rfl
set_option maxRecDepth 20000 in
theorem jvw_int : Cond.arrayClass .int ∈ jv_tbl := jv_in (i := 92) (by rfl) rfl
set_option maxRecDepth 20000 in
theorem jvw_byte : Cond.arrayClass .byte ∈ jv_tbl := jv_in (i := 209) (by rfl) rfl
set_option maxRecDepth 20000 in
theorem jvw_long : Cond.arrayClass .long ∈ jv_tbl := jv_in (i := 231) (by rfl) rfl
set_option maxRecDepth 20000 in
theorem jvw_boolean : Cond.arrayClass .boolean ∈ jv_tbl := jv_in (i := 855) (by rfl) rfl
set_option maxRecDepth 20000 in
theorem fX5_11 : PF RX5 11 3 0 := ⟨by decide, by decide, jv_in (i := 80) (by rfl) rfl⟩
set_option maxRecDepth 20000 in
theorem fX5_15 : PF RX5 15 3 1 := ⟨by decide, by decide, jv_in (i := 81) (by rfl) rfl⟩
set_option maxRecDepth 20000 in
theorem fX5_19 : PF RX5 19 3 2 := ⟨by decide, by decide, jv_in (i := 82) (by rfl) rfl⟩
set_option maxRecDepth 20000 in
theorem fX8_62 : PF RX8 62 3 2 := ⟨by decide, by decide, jv_in (i := 83) (by rfl) rfl⟩
set_option maxRecDepth 20000 in
theorem fX9_131 : PF RX9 131 3 2 := ⟨by decide, by decide, jv_in (i := 84) (by rfl) rfl⟩
set_option maxRecDepth 20000 in
theorem fX8_9 : PF RX8 9 6 0 := ⟨by decide, by decide, jv_in (i := 93) (by rfl) rfl⟩
set_option maxRecDepth 20000 in
theorem fX1_38 : PF RX1 38 6 0 := ⟨by decide, by decide, jv_in (i := 94) (by rfl) rfl⟩
set_option maxRecDepth 20000 in
theorem fX3_41 : PF RX3 41 6 0 := ⟨by decide, by decide, jv_in (i := 95) (by rfl) rfl⟩
set_option maxRecDepth 20000 in
theorem fX7_56 : PF RX7 56 6 0 := ⟨by decide, by decide, jv_in (i := 96) (by rfl) rfl⟩
set_option maxRecDepth 20000 in
theorem fX9_139 : PF RX9 139 6 0 := ⟨by decide, by decide, jv_in (i := 97) (by rfl) rfl⟩
set_option maxRecDepth 20000 in
theorem fX8_15 : PF RX8 15 6 1 := ⟨by decide, by decide, jv_in (i := 98) (by rfl) rfl⟩
set_option maxRecDepth 20000 in
theorem fX9_79 : PF RX9 79 6 1 := ⟨by decide, by decide, jv_in (i := 99) (by rfl) rfl⟩
set_option maxRecDepth 20000 in
theorem fX3_44 : PF RX3 44 6 1 := ⟨by decide, by decide, jv_in (i := 100) (by rfl) rfl⟩
set_option maxRecDepth 20000 in
theorem fX7_59 : PF RX7 59 6 1 := ⟨by decide, by decide, jv_in (i := 101) (by rfl) rfl⟩
set_option maxRecDepth 20000 in
theorem fX6_86 : PF RX6 86 6 1 := ⟨by decide, by decide, jv_in (i := 102) (by rfl) rfl⟩
set_option maxRecDepth 20000 in
theorem fX8_18 : PF RX8 18 6 2 := ⟨by decide, by decide, jv_in (i := 103) (by rfl) rfl⟩
set_option maxRecDepth 20000 in
theorem fX3_47 : PF RX3 47 6 2 := ⟨by decide, by decide, jv_in (i := 104) (by rfl) rfl⟩
set_option maxRecDepth 20000 in
theorem fX7_34 : PF RX7 34 6 2 := ⟨by decide, by decide, jv_in (i := 105) (by rfl) rfl⟩
set_option maxRecDepth 20000 in
theorem fX9_82 : PF RX9 82 6 2 := ⟨by decide, by decide, jv_in (i := 106) (by rfl) rfl⟩
set_option maxRecDepth 20000 in
theorem fX1_60 : PF RX1 60 6 2 := ⟨by decide, by decide, jv_in (i := 107) (by rfl) rfl⟩
set_option maxRecDepth 20000 in
theorem fX6_88 : PF RX6 88 6 2 := ⟨by decide, by decide, jv_in (i := 108) (by rfl) rfl⟩
set_option maxRecDepth 20000 in
theorem fX8_21 : PF RX8 21 6 3 := ⟨by decide, by decide, jv_in (i := 109) (by rfl) rfl⟩
set_option maxRecDepth 20000 in
theorem fX9_65 : PF RX9 65 6 3 := ⟨by decide, by decide, jv_in (i := 110) (by rfl) rfl⟩
set_option maxRecDepth 20000 in
theorem fX1_57 : PF RX1 57 6 3 := ⟨by decide, by decide, jv_in (i := 111) (by rfl) rfl⟩
set_option maxRecDepth 20000 in
theorem fX6_90 : PF RX6 90 6 3 := ⟨by decide, by decide, jv_in (i := 112) (by rfl) rfl⟩
set_option maxRecDepth 20000 in
theorem fX7_77 : PF RX7 77 6 3 := ⟨by decide, by decide, jv_in (i := 113) (by rfl) rfl⟩
set_option maxRecDepth 20000 in
theorem fX8_24 : PF RX8 24 6 4 := ⟨by decide, by decide, jv_in (i := 114) (by rfl) rfl⟩
set_option maxRecDepth 20000 in
theorem fX3_65 : PF RX3 65 6 4 := ⟨by decide, by decide, jv_in (i := 115) (by rfl) rfl⟩
set_option maxRecDepth 20000 in
theorem fX6_101 : PF RX6 101 6 4 := ⟨by decide, by decide, jv_in (i := 116) (by rfl) rfl⟩
set_option maxRecDepth 20000 in
theorem fX9_236 : PF RX9 236 6 4 := ⟨by decide, by decide, jv_in (i := 117) (by rfl) rfl⟩
set_option maxRecDepth 20000 in
theorem fX8_27 : PF RX8 27 6 5 := ⟨by decide, by decide, jv_in (i := 118) (by rfl) rfl⟩
set_option maxRecDepth 20000 in
theorem fX7_19 : PF RX7 19 6 5 := ⟨by decide, by decide, jv_in (i := 119) (by rfl) rfl⟩
set_option maxRecDepth 20000 in
theorem fX9_194 : PF RX9 194 6 5 := ⟨by decide, by decide, jv_in (i := 120) (by rfl) rfl⟩
set_option maxRecDepth 20000 in
theorem fX8_30 : PF RX8 30 6 6 := ⟨by decide, by decide, jv_in (i := 121) (by rfl) rfl⟩
set_option maxRecDepth 20000 in
theorem fX3_35 : PF RX3 35 6 6 := ⟨by decide, by decide, jv_in (i := 122) (by rfl) rfl⟩
set_option maxRecDepth 20000 in
theorem fX1_67 : PF RX1 67 6 6 := ⟨by decide, by decide, jv_in (i := 123) (by rfl) rfl⟩
set_option maxRecDepth 20000 in
theorem fX7_83 : PF RX7 83 6 6 := ⟨by decide, by decide, jv_in (i := 124) (by rfl) rfl⟩
set_option maxRecDepth 20000 in
theorem fX9_142 : PF RX9 142 6 6 := ⟨by decide, by decide, jv_in (i := 125) (by rfl) rfl⟩
set_option maxRecDepth 20000 in
theorem fX8_34 : PF RX8 34 6 7 := ⟨by decide, by decide, jv_in (i := 126) (by rfl) rfl⟩
set_option maxRecDepth 20000 in
theorem fX1_31 : PF RX1 31 6 7 := ⟨by decide, by decide, jv_in (i := 127) (by rfl) rfl⟩
set_option maxRecDepth 20000 in
theorem fX7_28 : PF RX7 28 6 7 := ⟨by decide, by decide, jv_in (i := 128) (by rfl) rfl⟩
set_option maxRecDepth 20000 in
theorem fX3_56 : PF RX3 56 6 7 := ⟨by decide, by decide, jv_in (i := 129) (by rfl) rfl⟩
set_option maxRecDepth 20000 in
theorem fX9_116 : PF RX9 116 6 7 := ⟨by decide, by decide, jv_in (i := 130) (by rfl) rfl⟩
set_option maxRecDepth 20000 in
theorem fX8_37 : PF RX8 37 6 8 := ⟨by decide, by decide, jv_in (i := 131) (by rfl) rfl⟩
set_option maxRecDepth 20000 in
theorem fX9_145 : PF RX9 145 6 8 := ⟨by decide, by decide, jv_in (i := 132) (by rfl) rfl⟩
set_option maxRecDepth 20000 in
theorem fX8_40 : PF RX8 40 6 9 := ⟨by decide, by decide, jv_in (i := 133) (by rfl) rfl⟩
set_option maxRecDepth 20000 in
theorem fX1_26 : PF RX1 26 6 9 := ⟨by decide, by decide, jv_in (i := 134) (by rfl) rfl⟩
set_option maxRecDepth 20000 in
theorem fX9_148 : PF RX9 148 6 9 := ⟨by decide, by decide, jv_in (i := 135) (by rfl) rfl⟩
set_option maxRecDepth 20000 in
theorem fX8_43 : PF RX8 43 6 10 := ⟨by decide, by decide, jv_in (i := 136) (by rfl) rfl⟩
set_option maxRecDepth 20000 in
theorem fX3_68 : PF RX3 68 6 10 := ⟨by decide, by decide, jv_in (i := 137) (by rfl) rfl⟩
set_option maxRecDepth 20000 in
theorem fX8_46 : PF RX8 46 6 11 := ⟨by decide, by decide, jv_in (i := 138) (by rfl) rfl⟩
set_option maxRecDepth 20000 in
theorem fX7_25 : PF RX7 25 6 11 := ⟨by decide, by decide, jv_in (i := 139) (by rfl) rfl⟩
set_option maxRecDepth 20000 in
theorem fX8_49 : PF RX8 49 6 12 := ⟨by decide, by decide, jv_in (i := 140) (by rfl) rfl⟩
set_option maxRecDepth 20000 in
theorem fX7_31 : PF RX7 31 6 12 := ⟨by decide, by decide, jv_in (i := 141) (by rfl) rfl⟩
set_option maxRecDepth 20000 in
theorem fX8_52 : PF RX8 52 6 13 := ⟨by decide, by decide, jv_in (i := 142) (by rfl) rfl⟩
set_option maxRecDepth 20000 in
theorem fX7_41 : PF RX7 41 6 13 := ⟨by decide, by decide, jv_in (i := 143) (by rfl) rfl⟩
set_option maxRecDepth 20000 in
theorem fX8_58 : PF RX8 58 6 14 := ⟨by decide, by decide, jv_in (i := 144) (by rfl) rfl⟩
set_option maxRecDepth 20000 in
theorem fX9_127 : PF RX9 127 6 14 := ⟨by decide, by decide, jv_in (i := 145) (by rfl) rfl⟩
set_option maxRecDepth 20000 in
theorem fX6_9 : PF RX6 9 4 0 := ⟨by decide, by decide, jv_in (i := 186) (by rfl) rfl⟩
set_option maxRecDepth 20000 in
theorem fX6_15 : PF RX6 15 4 1 := ⟨by decide, by decide, jv_in (i := 187) (by rfl) rfl⟩
set_option maxRecDepth 20000 in
theorem fX9_242 : PF RX9 242 4 1 := ⟨by decide, by decide, jv_in (i := 188) (by rfl) rfl⟩
set_option maxRecDepth 20000 in
theorem fX6_22 : PF RX6 22 4 2 := ⟨by decide, by decide, jv_in (i := 189) (by rfl) rfl⟩
set_option maxRecDepth 20000 in
theorem fX6_26 : PF RX6 26 4 3 := ⟨by decide, by decide, jv_in (i := 190) (by rfl) rfl⟩
set_option maxRecDepth 20000 in
theorem fX6_29 : PF RX6 29 4 4 := ⟨by decide, by decide, jv_in (i := 191) (by rfl) rfl⟩
set_option maxRecDepth 20000 in
theorem fX6_32 : PF RX6 32 4 5 := ⟨by decide, by decide, jv_in (i := 192) (by rfl) rfl⟩
set_option maxRecDepth 20000 in
theorem fX6_35 : PF RX6 35 4 6 := ⟨by decide, by decide, jv_in (i := 193) (by rfl) rfl⟩
set_option maxRecDepth 20000 in
theorem fX1_9 : PF RX1 9 0 0 := ⟨by decide, by decide, jv_in (i := 216) (by rfl) rfl⟩
set_option maxRecDepth 20000 in
theorem fX1_15 : PF RX1 15 0 1 := ⟨by decide, by decide, jv_in (i := 217) (by rfl) rfl⟩
set_option maxRecDepth 20000 in
theorem fX1_19 : PF RX1 19 0 2 := ⟨by decide, by decide, jv_in (i := 218) (by rfl) rfl⟩
set_option maxRecDepth 20000 in
theorem fX9_168 : PF RX9 168 0 2 := ⟨by decide, by decide, jv_in (i := 219) (by rfl) rfl⟩
set_option maxRecDepth 20000 in
theorem fX1_23 : PF RX1 23 0 3 := ⟨by decide, by decide, jv_in (i := 220) (by rfl) rfl⟩
set_option maxRecDepth 20000 in
theorem fX9_171 : PF RX9 171 0 3 := ⟨by decide, by decide, jv_in (i := 221) (by rfl) rfl⟩
set_option maxRecDepth 20000 in
theorem fX3_9 : PF RX3 9 2 0 := ⟨by decide, by decide, jv_in (i := 238) (by rfl) rfl⟩
set_option maxRecDepth 20000 in
theorem fX3_15 : PF RX3 15 2 1 := ⟨by decide, by decide, jv_in (i := 239) (by rfl) rfl⟩
set_option maxRecDepth 20000 in
theorem fX3_18 : PF RX3 18 2 2 := ⟨by decide, by decide, jv_in (i := 240) (by rfl) rfl⟩
set_option maxRecDepth 20000 in
theorem fX9_178 : PF RX9 178 2 2 := ⟨by decide, by decide, jv_in (i := 241) (by rfl) rfl⟩
set_option maxRecDepth 20000 in
theorem fX3_21 : PF RX3 21 2 3 := ⟨by decide, by decide, jv_in (i := 242) (by rfl) rfl⟩
set_option maxRecDepth 20000 in
theorem fX9_181 : PF RX9 181 2 3 := ⟨by decide, by decide, jv_in (i := 243) (by rfl) rfl⟩
set_option maxRecDepth 20000 in
theorem fX3_24 : PF RX3 24 2 4 := ⟨by decide, by decide, jv_in (i := 244) (by rfl) rfl⟩
set_option maxRecDepth 20000 in
theorem fX9_184 : PF RX9 184 2 4 := ⟨by decide, by decide, jv_in (i := 245) (by rfl) rfl⟩
set_option maxRecDepth 20000 in
theorem fX7_9 : PF RX7 9 5 0 := ⟨by decide, by decide, jv_in (i := 263) (by rfl) rfl⟩
set_option maxRecDepth 20000 in
theorem fX2_7 : PF RX2 7 1 0 := ⟨by decide, by decide, jv_in (i := 273) (by rfl) rfl⟩
set_option maxRecDepth 20000 in
theorem fX9_226 : PF RX9 226 1 0 := ⟨by decide, by decide, jv_in (i := 274) (by rfl) rfl⟩
set_option maxRecDepth 20000 in
theorem fX2_13 : PF RX2 13 1 1 := ⟨by decide, by decide, jv_in (i := 275) (by rfl) rfl⟩
set_option maxRecDepth 20000 in
theorem fX9_230 : PF RX9 230 1 1 := ⟨by decide, by decide, jv_in (i := 276) (by rfl) rfl⟩
set_option maxRecDepth 20000 in
theorem fX9_10 : PF RX9 10 7 0 := ⟨by decide, by decide, jv_in (i := 282) (by rfl) rfl⟩
set_option maxRecDepth 20000 in
theorem fX9_16 : PF RX9 16 7 1 := ⟨by decide, by decide, jv_in (i := 283) (by rfl) rfl⟩
set_option maxRecDepth 20000 in
theorem fX9_23 : PF RX9 23 7 2 := ⟨by decide, by decide, jv_in (i := 284) (by rfl) rfl⟩
set_option maxRecDepth 20000 in
theorem fX9_30 : PF RX9 30 7 3 := ⟨by decide, by decide, jv_in (i := 285) (by rfl) rfl⟩
set_option maxRecDepth 20000 in
theorem fX9_37 : PF RX9 37 7 4 := ⟨by decide, by decide, jv_in (i := 286) (by rfl) rfl⟩
set_option maxRecDepth 20000 in
theorem fX9_44 : PF RX9 44 7 5 := ⟨by decide, by decide, jv_in (i := 287) (by rfl) rfl⟩
set_option maxRecDepth 20000 in
theorem fX9_51 : PF RX9 51 7 6 := ⟨by decide, by decide, jv_in (i := 288) (by rfl) rfl⟩
set_option maxRecDepth 20000 in
theorem fX9_55 : PF RX9 55 7 7 := ⟨by decide, by decide, jv_in (i := 289) (by rfl) rfl⟩
set_option maxRecDepth 20000 in
theorem fX9_59 : PF RX9 59 7 8 := ⟨by decide, by decide, jv_in (i := 290) (by rfl) rfl⟩
set_option maxRecDepth 20000 in
theorem fX9_62 : PF RX9 62 7 9 := ⟨by decide, by decide, jv_in (i := 291) (by rfl) rfl⟩
set_option maxRecDepth 20000 in
theorem fJ0_38 : Cond.fieldLink RJ0 38 "java/lang/String" "COMPACT_STRINGS" "Z" ∈ jv_tbl := jv_in (i := 423) (by rfl) rfl
set_option maxRecDepth 20000 in
theorem fJ0_1053 : Cond.fieldLink RJ0 1053 "jdk/internal/util/Preconditions" "SIOOBE_FORMATTER" "Ljava/util/function/BiFunction;" ∈ jv_tbl := jv_in (i := 439) (by rfl) rfl
set_option maxRecDepth 20000 in
theorem fX10_7 : PF RX10 7 8 0 := ⟨by decide, by decide, jv_in (i := 785) (by rfl) rfl⟩
set_option maxRecDepth 20000 in
theorem fX10_13 : PF RX10 13 8 1 := ⟨by decide, by decide, jv_in (i := 786) (by rfl) rfl⟩
set_option maxRecDepth 20000 in
theorem fX10_16 : PF RX10 16 8 2 := ⟨by decide, by decide, jv_in (i := 787) (by rfl) rfl⟩
set_option maxRecDepth 20000 in
theorem fX10_19 : PF RX10 19 8 3 := ⟨by decide, by decide, jv_in (i := 788) (by rfl) rfl⟩
set_option maxRecDepth 20000 in
theorem fX10_66 : PF RX10 66 8 4 := ⟨by decide, by decide, jv_in (i := 789) (by rfl) rfl⟩
set_option maxRecDepth 20000 in
theorem fX10_23 : PF RX10 23 8 5 := ⟨by decide, by decide, jv_in (i := 790) (by rfl) rfl⟩
set_option maxRecDepth 20000 in
theorem fX10_70 : PF RX10 70 8 6 := ⟨by decide, by decide, jv_in (i := 791) (by rfl) rfl⟩
set_option maxRecDepth 20000 in
theorem fX10_76 : PF RX10 76 8 7 := ⟨by decide, by decide, jv_in (i := 792) (by rfl) rfl⟩
set_option maxRecDepth 20000 in
theorem fX10_79 : PF RX10 79 8 8 := ⟨by decide, by decide, jv_in (i := 793) (by rfl) rfl⟩
set_option maxRecDepth 20000 in
theorem fX10_82 : PF RX10 82 8 9 := ⟨by decide, by decide, jv_in (i := 794) (by rfl) rfl⟩
set_option maxRecDepth 20000 in
theorem fX10_91 : PF RX10 91 8 10 := ⟨by decide, by decide, jv_in (i := 795) (by rfl) rfl⟩
set_option maxRecDepth 20000 in
theorem fX10_101 : PF RX10 101 8 11 := ⟨by decide, by decide, jv_in (i := 796) (by rfl) rfl⟩
set_option maxRecDepth 20000 in
theorem fX10_170 : PF RX10 170 8 12 := ⟨by decide, by decide, jv_in (i := 797) (by rfl) rfl⟩
set_option maxRecDepth 20000 in
theorem fX10_26 : PF RX10 26 8 13 := ⟨by decide, by decide, jv_in (i := 798) (by rfl) rfl⟩
set_option maxRecDepth 20000 in
theorem fX10_30 : PF RX10 30 8 14 := ⟨by decide, by decide, jv_in (i := 799) (by rfl) rfl⟩
set_option maxRecDepth 20000 in
theorem fX10_33 : PF RX10 33 8 15 := ⟨by decide, by decide, jv_in (i := 800) (by rfl) rfl⟩
set_option maxRecDepth 20000 in
theorem fX10_36 : PF RX10 36 8 16 := ⟨by decide, by decide, jv_in (i := 801) (by rfl) rfl⟩
set_option maxRecDepth 20000 in
theorem fX10_148 : PF RX10 148 8 17 := ⟨by decide, by decide, jv_in (i := 802) (by rfl) rfl⟩
set_option maxRecDepth 20000 in
theorem fX10_151 : PF RX10 151 8 18 := ⟨by decide, by decide, jv_in (i := 803) (by rfl) rfl⟩
set_option maxRecDepth 20000 in
theorem fX10_154 : PF RX10 154 8 19 := ⟨by decide, by decide, jv_in (i := 804) (by rfl) rfl⟩
set_option maxRecDepth 20000 in
theorem fX10_39 : PF RX10 39 8 20 := ⟨by decide, by decide, jv_in (i := 805) (by rfl) rfl⟩
set_option maxRecDepth 20000 in
theorem fX10_43 : PF RX10 43 8 21 := ⟨by decide, by decide, jv_in (i := 806) (by rfl) rfl⟩
set_option maxRecDepth 20000 in
theorem fX10_195 : PF RX10 195 8 22 := ⟨by decide, by decide, jv_in (i := 807) (by rfl) rfl⟩
set_option maxRecDepth 20000 in
theorem fJ0_9 : Cond.fieldLink RJ0 9 "java/lang/String" "value" "[B" ∈ jv_tbl := jv_in (i := 1094) (by rfl) rfl
set_option maxRecDepth 20000 in
theorem fJ0_15 : Cond.fieldLink RJ0 15 "java/lang/String" "coder" "B" ∈ jv_tbl := jv_in (i := 1095) (by rfl) rfl
set_option maxRecDepth 20000 in
theorem nL_7 : Cond.classLink x.cls 7 RX9 ∈ jv_tbl := jv_in (i := 60) (by rfl) rfl
set_option maxRecDepth 20000 in
theorem nX9_7 : Cond.classLink RX9 7 RX8 ∈ jv_tbl := jv_in (i := 68) (by rfl) rfl
set_option maxRecDepth 20000 in
theorem nX8_55 : Cond.classLink RX8 55 RX5 ∈ jv_tbl := jv_in (i := 74) (by rfl) rfl
set_option maxRecDepth 20000 in
theorem nX9_20 : Cond.classLink RX9 20 RX6 ∈ jv_tbl := jv_in (i := 178) (by rfl) rfl
set_option maxRecDepth 20000 in
theorem nX6_19 : Cond.classLink RX6 19 RX8 ∈ jv_tbl := jv_in (i := 184) (by rfl) rfl
set_option maxRecDepth 20000 in
theorem nX9_27 : Cond.classLink RX9 27 RX1 ∈ jv_tbl := jv_in (i := 210) (by rfl) rfl
set_option maxRecDepth 20000 in
theorem nX9_34 : Cond.classLink RX9 34 RX3 ∈ jv_tbl := jv_in (i := 232) (by rfl) rfl
set_option maxRecDepth 20000 in
theorem nX9_41 : Cond.classLink RX9 41 RX7 ∈ jv_tbl := jv_in (i := 257) (by rfl) rfl
set_option maxRecDepth 20000 in
theorem nX9_48 : Cond.classLink RX9 48 RX2 ∈ jv_tbl := jv_in (i := 267) (by rfl) rfl
set_option maxRecDepth 20000 in
theorem kJ6_265 : Cond.constant RJ6 265 (1431655765) ∈ jv_tbl := jv_in (i := 594) (by rfl) rfl
set_option maxRecDepth 20000 in
theorem kJ6_266 : Cond.constant RJ6 266 (858993459) ∈ jv_tbl := jv_in (i := 595) (by rfl) rfl
set_option maxRecDepth 20000 in
theorem kJ6_267 : Cond.constant RJ6 267 (252645135) ∈ jv_tbl := jv_in (i := 596) (by rfl) rfl
set_option maxRecDepth 20000 in
theorem kX1_88 : Cond.constantLong RX1 88 (10) ∈ jv_tbl := jv_in (i := 717) (by rfl) rfl
set_option maxRecDepth 20000 in
theorem kX9_221 : Cond.constant RX9 221 (999999) ∈ jv_tbl := jv_in (i := 729) (by rfl) rfl
set_option maxRecDepth 20000 in
theorem kX1_74 : Cond.constantLong RX1 74 (1103515245) ∈ jv_tbl := jv_in (i := 734) (by rfl) rfl
set_option maxRecDepth 20000 in
theorem kX1_76 : Cond.constantLong RX1 76 (12345) ∈ jv_tbl := jv_in (i := 735) (by rfl) rfl
set_option maxRecDepth 20000 in
theorem kX1_78 : Cond.constantLong RX1 78 (2147483648) ∈ jv_tbl := jv_in (i := 736) (by rfl) rfl
set_option maxRecDepth 20000 in
theorem kX1_80 : Cond.constantLong RX1 80 (65536) ∈ jv_tbl := jv_in (i := 737) (by rfl) rfl
set_option maxRecDepth 20000 in
theorem kX1_82 : Cond.constantLong RX1 82 (100) ∈ jv_tbl := jv_in (i := 738) (by rfl) rfl
set_option maxRecDepth 20000 in
theorem kX9_245 : Cond.constantLong RX9 245 (1049) ∈ jv_tbl := jv_in (i := 768) (by rfl) rfl
set_option maxRecDepth 20000 in
theorem kX9_247 : Cond.constantLong RX9 247 (31) ∈ jv_tbl := jv_in (i := 769) (by rfl) rfl
set_option maxRecDepth 20000 in
theorem kX8_89 : Cond.constantLong RX8 89 (31) ∈ jv_tbl := jv_in (i := 775) (by rfl) rfl
set_option maxRecDepth 20000 in
theorem nL_10 : Cond.classLink x.cls 10 RX10 ∈ jv_tbl := jv_in (i := 776) (by rfl) rfl
set_option maxRecDepth 20000 in
theorem kX10_85 : Cond.constantLong RX10 85 (32) ∈ jv_tbl := jv_in (i := 909) (by rfl) rfl
set_option maxRecDepth 20000 in
theorem kX10_87 : Cond.constantLong RX10 87 (96) ∈ jv_tbl := jv_in (i := 910) (by rfl) rfl
set_option maxRecDepth 20000 in
theorem kX10_89 : Cond.constantLong RX10 89 (-1) ∈ jv_tbl := jv_in (i := 911) (by rfl) rfl
set_option maxRecDepth 20000 in
theorem kX10_173 : Cond.constantLong RX10 173 (10) ∈ jv_tbl := jv_in (i := 1045) (by rfl) rfl
set_option maxRecDepth 20000 in
theorem kX10_179 : Cond.constant RX10 179 (999999) ∈ jv_tbl := jv_in (i := 1054) (by rfl) rfl
set_option maxRecDepth 20000 in
theorem kX10_180 : Cond.constantLong RX10 180 (1103515245) ∈ jv_tbl := jv_in (i := 1055) (by rfl) rfl
set_option maxRecDepth 20000 in
theorem kX10_182 : Cond.constantLong RX10 182 (12345) ∈ jv_tbl := jv_in (i := 1056) (by rfl) rfl
set_option maxRecDepth 20000 in
theorem kX10_184 : Cond.constantLong RX10 184 (2147483648) ∈ jv_tbl := jv_in (i := 1057) (by rfl) rfl
set_option maxRecDepth 20000 in
theorem kX10_186 : Cond.constantLong RX10 186 (65536) ∈ jv_tbl := jv_in (i := 1058) (by rfl) rfl
set_option maxRecDepth 20000 in
theorem kX10_188 : Cond.constantLong RX10 188 (100) ∈ jv_tbl := jv_in (i := 1059) (by rfl) rfl
set_option maxRecDepth 20000 in
theorem kX10_198 : Cond.constantLong RX10 198 (1049) ∈ jv_tbl := jv_in (i := 1088) (by rfl) rfl
set_option maxRecDepth 20000 in
theorem kX10_193 : Cond.constantLong RX10 193 (31) ∈ jv_tbl := jv_in (i := 1093) (by rfl) rfl
set_option maxRecDepth 20000 in
theorem iniX1 : Cond.initialized RX1 ∈ jv_tbl := jv_in (i := 46) (by rfl) rfl
set_option maxRecDepth 20000 in
theorem insX1 : Cond.instantiable RX1 4 ∈ jv_tbl := jv_in (i := 211) (by rfl) rfl
set_option maxRecDepth 20000 in
theorem iniX2 : Cond.initialized RX2 ∈ jv_tbl := jv_in (i := 49) (by rfl) rfl
set_option maxRecDepth 20000 in
theorem insX2 : Cond.instantiable RX2 2 ∈ jv_tbl := jv_in (i := 268) (by rfl) rfl
set_option maxRecDepth 20000 in
theorem iniX3 : Cond.initialized RX3 ∈ jv_tbl := jv_in (i := 47) (by rfl) rfl
set_option maxRecDepth 20000 in
theorem insX3 : Cond.instantiable RX3 5 ∈ jv_tbl := jv_in (i := 233) (by rfl) rfl
set_option maxRecDepth 20000 in
theorem iniX5 : Cond.initialized RX5 ∈ jv_tbl := jv_in (i := 44) (by rfl) rfl
set_option maxRecDepth 20000 in
theorem insX5 : Cond.instantiable RX5 3 ∈ jv_tbl := jv_in (i := 75) (by rfl) rfl
set_option maxRecDepth 20000 in
theorem iniX6 : Cond.initialized RX6 ∈ jv_tbl := jv_in (i := 45) (by rfl) rfl
set_option maxRecDepth 20000 in
theorem insX6 : Cond.instantiable RX6 7 ∈ jv_tbl := jv_in (i := 179) (by rfl) rfl
set_option maxRecDepth 20000 in
theorem iniX7 : Cond.initialized RX7 ∈ jv_tbl := jv_in (i := 48) (by rfl) rfl
set_option maxRecDepth 20000 in
theorem insX7 : Cond.instantiable RX7 1 ∈ jv_tbl := jv_in (i := 258) (by rfl) rfl
set_option maxRecDepth 20000 in
theorem iniX8 : Cond.initialized RX8 ∈ jv_tbl := jv_in (i := 43) (by rfl) rfl
set_option maxRecDepth 20000 in
theorem insX8 : Cond.instantiable RX8 15 ∈ jv_tbl := jv_in (i := 69) (by rfl) rfl
set_option maxRecDepth 20000 in
theorem iniX9 : Cond.initialized RX9 ∈ jv_tbl := jv_in (i := 42) (by rfl) rfl
set_option maxRecDepth 20000 in
theorem insX9 : Cond.instantiable RX9 10 ∈ jv_tbl := jv_in (i := 61) (by rfl) rfl
set_option maxRecDepth 20000 in
theorem iniX10 : Cond.initialized RX10 ∈ jv_tbl := jv_in (i := 50) (by rfl) rfl
set_option maxRecDepth 20000 in
theorem insX10 : Cond.instantiable RX10 23 ∈ jv_tbl := jv_in (i := 777) (by rfl) rfl
set_option maxRecDepth 20000 in
theorem pdX0_beginnerWins (own : String) : PMd own mX0_beginnerWins 1 := ⟨jv_in (i := 701) (by rfl) rfl, jv_in (i := 59) (by rfl) rfl, by decide, by decide, by decide +kernel, by decide⟩
set_option maxRecDepth 20000 in
theorem pdX0_firstBroken (own : String) : PMd own mX0_firstBroken 1 := ⟨jv_in (i := 704) (by rfl) rfl, jv_in (i := 59) (by rfl) rfl, by decide, by decide, by decide +kernel, by decide⟩
set_option maxRecDepth 20000 in
theorem pdX1_init (own : String) : PMd own mX1_init 0 := ⟨jv_in (i := 214) (by rfl) rfl, jv_in (i := 46) (by rfl) rfl, by decide, by decide, by decide +kernel, by decide⟩
set_option maxRecDepth 20000 in
theorem pdX1_endOf (own : String) : PMd own mX1_endOf 2 := ⟨jv_in (i := 573) (by rfl) rfl, jv_in (i := 46) (by rfl) rfl, by decide, by decide, by decide +kernel, by decide⟩
set_option maxRecDepth 20000 in
theorem pdX1_lookForEnds (own : String) : PMd own mX1_lookForEnds 1 := ⟨jv_in (i := 585) (by rfl) rfl, jv_in (i := 46) (by rfl) rfl, by decide, by decide, by decide +kernel, by decide⟩
set_option maxRecDepth 20000 in
theorem pdX1_endingInYear (own : String) : PMd own mX1_endingInYear 2 := ⟨jv_in (i := 590) (by rfl) rfl, jv_in (i := 46) (by rfl) rfl, by decide, by decide, by decide +kernel, by decide⟩
set_option maxRecDepth 20000 in
theorem pdX1_worstDrought (own : String) : PMd own mX1_worstDrought 2 := ⟨jv_in (i := 619) (by rfl) rfl, jv_in (i := 46) (by rfl) rfl, by decide, by decide, by decide +kernel, by decide⟩
set_option maxRecDepth 20000 in
theorem pdX1_loavesBehind (own : String) : PMd own mX1_loavesBehind 3 := ⟨jv_in (i := 622) (by rfl) rfl, jv_in (i := 46) (by rfl) rfl, by decide, by decide, by decide +kernel, by decide⟩
set_option maxRecDepth 20000 in
theorem pdX1_loavesBySeed (own : String) : PMd own mX1_loavesBySeed 4 := ⟨jv_in (i := 733) (by rfl) rfl, jv_in (i := 46) (by rfl) rfl, by decide, by decide, by decide +kernel, by decide⟩
set_option maxRecDepth 20000 in
theorem pdX1_chanceWithMice (own : String) : PMd own mX1_chanceWithMice 5 := ⟨jv_in (i := 712) (by rfl) rfl, jv_in (i := 46) (by rfl) rfl, by decide, by decide, by decide +kernel, by decide⟩
set_option maxRecDepth 20000 in
theorem pdX1_miceEat (own : String) : PMd own mX1_miceEat 4 := ⟨jv_in (i := 716) (by rfl) rfl, jv_in (i := 46) (by rfl) rfl, by decide, by decide, by decide +kernel, by decide⟩
set_option maxRecDepth 20000 in
theorem pdX2_init (own : String) : PMd own mX2_init 0 := ⟨jv_in (i := 271) (by rfl) rfl, jv_in (i := 49) (by rfl) rfl, by decide, by decide, by decide +kernel, by decide⟩
set_option maxRecDepth 20000 in
theorem pdX2_set (own : String) : PMd own mX2_set 2 := ⟨jv_in (i := 721) (by rfl) rfl, jv_in (i := 49) (by rfl) rfl, by decide, by decide, by decide +kernel, by decide⟩
set_option maxRecDepth 20000 in
theorem pdX2_commonDivisor (own : String) : PMd own mX2_commonDivisor 2 := ⟨jv_in (i := 724) (by rfl) rfl, jv_in (i := 49) (by rfl) rfl, by decide, by decide, by decide +kernel, by decide⟩
set_option maxRecDepth 20000 in
theorem pdX3_init (own : String) : PMd own mX3_init 0 := ⟨jv_in (i := 236) (by rfl) rfl, jv_in (i := 47) (by rfl) rfl, by decide, by decide, by decide +kernel, by decide⟩
set_option maxRecDepth 20000 in
theorem pdX3_search (own : String) : PMd own mX3_search 4 := ⟨jv_in (i := 604) (by rfl) rfl, jv_in (i := 47) (by rfl) rfl, by decide, by decide, by decide +kernel, by decide⟩
set_option maxRecDepth 20000 in
theorem pdX3_flourNeeded (own : String) : PMd own mX3_flourNeeded 3 := ⟨jv_in (i := 607) (by rfl) rfl, jv_in (i := 47) (by rfl) rfl, by decide, by decide, by decide +kernel, by decide⟩
set_option maxRecDepth 20000 in
theorem pdX3_share (own : String) : PMd own mX3_share 7 := ⟨jv_in (i := 612) (by rfl) rfl, jv_in (i := 47) (by rfl) rfl, by decide, by decide, by decide +kernel, by decide⟩
set_option maxRecDepth 20000 in
theorem pdX4_goes (own : String) : PMd own mX4_goes 4 := ⟨jv_in (i := 517) (by rfl) rfl, jv_in (i := 57) (by rfl) rfl, by decide, by decide, by decide +kernel, by decide⟩
set_option maxRecDepth 20000 in
theorem pdX4_leftAfter (own : String) : PMd own mX4_leftAfter 5 := ⟨jv_in (i := 514) (by rfl) rfl, jv_in (i := 57) (by rfl) rfl, by decide, by decide, by decide +kernel, by decide⟩
set_option maxRecDepth 20000 in
theorem pdX5_init (own : String) : PMd own mX5_init 0 := ⟨jv_in (i := 78) (by rfl) rfl, jv_in (i := 44) (by rfl) rfl, by decide, by decide, by decide +kernel, by decide⟩
set_option maxRecDepth 20000 in
theorem pdX5_copy (own : String) : PMd own mX5_copy 1 := ⟨jv_in (i := 404) (by rfl) rfl, jv_in (i := 44) (by rfl) rfl, by decide, by decide, by decide +kernel, by decide⟩
set_option maxRecDepth 20000 in
theorem pdX5_push (own : String) : PMd own mX5_push 3 := ⟨jv_in (i := 508) (by rfl) rfl, jv_in (i := 44) (by rfl) rfl, by decide, by decide, by decide +kernel, by decide⟩
set_option maxRecDepth 20000 in
theorem pdX5_pop (own : String) : PMd own mX5_pop 2 := ⟨jv_in (i := 552) (by rfl) rfl, jv_in (i := 44) (by rfl) rfl, by decide, by decide, by decide +kernel, by decide⟩
set_option maxRecDepth 20000 in
theorem pdX6_init (own : String) : PMd own mX6_init 0 := ⟨jv_in (i := 182) (by rfl) rfl, jv_in (i := 45) (by rfl) rfl, by decide, by decide, by decide +kernel, by decide⟩
set_option maxRecDepth 20000 in
theorem pdX6_addSign (own : String) : PMd own mX6_addSign 1 := ⟨jv_in (i := 363) (by rfl) rfl, jv_in (i := 45) (by rfl) rfl, by decide, by decide, by decide +kernel, by decide⟩
set_option maxRecDepth 20000 in
theorem pdX6_empty (own : String) : PMd own mX6_empty 0 := ⟨jv_in (i := 371) (by rfl) rfl, jv_in (i := 45) (by rfl) rfl, by decide, by decide, by decide +kernel, by decide⟩
set_option maxRecDepth 20000 in
theorem pdX6_readInto (own : String) : PMd own mX6_readInto 1 := ⟨jv_in (i := 379) (by rfl) rfl, jv_in (i := 45) (by rfl) rfl, by decide, by decide, by decide +kernel, by decide⟩
set_option maxRecDepth 20000 in
theorem pdX6_readItem (own : String) : PMd own mX6_readItem 1 := ⟨jv_in (i := 409) (by rfl) rfl, jv_in (i := 45) (by rfl) rfl, by decide, by decide, by decide +kernel, by decide⟩
set_option maxRecDepth 20000 in
theorem pdX6_readDamp (own : String) : PMd own mX6_readDamp 0 := ⟨jv_in (i := 471) (by rfl) rfl, jv_in (i := 45) (by rfl) rfl, by decide, by decide, by decide +kernel, by decide⟩
set_option maxRecDepth 20000 in
theorem pdX6_readDry (own : String) : PMd own mX6_readDry 0 := ⟨jv_in (i := 480) (by rfl) rfl, jv_in (i := 45) (by rfl) rfl, by decide, by decide, by decide +kernel, by decide⟩
set_option maxRecDepth 20000 in
theorem pdX6_readPair (own : String) : PMd own mX6_readPair 0 := ⟨jv_in (i := 485) (by rfl) rfl, jv_in (i := 45) (by rfl) rfl, by decide, by decide, by decide +kernel, by decide⟩
set_option maxRecDepth 20000 in
theorem pdX6_readKin (own : String) : PMd own mX6_readKin 0 := ⟨jv_in (i := 495) (by rfl) rfl, jv_in (i := 45) (by rfl) rfl, by decide, by decide, by decide +kernel, by decide⟩
set_option maxRecDepth 20000 in
theorem pdX6_takeYears (own : String) : PMd own mX6_takeYears 0 := ⟨jv_in (i := 475) (by rfl) rfl, jv_in (i := 45) (by rfl) rfl, by decide, by decide, by decide +kernel, by decide⟩
set_option maxRecDepth 20000 in
theorem pdX6_takeNumber (own : String) : PMd own mX6_takeNumber 2 := ⟨jv_in (i := 489) (by rfl) rfl, jv_in (i := 45) (by rfl) rfl, by decide, by decide, by decide +kernel, by decide⟩
set_option maxRecDepth 20000 in
theorem pdX6_takeSemicolon (own : String) : PMd own mX6_takeSemicolon 0 := ⟨jv_in (i := 466) (by rfl) rfl, jv_in (i := 45) (by rfl) rfl, by decide, by decide, by decide +kernel, by decide⟩
set_option maxRecDepth 20000 in
theorem pdX6_takeToken (own : String) : PMd own mX6_takeToken 0 := ⟨jv_in (i := 384) (by rfl) rfl, jv_in (i := 45) (by rfl) rfl, by decide, by decide, by decide +kernel, by decide⟩
set_option maxRecDepth 20000 in
theorem pdX6_setNumber (own : String) : PMd own mX6_setNumber 0 := ⟨jv_in (i := 393) (by rfl) rfl, jv_in (i := 45) (by rfl) rfl, by decide, by decide, by decide +kernel, by decide⟩
set_option maxRecDepth 20000 in
theorem pdX6_takeRun (own : String) : PMd own mX6_takeRun 2 := ⟨jv_in (i := 388) (by rfl) rfl, jv_in (i := 45) (by rfl) rfl, by decide, by decide, by decide +kernel, by decide⟩
set_option maxRecDepth 20000 in
theorem pdX6_isWord (own : String) : PMd own mX6_isWord 1 := ⟨jv_in (i := 414) (by rfl) rfl, jv_in (i := 45) (by rfl) rfl, by decide, by decide, by decide +kernel, by decide⟩
set_option maxRecDepth 20000 in
theorem pdX7_init (own : String) : PMd own mX7_init 0 := ⟨jv_in (i := 261) (by rfl) rfl, jv_in (i := 48) (by rfl) rfl, by decide, by decide, by decide +kernel, by decide⟩
set_option maxRecDepth 20000 in
theorem pdX7_kindsThatFit (own : String) : PMd own mX7_kindsThatFit 2 := ⟨jv_in (i := 642) (by rfl) rfl, jv_in (i := 48) (by rfl) rfl, by decide, by decide, by decide +kernel, by decide⟩
set_option maxRecDepth 20000 in
theorem pdX7_fits (own : String) : PMd own mX7_fits 3 := ⟨jv_in (i := 645) (by rfl) rfl, jv_in (i := 48) (by rfl) rfl, by decide, by decide, by decide +kernel, by decide⟩
set_option maxRecDepth 20000 in
theorem pdX7_countNext (own : String) : PMd own mX7_countNext 2 := ⟨jv_in (i := 654) (by rfl) rfl, jv_in (i := 48) (by rfl) rfl, by decide, by decide, by decide +kernel, by decide⟩
set_option maxRecDepth 20000 in
theorem pdX7_passYearByKind (own : String) : PMd own mX7_passYearByKind 2 := ⟨jv_in (i := 668) (by rfl) rfl, jv_in (i := 48) (by rfl) rfl, by decide, by decide, by decide +kernel, by decide⟩
set_option maxRecDepth 20000 in
theorem pdX7_mostAlike (own : String) : PMd own mX7_mostAlike 1 := ⟨jv_in (i := 659) (by rfl) rfl, jv_in (i := 48) (by rfl) rfl, by decide, by decide, by decide +kernel, by decide⟩
set_option maxRecDepth 20000 in
theorem pdX7_howManyHave (own : String) : PMd own mX7_howManyHave 2 := ⟨jv_in (i := 663) (by rfl) rfl, jv_in (i := 48) (by rfl) rfl, by decide, by decide, by decide +kernel, by decide⟩
set_option maxRecDepth 20000 in
theorem pdX7_swaps (own : String) : PMd own mX7_swaps 2 := ⟨jv_in (i := 676) (by rfl) rfl, jv_in (i := 48) (by rfl) rfl, by decide, by decide, by decide +kernel, by decide⟩
set_option maxRecDepth 20000 in
theorem pdX7_fitsSwapped (own : String) : PMd own mX7_fitsSwapped 3 := ⟨jv_in (i := 679) (by rfl) rfl, jv_in (i := 48) (by rfl) rfl, by decide, by decide, by decide +kernel, by decide⟩
set_option maxRecDepth 20000 in
theorem pdX7_pairsPutBack (own : String) : PMd own mX7_pairsPutBack 1 := ⟨jv_in (i := 686) (by rfl) rfl, jv_in (i := 48) (by rfl) rfl, by decide, by decide, by decide +kernel, by decide⟩
set_option maxRecDepth 20000 in
theorem pdX7_fitsPutBack (own : String) : PMd own mX7_fitsPutBack 2 := ⟨jv_in (i := 689) (by rfl) rfl, jv_in (i := 48) (by rfl) rfl, by decide, by decide, by decide +kernel, by decide⟩
set_option maxRecDepth 20000 in
theorem pdX7_leftWithMore (own : String) : PMd own mX7_leftWithMore 4 := ⟨jv_in (i := 692) (by rfl) rfl, jv_in (i := 48) (by rfl) rfl, by decide, by decide, by decide +kernel, by decide⟩
set_option maxRecDepth 20000 in
theorem pdX8_init (own : String) : PMd own mX8_init 0 := ⟨jv_in (i := 72) (by rfl) rfl, jv_in (i := 43) (by rfl) rfl, by decide, by decide, by decide +kernel, by decide⟩
set_option maxRecDepth 20000 in
theorem pdX8_begin (own : String) : PMd own mX8_begin 0 := ⟨jv_in (i := 320) (by rfl) rfl, jv_in (i := 43) (by rfl) rfl, by decide, by decide, by decide +kernel, by decide⟩
set_option maxRecDepth 20000 in
theorem pdX8_copy (own : String) : PMd own mX8_copy 1 := ⟨jv_in (i := 397) (by rfl) rfl, jv_in (i := 43) (by rfl) rfl, by decide, by decide, by decide +kernel, by decide⟩
set_option maxRecDepth 20000 in
theorem pdX8_hasPair (own : String) : PMd own mX8_hasPair 1 := ⟨jv_in (i := 528) (by rfl) rfl, jv_in (i := 43) (by rfl) rfl, by decide, by decide, by decide +kernel, by decide⟩
set_option maxRecDepth 20000 in
theorem pdX8_addPair (own : String) : PMd own mX8_addPair 2 := ⟨jv_in (i := 343) (by rfl) rfl, jv_in (i := 43) (by rfl) rfl, by decide, by decide, by decide +kernel, by decide⟩
set_option maxRecDepth 20000 in
theorem pdX8_addKin (own : String) : PMd own mX8_addKin 1 := ⟨jv_in (i := 355) (by rfl) rfl, jv_in (i := 43) (by rfl) rfl, by decide, by decide, by decide +kernel, by decide⟩
set_option maxRecDepth 20000 in
theorem pdX8_addCounted (own : String) : PMd own mX8_addCounted 3 := ⟨jv_in (i := 631) (by rfl) rfl, jv_in (i := 43) (by rfl) rfl, by decide, by decide, by decide +kernel, by decide⟩
set_option maxRecDepth 20000 in
theorem pdX8_passYear (own : String) : PMd own mX8_passYear 0 := ⟨jv_in (i := 504) (by rfl) rfl, jv_in (i := 43) (by rfl) rfl, by decide, by decide, by decide +kernel, by decide⟩
set_option maxRecDepth 20000 in
theorem pdX8_setLoaves (own : String) : PMd own mX8_setLoaves 2 := ⟨jv_in (i := 540) (by rfl) rfl, jv_in (i := 43) (by rfl) rfl, by decide, by decide, by decide +kernel, by decide⟩
set_option maxRecDepth 20000 in
theorem pdX8_goBack (own : String) : PMd own mX8_goBack 0 := ⟨jv_in (i := 548) (by rfl) rfl, jv_in (i := 43) (by rfl) rfl, by decide, by decide, by decide +kernel, by decide⟩
set_option maxRecDepth 20000 in
theorem pdX8_leftAs (own : String) : PMd own mX8_leftAs 4 := ⟨jv_in (i := 566) (by rfl) rfl, jv_in (i := 43) (by rfl) rfl, by decide, by decide, by decide +kernel, by decide⟩
set_option maxRecDepth 20000 in
theorem pdX8_leftInYear (own : String) : PMd own mX8_leftInYear 3 := ⟨jv_in (i := 577) (by rfl) rfl, jv_in (i := 43) (by rfl) rfl, by decide, by decide, by decide +kernel, by decide⟩
set_option maxRecDepth 20000 in
theorem pdX8_allLoaves (own : String) : PMd own mX8_allLoaves 0 := ⟨jv_in (i := 763) (by rfl) rfl, jv_in (i := 43) (by rfl) rfl, by decide, by decide, by decide +kernel, by decide⟩
set_option maxRecDepth 20000 in
theorem pdX8_digestOn (own : String) : PMd own mX8_digestOn 1 := ⟨jv_in (i := 774) (by rfl) rfl, jv_in (i := 43) (by rfl) rfl, by decide, by decide, by decide +kernel, by decide⟩
set_option maxRecDepth 20000 in
theorem pdX9_init (own : String) : PMd own mX9_init 0 := ⟨jv_in (i := 64) (by rfl) rfl, jv_in (i := 42) (by rfl) rfl, by decide, by decide, by decide +kernel, by decide⟩
set_option maxRecDepth 20000 in
theorem pdX9_valley (own : String) : PMd own mX9_valley 0 := ⟨jv_in (i := 316) (by rfl) rfl, jv_in (i := 42) (by rfl) rfl, by decide, by decide, by decide +kernel, by decide⟩
set_option maxRecDepth 20000 in
theorem pdX9_damp (own : String) : PMd own mX9_damp 1 := ⟨jv_in (i := 324) (by rfl) rfl, jv_in (i := 42) (by rfl) rfl, by decide, by decide, by decide +kernel, by decide⟩
set_option maxRecDepth 20000 in
theorem pdX9_dry (own : String) : PMd own mX9_dry 1 := ⟨jv_in (i := 335) (by rfl) rfl, jv_in (i := 42) (by rfl) rfl, by decide, by decide, by decide +kernel, by decide⟩
set_option maxRecDepth 20000 in
theorem pdX9_pair (own : String) : PMd own mX9_pair 2 := ⟨jv_in (i := 339) (by rfl) rfl, jv_in (i := 42) (by rfl) rfl, by decide, by decide, by decide +kernel, by decide⟩
set_option maxRecDepth 20000 in
theorem pdX9_kin (own : String) : PMd own mX9_kin 1 := ⟨jv_in (i := 351) (by rfl) rfl, jv_in (i := 42) (by rfl) rfl, by decide, by decide, by decide +kernel, by decide⟩
set_option maxRecDepth 20000 in
theorem pdX9_type (own : String) : PMd own mX9_type 1 := ⟨jv_in (i := 359) (by rfl) rfl, jv_in (i := 42) (by rfl) rfl, by decide, by decide, by decide +kernel, by decide⟩
set_option maxRecDepth 20000 in
theorem pdX9_clear (own : String) : PMd own mX9_clear 0 := ⟨jv_in (i := 367) (by rfl) rfl, jv_in (i := 42) (by rfl) rfl, by decide, by decide, by decide +kernel, by decide⟩
set_option maxRecDepth 20000 in
theorem pdX9_read (own : String) : PMd own mX9_read 0 := ⟨jv_in (i := 375) (by rfl) rfl, jv_in (i := 42) (by rfl) rfl, by decide, by decide, by decide +kernel, by decide⟩
set_option maxRecDepth 20000 in
theorem pdX9_year (own : String) : PMd own mX9_year 1 := ⟨jv_in (i := 500) (by rfl) rfl, jv_in (i := 42) (by rfl) rfl, by decide, by decide, by decide +kernel, by decide⟩
set_option maxRecDepth 20000 in
theorem pdX9_give (own : String) : PMd own mX9_give 2 := ⟨jv_in (i := 524) (by rfl) rfl, jv_in (i := 42) (by rfl) rfl, by decide, by decide, by decide +kernel, by decide⟩
set_option maxRecDepth 20000 in
theorem pdX9_undo (own : String) : PMd own mX9_undo 0 := ⟨jv_in (i := 544) (by rfl) rfl, jv_in (i := 42) (by rfl) rfl, by decide, by decide, by decide +kernel, by decide⟩
set_option maxRecDepth 20000 in
theorem pdX9_of (own : String) : PMd own mX9_of 2 := ⟨jv_in (i := 557) (by rfl) rfl, jv_in (i := 42) (by rfl) rfl, by decide, by decide, by decide +kernel, by decide⟩
set_option maxRecDepth 20000 in
theorem pdX9_left (own : String) : PMd own mX9_left 2 := ⟨jv_in (i := 562) (by rfl) rfl, jv_in (i := 42) (by rfl) rfl, by decide, by decide, by decide +kernel, by decide⟩
set_option maxRecDepth 20000 in
theorem pdX9_till (own : String) : PMd own mX9_till 1 := ⟨jv_in (i := 570) (by rfl) rfl, jv_in (i := 42) (by rfl) rfl, by decide, by decide, by decide +kernel, by decide⟩
set_option maxRecDepth 20000 in
theorem pdX9_together (own : String) : PMd own mX9_together 1 := ⟨jv_in (i := 581) (by rfl) rfl, jv_in (i := 42) (by rfl) rfl, by decide, by decide, by decide +kernel, by decide⟩
set_option maxRecDepth 20000 in
theorem pdX9_gifts (own : String) : PMd own mX9_gifts 4 := ⟨jv_in (i := 600) (by rfl) rfl, jv_in (i := 42) (by rfl) rfl, by decide, by decide, by decide +kernel, by decide⟩
set_option maxRecDepth 20000 in
theorem pdX9_drought (own : String) : PMd own mX9_drought 1 := ⟨jv_in (i := 616) (by rfl) rfl, jv_in (i := 42) (by rfl) rfl, by decide, by decide, by decide +kernel, by decide⟩
set_option maxRecDepth 20000 in
theorem pdX9_counted (own : String) : PMd own mX9_counted 3 := ⟨jv_in (i := 627) (by rfl) rfl, jv_in (i := 42) (by rfl) rfl, by decide, by decide, by decide +kernel, by decide⟩
set_option maxRecDepth 20000 in
theorem pdX9_forget (own : String) : PMd own mX9_forget 0 := ⟨jv_in (i := 635) (by rfl) rfl, jv_in (i := 42) (by rfl) rfl, by decide, by decide, by decide +kernel, by decide⟩
set_option maxRecDepth 20000 in
theorem pdX9_is (own : String) : PMd own mX9_is 1 := ⟨jv_in (i := 639) (by rfl) rfl, jv_in (i := 42) (by rfl) rfl, by decide, by decide, by decide +kernel, by decide⟩
set_option maxRecDepth 20000 in
theorem pdX9_next (own : String) : PMd own mX9_next 1 := ⟨jv_in (i := 650) (by rfl) rfl, jv_in (i := 42) (by rfl) rfl, by decide, by decide, by decide +kernel, by decide⟩
set_option maxRecDepth 20000 in
theorem pdX9_swapped (own : String) : PMd own mX9_swapped 1 := ⟨jv_in (i := 673) (by rfl) rfl, jv_in (i := 42) (by rfl) rfl, by decide, by decide, by decide +kernel, by decide⟩
set_option maxRecDepth 20000 in
theorem pdX9_back (own : String) : PMd own mX9_back 0 := ⟨jv_in (i := 683) (by rfl) rfl, jv_in (i := 42) (by rfl) rfl, by decide, by decide, by decide +kernel, by decide⟩
set_option maxRecDepth 20000 in
theorem pdX9_crusts (own : String) : PMd own mX9_crusts 2 := ⟨jv_in (i := 698) (by rfl) rfl, jv_in (i := 42) (by rfl) rfl, by decide, by decide, by decide +kernel, by decide⟩
set_option maxRecDepth 20000 in
theorem pdX9_mice (own : String) : PMd own mX9_mice 3 := ⟨jv_in (i := 708) (by rfl) rfl, jv_in (i := 42) (by rfl) rfl, by decide, by decide, by decide +kernel, by decide⟩
set_option maxRecDepth 20000 in
theorem pdX9_years (own : String) : PMd own mX9_years 3 := ⟨jv_in (i := 728) (by rfl) rfl, jv_in (i := 42) (by rfl) rfl, by decide, by decide, by decide +kernel, by decide⟩
set_option maxRecDepth 20000 in
theorem pdX9_part (own : String) : PMd own mX9_part 1 := ⟨jv_in (i := 742) (by rfl) rfl, jv_in (i := 42) (by rfl) rfl, by decide, by decide, by decide +kernel, by decide⟩
set_option maxRecDepth 20000 in
theorem pdX9_image (own : String) : PMd own mX9_image 1 := ⟨jv_in (i := 746) (by rfl) rfl, jv_in (i := 42) (by rfl) rfl, by decide, by decide, by decide +kernel, by decide⟩
set_option maxRecDepth 20000 in
theorem pdX9_from (own : String) : PMd own mX9_from 1 := ⟨jv_in (i := 751) (by rfl) rfl, jv_in (i := 42) (by rfl) rfl, by decide, by decide, by decide +kernel, by decide⟩
set_option maxRecDepth 20000 in
theorem pdX9_status (own : String) : PMd own mX9_status 1 := ⟨jv_in (i := 755) (by rfl) rfl, jv_in (i := 42) (by rfl) rfl, by decide, by decide, by decide +kernel, by decide⟩
set_option maxRecDepth 20000 in
theorem pdX9_count (own : String) : PMd own mX9_count 1 := ⟨jv_in (i := 759) (by rfl) rfl, jv_in (i := 42) (by rfl) rfl, by decide, by decide, by decide +kernel, by decide⟩
set_option maxRecDepth 20000 in
theorem pdX9_digest (own : String) : PMd own mX9_digest 0 := ⟨jv_in (i := 767) (by rfl) rfl, jv_in (i := 42) (by rfl) rfl, by decide, by decide, by decide +kernel, by decide⟩
set_option maxRecDepth 20000 in
theorem pdX9_bad (own : String) : PMd own mX9_bad 0 := ⟨jv_in (i := 331) (by rfl) rfl, jv_in (i := 42) (by rfl) rfl, by decide, by decide, by decide +kernel, by decide⟩
set_option maxRecDepth 20000 in
theorem pdX9_badTen (own : String) : PMd own mX9_badTen 0 := ⟨jv_in (i := 532) (by rfl) rfl, jv_in (i := 42) (by rfl) rfl, by decide, by decide, by decide +kernel, by decide⟩
set_option maxRecDepth 20000 in
theorem pdX9_no (own : String) : PMd own mX9_no 0 := ⟨jv_in (i := 536) (by rfl) rfl, jv_in (i := 42) (by rfl) rfl, by decide, by decide, by decide +kernel, by decide⟩
set_option maxRecDepth 20000 in
theorem pdX9_full (own : String) : PMd own mX9_full 0 := ⟨jv_in (i := 347) (by rfl) rfl, jv_in (i := 42) (by rfl) rfl, by decide, by decide, by decide +kernel, by decide⟩
set_option maxRecDepth 20000 in
theorem pdX9_within (own : String) : PMd own mX9_within 3 := ⟨jv_in (i := 327) (by rfl) rfl, jv_in (i := 42) (by rfl) rfl, by decide, by decide, by decide +kernel, by decide⟩
set_option maxRecDepth 20000 in
theorem pdX10_init (own : String) : PMd own mX10_init 0 := ⟨jv_in (i := 780) (by rfl) rfl, jv_in (i := 50) (by rfl) rfl, by decide, by decide, by decide +kernel, by decide⟩
set_option maxRecDepth 20000 in
theorem pdX10_layFirst (own : String) : PMd own mX10_layFirst 1 := ⟨jv_in (i := 784) (by rfl) rfl, jv_in (i := 50) (by rfl) rfl, by decide, by decide, by decide +kernel, by decide⟩
set_option maxRecDepth 20000 in
theorem pdX10_in (own : String) : PMd own mX10_in 3 := ⟨jv_in (i := 866) (by rfl) rfl, jv_in (i := 50) (by rfl) rfl, by decide, by decide, by decide +kernel, by decide⟩
set_option maxRecDepth 20000 in
theorem pdX10_has (own : String) : PMd own mX10_has 2 := ⟨jv_in (i := 956) (by rfl) rfl, jv_in (i := 50) (by rfl) rfl, by decide, by decide, by decide +kernel, by decide⟩
set_option maxRecDepth 20000 in
theorem pdX10_refuse (own : String) : PMd own mX10_refuse 1 := ⟨jv_in (i := 870) (by rfl) rfl, jv_in (i := 50) (by rfl) rfl, by decide, by decide, by decide +kernel, by decide⟩
set_option maxRecDepth 20000 in
theorem pdX10_isPair (own : String) : PMd own mX10_isPair 1 := ⟨jv_in (i := 964) (by rfl) rfl, jv_in (i := 50) (by rfl) rfl, by decide, by decide, by decide +kernel, by decide⟩
set_option maxRecDepth 20000 in
theorem pdX10_valley (own : String) : PMd own mX10_valley 0 := ⟨jv_in (i := 859) (by rfl) rfl, jv_in (i := 50) (by rfl) rfl, by decide, by decide, by decide +kernel, by decide⟩
set_option maxRecDepth 20000 in
theorem pdX10_damp (own : String) : PMd own mX10_damp 1 := ⟨jv_in (i := 863) (by rfl) rfl, jv_in (i := 50) (by rfl) rfl, by decide, by decide, by decide +kernel, by decide⟩
set_option maxRecDepth 20000 in
theorem pdX10_dry (own : String) : PMd own mX10_dry 1 := ⟨jv_in (i := 874) (by rfl) rfl, jv_in (i := 50) (by rfl) rfl, by decide, by decide, by decide +kernel, by decide⟩
set_option maxRecDepth 20000 in
theorem pdX10_addPair (own : String) : PMd own mX10_addPair 3 := ⟨jv_in (i := 881) (by rfl) rfl, jv_in (i := 50) (by rfl) rfl, by decide, by decide, by decide +kernel, by decide⟩
set_option maxRecDepth 20000 in
theorem pdX10_addKin (own : String) : PMd own mX10_addKin 2 := ⟨jv_in (i := 888) (by rfl) rfl, jv_in (i := 50) (by rfl) rfl, by decide, by decide, by decide +kernel, by decide⟩
set_option maxRecDepth 20000 in
theorem pdX10_pair (own : String) : PMd own mX10_pair 2 := ⟨jv_in (i := 878) (by rfl) rfl, jv_in (i := 50) (by rfl) rfl, by decide, by decide, by decide +kernel, by decide⟩
set_option maxRecDepth 20000 in
theorem pdX10_kin (own : String) : PMd own mX10_kin 1 := ⟨jv_in (i := 885) (by rfl) rfl, jv_in (i := 50) (by rfl) rfl, by decide, by decide, by decide +kernel, by decide⟩
set_option maxRecDepth 20000 in
theorem pdX10_type (own : String) : PMd own mX10_type 1 := ⟨jv_in (i := 892) (by rfl) rfl, jv_in (i := 50) (by rfl) rfl, by decide, by decide, by decide +kernel, by decide⟩
set_option maxRecDepth 20000 in
theorem pdX10_clear (own : String) : PMd own mX10_clear 0 := ⟨jv_in (i := 896) (by rfl) rfl, jv_in (i := 50) (by rfl) rfl, by decide, by decide, by decide +kernel, by decide⟩
set_option maxRecDepth 20000 in
theorem pdX10_letterAt (own : String) : PMd own mX10_letterAt 1 := ⟨jv_in (i := 908) (by rfl) rfl, jv_in (i := 50) (by rfl) rfl, by decide, by decide, by decide +kernel, by decide⟩
set_option maxRecDepth 20000 in
theorem pdX10_nextToken (own : String) : PMd own mX10_nextToken 0 := ⟨jv_in (i := 904) (by rfl) rfl, jv_in (i := 50) (by rfl) rfl, by decide, by decide, by decide +kernel, by decide⟩
set_option maxRecDepth 20000 in
theorem pdX10_wordOf (own : String) : PMd own mX10_wordOf 6 := ⟨jv_in (i := 918) (by rfl) rfl, jv_in (i := 50) (by rfl) rfl, by decide, by decide, by decide +kernel, by decide⟩
set_option maxRecDepth 20000 in
theorem pdX10_isNumber (own : String) : PMd own mX10_isNumber 2 := ⟨jv_in (i := 930) (by rfl) rfl, jv_in (i := 50) (by rfl) rfl, by decide, by decide, by decide +kernel, by decide⟩
set_option maxRecDepth 20000 in
theorem pdX10_isEnd (own : String) : PMd own mX10_isEnd 0 := ⟨jv_in (i := 922) (by rfl) rfl, jv_in (i := 50) (by rfl) rfl, by decide, by decide, by decide +kernel, by decide⟩
set_option maxRecDepth 20000 in
theorem pdX10_yearsTold (own : String) : PMd own mX10_yearsTold 0 := ⟨jv_in (i := 926) (by rfl) rfl, jv_in (i := 50) (by rfl) rfl, by decide, by decide, by decide +kernel, by decide⟩
set_option maxRecDepth 20000 in
theorem pdX10_isItem (own : String) : PMd own mX10_isItem 0 := ⟨jv_in (i := 915) (by rfl) rfl, jv_in (i := 50) (by rfl) rfl, by decide, by decide, by decide +kernel, by decide⟩
set_option maxRecDepth 20000 in
theorem pdX10_read (own : String) : PMd own mX10_read 0 := ⟨jv_in (i := 900) (by rfl) rfl, jv_in (i := 50) (by rfl) rfl, by decide, by decide, by decide +kernel, by decide⟩
set_option maxRecDepth 20000 in
theorem pdX10_copy (own : String) : PMd own mX10_copy 4 := ⟨jv_in (i := 933) (by rfl) rfl, jv_in (i := 50) (by rfl) rfl, by decide, by decide, by decide +kernel, by decide⟩
set_option maxRecDepth 20000 in
theorem pdX10_goes (own : String) : PMd own mX10_goes 3 := ⟨jv_in (i := 953) (by rfl) rfl, jv_in (i := 50) (by rfl) rfl, by decide, by decide, by decide +kernel, by decide⟩
set_option maxRecDepth 20000 in
theorem pdX10_leftOf (own : String) : PMd own mX10_leftOf 4 := ⟨jv_in (i := 949) (by rfl) rfl, jv_in (i := 50) (by rfl) rfl, by decide, by decide, by decide +kernel, by decide⟩
set_option maxRecDepth 20000 in
theorem pdX10_leftBy (own : String) : PMd own mX10_leftBy 2 := ⟨jv_in (i := 945) (by rfl) rfl, jv_in (i := 50) (by rfl) rfl, by decide, by decide, by decide +kernel, by decide⟩
set_option maxRecDepth 20000 in
theorem pdX10_note (own : String) : PMd own mX10_note 0 := ⟨jv_in (i := 941) (by rfl) rfl, jv_in (i := 50) (by rfl) rfl, by decide, by decide, by decide +kernel, by decide⟩
set_option maxRecDepth 20000 in
theorem pdX10_year (own : String) : PMd own mX10_year 1 := ⟨jv_in (i := 937) (by rfl) rfl, jv_in (i := 50) (by rfl) rfl, by decide, by decide, by decide +kernel, by decide⟩
set_option maxRecDepth 20000 in
theorem pdX10_give (own : String) : PMd own mX10_give 2 := ⟨jv_in (i := 960) (by rfl) rfl, jv_in (i := 50) (by rfl) rfl, by decide, by decide, by decide +kernel, by decide⟩
set_option maxRecDepth 20000 in
theorem pdX10_undo (own : String) : PMd own mX10_undo 0 := ⟨jv_in (i := 968) (by rfl) rfl, jv_in (i := 50) (by rfl) rfl, by decide, by decide, by decide +kernel, by decide⟩
set_option maxRecDepth 20000 in
theorem pdX10_of (own : String) : PMd own mX10_of 2 := ⟨jv_in (i := 972) (by rfl) rfl, jv_in (i := 50) (by rfl) rfl, by decide, by decide, by decide +kernel, by decide⟩
set_option maxRecDepth 20000 in
theorem pdX10_left (own : String) : PMd own mX10_left 2 := ⟨jv_in (i := 976) (by rfl) rfl, jv_in (i := 50) (by rfl) rfl, by decide, by decide, by decide +kernel, by decide⟩
set_option maxRecDepth 20000 in
theorem pdX10_endOf (own : String) : PMd own mX10_endOf 1 := ⟨jv_in (i := 984) (by rfl) rfl, jv_in (i := 50) (by rfl) rfl, by decide, by decide, by decide +kernel, by decide⟩
set_option maxRecDepth 20000 in
theorem pdX10_till (own : String) : PMd own mX10_till 1 := ⟨jv_in (i := 980) (by rfl) rfl, jv_in (i := 50) (by rfl) rfl, by decide, by decide, by decide +kernel, by decide⟩
set_option maxRecDepth 20000 in
theorem pdX10_together (own : String) : PMd own mX10_together 1 := ⟨jv_in (i := 988) (by rfl) rfl, jv_in (i := 50) (by rfl) rfl, by decide, by decide, by decide +kernel, by decide⟩
set_option maxRecDepth 20000 in
theorem pdX10_layGifts (own : String) : PMd own mX10_layGifts 3 := ⟨jv_in (i := 996) (by rfl) rfl, jv_in (i := 50) (by rfl) rfl, by decide, by decide, by decide +kernel, by decide⟩
set_option maxRecDepth 20000 in
theorem pdX10_gifts (own : String) : PMd own mX10_gifts 4 := ⟨jv_in (i := 992) (by rfl) rfl, jv_in (i := 50) (by rfl) rfl, by decide, by decide, by decide +kernel, by decide⟩
set_option maxRecDepth 20000 in
theorem pdX10_drought (own : String) : PMd own mX10_drought 1 := ⟨jv_in (i := 1000) (by rfl) rfl, jv_in (i := 50) (by rfl) rfl, by decide, by decide, by decide +kernel, by decide⟩
set_option maxRecDepth 20000 in
theorem pdX10_counted (own : String) : PMd own mX10_counted 3 := ⟨jv_in (i := 1004) (by rfl) rfl, jv_in (i := 50) (by rfl) rfl, by decide, by decide, by decide +kernel, by decide⟩
set_option maxRecDepth 20000 in
theorem pdX10_forget (own : String) : PMd own mX10_forget 0 := ⟨jv_in (i := 1008) (by rfl) rfl, jv_in (i := 50) (by rfl) rfl, by decide, by decide, by decide +kernel, by decide⟩
set_option maxRecDepth 20000 in
theorem pdX10_kindsOf (own : String) : PMd own mX10_kindsOf 1 := ⟨jv_in (i := 1016) (by rfl) rfl, jv_in (i := 50) (by rfl) rfl, by decide, by decide, by decide +kernel, by decide⟩
set_option maxRecDepth 20000 in
theorem pdX10_is (own : String) : PMd own mX10_is 1 := ⟨jv_in (i := 1012) (by rfl) rfl, jv_in (i := 50) (by rfl) rfl, by decide, by decide, by decide +kernel, by decide⟩
set_option maxRecDepth 20000 in
theorem pdX10_next (own : String) : PMd own mX10_next 1 := ⟨jv_in (i := 1020) (by rfl) rfl, jv_in (i := 50) (by rfl) rfl, by decide, by decide, by decide +kernel, by decide⟩
set_option maxRecDepth 20000 in
theorem pdX10_isSo (own : String) : PMd own mX10_isSo 1 := ⟨jv_in (i := 1032) (by rfl) rfl, jv_in (i := 50) (by rfl) rfl, by decide, by decide, by decide +kernel, by decide⟩
set_option maxRecDepth 20000 in
theorem pdX10_layLoaves (own : String) : PMd own mX10_layLoaves 0 := ⟨jv_in (i := 1028) (by rfl) rfl, jv_in (i := 50) (by rfl) rfl, by decide, by decide, by decide +kernel, by decide⟩
set_option maxRecDepth 20000 in
theorem pdX10_swapped (own : String) : PMd own mX10_swapped 1 := ⟨jv_in (i := 1024) (by rfl) rfl, jv_in (i := 50) (by rfl) rfl, by decide, by decide, by decide +kernel, by decide⟩
set_option maxRecDepth 20000 in
theorem pdX10_back (own : String) : PMd own mX10_back 0 := ⟨jv_in (i := 1036) (by rfl) rfl, jv_in (i := 50) (by rfl) rfl, by decide, by decide, by decide +kernel, by decide⟩
set_option maxRecDepth 20000 in
theorem pdX10_crusts (own : String) : PMd own mX10_crusts 2 := ⟨jv_in (i := 1040) (by rfl) rfl, jv_in (i := 50) (by rfl) rfl, by decide, by decide, by decide +kernel, by decide⟩
set_option maxRecDepth 20000 in
theorem pdX10_tell (own : String) : PMd own mX10_tell 2 := ⟨jv_in (i := 1049) (by rfl) rfl, jv_in (i := 50) (by rfl) rfl, by decide, by decide, by decide +kernel, by decide⟩
set_option maxRecDepth 20000 in
theorem pdX10_mice (own : String) : PMd own mX10_mice 3 := ⟨jv_in (i := 1044) (by rfl) rfl, jv_in (i := 50) (by rfl) rfl, by decide, by decide, by decide +kernel, by decide⟩
set_option maxRecDepth 20000 in
theorem pdX10_years (own : String) : PMd own mX10_years 3 := ⟨jv_in (i := 1053) (by rfl) rfl, jv_in (i := 50) (by rfl) rfl, by decide, by decide, by decide +kernel, by decide⟩
set_option maxRecDepth 20000 in
theorem pdX10_part (own : String) : PMd own mX10_part 1 := ⟨jv_in (i := 1063) (by rfl) rfl, jv_in (i := 50) (by rfl) rfl, by decide, by decide, by decide +kernel, by decide⟩
set_option maxRecDepth 20000 in
theorem pdX10_image (own : String) : PMd own mX10_image 1 := ⟨jv_in (i := 1067) (by rfl) rfl, jv_in (i := 50) (by rfl) rfl, by decide, by decide, by decide +kernel, by decide⟩
set_option maxRecDepth 20000 in
theorem pdX10_from (own : String) : PMd own mX10_from 1 := ⟨jv_in (i := 1071) (by rfl) rfl, jv_in (i := 50) (by rfl) rfl, by decide, by decide, by decide +kernel, by decide⟩
set_option maxRecDepth 20000 in
theorem pdX10_status (own : String) : PMd own mX10_status 1 := ⟨jv_in (i := 1075) (by rfl) rfl, jv_in (i := 50) (by rfl) rfl, by decide, by decide, by decide +kernel, by decide⟩
set_option maxRecDepth 20000 in
theorem pdX10_countOf (own : String) : PMd own mX10_countOf 1 := ⟨jv_in (i := 1083) (by rfl) rfl, jv_in (i := 50) (by rfl) rfl, by decide, by decide, by decide +kernel, by decide⟩
set_option maxRecDepth 20000 in
theorem pdX10_count (own : String) : PMd own mX10_count 1 := ⟨jv_in (i := 1079) (by rfl) rfl, jv_in (i := 50) (by rfl) rfl, by decide, by decide, by decide +kernel, by decide⟩
set_option maxRecDepth 20000 in
theorem pdX10_add (own : String) : PMd own mX10_add 1 := ⟨jv_in (i := 1092) (by rfl) rfl, jv_in (i := 50) (by rfl) rfl, by decide, by decide, by decide +kernel, by decide⟩
set_option maxRecDepth 20000 in
theorem pdX10_digest (own : String) : PMd own mX10_digest 0 := ⟨jv_in (i := 1087) (by rfl) rfl, jv_in (i := 50) (by rfl) rfl, by decide, by decide, by decide +kernel, by decide⟩
set_option maxRecDepth 20000 in
theorem pdJ6_bitCount_0f7a4 (own : String) : PMd own mJ6_bitCount_0f7a4 1 := ⟨jv_in (i := 593) (by rfl) rfl, jv_in (i := 58) (by rfl) rfl, by decide, by decide, by decide +kernel, by decide⟩
set_option maxRecDepth 20000 in
theorem pdJ9_max_7cf53 (own : String) : PMd own mJ9_max_7cf53 2 := ⟨jv_in (i := 520) (by rfl) rfl, jv_in (i := 56) (by rfl) rfl, by decide, by decide, by decide +kernel, by decide⟩
set_option maxRecDepth 20000 in
theorem pdJ9_min_7cf53 (own : String) : PMd own mJ9_min_7cf53 2 := ⟨jv_in (i := 511) (by rfl) rfl, jv_in (i := 56) (by rfl) rfl, by decide, by decide, by decide +kernel, by decide⟩
set_option maxRecDepth 20000 in
theorem pdJ0_length_8abf5 (own : String) : PMd own mJ0_length_8abf5 0 := ⟨jv_in (i := 418) (by rfl) rfl, jv_in (i := 52) (by rfl) rfl, by decide, by decide, by decide +kernel, by decide⟩
set_option maxRecDepth 20000 in
theorem pdJ0_charAt_5068e (own : String) : PMd own mJ0_charAt_5068e 1 := ⟨jv_in (i := 428) (by rfl) rfl, jv_in (i := 52) (by rfl) rfl, by decide, by decide, by decide +kernel, by decide⟩
set_option maxRecDepth 20000 in
theorem pdJ0_coder_7d493 (own : String) : PMd own mJ0_coder_7d493 0 := ⟨jv_in (i := 422) (by rfl) rfl, jv_in (i := 52) (by rfl) rfl, by decide, by decide, by decide +kernel, by decide⟩
set_option maxRecDepth 20000 in
theorem pdJ0_isLatin1_aae02 (own : String) : PMd own mJ0_isLatin1_aae02 0 := ⟨jv_in (i := 432) (by rfl) rfl, jv_in (i := 52) (by rfl) rfl, by decide, by decide, by decide +kernel, by decide⟩
set_option maxRecDepth 20000 in
theorem pdJ0_checkIndex_df160 (own : String) : PMd own mJ0_checkIndex_df160 2 := ⟨jv_in (i := 438) (by rfl) rfl, jv_in (i := 52) (by rfl) rfl, by decide, by decide, by decide +kernel, by decide⟩
set_option maxRecDepth 20000 in
theorem pdJ1_charAt_3b067 (own : String) : PMd own mJ1_charAt_3b067 2 := ⟨jv_in (i := 435) (by rfl) rfl, jv_in (i := 53) (by rfl) rfl, by decide, by decide, by decide +kernel, by decide⟩
set_option maxRecDepth 20000 in
theorem pdJ2_getChar_3b067 (own : String) : PMd own mJ2_getChar_3b067 2 := ⟨jv_in (i := 456) (by rfl) rfl, jv_in (i := 55) (by rfl) rfl, by decide, by decide, by decide +kernel, by decide⟩
set_option maxRecDepth 20000 in
theorem pdJ2_length_9d52b (own : String) : PMd own mJ2_length_9d52b 1 := ⟨jv_in (i := 452) (by rfl) rfl, jv_in (i := 55) (by rfl) rfl, by decide, by decide, by decide +kernel, by decide⟩
set_option maxRecDepth 20000 in
theorem pdJ2_charAt_3b067 (own : String) : PMd own mJ2_charAt_3b067 2 := ⟨jv_in (i := 446) (by rfl) rfl, jv_in (i := 55) (by rfl) rfl, by decide, by decide, by decide +kernel, by decide⟩
set_option maxRecDepth 20000 in
theorem pdJ2_checkIndex_2214a (own : String) : PMd own mJ2_checkIndex_2214a 2 := ⟨jv_in (i := 449) (by rfl) rfl, jv_in (i := 55) (by rfl) rfl, by decide, by decide, by decide +kernel, by decide⟩
set_option maxRecDepth 20000 in
theorem pdJ3_checkIndex_8e157 (own : String) : PMd own mJ3_checkIndex_8e157 3 := ⟨jv_in (i := 443) (by rfl) rfl, jv_in (i := 54) (by rfl) rfl, by decide, by decide, by decide +kernel, by decide⟩
set_option maxRecDepth 20000 in
theorem cL_9 : PMi x.cls 9 mX9_init 0 := ⟨pdX9_init _, jv_in (i := 62) (by rfl) rfl, jv_in (i := 63) (by rfl) rfl, rfl, rfl⟩
set_option maxRecDepth 20000 in
theorem cX9_1 : Cond.methodLink RX9 1 objectInit ∈ jv_tbl := jv_in (i := 65) (by rfl) rfl
set_option maxRecDepth 20000 in
theorem cX9_9 : PMin RX9 9 mX8_init 0 := ⟨pdX8_init _, by decide +kernel, jv_in (i := 71) (by rfl) rfl, rfl, rfl⟩
set_option maxRecDepth 20000 in
theorem cX8_3 : Cond.methodLink RX8 3 objectInit ∈ jv_tbl := jv_in (i := 73) (by rfl) rfl
set_option maxRecDepth 20000 in
theorem cX8_57 : PMin RX8 57 mX5_init 0 := ⟨pdX5_init _, by decide +kernel, jv_in (i := 77) (by rfl) rfl, rfl, rfl⟩
set_option maxRecDepth 20000 in
theorem cX5_3 : Cond.methodLink RX5 3 objectInit ∈ jv_tbl := jv_in (i := 79) (by rfl) rfl
set_option maxRecDepth 20000 in
theorem cX9_22 : PMin RX9 22 mX6_init 0 := ⟨pdX6_init _, by decide +kernel, jv_in (i := 181) (by rfl) rfl, rfl, rfl⟩
set_option maxRecDepth 20000 in
theorem cX6_3 : Cond.methodLink RX6 3 objectInit ∈ jv_tbl := jv_in (i := 183) (by rfl) rfl
set_option maxRecDepth 20000 in
theorem cX6_21 : PMin RX6 21 mX8_init 0 := ⟨pdX8_init _, by decide +kernel, jv_in (i := 71) (by rfl) rfl, rfl, rfl⟩
set_option maxRecDepth 20000 in
theorem cX9_29 : PMin RX9 29 mX1_init 0 := ⟨pdX1_init _, by decide +kernel, jv_in (i := 213) (by rfl) rfl, rfl, rfl⟩
set_option maxRecDepth 20000 in
theorem cX1_3 : Cond.methodLink RX1 3 objectInit ∈ jv_tbl := jv_in (i := 215) (by rfl) rfl
set_option maxRecDepth 20000 in
theorem cX9_36 : PMin RX9 36 mX3_init 0 := ⟨pdX3_init _, by decide +kernel, jv_in (i := 235) (by rfl) rfl, rfl, rfl⟩
set_option maxRecDepth 20000 in
theorem cX3_3 : Cond.methodLink RX3 3 objectInit ∈ jv_tbl := jv_in (i := 237) (by rfl) rfl
set_option maxRecDepth 20000 in
theorem cX9_43 : PMin RX9 43 mX7_init 0 := ⟨pdX7_init _, by decide +kernel, jv_in (i := 260) (by rfl) rfl, rfl, rfl⟩
set_option maxRecDepth 20000 in
theorem cX7_3 : Cond.methodLink RX7 3 objectInit ∈ jv_tbl := jv_in (i := 262) (by rfl) rfl
set_option maxRecDepth 20000 in
theorem cX9_50 : PMin RX9 50 mX2_init 0 := ⟨pdX2_init _, by decide +kernel, jv_in (i := 270) (by rfl) rfl, rfl, rfl⟩
set_option maxRecDepth 20000 in
theorem cX2_1 : Cond.methodLink RX2 1 objectInit ∈ jv_tbl := jv_in (i := 272) (by rfl) rfl
set_option maxRecDepth 20000 in
theorem cL_13 : PMv x.cls 13 mX9_valley 0 := ⟨pdX9_valley _, jv_in (i := 313) (by rfl) rfl, jv_in (i := 314) (by rfl) rfl, jv_in (i := 315) (by rfl) rfl⟩
set_option maxRecDepth 20000 in
theorem cX9_68 : PMv RX9 68 mX8_begin 0 := ⟨pdX8_begin _, jv_in (i := 317) (by rfl) rfl, jv_in (i := 318) (by rfl) rfl, jv_in (i := 319) (by rfl) rfl⟩
set_option maxRecDepth 20000 in
theorem cL_18 : PMv x.cls 18 mX9_damp 1 := ⟨pdX9_damp _, jv_in (i := 321) (by rfl) rfl, jv_in (i := 322) (by rfl) rfl, jv_in (i := 323) (by rfl) rfl⟩
set_option maxRecDepth 20000 in
theorem cX9_71 : PMs RX9 71 mX9_within 3 := ⟨pdX9_within _, jv_in (i := 325) (by rfl) rfl, jv_in (i := 326) (by rfl) rfl⟩
set_option maxRecDepth 20000 in
theorem cX9_75 : PMv RX9 75 mX9_bad 0 := ⟨pdX9_bad _, jv_in (i := 328) (by rfl) rfl, jv_in (i := 330) (by rfl) rfl, jv_in (i := 0) (by rfl) rfl⟩
set_option maxRecDepth 20000 in
theorem cL_23 : PMv x.cls 23 mX9_dry 1 := ⟨pdX9_dry _, jv_in (i := 332) (by rfl) rfl, jv_in (i := 333) (by rfl) rfl, jv_in (i := 334) (by rfl) rfl⟩
set_option maxRecDepth 20000 in
theorem cL_27 : PMv x.cls 27 mX9_pair 2 := ⟨pdX9_pair _, jv_in (i := 336) (by rfl) rfl, jv_in (i := 337) (by rfl) rfl, jv_in (i := 338) (by rfl) rfl⟩
set_option maxRecDepth 20000 in
theorem cX9_85 : PMv RX9 85 mX8_addPair 2 := ⟨pdX8_addPair _, jv_in (i := 340) (by rfl) rfl, jv_in (i := 341) (by rfl) rfl, jv_in (i := 342) (by rfl) rfl⟩
set_option maxRecDepth 20000 in
theorem cX9_89 : PMv RX9 89 mX9_full 0 := ⟨pdX9_full _, jv_in (i := 344) (by rfl) rfl, jv_in (i := 346) (by rfl) rfl, jv_in (i := 1) (by rfl) rfl⟩
set_option maxRecDepth 20000 in
theorem cL_32 : PMv x.cls 32 mX9_kin 1 := ⟨pdX9_kin _, jv_in (i := 348) (by rfl) rfl, jv_in (i := 349) (by rfl) rfl, jv_in (i := 350) (by rfl) rfl⟩
set_option maxRecDepth 20000 in
theorem cX9_92 : PMv RX9 92 mX8_addKin 1 := ⟨pdX8_addKin _, jv_in (i := 352) (by rfl) rfl, jv_in (i := 353) (by rfl) rfl, jv_in (i := 354) (by rfl) rfl⟩
set_option maxRecDepth 20000 in
theorem cL_36 : PMv x.cls 36 mX9_type 1 := ⟨pdX9_type _, jv_in (i := 356) (by rfl) rfl, jv_in (i := 357) (by rfl) rfl, jv_in (i := 358) (by rfl) rfl⟩
set_option maxRecDepth 20000 in
theorem cX9_96 : PMv RX9 96 mX6_addSign 1 := ⟨pdX6_addSign _, jv_in (i := 360) (by rfl) rfl, jv_in (i := 361) (by rfl) rfl, jv_in (i := 362) (by rfl) rfl⟩
set_option maxRecDepth 20000 in
theorem cL_40 : PMv x.cls 40 mX9_clear 0 := ⟨pdX9_clear _, jv_in (i := 364) (by rfl) rfl, jv_in (i := 365) (by rfl) rfl, jv_in (i := 366) (by rfl) rfl⟩
set_option maxRecDepth 20000 in
theorem cX9_99 : PMv RX9 99 mX6_empty 0 := ⟨pdX6_empty _, jv_in (i := 368) (by rfl) rfl, jv_in (i := 369) (by rfl) rfl, jv_in (i := 370) (by rfl) rfl⟩
set_option maxRecDepth 20000 in
theorem cL_44 : PMv x.cls 44 mX9_read 0 := ⟨pdX9_read _, jv_in (i := 372) (by rfl) rfl, jv_in (i := 373) (by rfl) rfl, jv_in (i := 374) (by rfl) rfl⟩
set_option maxRecDepth 20000 in
theorem cX9_102 : PMv RX9 102 mX6_readInto 1 := ⟨pdX6_readInto _, jv_in (i := 376) (by rfl) rfl, jv_in (i := 377) (by rfl) rfl, jv_in (i := 378) (by rfl) rfl⟩
set_option maxRecDepth 20000 in
theorem cX6_38 : PMv RX6 38 mX8_begin 0 := ⟨pdX8_begin _, jv_in (i := 380) (by rfl) rfl, jv_in (i := 318) (by rfl) rfl, jv_in (i := 319) (by rfl) rfl⟩
set_option maxRecDepth 20000 in
theorem cX6_41 : PMv RX6 41 mX6_takeToken 0 := ⟨pdX6_takeToken _, jv_in (i := 381) (by rfl) rfl, jv_in (i := 383) (by rfl) rfl, jv_in (i := 2) (by rfl) rfl⟩
set_option maxRecDepth 20000 in
theorem cX6_111 : PMv RX6 111 mX6_takeRun 2 := ⟨pdX6_takeRun _, jv_in (i := 385) (by rfl) rfl, jv_in (i := 387) (by rfl) rfl, jv_in (i := 3) (by rfl) rfl⟩
set_option maxRecDepth 20000 in
theorem cX6_107 : PMsn RX6 107 mX9_within 3 := ⟨pdX9_within _, by decide +kernel, jv_in (i := 326) (by rfl) rfl⟩
set_option maxRecDepth 20000 in
theorem cX6_115 : PMv RX6 115 mX6_setNumber 0 := ⟨pdX6_setNumber _, jv_in (i := 390) (by rfl) rfl, jv_in (i := 392) (by rfl) rfl, jv_in (i := 4) (by rfl) rfl⟩
set_option maxRecDepth 20000 in
theorem cX6_44 : PMv RX6 44 mX8_copy 1 := ⟨pdX8_copy _, jv_in (i := 394) (by rfl) rfl, jv_in (i := 395) (by rfl) rfl, jv_in (i := 396) (by rfl) rfl⟩
set_option maxRecDepth 20000 in
theorem cX8_65 : Cond.methodLink RX8 65 arraycopyName ∈ jv_tbl := jv_in (i := 398) (by rfl) rfl
set_option maxRecDepth 20000 in
theorem cX8_71 : PMv RX8 71 mX5_copy 1 := ⟨pdX5_copy _, jv_in (i := 401) (by rfl) rfl, jv_in (i := 402) (by rfl) rfl, jv_in (i := 403) (by rfl) rfl⟩
set_option maxRecDepth 20000 in
theorem cX5_22 : Cond.methodLink RX5 22 arraycopyName ∈ jv_tbl := jv_in (i := 405) (by rfl) rfl
set_option maxRecDepth 20000 in
theorem cX6_48 : PMv RX6 48 mX6_readItem 1 := ⟨pdX6_readItem _, jv_in (i := 406) (by rfl) rfl, jv_in (i := 408) (by rfl) rfl, jv_in (i := 5) (by rfl) rfl⟩
set_option maxRecDepth 20000 in
theorem cX6_54 : PMv RX6 54 mX6_isWord 1 := ⟨pdX6_isWord _, jv_in (i := 411) (by rfl) rfl, jv_in (i := 413) (by rfl) rfl, jv_in (i := 6) (by rfl) rfl⟩
set_option maxRecDepth 20000 in
theorem cX6_118 : PMv RX6 118 mJ0_length_8abf5 0 := ⟨pdJ0_length_8abf5 _, jv_in (i := 415) (by rfl) rfl, jv_in (i := 416) (by rfl) rfl, jv_in (i := 417) (by rfl) rfl⟩
set_option maxRecDepth 20000 in
theorem cJ0_335 : PMv RJ0 335 mJ0_coder_7d493 0 := ⟨pdJ0_coder_7d493 _, jv_in (i := 419) (by rfl) rfl, jv_in (i := 420) (by rfl) rfl, jv_in (i := 421) (by rfl) rfl⟩
set_option maxRecDepth 20000 in
theorem cX6_122 : PMv RX6 122 mJ0_charAt_5068e 1 := ⟨pdJ0_charAt_5068e _, jv_in (i := 425) (by rfl) rfl, jv_in (i := 426) (by rfl) rfl, jv_in (i := 427) (by rfl) rfl⟩
set_option maxRecDepth 20000 in
theorem cJ0_492 : PMv RJ0 492 mJ0_isLatin1_aae02 0 := ⟨pdJ0_isLatin1_aae02 _, jv_in (i := 429) (by rfl) rfl, jv_in (i := 430) (by rfl) rfl, jv_in (i := 431) (by rfl) rfl⟩
set_option maxRecDepth 20000 in
theorem cJ0_495 : PMs RJ0 495 mJ1_charAt_3b067 2 := ⟨pdJ1_charAt_3b067 _, jv_in (i := 433) (by rfl) rfl, jv_in (i := 434) (by rfl) rfl⟩
set_option maxRecDepth 20000 in
theorem cJ1_9 : PMs RJ1 9 mJ0_checkIndex_df160 2 := ⟨pdJ0_checkIndex_df160 _, jv_in (i := 436) (by rfl) rfl, jv_in (i := 437) (by rfl) rfl⟩
set_option maxRecDepth 20000 in
theorem cJ0_1059 : PMs RJ0 1059 mJ3_checkIndex_8e157 3 := ⟨pdJ3_checkIndex_8e157 _, jv_in (i := 441) (by rfl) rfl, jv_in (i := 442) (by rfl) rfl⟩
set_option maxRecDepth 20000 in
theorem cJ0_498 : PMs RJ0 498 mJ2_charAt_3b067 2 := ⟨pdJ2_charAt_3b067 _, jv_in (i := 444) (by rfl) rfl, jv_in (i := 445) (by rfl) rfl⟩
set_option maxRecDepth 20000 in
theorem cJ2_67 : PMs RJ2 67 mJ2_checkIndex_2214a 2 := ⟨pdJ2_checkIndex_2214a _, jv_in (i := 447) (by rfl) rfl, jv_in (i := 448) (by rfl) rfl⟩
set_option maxRecDepth 20000 in
theorem cJ2_48 : PMs RJ2 48 mJ2_length_9d52b 1 := ⟨pdJ2_length_9d52b _, jv_in (i := 450) (by rfl) rfl, jv_in (i := 451) (by rfl) rfl⟩
set_option maxRecDepth 20000 in
theorem cJ2_414 : PMs RJ2 414 mJ0_checkIndex_df160 2 := ⟨pdJ0_checkIndex_df160 _, jv_in (i := 453) (by rfl) rfl, jv_in (i := 437) (by rfl) rfl⟩
set_option maxRecDepth 20000 in
theorem cJ2_71 : PMs RJ2 71 mJ2_getChar_3b067 2 := ⟨pdJ2_getChar_3b067 _, jv_in (i := 454) (by rfl) rfl, jv_in (i := 455) (by rfl) rfl⟩
set_option maxRecDepth 20000 in
theorem cX6_58 : PMv RX6 58 mX6_takeSemicolon 0 := ⟨pdX6_takeSemicolon _, jv_in (i := 463) (by rfl) rfl, jv_in (i := 465) (by rfl) rfl, jv_in (i := 7) (by rfl) rfl⟩
set_option maxRecDepth 20000 in
theorem cX6_64 : PMv RX6 64 mX6_readDamp 0 := ⟨pdX6_readDamp _, jv_in (i := 468) (by rfl) rfl, jv_in (i := 470) (by rfl) rfl, jv_in (i := 8) (by rfl) rfl⟩
set_option maxRecDepth 20000 in
theorem cX6_82 : PMv RX6 82 mX6_takeYears 0 := ⟨pdX6_takeYears _, jv_in (i := 472) (by rfl) rfl, jv_in (i := 474) (by rfl) rfl, jv_in (i := 9) (by rfl) rfl⟩
set_option maxRecDepth 20000 in
theorem cX6_69 : PMv RX6 69 mX6_readDry 0 := ⟨pdX6_readDry _, jv_in (i := 477) (by rfl) rfl, jv_in (i := 479) (by rfl) rfl, jv_in (i := 10) (by rfl) rfl⟩
set_option maxRecDepth 20000 in
theorem cX6_74 : PMv RX6 74 mX6_readPair 0 := ⟨pdX6_readPair _, jv_in (i := 482) (by rfl) rfl, jv_in (i := 484) (by rfl) rfl, jv_in (i := 11) (by rfl) rfl⟩
set_option maxRecDepth 20000 in
theorem cX6_93 : PMv RX6 93 mX6_takeNumber 2 := ⟨pdX6_takeNumber _, jv_in (i := 486) (by rfl) rfl, jv_in (i := 488) (by rfl) rfl, jv_in (i := 12) (by rfl) rfl⟩
set_option maxRecDepth 20000 in
theorem cX6_97 : PMv RX6 97 mX8_addPair 2 := ⟨pdX8_addPair _, jv_in (i := 490) (by rfl) rfl, jv_in (i := 341) (by rfl) rfl, jv_in (i := 342) (by rfl) rfl⟩
set_option maxRecDepth 20000 in
theorem cX6_79 : PMv RX6 79 mX6_readKin 0 := ⟨pdX6_readKin _, jv_in (i := 492) (by rfl) rfl, jv_in (i := 494) (by rfl) rfl, jv_in (i := 13) (by rfl) rfl⟩
set_option maxRecDepth 20000 in
theorem cX6_103 : PMv RX6 103 mX8_addKin 1 := ⟨pdX8_addKin _, jv_in (i := 496) (by rfl) rfl, jv_in (i := 353) (by rfl) rfl, jv_in (i := 354) (by rfl) rfl⟩
set_option maxRecDepth 20000 in
theorem cL_48 : PMv x.cls 48 mX9_year 1 := ⟨pdX9_year _, jv_in (i := 497) (by rfl) rfl, jv_in (i := 498) (by rfl) rfl, jv_in (i := 499) (by rfl) rfl⟩
set_option maxRecDepth 20000 in
theorem cX9_106 : PMv RX9 106 mX8_passYear 0 := ⟨pdX8_passYear _, jv_in (i := 501) (by rfl) rfl, jv_in (i := 502) (by rfl) rfl, jv_in (i := 503) (by rfl) rfl⟩
set_option maxRecDepth 20000 in
theorem cX8_75 : PMv RX8 75 mX5_push 3 := ⟨pdX5_push _, jv_in (i := 505) (by rfl) rfl, jv_in (i := 506) (by rfl) rfl, jv_in (i := 507) (by rfl) rfl⟩
set_option maxRecDepth 20000 in
theorem cX5_28 : PMs RX5 28 mJ9_min_7cf53 2 := ⟨pdJ9_min_7cf53 _, jv_in (i := 509) (by rfl) rfl, jv_in (i := 510) (by rfl) rfl⟩
set_option maxRecDepth 20000 in
theorem cX8_79 : PMs RX8 79 mX4_leftAfter 5 := ⟨pdX4_leftAfter _, jv_in (i := 512) (by rfl) rfl, jv_in (i := 513) (by rfl) rfl⟩
set_option maxRecDepth 20000 in
theorem cX4_9 : PMs RX4 9 mX4_goes 4 := ⟨pdX4_goes _, jv_in (i := 515) (by rfl) rfl, jv_in (i := 516) (by rfl) rfl⟩
set_option maxRecDepth 20000 in
theorem cX4_15 : PMs RX4 15 mJ9_max_7cf53 2 := ⟨pdJ9_max_7cf53 _, jv_in (i := 518) (by rfl) rfl, jv_in (i := 519) (by rfl) rfl⟩
set_option maxRecDepth 20000 in
theorem cL_52 : PMv x.cls 52 mX9_give 2 := ⟨pdX9_give _, jv_in (i := 521) (by rfl) rfl, jv_in (i := 522) (by rfl) rfl, jv_in (i := 523) (by rfl) rfl⟩
set_option maxRecDepth 20000 in
theorem cX9_109 : PMv RX9 109 mX8_hasPair 1 := ⟨pdX8_hasPair _, jv_in (i := 525) (by rfl) rfl, jv_in (i := 526) (by rfl) rfl, jv_in (i := 527) (by rfl) rfl⟩
set_option maxRecDepth 20000 in
theorem cX9_113 : PMv RX9 113 mX9_badTen 0 := ⟨pdX9_badTen _, jv_in (i := 529) (by rfl) rfl, jv_in (i := 531) (by rfl) rfl, jv_in (i := 14) (by rfl) rfl⟩
set_option maxRecDepth 20000 in
theorem cX9_120 : PMv RX9 120 mX9_no 0 := ⟨pdX9_no _, jv_in (i := 533) (by rfl) rfl, jv_in (i := 535) (by rfl) rfl, jv_in (i := 15) (by rfl) rfl⟩
set_option maxRecDepth 20000 in
theorem cX9_123 : PMv RX9 123 mX8_setLoaves 2 := ⟨pdX8_setLoaves _, jv_in (i := 537) (by rfl) rfl, jv_in (i := 538) (by rfl) rfl, jv_in (i := 539) (by rfl) rfl⟩
set_option maxRecDepth 20000 in
theorem cL_56 : PMv x.cls 56 mX9_undo 0 := ⟨pdX9_undo _, jv_in (i := 541) (by rfl) rfl, jv_in (i := 542) (by rfl) rfl, jv_in (i := 543) (by rfl) rfl⟩
set_option maxRecDepth 20000 in
theorem cX9_136 : PMv RX9 136 mX8_goBack 0 := ⟨pdX8_goBack _, jv_in (i := 545) (by rfl) rfl, jv_in (i := 546) (by rfl) rfl, jv_in (i := 547) (by rfl) rfl⟩
set_option maxRecDepth 20000 in
theorem cX8_85 : PMv RX8 85 mX5_pop 2 := ⟨pdX5_pop _, jv_in (i := 549) (by rfl) rfl, jv_in (i := 550) (by rfl) rfl, jv_in (i := 551) (by rfl) rfl⟩
set_option maxRecDepth 20000 in
theorem cX5_34 : PMs RX5 34 mJ9_max_7cf53 2 := ⟨pdJ9_max_7cf53 _, jv_in (i := 553) (by rfl) rfl, jv_in (i := 519) (by rfl) rfl⟩
set_option maxRecDepth 20000 in
theorem cL_60 : PMv x.cls 60 mX9_of 2 := ⟨pdX9_of _, jv_in (i := 554) (by rfl) rfl, jv_in (i := 555) (by rfl) rfl, jv_in (i := 556) (by rfl) rfl⟩
set_option maxRecDepth 20000 in
theorem cX9_151 : PMs RX9 151 mX4_goes 4 := ⟨pdX4_goes _, jv_in (i := 558) (by rfl) rfl, jv_in (i := 516) (by rfl) rfl⟩
set_option maxRecDepth 20000 in
theorem cL_64 : PMv x.cls 64 mX9_left 2 := ⟨pdX9_left _, jv_in (i := 559) (by rfl) rfl, jv_in (i := 560) (by rfl) rfl, jv_in (i := 561) (by rfl) rfl⟩
set_option maxRecDepth 20000 in
theorem cX9_157 : PMv RX9 157 mX8_leftAs 4 := ⟨pdX8_leftAs _, jv_in (i := 563) (by rfl) rfl, jv_in (i := 564) (by rfl) rfl, jv_in (i := 565) (by rfl) rfl⟩
set_option maxRecDepth 20000 in
theorem cL_68 : PMv x.cls 68 mX9_till 1 := ⟨pdX9_till _, jv_in (i := 567) (by rfl) rfl, jv_in (i := 568) (by rfl) rfl, jv_in (i := 569) (by rfl) rfl⟩
set_option maxRecDepth 20000 in
theorem cX9_160 : PMs RX9 160 mX1_endOf 2 := ⟨pdX1_endOf _, jv_in (i := 571) (by rfl) rfl, jv_in (i := 572) (by rfl) rfl⟩
set_option maxRecDepth 20000 in
theorem cX1_34 : PMv RX1 34 mX8_leftInYear 3 := ⟨pdX8_leftInYear _, jv_in (i := 574) (by rfl) rfl, jv_in (i := 575) (by rfl) rfl, jv_in (i := 576) (by rfl) rfl⟩
set_option maxRecDepth 20000 in
theorem cL_72 : PMv x.cls 72 mX9_together 1 := ⟨pdX9_together _, jv_in (i := 578) (by rfl) rfl, jv_in (i := 579) (by rfl) rfl, jv_in (i := 580) (by rfl) rfl⟩
set_option maxRecDepth 20000 in
theorem cX9_164 : PMv RX9 164 mX1_lookForEnds 1 := ⟨pdX1_lookForEnds _, jv_in (i := 582) (by rfl) rfl, jv_in (i := 583) (by rfl) rfl, jv_in (i := 584) (by rfl) rfl⟩
set_option maxRecDepth 20000 in
theorem cX1_41 : Cond.methodLink RX1 41 arraycopyName ∈ jv_tbl := jv_in (i := 586) (by rfl) rfl
set_option maxRecDepth 20000 in
theorem cX1_47 : PMv RX1 47 mX1_endingInYear 2 := ⟨pdX1_endingInYear _, jv_in (i := 587) (by rfl) rfl, jv_in (i := 589) (by rfl) rfl, jv_in (i := 16) (by rfl) rfl⟩
set_option maxRecDepth 20000 in
theorem cX1_51 : PMs RX1 51 mJ6_bitCount_0f7a4 1 := ⟨pdJ6_bitCount_0f7a4 _, jv_in (i := 591) (by rfl) rfl, jv_in (i := 592) (by rfl) rfl⟩
set_option maxRecDepth 20000 in
theorem cL_76 : PMv x.cls 76 mX9_gifts 4 := ⟨pdX9_gifts _, jv_in (i := 597) (by rfl) rfl, jv_in (i := 598) (by rfl) rfl, jv_in (i := 599) (by rfl) rfl⟩
set_option maxRecDepth 20000 in
theorem cX9_174 : PMv RX9 174 mX3_search 4 := ⟨pdX3_search _, jv_in (i := 601) (by rfl) rfl, jv_in (i := 602) (by rfl) rfl, jv_in (i := 603) (by rfl) rfl⟩
set_option maxRecDepth 20000 in
theorem cX3_27 : PMs RX3 27 mX3_flourNeeded 3 := ⟨pdX3_flourNeeded _, jv_in (i := 605) (by rfl) rfl, jv_in (i := 606) (by rfl) rfl⟩
set_option maxRecDepth 20000 in
theorem cX3_50 : PMs RX3 50 mX4_goes 4 := ⟨pdX4_goes _, jv_in (i := 608) (by rfl) rfl, jv_in (i := 516) (by rfl) rfl⟩
set_option maxRecDepth 20000 in
theorem cX3_59 : PMs RX3 59 mJ9_max_7cf53 2 := ⟨pdJ9_max_7cf53 _, jv_in (i := 609) (by rfl) rfl, jv_in (i := 519) (by rfl) rfl⟩
set_option maxRecDepth 20000 in
theorem cX3_31 : PMs RX3 31 mX3_share 7 := ⟨pdX3_share _, jv_in (i := 610) (by rfl) rfl, jv_in (i := 611) (by rfl) rfl⟩
set_option maxRecDepth 20000 in
theorem cL_81 : PMv x.cls 81 mX9_drought 1 := ⟨pdX9_drought _, jv_in (i := 613) (by rfl) rfl, jv_in (i := 614) (by rfl) rfl, jv_in (i := 615) (by rfl) rfl⟩
set_option maxRecDepth 20000 in
theorem cX9_187 : PMs RX9 187 mX1_worstDrought 2 := ⟨pdX1_worstDrought _, jv_in (i := 617) (by rfl) rfl, jv_in (i := 618) (by rfl) rfl⟩
set_option maxRecDepth 20000 in
theorem cX1_63 : PMs RX1 63 mX1_loavesBehind 3 := ⟨pdX1_loavesBehind _, jv_in (i := 620) (by rfl) rfl, jv_in (i := 621) (by rfl) rfl⟩
set_option maxRecDepth 20000 in
theorem cX1_70 : PMv RX1 70 mX8_leftAs 4 := ⟨pdX8_leftAs _, jv_in (i := 623) (by rfl) rfl, jv_in (i := 564) (by rfl) rfl, jv_in (i := 565) (by rfl) rfl⟩
set_option maxRecDepth 20000 in
theorem cL_85 : PMv x.cls 85 mX9_counted 3 := ⟨pdX9_counted _, jv_in (i := 624) (by rfl) rfl, jv_in (i := 625) (by rfl) rfl, jv_in (i := 626) (by rfl) rfl⟩
set_option maxRecDepth 20000 in
theorem cX9_190 : PMv RX9 190 mX8_addCounted 3 := ⟨pdX8_addCounted _, jv_in (i := 628) (by rfl) rfl, jv_in (i := 629) (by rfl) rfl, jv_in (i := 630) (by rfl) rfl⟩
set_option maxRecDepth 20000 in
theorem cL_90 : PMv x.cls 90 mX9_forget 0 := ⟨pdX9_forget _, jv_in (i := 632) (by rfl) rfl, jv_in (i := 633) (by rfl) rfl, jv_in (i := 634) (by rfl) rfl⟩
set_option maxRecDepth 20000 in
theorem cL_94 : PMv x.cls 94 mX9_is 1 := ⟨pdX9_is _, jv_in (i := 636) (by rfl) rfl, jv_in (i := 637) (by rfl) rfl, jv_in (i := 638) (by rfl) rfl⟩
set_option maxRecDepth 20000 in
theorem cX9_197 : PMs RX9 197 mX7_kindsThatFit 2 := ⟨pdX7_kindsThatFit _, jv_in (i := 640) (by rfl) rfl, jv_in (i := 641) (by rfl) rfl⟩
set_option maxRecDepth 20000 in
theorem cX7_15 : PMs RX7 15 mX7_fits 3 := ⟨pdX7_fits _, jv_in (i := 643) (by rfl) rfl, jv_in (i := 644) (by rfl) rfl⟩
set_option maxRecDepth 20000 in
theorem cX7_37 : PMv RX7 37 mX8_leftAs 4 := ⟨pdX8_leftAs _, jv_in (i := 646) (by rfl) rfl, jv_in (i := 564) (by rfl) rfl, jv_in (i := 565) (by rfl) rfl⟩
set_option maxRecDepth 20000 in
theorem cL_98 : PMv x.cls 98 mX9_next 1 := ⟨pdX9_next _, jv_in (i := 647) (by rfl) rfl, jv_in (i := 648) (by rfl) rfl, jv_in (i := 649) (by rfl) rfl⟩
set_option maxRecDepth 20000 in
theorem cX9_200 : PMv RX9 200 mX7_countNext 2 := ⟨pdX7_countNext _, jv_in (i := 651) (by rfl) rfl, jv_in (i := 652) (by rfl) rfl, jv_in (i := 653) (by rfl) rfl⟩
set_option maxRecDepth 20000 in
theorem cX7_44 : PMs RX7 44 mX7_kindsThatFit 2 := ⟨pdX7_kindsThatFit _, jv_in (i := 655) (by rfl) rfl, jv_in (i := 641) (by rfl) rfl⟩
set_option maxRecDepth 20000 in
theorem cX7_48 : PMv RX7 48 mX7_mostAlike 1 := ⟨pdX7_mostAlike _, jv_in (i := 656) (by rfl) rfl, jv_in (i := 658) (by rfl) rfl, jv_in (i := 17) (by rfl) rfl⟩
set_option maxRecDepth 20000 in
theorem cX7_68 : PMv RX7 68 mX7_howManyHave 2 := ⟨pdX7_howManyHave _, jv_in (i := 660) (by rfl) rfl, jv_in (i := 662) (by rfl) rfl, jv_in (i := 18) (by rfl) rfl⟩
set_option maxRecDepth 20000 in
theorem cX7_72 : PMs RX7 72 mJ9_max_7cf53 2 := ⟨pdJ9_max_7cf53 _, jv_in (i := 664) (by rfl) rfl, jv_in (i := 519) (by rfl) rfl⟩
set_option maxRecDepth 20000 in
theorem cX7_52 : PMv RX7 52 mX7_passYearByKind 2 := ⟨pdX7_passYearByKind _, jv_in (i := 665) (by rfl) rfl, jv_in (i := 667) (by rfl) rfl, jv_in (i := 19) (by rfl) rfl⟩
set_option maxRecDepth 20000 in
theorem cX7_62 : PMs RX7 62 mX4_leftAfter 5 := ⟨pdX4_leftAfter _, jv_in (i := 669) (by rfl) rfl, jv_in (i := 513) (by rfl) rfl⟩
set_option maxRecDepth 20000 in
theorem cL_102 : PMv x.cls 102 mX9_swapped 1 := ⟨pdX9_swapped _, jv_in (i := 670) (by rfl) rfl, jv_in (i := 671) (by rfl) rfl, jv_in (i := 672) (by rfl) rfl⟩
set_option maxRecDepth 20000 in
theorem cX9_203 : PMs RX9 203 mX7_swaps 2 := ⟨pdX7_swaps _, jv_in (i := 674) (by rfl) rfl, jv_in (i := 675) (by rfl) rfl⟩
set_option maxRecDepth 20000 in
theorem cX7_80 : PMs RX7 80 mX7_fitsSwapped 3 := ⟨pdX7_fitsSwapped _, jv_in (i := 677) (by rfl) rfl, jv_in (i := 678) (by rfl) rfl⟩
set_option maxRecDepth 20000 in
theorem cL_106 : PMv x.cls 106 mX9_back 0 := ⟨pdX9_back _, jv_in (i := 680) (by rfl) rfl, jv_in (i := 681) (by rfl) rfl, jv_in (i := 682) (by rfl) rfl⟩
set_option maxRecDepth 20000 in
theorem cX9_206 : PMs RX9 206 mX7_pairsPutBack 1 := ⟨pdX7_pairsPutBack _, jv_in (i := 684) (by rfl) rfl, jv_in (i := 685) (by rfl) rfl⟩
set_option maxRecDepth 20000 in
theorem cX7_86 : PMs RX7 86 mX7_fitsPutBack 2 := ⟨pdX7_fitsPutBack _, jv_in (i := 687) (by rfl) rfl, jv_in (i := 688) (by rfl) rfl⟩
set_option maxRecDepth 20000 in
theorem cX7_90 : PMs RX7 90 mX7_leftWithMore 4 := ⟨pdX7_leftWithMore _, jv_in (i := 690) (by rfl) rfl, jv_in (i := 691) (by rfl) rfl⟩
set_option maxRecDepth 20000 in
theorem cX7_94 : PMs RX7 94 mJ9_min_7cf53 2 := ⟨pdJ9_min_7cf53 _, jv_in (i := 693) (by rfl) rfl, jv_in (i := 510) (by rfl) rfl⟩
set_option maxRecDepth 20000 in
theorem cX7_97 : PMv RX7 97 mX8_leftInYear 3 := ⟨pdX8_leftInYear _, jv_in (i := 694) (by rfl) rfl, jv_in (i := 575) (by rfl) rfl, jv_in (i := 576) (by rfl) rfl⟩
set_option maxRecDepth 20000 in
theorem cL_110 : PMv x.cls 110 mX9_crusts 2 := ⟨pdX9_crusts _, jv_in (i := 695) (by rfl) rfl, jv_in (i := 696) (by rfl) rfl, jv_in (i := 697) (by rfl) rfl⟩
set_option maxRecDepth 20000 in
theorem cX9_209 : PMs RX9 209 mX0_beginnerWins 1 := ⟨pdX0_beginnerWins _, jv_in (i := 699) (by rfl) rfl, jv_in (i := 700) (by rfl) rfl⟩
set_option maxRecDepth 20000 in
theorem cX9_214 : PMs RX9 214 mX0_firstBroken 1 := ⟨pdX0_firstBroken _, jv_in (i := 702) (by rfl) rfl, jv_in (i := 703) (by rfl) rfl⟩
set_option maxRecDepth 20000 in
theorem cL_114 : PMv x.cls 114 mX9_mice 3 := ⟨pdX9_mice _, jv_in (i := 705) (by rfl) rfl, jv_in (i := 706) (by rfl) rfl, jv_in (i := 707) (by rfl) rfl⟩
set_option maxRecDepth 20000 in
theorem cX9_217 : PMv RX9 217 mX1_chanceWithMice 5 := ⟨pdX1_chanceWithMice _, jv_in (i := 709) (by rfl) rfl, jv_in (i := 710) (by rfl) rfl, jv_in (i := 711) (by rfl) rfl⟩
set_option maxRecDepth 20000 in
theorem cX1_84 : PMv RX1 84 mX1_miceEat 4 := ⟨pdX1_miceEat _, jv_in (i := 713) (by rfl) rfl, jv_in (i := 715) (by rfl) rfl, jv_in (i := 20) (by rfl) rfl⟩
set_option maxRecDepth 20000 in
theorem cX1_90 : PMv RX1 90 mX2_set 2 := ⟨pdX2_set _, jv_in (i := 718) (by rfl) rfl, jv_in (i := 719) (by rfl) rfl, jv_in (i := 720) (by rfl) rfl⟩
set_option maxRecDepth 20000 in
theorem cX2_16 : PMs RX2 16 mX2_commonDivisor 2 := ⟨pdX2_commonDivisor _, jv_in (i := 722) (by rfl) rfl, jv_in (i := 723) (by rfl) rfl⟩
set_option maxRecDepth 20000 in
theorem cL_118 : PMv x.cls 118 mX9_years 3 := ⟨pdX9_years _, jv_in (i := 725) (by rfl) rfl, jv_in (i := 726) (by rfl) rfl, jv_in (i := 727) (by rfl) rfl⟩
set_option maxRecDepth 20000 in
theorem cX9_222 : PMv RX9 222 mX1_loavesBySeed 4 := ⟨pdX1_loavesBySeed _, jv_in (i := 730) (by rfl) rfl, jv_in (i := 731) (by rfl) rfl, jv_in (i := 732) (by rfl) rfl⟩
set_option maxRecDepth 20000 in
theorem cL_122 : PMv x.cls 122 mX9_part 1 := ⟨pdX9_part _, jv_in (i := 739) (by rfl) rfl, jv_in (i := 740) (by rfl) rfl, jv_in (i := 741) (by rfl) rfl⟩
set_option maxRecDepth 20000 in
theorem cL_127 : PMv x.cls 127 mX9_image 1 := ⟨pdX9_image _, jv_in (i := 743) (by rfl) rfl, jv_in (i := 744) (by rfl) rfl, jv_in (i := 745) (by rfl) rfl⟩
set_option maxRecDepth 20000 in
theorem cX9_233 : PMv RX9 233 mX8_copy 1 := ⟨pdX8_copy _, jv_in (i := 747) (by rfl) rfl, jv_in (i := 395) (by rfl) rfl, jv_in (i := 396) (by rfl) rfl⟩
set_option maxRecDepth 20000 in
theorem cL_131 : PMv x.cls 131 mX9_from 1 := ⟨pdX9_from _, jv_in (i := 748) (by rfl) rfl, jv_in (i := 749) (by rfl) rfl, jv_in (i := 750) (by rfl) rfl⟩
set_option maxRecDepth 20000 in
theorem cL_135 : PMv x.cls 135 mX9_status 1 := ⟨pdX9_status _, jv_in (i := 752) (by rfl) rfl, jv_in (i := 753) (by rfl) rfl, jv_in (i := 754) (by rfl) rfl⟩
set_option maxRecDepth 20000 in
theorem cL_139 : PMv x.cls 139 mX9_count 1 := ⟨pdX9_count _, jv_in (i := 756) (by rfl) rfl, jv_in (i := 757) (by rfl) rfl, jv_in (i := 758) (by rfl) rfl⟩
set_option maxRecDepth 20000 in
theorem cX9_239 : PMv RX9 239 mX8_allLoaves 0 := ⟨pdX8_allLoaves _, jv_in (i := 760) (by rfl) rfl, jv_in (i := 761) (by rfl) rfl, jv_in (i := 762) (by rfl) rfl⟩
set_option maxRecDepth 20000 in
theorem cL_143 : PMv x.cls 143 mX9_digest 0 := ⟨pdX9_digest _, jv_in (i := 764) (by rfl) rfl, jv_in (i := 765) (by rfl) rfl, jv_in (i := 766) (by rfl) rfl⟩
set_option maxRecDepth 20000 in
theorem cX9_249 : PMv RX9 249 mX9_count 1 := ⟨pdX9_count _, jv_in (i := 770) (by rfl) rfl, jv_in (i := 757) (by rfl) rfl, jv_in (i := 758) (by rfl) rfl⟩
set_option maxRecDepth 20000 in
theorem cX9_252 : PMv RX9 252 mX8_digestOn 1 := ⟨pdX8_digestOn _, jv_in (i := 771) (by rfl) rfl, jv_in (i := 772) (by rfl) rfl, jv_in (i := 773) (by rfl) rfl⟩
set_option maxRecDepth 20000 in
theorem cL_12 : PMi x.cls 12 mX10_init 0 := ⟨pdX10_init _, jv_in (i := 778) (by rfl) rfl, jv_in (i := 779) (by rfl) rfl, rfl, rfl⟩
set_option maxRecDepth 20000 in
theorem cX10_1 : Cond.methodLink RX10 1 objectInit ∈ jv_tbl := jv_in (i := 781) (by rfl) rfl
set_option maxRecDepth 20000 in
theorem cX10_46 : PMs RX10 46 mX10_layFirst 1 := ⟨pdX10_layFirst _, jv_in (i := 782) (by rfl) rfl, jv_in (i := 783) (by rfl) rfl⟩
set_option maxRecDepth 20000 in
theorem cL_17 : PMv x.cls 17 mX10_valley 0 := ⟨pdX10_valley _, jv_in (i := 856) (by rfl) rfl, jv_in (i := 857) (by rfl) rfl, jv_in (i := 858) (by rfl) rfl⟩
set_option maxRecDepth 20000 in
theorem cL_22 : PMv x.cls 22 mX10_damp 1 := ⟨pdX10_damp _, jv_in (i := 860) (by rfl) rfl, jv_in (i := 861) (by rfl) rfl, jv_in (i := 862) (by rfl) rfl⟩
set_option maxRecDepth 20000 in
theorem cX10_50 : PMs RX10 50 mX10_in 3 := ⟨pdX10_in _, jv_in (i := 864) (by rfl) rfl, jv_in (i := 865) (by rfl) rfl⟩
set_option maxRecDepth 20000 in
theorem cX10_54 : PMv RX10 54 mX10_refuse 1 := ⟨pdX10_refuse _, jv_in (i := 867) (by rfl) rfl, jv_in (i := 869) (by rfl) rfl, jv_in (i := 21) (by rfl) rfl⟩
set_option maxRecDepth 20000 in
theorem cL_26 : PMv x.cls 26 mX10_dry 1 := ⟨pdX10_dry _, jv_in (i := 871) (by rfl) rfl, jv_in (i := 872) (by rfl) rfl, jv_in (i := 873) (by rfl) rfl⟩
set_option maxRecDepth 20000 in
theorem cL_31 : PMv x.cls 31 mX10_pair 2 := ⟨pdX10_pair _, jv_in (i := 875) (by rfl) rfl, jv_in (i := 876) (by rfl) rfl, jv_in (i := 877) (by rfl) rfl⟩
set_option maxRecDepth 20000 in
theorem cX10_58 : PMs RX10 58 mX10_addPair 3 := ⟨pdX10_addPair _, jv_in (i := 879) (by rfl) rfl, jv_in (i := 880) (by rfl) rfl⟩
set_option maxRecDepth 20000 in
theorem cL_35 : PMv x.cls 35 mX10_kin 1 := ⟨pdX10_kin _, jv_in (i := 882) (by rfl) rfl, jv_in (i := 883) (by rfl) rfl, jv_in (i := 884) (by rfl) rfl⟩
set_option maxRecDepth 20000 in
theorem cX10_62 : PMs RX10 62 mX10_addKin 2 := ⟨pdX10_addKin _, jv_in (i := 886) (by rfl) rfl, jv_in (i := 887) (by rfl) rfl⟩
set_option maxRecDepth 20000 in
theorem cL_39 : PMv x.cls 39 mX10_type 1 := ⟨pdX10_type _, jv_in (i := 889) (by rfl) rfl, jv_in (i := 890) (by rfl) rfl, jv_in (i := 891) (by rfl) rfl⟩
set_option maxRecDepth 20000 in
theorem cL_43 : PMv x.cls 43 mX10_clear 0 := ⟨pdX10_clear _, jv_in (i := 893) (by rfl) rfl, jv_in (i := 894) (by rfl) rfl, jv_in (i := 895) (by rfl) rfl⟩
set_option maxRecDepth 20000 in
theorem cL_47 : PMv x.cls 47 mX10_read 0 := ⟨pdX10_read _, jv_in (i := 897) (by rfl) rfl, jv_in (i := 898) (by rfl) rfl, jv_in (i := 899) (by rfl) rfl⟩
set_option maxRecDepth 20000 in
theorem cX10_94 : PMv RX10 94 mX10_nextToken 0 := ⟨pdX10_nextToken _, jv_in (i := 901) (by rfl) rfl, jv_in (i := 903) (by rfl) rfl, jv_in (i := 22) (by rfl) rfl⟩
set_option maxRecDepth 20000 in
theorem cX10_73 : PMv RX10 73 mX10_letterAt 1 := ⟨pdX10_letterAt _, jv_in (i := 905) (by rfl) rfl, jv_in (i := 907) (by rfl) rfl, jv_in (i := 23) (by rfl) rfl⟩
set_option maxRecDepth 20000 in
theorem cX10_116 : PMv RX10 116 mX10_isItem 0 := ⟨pdX10_isItem _, jv_in (i := 912) (by rfl) rfl, jv_in (i := 914) (by rfl) rfl, jv_in (i := 24) (by rfl) rfl⟩
set_option maxRecDepth 20000 in
theorem cX10_104 : PMs RX10 104 mX10_wordOf 6 := ⟨pdX10_wordOf _, jv_in (i := 916) (by rfl) rfl, jv_in (i := 917) (by rfl) rfl⟩
set_option maxRecDepth 20000 in
theorem cX10_108 : PMv RX10 108 mX10_isEnd 0 := ⟨pdX10_isEnd _, jv_in (i := 919) (by rfl) rfl, jv_in (i := 921) (by rfl) rfl, jv_in (i := 25) (by rfl) rfl⟩
set_option maxRecDepth 20000 in
theorem cX10_112 : PMv RX10 112 mX10_yearsTold 0 := ⟨pdX10_yearsTold _, jv_in (i := 923) (by rfl) rfl, jv_in (i := 925) (by rfl) rfl, jv_in (i := 26) (by rfl) rfl⟩
set_option maxRecDepth 20000 in
theorem cX10_97 : PMv RX10 97 mX10_isNumber 2 := ⟨pdX10_isNumber _, jv_in (i := 927) (by rfl) rfl, jv_in (i := 929) (by rfl) rfl, jv_in (i := 27) (by rfl) rfl⟩
set_option maxRecDepth 20000 in
theorem cX10_119 : PMs RX10 119 mX10_copy 4 := ⟨pdX10_copy _, jv_in (i := 931) (by rfl) rfl, jv_in (i := 932) (by rfl) rfl⟩
set_option maxRecDepth 20000 in
theorem cL_51 : PMv x.cls 51 mX10_year 1 := ⟨pdX10_year _, jv_in (i := 934) (by rfl) rfl, jv_in (i := 935) (by rfl) rfl, jv_in (i := 936) (by rfl) rfl⟩
set_option maxRecDepth 20000 in
theorem cX10_134 : PMv RX10 134 mX10_note 0 := ⟨pdX10_note _, jv_in (i := 938) (by rfl) rfl, jv_in (i := 940) (by rfl) rfl, jv_in (i := 28) (by rfl) rfl⟩
set_option maxRecDepth 20000 in
theorem cX10_137 : PMv RX10 137 mX10_leftBy 2 := ⟨pdX10_leftBy _, jv_in (i := 942) (by rfl) rfl, jv_in (i := 944) (by rfl) rfl, jv_in (i := 29) (by rfl) rfl⟩
set_option maxRecDepth 20000 in
theorem cX10_130 : PMv RX10 130 mX10_leftOf 4 := ⟨pdX10_leftOf _, jv_in (i := 946) (by rfl) rfl, jv_in (i := 948) (by rfl) rfl, jv_in (i := 30) (by rfl) rfl⟩
set_option maxRecDepth 20000 in
theorem cX10_126 : PMv RX10 126 mX10_goes 3 := ⟨pdX10_goes _, jv_in (i := 950) (by rfl) rfl, jv_in (i := 952) (by rfl) rfl, jv_in (i := 31) (by rfl) rfl⟩
set_option maxRecDepth 20000 in
theorem cX10_123 : PMs RX10 123 mX10_has 2 := ⟨pdX10_has _, jv_in (i := 954) (by rfl) rfl, jv_in (i := 955) (by rfl) rfl⟩
set_option maxRecDepth 20000 in
theorem cL_55 : PMv x.cls 55 mX10_give 2 := ⟨pdX10_give _, jv_in (i := 957) (by rfl) rfl, jv_in (i := 958) (by rfl) rfl, jv_in (i := 959) (by rfl) rfl⟩
set_option maxRecDepth 20000 in
theorem cX10_141 : PMv RX10 141 mX10_isPair 1 := ⟨pdX10_isPair _, jv_in (i := 961) (by rfl) rfl, jv_in (i := 963) (by rfl) rfl, jv_in (i := 32) (by rfl) rfl⟩
set_option maxRecDepth 20000 in
theorem cL_59 : PMv x.cls 59 mX10_undo 0 := ⟨pdX10_undo _, jv_in (i := 965) (by rfl) rfl, jv_in (i := 966) (by rfl) rfl, jv_in (i := 967) (by rfl) rfl⟩
set_option maxRecDepth 20000 in
theorem cL_63 : PMv x.cls 63 mX10_of 2 := ⟨pdX10_of _, jv_in (i := 969) (by rfl) rfl, jv_in (i := 970) (by rfl) rfl, jv_in (i := 971) (by rfl) rfl⟩
set_option maxRecDepth 20000 in
theorem cL_67 : PMv x.cls 67 mX10_left 2 := ⟨pdX10_left _, jv_in (i := 973) (by rfl) rfl, jv_in (i := 974) (by rfl) rfl, jv_in (i := 975) (by rfl) rfl⟩
set_option maxRecDepth 20000 in
theorem cL_71 : PMv x.cls 71 mX10_till 1 := ⟨pdX10_till _, jv_in (i := 977) (by rfl) rfl, jv_in (i := 978) (by rfl) rfl, jv_in (i := 979) (by rfl) rfl⟩
set_option maxRecDepth 20000 in
theorem cX10_145 : PMv RX10 145 mX10_endOf 1 := ⟨pdX10_endOf _, jv_in (i := 981) (by rfl) rfl, jv_in (i := 983) (by rfl) rfl, jv_in (i := 33) (by rfl) rfl⟩
set_option maxRecDepth 20000 in
theorem cL_75 : PMv x.cls 75 mX10_together 1 := ⟨pdX10_together _, jv_in (i := 985) (by rfl) rfl, jv_in (i := 986) (by rfl) rfl, jv_in (i := 987) (by rfl) rfl⟩
set_option maxRecDepth 20000 in
theorem cL_80 : PMv x.cls 80 mX10_gifts 4 := ⟨pdX10_gifts _, jv_in (i := 989) (by rfl) rfl, jv_in (i := 990) (by rfl) rfl, jv_in (i := 991) (by rfl) rfl⟩
set_option maxRecDepth 20000 in
theorem cX10_157 : PMv RX10 157 mX10_layGifts 3 := ⟨pdX10_layGifts _, jv_in (i := 993) (by rfl) rfl, jv_in (i := 995) (by rfl) rfl, jv_in (i := 34) (by rfl) rfl⟩
set_option maxRecDepth 20000 in
theorem cL_84 : PMv x.cls 84 mX10_drought 1 := ⟨pdX10_drought _, jv_in (i := 997) (by rfl) rfl, jv_in (i := 998) (by rfl) rfl, jv_in (i := 999) (by rfl) rfl⟩
set_option maxRecDepth 20000 in
theorem cL_89 : PMv x.cls 89 mX10_counted 3 := ⟨pdX10_counted _, jv_in (i := 1001) (by rfl) rfl, jv_in (i := 1002) (by rfl) rfl, jv_in (i := 1003) (by rfl) rfl⟩
set_option maxRecDepth 20000 in
theorem cL_93 : PMv x.cls 93 mX10_forget 0 := ⟨pdX10_forget _, jv_in (i := 1005) (by rfl) rfl, jv_in (i := 1006) (by rfl) rfl, jv_in (i := 1007) (by rfl) rfl⟩
set_option maxRecDepth 20000 in
theorem cL_97 : PMv x.cls 97 mX10_is 1 := ⟨pdX10_is _, jv_in (i := 1009) (by rfl) rfl, jv_in (i := 1010) (by rfl) rfl, jv_in (i := 1011) (by rfl) rfl⟩
set_option maxRecDepth 20000 in
theorem cX10_161 : PMv RX10 161 mX10_kindsOf 1 := ⟨pdX10_kindsOf _, jv_in (i := 1013) (by rfl) rfl, jv_in (i := 1015) (by rfl) rfl, jv_in (i := 35) (by rfl) rfl⟩
set_option maxRecDepth 20000 in
theorem cL_101 : PMv x.cls 101 mX10_next 1 := ⟨pdX10_next _, jv_in (i := 1017) (by rfl) rfl, jv_in (i := 1018) (by rfl) rfl, jv_in (i := 1019) (by rfl) rfl⟩
set_option maxRecDepth 20000 in
theorem cL_105 : PMv x.cls 105 mX10_swapped 1 := ⟨pdX10_swapped _, jv_in (i := 1021) (by rfl) rfl, jv_in (i := 1022) (by rfl) rfl, jv_in (i := 1023) (by rfl) rfl⟩
set_option maxRecDepth 20000 in
theorem cX10_164 : PMv RX10 164 mX10_layLoaves 0 := ⟨pdX10_layLoaves _, jv_in (i := 1025) (by rfl) rfl, jv_in (i := 1027) (by rfl) rfl, jv_in (i := 36) (by rfl) rfl⟩
set_option maxRecDepth 20000 in
theorem cX10_167 : PMv RX10 167 mX10_isSo 1 := ⟨pdX10_isSo _, jv_in (i := 1029) (by rfl) rfl, jv_in (i := 1031) (by rfl) rfl, jv_in (i := 37) (by rfl) rfl⟩
set_option maxRecDepth 20000 in
theorem cL_109 : PMv x.cls 109 mX10_back 0 := ⟨pdX10_back _, jv_in (i := 1033) (by rfl) rfl, jv_in (i := 1034) (by rfl) rfl, jv_in (i := 1035) (by rfl) rfl⟩
set_option maxRecDepth 20000 in
theorem cL_113 : PMv x.cls 113 mX10_crusts 2 := ⟨pdX10_crusts _, jv_in (i := 1037) (by rfl) rfl, jv_in (i := 1038) (by rfl) rfl, jv_in (i := 1039) (by rfl) rfl⟩
set_option maxRecDepth 20000 in
theorem cL_117 : PMv x.cls 117 mX10_mice 3 := ⟨pdX10_mice _, jv_in (i := 1041) (by rfl) rfl, jv_in (i := 1042) (by rfl) rfl, jv_in (i := 1043) (by rfl) rfl⟩
set_option maxRecDepth 20000 in
theorem cX10_175 : PMv RX10 175 mX10_tell 2 := ⟨pdX10_tell _, jv_in (i := 1046) (by rfl) rfl, jv_in (i := 1048) (by rfl) rfl, jv_in (i := 38) (by rfl) rfl⟩
set_option maxRecDepth 20000 in
theorem cL_121 : PMv x.cls 121 mX10_years 3 := ⟨pdX10_years _, jv_in (i := 1050) (by rfl) rfl, jv_in (i := 1051) (by rfl) rfl, jv_in (i := 1052) (by rfl) rfl⟩
set_option maxRecDepth 20000 in
theorem cL_126 : PMv x.cls 126 mX10_part 1 := ⟨pdX10_part _, jv_in (i := 1060) (by rfl) rfl, jv_in (i := 1061) (by rfl) rfl, jv_in (i := 1062) (by rfl) rfl⟩
set_option maxRecDepth 20000 in
theorem cL_130 : PMv x.cls 130 mX10_image 1 := ⟨pdX10_image _, jv_in (i := 1064) (by rfl) rfl, jv_in (i := 1065) (by rfl) rfl, jv_in (i := 1066) (by rfl) rfl⟩
set_option maxRecDepth 20000 in
theorem cL_134 : PMv x.cls 134 mX10_from 1 := ⟨pdX10_from _, jv_in (i := 1068) (by rfl) rfl, jv_in (i := 1069) (by rfl) rfl, jv_in (i := 1070) (by rfl) rfl⟩
set_option maxRecDepth 20000 in
theorem cL_138 : PMv x.cls 138 mX10_status 1 := ⟨pdX10_status _, jv_in (i := 1072) (by rfl) rfl, jv_in (i := 1073) (by rfl) rfl, jv_in (i := 1074) (by rfl) rfl⟩
set_option maxRecDepth 20000 in
theorem cL_142 : PMv x.cls 142 mX10_count 1 := ⟨pdX10_count _, jv_in (i := 1076) (by rfl) rfl, jv_in (i := 1077) (by rfl) rfl, jv_in (i := 1078) (by rfl) rfl⟩
set_option maxRecDepth 20000 in
theorem cX10_190 : PMv RX10 190 mX10_countOf 1 := ⟨pdX10_countOf _, jv_in (i := 1080) (by rfl) rfl, jv_in (i := 1082) (by rfl) rfl, jv_in (i := 39) (by rfl) rfl⟩
set_option maxRecDepth 20000 in
theorem cL_147 : PMv x.cls 147 mX10_digest 0 := ⟨pdX10_digest _, jv_in (i := 1084) (by rfl) rfl, jv_in (i := 1085) (by rfl) rfl, jv_in (i := 1086) (by rfl) rfl⟩
set_option maxRecDepth 20000 in
theorem cX10_200 : PMv RX10 200 mX10_add 1 := ⟨pdX10_add _, jv_in (i := 1089) (by rfl) rfl, jv_in (i := 1091) (by rfl) rfl, jv_in (i := 40) (by rfl) rfl⟩
