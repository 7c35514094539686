theorem dX0_beginnerWins_0 : decode cX0_beginnerWins 0 = .ok (.iload_n 0, 1) := by decide +kernel
theorem dX0_beginnerWins_1 : decode cX0_beginnerWins 1 = .ok (.iconst 4, 1) := by decide +kernel
theorem dX0_beginnerWins_2 : decode cX0_beginnerWins 2 = .ok (.irem, 1) := by decide +kernel
theorem dX0_beginnerWins_3 : decode cX0_beginnerWins 3 = .ok (.iconst 1, 1) := by decide +kernel
theorem dX0_beginnerWins_4 : decode cX0_beginnerWins 4 = .ok (.if_icmp .ne 7, 3) := by decide +kernel
theorem dX0_beginnerWins_7 : decode cX0_beginnerWins 7 = .ok (.iconst 0, 1) := by decide +kernel
theorem dX0_beginnerWins_8 : decode cX0_beginnerWins 8 = .ok (.goto 4, 3) := by decide +kernel
theorem dX0_beginnerWins_11 : decode cX0_beginnerWins 11 = .ok (.iconst 1, 1) := by decide +kernel
theorem dX0_beginnerWins_12 : decode cX0_beginnerWins 12 = .ok (.ireturn, 1) := by decide +kernel
theorem dX0_firstBroken_0 : decode cX0_firstBroken 0 = .ok (.iload_n 0, 1) := by decide +kernel
theorem dX0_firstBroken_1 : decode cX0_firstBroken 1 = .ok (.ifCond .ne 7, 3) := by decide +kernel
theorem dX0_firstBroken_4 : decode cX0_firstBroken 4 = .ok (.iconst 0, 1) := by decide +kernel
theorem dX0_firstBroken_5 : decode cX0_firstBroken 5 = .ok (.goto 8, 3) := by decide +kernel
theorem dX0_firstBroken_8 : decode cX0_firstBroken 8 = .ok (.iload_n 0, 1) := by decide +kernel
theorem dX0_firstBroken_9 : decode cX0_firstBroken 9 = .ok (.iconst 1, 1) := by decide +kernel
theorem dX0_firstBroken_10 : decode cX0_firstBroken 10 = .ok (.isub, 1) := by decide +kernel
theorem dX0_firstBroken_11 : decode cX0_firstBroken 11 = .ok (.iconst 4, 1) := by decide +kernel
theorem dX0_firstBroken_12 : decode cX0_firstBroken 12 = .ok (.irem, 1) := by decide +kernel
theorem dX0_firstBroken_13 : decode cX0_firstBroken 13 = .ok (.ireturn, 1) := by decide +kernel
theorem dX1_init_0 : decode cX1_init 0 = .ok (.aload_n 0, 1) := by decide +kernel
theorem dX1_init_1 : decode cX1_init 1 = .ok (.invokespecial 3, 3) := by decide +kernel
theorem dX1_init_4 : decode cX1_init 4 = .ok (.aload_n 0, 1) := by decide +kernel
theorem dX1_init_5 : decode cX1_init 5 = .ok (.bipush 6, 2) := by decide +kernel
theorem dX1_init_7 : decode cX1_init 7 = .ok (.newarray .int, 2) := by decide +kernel
theorem dX1_init_9 : decode cX1_init 9 = .ok (.putfield 9, 3) := by decide +kernel
theorem dX1_init_12 : decode cX1_init 12 = .ok (.aload_n 0, 1) := by decide +kernel
theorem dX1_init_13 : decode cX1_init 13 = .ok (.bipush 61, 2) := by decide +kernel
theorem dX1_init_15 : decode cX1_init 15 = .ok (.newarray .long, 2) := by decide +kernel
theorem dX1_init_17 : decode cX1_init 17 = .ok (.putfield 15, 3) := by decide +kernel
theorem dX1_init_20 : decode cX1_init 20 = .ok (.aload_n 0, 1) := by decide +kernel
theorem dX1_init_21 : decode cX1_init 21 = .ok (.iconst (-1), 1) := by decide +kernel
theorem dX1_init_22 : decode cX1_init 22 = .ok (.putfield 19, 3) := by decide +kernel
theorem dX1_init_25 : decode cX1_init 25 = .ok (.aload_n 0, 1) := by decide +kernel
theorem dX1_init_26 : decode cX1_init 26 = .ok (.iconst (-1), 1) := by decide +kernel
theorem dX1_init_27 : decode cX1_init 27 = .ok (.putfield 23, 3) := by decide +kernel
theorem dX1_init_30 : decode cX1_init 30 = .ok (.return_, 1) := by decide +kernel
theorem dX1_endOf_0 : decode cX1_endOf 0 = .ok (.aload_n 0, 1) := by decide +kernel
theorem dX1_endOf_1 : decode cX1_endOf 1 = .ok (.getfield 26, 3) := by decide +kernel
theorem dX1_endOf_4 : decode cX1_endOf 4 = .ok (.iload_n 1, 1) := by decide +kernel
theorem dX1_endOf_5 : decode cX1_endOf 5 = .ok (.iaload, 1) := by decide +kernel
theorem dX1_endOf_6 : decode cX1_endOf 6 = .ok (.iconst (-1), 1) := by decide +kernel
theorem dX1_endOf_7 : decode cX1_endOf 7 = .ok (.if_icmp .eq 10, 3) := by decide +kernel
theorem dX1_endOf_10 : decode cX1_endOf 10 = .ok (.aload_n 0, 1) := by decide +kernel
theorem dX1_endOf_11 : decode cX1_endOf 11 = .ok (.getfield 26, 3) := by decide +kernel
theorem dX1_endOf_14 : decode cX1_endOf 14 = .ok (.iload_n 1, 1) := by decide +kernel
theorem dX1_endOf_15 : decode cX1_endOf 15 = .ok (.iaload, 1) := by decide +kernel
theorem dX1_endOf_16 : decode cX1_endOf 16 = .ok (.ireturn, 1) := by decide +kernel
theorem dX1_endOf_17 : decode cX1_endOf 17 = .ok (.aload_n 0, 1) := by decide +kernel
theorem dX1_endOf_18 : decode cX1_endOf 18 = .ok (.getfield 31, 3) := by decide +kernel
theorem dX1_endOf_21 : decode cX1_endOf 21 = .ok (.iload_n 1, 1) := by decide +kernel
theorem dX1_endOf_22 : decode cX1_endOf 22 = .ok (.iaload, 1) := by decide +kernel
theorem dX1_endOf_23 : decode cX1_endOf 23 = .ok (.istore_n 2, 1) := by decide +kernel
theorem dX1_endOf_24 : decode cX1_endOf 24 = .ok (.iconst 0, 1) := by decide +kernel
theorem dX1_endOf_25 : decode cX1_endOf 25 = .ok (.istore_n 3, 1) := by decide +kernel
theorem dX1_endOf_26 : decode cX1_endOf 26 = .ok (.iload_n 3, 1) := by decide +kernel
theorem dX1_endOf_27 : decode cX1_endOf 27 = .ok (.bipush 99, 2) := by decide +kernel
theorem dX1_endOf_29 : decode cX1_endOf 29 = .ok (.if_icmp .ge 32, 3) := by decide +kernel
theorem dX1_endOf_32 : decode cX1_endOf 32 = .ok (.iload_n 2, 1) := by decide +kernel
theorem dX1_endOf_33 : decode cX1_endOf 33 = .ok (.ifCond .le 28, 3) := by decide +kernel
theorem dX1_endOf_36 : decode cX1_endOf 36 = .ok (.aload_n 0, 1) := by decide +kernel
theorem dX1_endOf_37 : decode cX1_endOf 37 = .ok (.iload_n 2, 1) := by decide +kernel
theorem dX1_endOf_38 : decode cX1_endOf 38 = .ok (.iload_n 1, 1) := by decide +kernel
theorem dX1_endOf_39 : decode cX1_endOf 39 = .ok (.iload_n 3, 1) := by decide +kernel
theorem dX1_endOf_40 : decode cX1_endOf 40 = .ok (.invokevirtual 34, 3) := by decide +kernel
theorem dX1_endOf_43 : decode cX1_endOf 43 = .ok (.istore_n 2, 1) := by decide +kernel
theorem dX1_endOf_44 : decode cX1_endOf 44 = .ok (.iload_n 2, 1) := by decide +kernel
theorem dX1_endOf_45 : decode cX1_endOf 45 = .ok (.ifCond .ne 10, 3) := by decide +kernel
theorem dX1_endOf_48 : decode cX1_endOf 48 = .ok (.aload_n 0, 1) := by decide +kernel
theorem dX1_endOf_49 : decode cX1_endOf 49 = .ok (.getfield 38, 3) := by decide +kernel
theorem dX1_endOf_52 : decode cX1_endOf 52 = .ok (.iload_n 3, 1) := by decide +kernel
theorem dX1_endOf_53 : decode cX1_endOf 53 = .ok (.iadd, 1) := by decide +kernel
theorem dX1_endOf_54 : decode cX1_endOf 54 = .ok (.ireturn, 1) := by decide +kernel
theorem dX1_endOf_55 : decode cX1_endOf 55 = .ok (.iinc 3 1, 3) := by decide +kernel
theorem dX1_endOf_58 : decode cX1_endOf 58 = .ok (.goto (-32), 3) := by decide +kernel
theorem dX1_endOf_61 : decode cX1_endOf 61 = .ok (.iconst (-1), 1) := by decide +kernel
theorem dX1_endOf_62 : decode cX1_endOf 62 = .ok (.ireturn, 1) := by decide +kernel
theorem dX1_lookForEnds_0 : decode cX1_lookForEnds 0 = .ok (.aload_n 0, 1) := by decide +kernel
theorem dX1_lookForEnds_1 : decode cX1_lookForEnds 1 = .ok (.iconst (-1), 1) := by decide +kernel
theorem dX1_lookForEnds_2 : decode cX1_lookForEnds 2 = .ok (.putfield 19, 3) := by decide +kernel
theorem dX1_lookForEnds_5 : decode cX1_lookForEnds 5 = .ok (.aload_n 0, 1) := by decide +kernel
theorem dX1_lookForEnds_6 : decode cX1_lookForEnds 6 = .ok (.iconst (-1), 1) := by decide +kernel
theorem dX1_lookForEnds_7 : decode cX1_lookForEnds 7 = .ok (.putfield 23, 3) := by decide +kernel
theorem dX1_lookForEnds_10 : decode cX1_lookForEnds 10 = .ok (.iconst 1, 1) := by decide +kernel
theorem dX1_lookForEnds_11 : decode cX1_lookForEnds 11 = .ok (.istore_n 2, 1) := by decide +kernel
theorem dX1_lookForEnds_12 : decode cX1_lookForEnds 12 = .ok (.aload_n 1, 1) := by decide +kernel
theorem dX1_lookForEnds_13 : decode cX1_lookForEnds 13 = .ok (.getfield 31, 3) := by decide +kernel
theorem dX1_lookForEnds_16 : decode cX1_lookForEnds 16 = .ok (.iconst 0, 1) := by decide +kernel
theorem dX1_lookForEnds_17 : decode cX1_lookForEnds 17 = .ok (.aload_n 0, 1) := by decide +kernel
theorem dX1_lookForEnds_18 : decode cX1_lookForEnds 18 = .ok (.getfield 9, 3) := by decide +kernel
theorem dX1_lookForEnds_21 : decode cX1_lookForEnds 21 = .ok (.iconst 0, 1) := by decide +kernel
theorem dX1_lookForEnds_22 : decode cX1_lookForEnds 22 = .ok (.bipush 6, 2) := by decide +kernel
theorem dX1_lookForEnds_24 : decode cX1_lookForEnds 24 = .ok (.invokestatic 41, 3) := by decide +kernel
theorem dX1_lookForEnds_27 : decode cX1_lookForEnds 27 = .ok (.iconst 0, 1) := by decide +kernel
theorem dX1_lookForEnds_28 : decode cX1_lookForEnds 28 = .ok (.istore_n 3, 1) := by decide +kernel
theorem dX1_lookForEnds_29 : decode cX1_lookForEnds 29 = .ok (.iload_n 3, 1) := by decide +kernel
theorem dX1_lookForEnds_30 : decode cX1_lookForEnds 30 = .ok (.bipush 99, 2) := by decide +kernel
theorem dX1_lookForEnds_32 : decode cX1_lookForEnds 32 = .ok (.if_icmp .ge 48, 3) := by decide +kernel
theorem dX1_lookForEnds_35 : decode cX1_lookForEnds 35 = .ok (.aload_n 0, 1) := by decide +kernel
theorem dX1_lookForEnds_36 : decode cX1_lookForEnds 36 = .ok (.aload_n 1, 1) := by decide +kernel
theorem dX1_lookForEnds_37 : decode cX1_lookForEnds 37 = .ok (.iload_n 3, 1) := by decide +kernel
theorem dX1_lookForEnds_38 : decode cX1_lookForEnds 38 = .ok (.invokevirtual 47, 3) := by decide +kernel
theorem dX1_lookForEnds_41 : decode cX1_lookForEnds 41 = .ok (.istore 4, 2) := by decide +kernel
theorem dX1_lookForEnds_43 : decode cX1_lookForEnds 43 = .ok (.iload 4, 2) := by decide +kernel
theorem dX1_lookForEnds_45 : decode cX1_lookForEnds 45 = .ok (.invokestatic 51, 3) := by decide +kernel
theorem dX1_lookForEnds_48 : decode cX1_lookForEnds 48 = .ok (.iload_n 2, 1) := by decide +kernel
theorem dX1_lookForEnds_49 : decode cX1_lookForEnds 49 = .ok (.if_icmp .le 25, 3) := by decide +kernel
theorem dX1_lookForEnds_52 : decode cX1_lookForEnds 52 = .ok (.iload 4, 2) := by decide +kernel
theorem dX1_lookForEnds_54 : decode cX1_lookForEnds 54 = .ok (.invokestatic 51, 3) := by decide +kernel
theorem dX1_lookForEnds_57 : decode cX1_lookForEnds 57 = .ok (.istore_n 2, 1) := by decide +kernel
theorem dX1_lookForEnds_58 : decode cX1_lookForEnds 58 = .ok (.aload_n 0, 1) := by decide +kernel
theorem dX1_lookForEnds_59 : decode cX1_lookForEnds 59 = .ok (.aload_n 1, 1) := by decide +kernel
theorem dX1_lookForEnds_60 : decode cX1_lookForEnds 60 = .ok (.getfield 38, 3) := by decide +kernel
theorem dX1_lookForEnds_63 : decode cX1_lookForEnds 63 = .ok (.iload_n 3, 1) := by decide +kernel
theorem dX1_lookForEnds_64 : decode cX1_lookForEnds 64 = .ok (.iadd, 1) := by decide +kernel
theorem dX1_lookForEnds_65 : decode cX1_lookForEnds 65 = .ok (.putfield 19, 3) := by decide +kernel
theorem dX1_lookForEnds_68 : decode cX1_lookForEnds 68 = .ok (.aload_n 0, 1) := by decide +kernel
theorem dX1_lookForEnds_69 : decode cX1_lookForEnds 69 = .ok (.iload 4, 2) := by decide +kernel
theorem dX1_lookForEnds_71 : decode cX1_lookForEnds 71 = .ok (.putfield 23, 3) := by decide +kernel
theorem dX1_lookForEnds_74 : decode cX1_lookForEnds 74 = .ok (.iinc 3 1, 3) := by decide +kernel
theorem dX1_lookForEnds_77 : decode cX1_lookForEnds 77 = .ok (.goto (-48), 3) := by decide +kernel
theorem dX1_lookForEnds_80 : decode cX1_lookForEnds 80 = .ok (.return_, 1) := by decide +kernel
theorem dX1_endingInYear_0 : decode cX1_endingInYear 0 = .ok (.iconst 0, 1) := by decide +kernel
theorem dX1_endingInYear_1 : decode cX1_endingInYear 1 = .ok (.istore_n 3, 1) := by decide +kernel
theorem dX1_endingInYear_2 : decode cX1_endingInYear 2 = .ok (.iconst 0, 1) := by decide +kernel
theorem dX1_endingInYear_3 : decode cX1_endingInYear 3 = .ok (.istore 4, 2) := by decide +kernel
theorem dX1_endingInYear_5 : decode cX1_endingInYear 5 = .ok (.iload 4, 2) := by decide +kernel
theorem dX1_endingInYear_7 : decode cX1_endingInYear 7 = .ok (.aload_n 1, 1) := by decide +kernel
theorem dX1_endingInYear_8 : decode cX1_endingInYear 8 = .ok (.getfield 57, 3) := by decide +kernel
theorem dX1_endingInYear_11 : decode cX1_endingInYear 11 = .ok (.if_icmp .ge 57, 3) := by decide +kernel
theorem dX1_endingInYear_14 : decode cX1_endingInYear 14 = .ok (.aload_n 0, 1) := by decide +kernel
theorem dX1_endingInYear_15 : decode cX1_endingInYear 15 = .ok (.getfield 9, 3) := by decide +kernel
theorem dX1_endingInYear_18 : decode cX1_endingInYear 18 = .ok (.iload 4, 2) := by decide +kernel
theorem dX1_endingInYear_20 : decode cX1_endingInYear 20 = .ok (.iaload, 1) := by decide +kernel
theorem dX1_endingInYear_21 : decode cX1_endingInYear 21 = .ok (.ifCond .le 41, 3) := by decide +kernel
theorem dX1_endingInYear_24 : decode cX1_endingInYear 24 = .ok (.aload_n 0, 1) := by decide +kernel
theorem dX1_endingInYear_25 : decode cX1_endingInYear 25 = .ok (.getfield 9, 3) := by decide +kernel
theorem dX1_endingInYear_28 : decode cX1_endingInYear 28 = .ok (.iload 4, 2) := by decide +kernel
theorem dX1_endingInYear_30 : decode cX1_endingInYear 30 = .ok (.aload_n 1, 1) := by decide +kernel
theorem dX1_endingInYear_31 : decode cX1_endingInYear 31 = .ok (.aload_n 0, 1) := by decide +kernel
theorem dX1_endingInYear_32 : decode cX1_endingInYear 32 = .ok (.getfield 9, 3) := by decide +kernel
theorem dX1_endingInYear_35 : decode cX1_endingInYear 35 = .ok (.iload 4, 2) := by decide +kernel
theorem dX1_endingInYear_37 : decode cX1_endingInYear 37 = .ok (.iaload, 1) := by decide +kernel
theorem dX1_endingInYear_38 : decode cX1_endingInYear 38 = .ok (.iload 4, 2) := by decide +kernel
theorem dX1_endingInYear_40 : decode cX1_endingInYear 40 = .ok (.iload_n 2, 1) := by decide +kernel
theorem dX1_endingInYear_41 : decode cX1_endingInYear 41 = .ok (.invokevirtual 34, 3) := by decide +kernel
theorem dX1_endingInYear_44 : decode cX1_endingInYear 44 = .ok (.iastore, 1) := by decide +kernel
theorem dX1_endingInYear_45 : decode cX1_endingInYear 45 = .ok (.aload_n 0, 1) := by decide +kernel
theorem dX1_endingInYear_46 : decode cX1_endingInYear 46 = .ok (.getfield 9, 3) := by decide +kernel
theorem dX1_endingInYear_49 : decode cX1_endingInYear 49 = .ok (.iload 4, 2) := by decide +kernel
theorem dX1_endingInYear_51 : decode cX1_endingInYear 51 = .ok (.iaload, 1) := by decide +kernel
theorem dX1_endingInYear_52 : decode cX1_endingInYear 52 = .ok (.ifCond .ne 10, 3) := by decide +kernel
theorem dX1_endingInYear_55 : decode cX1_endingInYear 55 = .ok (.iload_n 3, 1) := by decide +kernel
theorem dX1_endingInYear_56 : decode cX1_endingInYear 56 = .ok (.iconst 1, 1) := by decide +kernel
theorem dX1_endingInYear_57 : decode cX1_endingInYear 57 = .ok (.iload 4, 2) := by decide +kernel
theorem dX1_endingInYear_59 : decode cX1_endingInYear 59 = .ok (.ishl, 1) := by decide +kernel
theorem dX1_endingInYear_60 : decode cX1_endingInYear 60 = .ok (.ior, 1) := by decide +kernel
theorem dX1_endingInYear_61 : decode cX1_endingInYear 61 = .ok (.istore_n 3, 1) := by decide +kernel
theorem dX1_endingInYear_62 : decode cX1_endingInYear 62 = .ok (.iinc 4 1, 3) := by decide +kernel
theorem dX1_endingInYear_65 : decode cX1_endingInYear 65 = .ok (.goto (-60), 3) := by decide +kernel
theorem dX1_endingInYear_68 : decode cX1_endingInYear 68 = .ok (.iload_n 3, 1) := by decide +kernel
theorem dX1_endingInYear_69 : decode cX1_endingInYear 69 = .ok (.ireturn, 1) := by decide +kernel
theorem dX1_worstDrought_0 : decode cX1_worstDrought 0 = .ok (.iconst (-1), 1) := by decide +kernel
theorem dX1_worstDrought_1 : decode cX1_worstDrought 1 = .ok (.istore_n 2, 1) := by decide +kernel
theorem dX1_worstDrought_2 : decode cX1_worstDrought 2 = .ok (.iconst 0, 1) := by decide +kernel
theorem dX1_worstDrought_3 : decode cX1_worstDrought 3 = .ok (.istore_n 3, 1) := by decide +kernel
theorem dX1_worstDrought_4 : decode cX1_worstDrought 4 = .ok (.iconst 0, 1) := by decide +kernel
theorem dX1_worstDrought_5 : decode cX1_worstDrought 5 = .ok (.istore 4, 2) := by decide +kernel
theorem dX1_worstDrought_7 : decode cX1_worstDrought 7 = .ok (.iload 4, 2) := by decide +kernel
theorem dX1_worstDrought_9 : decode cX1_worstDrought 9 = .ok (.bipush 12, 2) := by decide +kernel
theorem dX1_worstDrought_11 : decode cX1_worstDrought 11 = .ok (.if_icmp .ge 54, 3) := by decide +kernel
theorem dX1_worstDrought_14 : decode cX1_worstDrought 14 = .ok (.aload_n 0, 1) := by decide +kernel
theorem dX1_worstDrought_15 : decode cX1_worstDrought 15 = .ok (.getfield 60, 3) := by decide +kernel
theorem dX1_worstDrought_18 : decode cX1_worstDrought 18 = .ok (.iload 4, 2) := by decide +kernel
theorem dX1_worstDrought_20 : decode cX1_worstDrought 20 = .ok (.ishr, 1) := by decide +kernel
theorem dX1_worstDrought_21 : decode cX1_worstDrought 21 = .ok (.iconst 1, 1) := by decide +kernel
theorem dX1_worstDrought_22 : decode cX1_worstDrought 22 = .ok (.iand, 1) := by decide +kernel
theorem dX1_worstDrought_23 : decode cX1_worstDrought 23 = .ok (.ifCond .ne 36, 3) := by decide +kernel
theorem dX1_worstDrought_26 : decode cX1_worstDrought 26 = .ok (.aload_n 0, 1) := by decide +kernel
theorem dX1_worstDrought_27 : decode cX1_worstDrought 27 = .ok (.iload_n 1, 1) := by decide +kernel
theorem dX1_worstDrought_28 : decode cX1_worstDrought 28 = .ok (.aload_n 0, 1) := by decide +kernel
theorem dX1_worstDrought_29 : decode cX1_worstDrought 29 = .ok (.getfield 60, 3) := by decide +kernel
theorem dX1_worstDrought_32 : decode cX1_worstDrought 32 = .ok (.iconst 1, 1) := by decide +kernel
theorem dX1_worstDrought_33 : decode cX1_worstDrought 33 = .ok (.iload 4, 2) := by decide +kernel
theorem dX1_worstDrought_35 : decode cX1_worstDrought 35 = .ok (.ishl, 1) := by decide +kernel
theorem dX1_worstDrought_36 : decode cX1_worstDrought 36 = .ok (.ior, 1) := by decide +kernel
theorem dX1_worstDrought_37 : decode cX1_worstDrought 37 = .ok (.invokestatic 63, 3) := by decide +kernel
theorem dX1_worstDrought_40 : decode cX1_worstDrought 40 = .ok (.istore 5, 2) := by decide +kernel
theorem dX1_worstDrought_42 : decode cX1_worstDrought 42 = .ok (.iload_n 2, 1) := by decide +kernel
theorem dX1_worstDrought_43 : decode cX1_worstDrought 43 = .ok (.iconst (-1), 1) := by decide +kernel
theorem dX1_worstDrought_44 : decode cX1_worstDrought 44 = .ok (.if_icmp .eq 9, 3) := by decide +kernel
theorem dX1_worstDrought_47 : decode cX1_worstDrought 47 = .ok (.iload 5, 2) := by decide +kernel
theorem dX1_worstDrought_49 : decode cX1_worstDrought 49 = .ok (.iload_n 3, 1) := by decide +kernel
theorem dX1_worstDrought_50 : decode cX1_worstDrought 50 = .ok (.if_icmp .ge 9, 3) := by decide +kernel
theorem dX1_worstDrought_53 : decode cX1_worstDrought 53 = .ok (.iload 4, 2) := by decide +kernel
theorem dX1_worstDrought_55 : decode cX1_worstDrought 55 = .ok (.istore_n 2, 1) := by decide +kernel
theorem dX1_worstDrought_56 : decode cX1_worstDrought 56 = .ok (.iload 5, 2) := by decide +kernel
theorem dX1_worstDrought_58 : decode cX1_worstDrought 58 = .ok (.istore_n 3, 1) := by decide +kernel
theorem dX1_worstDrought_59 : decode cX1_worstDrought 59 = .ok (.iinc 4 1, 3) := by decide +kernel
theorem dX1_worstDrought_62 : decode cX1_worstDrought 62 = .ok (.goto (-55), 3) := by decide +kernel
theorem dX1_worstDrought_65 : decode cX1_worstDrought 65 = .ok (.iload_n 2, 1) := by decide +kernel
theorem dX1_worstDrought_66 : decode cX1_worstDrought 66 = .ok (.ireturn, 1) := by decide +kernel
theorem dX1_loavesBehind_0 : decode cX1_loavesBehind 0 = .ok (.iconst 0, 1) := by decide +kernel
theorem dX1_loavesBehind_1 : decode cX1_loavesBehind 1 = .ok (.istore_n 3, 1) := by decide +kernel
theorem dX1_loavesBehind_2 : decode cX1_loavesBehind 2 = .ok (.iconst 0, 1) := by decide +kernel
theorem dX1_loavesBehind_3 : decode cX1_loavesBehind 3 = .ok (.istore 4, 2) := by decide +kernel
theorem dX1_loavesBehind_5 : decode cX1_loavesBehind 5 = .ok (.iload 4, 2) := by decide +kernel
theorem dX1_loavesBehind_7 : decode cX1_loavesBehind 7 = .ok (.aload_n 0, 1) := by decide +kernel
theorem dX1_loavesBehind_8 : decode cX1_loavesBehind 8 = .ok (.getfield 57, 3) := by decide +kernel
theorem dX1_loavesBehind_11 : decode cX1_loavesBehind 11 = .ok (.if_icmp .ge 32, 3) := by decide +kernel
theorem dX1_loavesBehind_14 : decode cX1_loavesBehind 14 = .ok (.iload_n 3, 1) := by decide +kernel
theorem dX1_loavesBehind_15 : decode cX1_loavesBehind 15 = .ok (.aload_n 0, 1) := by decide +kernel
theorem dX1_loavesBehind_16 : decode cX1_loavesBehind 16 = .ok (.aload_n 0, 1) := by decide +kernel
theorem dX1_loavesBehind_17 : decode cX1_loavesBehind 17 = .ok (.getfield 67, 3) := by decide +kernel
theorem dX1_loavesBehind_20 : decode cX1_loavesBehind 20 = .ok (.iload 4, 2) := by decide +kernel
theorem dX1_loavesBehind_22 : decode cX1_loavesBehind 22 = .ok (.iaload, 1) := by decide +kernel
theorem dX1_loavesBehind_23 : decode cX1_loavesBehind 23 = .ok (.aload_n 0, 1) := by decide +kernel
theorem dX1_loavesBehind_24 : decode cX1_loavesBehind 24 = .ok (.getfield 31, 3) := by decide +kernel
theorem dX1_loavesBehind_27 : decode cX1_loavesBehind 27 = .ok (.iload 4, 2) := by decide +kernel
theorem dX1_loavesBehind_29 : decode cX1_loavesBehind 29 = .ok (.iaload, 1) := by decide +kernel
theorem dX1_loavesBehind_30 : decode cX1_loavesBehind 30 = .ok (.iload_n 1, 1) := by decide +kernel
theorem dX1_loavesBehind_31 : decode cX1_loavesBehind 31 = .ok (.iload_n 2, 1) := by decide +kernel
theorem dX1_loavesBehind_32 : decode cX1_loavesBehind 32 = .ok (.invokevirtual 70, 3) := by decide +kernel
theorem dX1_loavesBehind_35 : decode cX1_loavesBehind 35 = .ok (.iadd, 1) := by decide +kernel
theorem dX1_loavesBehind_36 : decode cX1_loavesBehind 36 = .ok (.istore_n 3, 1) := by decide +kernel
theorem dX1_loavesBehind_37 : decode cX1_loavesBehind 37 = .ok (.iinc 4 1, 3) := by decide +kernel
theorem dX1_loavesBehind_40 : decode cX1_loavesBehind 40 = .ok (.goto (-35), 3) := by decide +kernel
theorem dX1_loavesBehind_43 : decode cX1_loavesBehind 43 = .ok (.iload_n 3, 1) := by decide +kernel
theorem dX1_loavesBehind_44 : decode cX1_loavesBehind 44 = .ok (.ireturn, 1) := by decide +kernel
theorem dX1_loavesBySeed_0 : decode cX1_loavesBySeed 0 = .ok (.aload_n 1, 1) := by decide +kernel
theorem dX1_loavesBySeed_1 : decode cX1_loavesBySeed 1 = .ok (.getfield 31, 3) := by decide +kernel
theorem dX1_loavesBySeed_4 : decode cX1_loavesBySeed 4 = .ok (.iconst 0, 1) := by decide +kernel
theorem dX1_loavesBySeed_5 : decode cX1_loavesBySeed 5 = .ok (.aload_n 0, 1) := by decide +kernel
theorem dX1_loavesBySeed_6 : decode cX1_loavesBySeed 6 = .ok (.getfield 9, 3) := by decide +kernel
theorem dX1_loavesBySeed_9 : decode cX1_loavesBySeed 9 = .ok (.iconst 0, 1) := by decide +kernel
theorem dX1_loavesBySeed_10 : decode cX1_loavesBySeed 10 = .ok (.bipush 6, 2) := by decide +kernel
theorem dX1_loavesBySeed_12 : decode cX1_loavesBySeed 12 = .ok (.invokestatic 41, 3) := by decide +kernel
theorem dX1_loavesBySeed_15 : decode cX1_loavesBySeed 15 = .ok (.iload_n 2, 1) := by decide +kernel
theorem dX1_loavesBySeed_16 : decode cX1_loavesBySeed 16 = .ok (.i2l, 1) := by decide +kernel
theorem dX1_loavesBySeed_17 : decode cX1_loavesBySeed 17 = .ok (.lstore 5, 2) := by decide +kernel
theorem dX1_loavesBySeed_19 : decode cX1_loavesBySeed 19 = .ok (.iconst 0, 1) := by decide +kernel
theorem dX1_loavesBySeed_20 : decode cX1_loavesBySeed 20 = .ok (.istore 7, 2) := by decide +kernel
theorem dX1_loavesBySeed_22 : decode cX1_loavesBySeed 22 = .ok (.iload 7, 2) := by decide +kernel
theorem dX1_loavesBySeed_24 : decode cX1_loavesBySeed 24 = .ok (.iload_n 3, 1) := by decide +kernel
theorem dX1_loavesBySeed_25 : decode cX1_loavesBySeed 25 = .ok (.if_icmp .ge 103, 3) := by decide +kernel
theorem dX1_loavesBySeed_28 : decode cX1_loavesBySeed 28 = .ok (.iconst 0, 1) := by decide +kernel
theorem dX1_loavesBySeed_29 : decode cX1_loavesBySeed 29 = .ok (.istore 8, 2) := by decide +kernel
theorem dX1_loavesBySeed_31 : decode cX1_loavesBySeed 31 = .ok (.iload 8, 2) := by decide +kernel
theorem dX1_loavesBySeed_33 : decode cX1_loavesBySeed 33 = .ok (.aload_n 1, 1) := by decide +kernel
theorem dX1_loavesBySeed_34 : decode cX1_loavesBySeed 34 = .ok (.getfield 57, 3) := by decide +kernel
theorem dX1_loavesBySeed_37 : decode cX1_loavesBySeed 37 = .ok (.if_icmp .ge 85, 3) := by decide +kernel
theorem dX1_loavesBySeed_40 : decode cX1_loavesBySeed 40 = .ok (.lload 5, 2) := by decide +kernel
theorem dX1_loavesBySeed_42 : decode cX1_loavesBySeed 42 = .ok (.ldc2_w 74, 3) := by decide +kernel
theorem dX1_loavesBySeed_45 : decode cX1_loavesBySeed 45 = .ok (.lmul, 1) := by decide +kernel
theorem dX1_loavesBySeed_46 : decode cX1_loavesBySeed 46 = .ok (.ldc2_w 76, 3) := by decide +kernel
theorem dX1_loavesBySeed_49 : decode cX1_loavesBySeed 49 = .ok (.ladd, 1) := by decide +kernel
theorem dX1_loavesBySeed_50 : decode cX1_loavesBySeed 50 = .ok (.ldc2_w 78, 3) := by decide +kernel
theorem dX1_loavesBySeed_53 : decode cX1_loavesBySeed 53 = .ok (.lrem, 1) := by decide +kernel
theorem dX1_loavesBySeed_54 : decode cX1_loavesBySeed 54 = .ok (.lstore 5, 2) := by decide +kernel
theorem dX1_loavesBySeed_56 : decode cX1_loavesBySeed 56 = .ok (.aload_n 0, 1) := by decide +kernel
theorem dX1_loavesBySeed_57 : decode cX1_loavesBySeed 57 = .ok (.getfield 9, 3) := by decide +kernel
theorem dX1_loavesBySeed_60 : decode cX1_loavesBySeed 60 = .ok (.iload 8, 2) := by decide +kernel
theorem dX1_loavesBySeed_62 : decode cX1_loavesBySeed 62 = .ok (.aload_n 1, 1) := by decide +kernel
theorem dX1_loavesBySeed_63 : decode cX1_loavesBySeed 63 = .ok (.aload_n 0, 1) := by decide +kernel
theorem dX1_loavesBySeed_64 : decode cX1_loavesBySeed 64 = .ok (.getfield 9, 3) := by decide +kernel
theorem dX1_loavesBySeed_67 : decode cX1_loavesBySeed 67 = .ok (.iload 8, 2) := by decide +kernel
theorem dX1_loavesBySeed_69 : decode cX1_loavesBySeed 69 = .ok (.iaload, 1) := by decide +kernel
theorem dX1_loavesBySeed_70 : decode cX1_loavesBySeed 70 = .ok (.iload 8, 2) := by decide +kernel
theorem dX1_loavesBySeed_72 : decode cX1_loavesBySeed 72 = .ok (.iload 7, 2) := by decide +kernel
theorem dX1_loavesBySeed_74 : decode cX1_loavesBySeed 74 = .ok (.invokevirtual 34, 3) := by decide +kernel
theorem dX1_loavesBySeed_77 : decode cX1_loavesBySeed 77 = .ok (.iastore, 1) := by decide +kernel
theorem dX1_loavesBySeed_78 : decode cX1_loavesBySeed 78 = .ok (.lload 5, 2) := by decide +kernel
theorem dX1_loavesBySeed_80 : decode cX1_loavesBySeed 80 = .ok (.ldc2_w 80, 3) := by decide +kernel
theorem dX1_loavesBySeed_83 : decode cX1_loavesBySeed 83 = .ok (.ldiv, 1) := by decide +kernel
theorem dX1_loavesBySeed_84 : decode cX1_loavesBySeed 84 = .ok (.ldc2_w 82, 3) := by decide +kernel
theorem dX1_loavesBySeed_87 : decode cX1_loavesBySeed 87 = .ok (.lrem, 1) := by decide +kernel
theorem dX1_loavesBySeed_88 : decode cX1_loavesBySeed 88 = .ok (.iload 4, 2) := by decide +kernel
theorem dX1_loavesBySeed_90 : decode cX1_loavesBySeed 90 = .ok (.i2l, 1) := by decide +kernel
theorem dX1_loavesBySeed_91 : decode cX1_loavesBySeed 91 = .ok (.lcmp, 1) := by decide +kernel
theorem dX1_loavesBySeed_92 : decode cX1_loavesBySeed 92 = .ok (.ifCond .ge 24, 3) := by decide +kernel
theorem dX1_loavesBySeed_95 : decode cX1_loavesBySeed 95 = .ok (.aload_n 0, 1) := by decide +kernel
theorem dX1_loavesBySeed_96 : decode cX1_loavesBySeed 96 = .ok (.getfield 9, 3) := by decide +kernel
theorem dX1_loavesBySeed_99 : decode cX1_loavesBySeed 99 = .ok (.iload 8, 2) := by decide +kernel
theorem dX1_loavesBySeed_101 : decode cX1_loavesBySeed 101 = .ok (.iaload, 1) := by decide +kernel
theorem dX1_loavesBySeed_102 : decode cX1_loavesBySeed 102 = .ok (.ifCond .le 14, 3) := by decide +kernel
theorem dX1_loavesBySeed_105 : decode cX1_loavesBySeed 105 = .ok (.aload_n 0, 1) := by decide +kernel
theorem dX1_loavesBySeed_106 : decode cX1_loavesBySeed 106 = .ok (.getfield 9, 3) := by decide +kernel
theorem dX1_loavesBySeed_109 : decode cX1_loavesBySeed 109 = .ok (.iload 8, 2) := by decide +kernel
theorem dX1_loavesBySeed_111 : decode cX1_loavesBySeed 111 = .ok (.dup2, 1) := by decide +kernel
theorem dX1_loavesBySeed_112 : decode cX1_loavesBySeed 112 = .ok (.iaload, 1) := by decide +kernel
theorem dX1_loavesBySeed_113 : decode cX1_loavesBySeed 113 = .ok (.iconst 1, 1) := by decide +kernel
theorem dX1_loavesBySeed_114 : decode cX1_loavesBySeed 114 = .ok (.isub, 1) := by decide +kernel
theorem dX1_loavesBySeed_115 : decode cX1_loavesBySeed 115 = .ok (.iastore, 1) := by decide +kernel
theorem dX1_loavesBySeed_116 : decode cX1_loavesBySeed 116 = .ok (.iinc 8 1, 3) := by decide +kernel
theorem dX1_loavesBySeed_119 : decode cX1_loavesBySeed 119 = .ok (.goto (-88), 3) := by decide +kernel
theorem dX1_loavesBySeed_122 : decode cX1_loavesBySeed 122 = .ok (.iinc 7 1, 3) := by decide +kernel
theorem dX1_loavesBySeed_125 : decode cX1_loavesBySeed 125 = .ok (.goto (-103), 3) := by decide +kernel
theorem dX1_loavesBySeed_128 : decode cX1_loavesBySeed 128 = .ok (.iconst 0, 1) := by decide +kernel
theorem dX1_loavesBySeed_129 : decode cX1_loavesBySeed 129 = .ok (.istore 7, 2) := by decide +kernel
theorem dX1_loavesBySeed_131 : decode cX1_loavesBySeed 131 = .ok (.iconst 0, 1) := by decide +kernel
theorem dX1_loavesBySeed_132 : decode cX1_loavesBySeed 132 = .ok (.istore 8, 2) := by decide +kernel
theorem dX1_loavesBySeed_134 : decode cX1_loavesBySeed 134 = .ok (.iload 8, 2) := by decide +kernel
theorem dX1_loavesBySeed_136 : decode cX1_loavesBySeed 136 = .ok (.aload_n 1, 1) := by decide +kernel
theorem dX1_loavesBySeed_137 : decode cX1_loavesBySeed 137 = .ok (.getfield 57, 3) := by decide +kernel
theorem dX1_loavesBySeed_140 : decode cX1_loavesBySeed 140 = .ok (.if_icmp .ge 21, 3) := by decide +kernel
theorem dX1_loavesBySeed_143 : decode cX1_loavesBySeed 143 = .ok (.iload 7, 2) := by decide +kernel
theorem dX1_loavesBySeed_145 : decode cX1_loavesBySeed 145 = .ok (.aload_n 0, 1) := by decide +kernel
theorem dX1_loavesBySeed_146 : decode cX1_loavesBySeed 146 = .ok (.getfield 9, 3) := by decide +kernel
theorem dX1_loavesBySeed_149 : decode cX1_loavesBySeed 149 = .ok (.iload 8, 2) := by decide +kernel
theorem dX1_loavesBySeed_151 : decode cX1_loavesBySeed 151 = .ok (.iaload, 1) := by decide +kernel
theorem dX1_loavesBySeed_152 : decode cX1_loavesBySeed 152 = .ok (.iadd, 1) := by decide +kernel
theorem dX1_loavesBySeed_153 : decode cX1_loavesBySeed 153 = .ok (.istore 7, 2) := by decide +kernel
theorem dX1_loavesBySeed_155 : decode cX1_loavesBySeed 155 = .ok (.iinc 8 1, 3) := by decide +kernel
theorem dX1_loavesBySeed_158 : decode cX1_loavesBySeed 158 = .ok (.goto (-24), 3) := by decide +kernel
theorem dX1_loavesBySeed_161 : decode cX1_loavesBySeed 161 = .ok (.iload 7, 2) := by decide +kernel
theorem dX1_loavesBySeed_163 : decode cX1_loavesBySeed 163 = .ok (.ireturn, 1) := by decide +kernel
theorem dX1_chanceWithMice_0 : decode cX1_chanceWithMice 0 = .ok (.iconst 0, 1) := by decide +kernel
theorem dX1_chanceWithMice_1 : decode cX1_chanceWithMice 1 = .ok (.istore 6, 2) := by decide +kernel
theorem dX1_chanceWithMice_3 : decode cX1_chanceWithMice 3 = .ok (.iload 6, 2) := by decide +kernel
theorem dX1_chanceWithMice_5 : decode cX1_chanceWithMice 5 = .ok (.bipush 60, 2) := by decide +kernel
theorem dX1_chanceWithMice_7 : decode cX1_chanceWithMice 7 = .ok (.if_icmp .gt 32, 3) := by decide +kernel
theorem dX1_chanceWithMice_10 : decode cX1_chanceWithMice 10 = .ok (.aload_n 0, 1) := by decide +kernel
theorem dX1_chanceWithMice_11 : decode cX1_chanceWithMice 11 = .ok (.getfield 15, 3) := by decide +kernel
theorem dX1_chanceWithMice_14 : decode cX1_chanceWithMice 14 = .ok (.iload 6, 2) := by decide +kernel
theorem dX1_chanceWithMice_16 : decode cX1_chanceWithMice 16 = .ok (.iload 6, 2) := by decide +kernel
theorem dX1_chanceWithMice_18 : decode cX1_chanceWithMice 18 = .ok (.aload_n 1, 1) := by decide +kernel
theorem dX1_chanceWithMice_19 : decode cX1_chanceWithMice 19 = .ok (.getfield 31, 3) := by decide +kernel
theorem dX1_chanceWithMice_22 : decode cX1_chanceWithMice 22 = .ok (.iload_n 2, 1) := by decide +kernel
theorem dX1_chanceWithMice_23 : decode cX1_chanceWithMice 23 = .ok (.iaload, 1) := by decide +kernel
theorem dX1_chanceWithMice_24 : decode cX1_chanceWithMice 24 = .ok (.if_icmp .ne 7, 3) := by decide +kernel
theorem dX1_chanceWithMice_27 : decode cX1_chanceWithMice 27 = .ok (.lconst 1, 1) := by decide +kernel
theorem dX1_chanceWithMice_28 : decode cX1_chanceWithMice 28 = .ok (.goto 4, 3) := by decide +kernel
theorem dX1_chanceWithMice_31 : decode cX1_chanceWithMice 31 = .ok (.lconst 0, 1) := by decide +kernel
theorem dX1_chanceWithMice_32 : decode cX1_chanceWithMice 32 = .ok (.lastore, 1) := by decide +kernel
theorem dX1_chanceWithMice_33 : decode cX1_chanceWithMice 33 = .ok (.iinc 6 1, 3) := by decide +kernel
theorem dX1_chanceWithMice_36 : decode cX1_chanceWithMice 36 = .ok (.goto (-33), 3) := by decide +kernel
theorem dX1_chanceWithMice_39 : decode cX1_chanceWithMice 39 = .ok (.lconst 1, 1) := by decide +kernel
theorem dX1_chanceWithMice_40 : decode cX1_chanceWithMice 40 = .ok (.lstore 6, 2) := by decide +kernel
theorem dX1_chanceWithMice_42 : decode cX1_chanceWithMice 42 = .ok (.iconst 0, 1) := by decide +kernel
theorem dX1_chanceWithMice_43 : decode cX1_chanceWithMice 43 = .ok (.istore 8, 2) := by decide +kernel
theorem dX1_chanceWithMice_45 : decode cX1_chanceWithMice 45 = .ok (.iload 8, 2) := by decide +kernel
theorem dX1_chanceWithMice_47 : decode cX1_chanceWithMice 47 = .ok (.iload_n 3, 1) := by decide +kernel
theorem dX1_chanceWithMice_48 : decode cX1_chanceWithMice 48 = .ok (.if_icmp .ge 27, 3) := by decide +kernel
theorem dX1_chanceWithMice_51 : decode cX1_chanceWithMice 51 = .ok (.aload_n 0, 1) := by decide +kernel
theorem dX1_chanceWithMice_52 : decode cX1_chanceWithMice 52 = .ok (.aload_n 1, 1) := by decide +kernel
theorem dX1_chanceWithMice_53 : decode cX1_chanceWithMice 53 = .ok (.iload_n 2, 1) := by decide +kernel
theorem dX1_chanceWithMice_54 : decode cX1_chanceWithMice 54 = .ok (.iload 8, 2) := by decide +kernel
theorem dX1_chanceWithMice_56 : decode cX1_chanceWithMice 56 = .ok (.iload 4, 2) := by decide +kernel
theorem dX1_chanceWithMice_58 : decode cX1_chanceWithMice 58 = .ok (.invokevirtual 84, 3) := by decide +kernel
theorem dX1_chanceWithMice_61 : decode cX1_chanceWithMice 61 = .ok (.lload 6, 2) := by decide +kernel
theorem dX1_chanceWithMice_63 : decode cX1_chanceWithMice 63 = .ok (.ldc2_w 88, 3) := by decide +kernel
theorem dX1_chanceWithMice_66 : decode cX1_chanceWithMice 66 = .ok (.lmul, 1) := by decide +kernel
theorem dX1_chanceWithMice_67 : decode cX1_chanceWithMice 67 = .ok (.lstore 6, 2) := by decide +kernel
theorem dX1_chanceWithMice_69 : decode cX1_chanceWithMice 69 = .ok (.iinc 8 1, 3) := by decide +kernel
theorem dX1_chanceWithMice_72 : decode cX1_chanceWithMice 72 = .ok (.goto (-27), 3) := by decide +kernel
theorem dX1_chanceWithMice_75 : decode cX1_chanceWithMice 75 = .ok (.aload 5, 2) := by decide +kernel
theorem dX1_chanceWithMice_77 : decode cX1_chanceWithMice 77 = .ok (.lload 6, 2) := by decide +kernel
theorem dX1_chanceWithMice_79 : decode cX1_chanceWithMice 79 = .ok (.aload_n 0, 1) := by decide +kernel
theorem dX1_chanceWithMice_80 : decode cX1_chanceWithMice 80 = .ok (.getfield 15, 3) := by decide +kernel
theorem dX1_chanceWithMice_83 : decode cX1_chanceWithMice 83 = .ok (.iconst 0, 1) := by decide +kernel
theorem dX1_chanceWithMice_84 : decode cX1_chanceWithMice 84 = .ok (.laload, 1) := by decide +kernel
theorem dX1_chanceWithMice_85 : decode cX1_chanceWithMice 85 = .ok (.lsub, 1) := by decide +kernel
theorem dX1_chanceWithMice_86 : decode cX1_chanceWithMice 86 = .ok (.lload 6, 2) := by decide +kernel
theorem dX1_chanceWithMice_88 : decode cX1_chanceWithMice 88 = .ok (.invokevirtual 90, 3) := by decide +kernel
theorem dX1_chanceWithMice_91 : decode cX1_chanceWithMice 91 = .ok (.return_, 1) := by decide +kernel
theorem dX1_miceEat_0 : decode cX1_miceEat 0 = .ok (.iconst 0, 1) := by decide +kernel
theorem dX1_miceEat_1 : decode cX1_miceEat 1 = .ok (.istore 5, 2) := by decide +kernel
theorem dX1_miceEat_3 : decode cX1_miceEat 3 = .ok (.iload 5, 2) := by decide +kernel
theorem dX1_miceEat_5 : decode cX1_miceEat 5 = .ok (.bipush 60, 2) := by decide +kernel
theorem dX1_miceEat_7 : decode cX1_miceEat 7 = .ok (.if_icmp .gt 96, 3) := by decide +kernel
theorem dX1_miceEat_10 : decode cX1_miceEat 10 = .ok (.aload_n 0, 1) := by decide +kernel
theorem dX1_miceEat_11 : decode cX1_miceEat 11 = .ok (.getfield 15, 3) := by decide +kernel
theorem dX1_miceEat_14 : decode cX1_miceEat 14 = .ok (.iload 5, 2) := by decide +kernel
theorem dX1_miceEat_16 : decode cX1_miceEat 16 = .ok (.laload, 1) := by decide +kernel
theorem dX1_miceEat_17 : decode cX1_miceEat 17 = .ok (.lstore 6, 2) := by decide +kernel
theorem dX1_miceEat_19 : decode cX1_miceEat 19 = .ok (.aload_n 0, 1) := by decide +kernel
theorem dX1_miceEat_20 : decode cX1_miceEat 20 = .ok (.getfield 15, 3) := by decide +kernel
theorem dX1_miceEat_23 : decode cX1_miceEat 23 = .ok (.iload 5, 2) := by decide +kernel
theorem dX1_miceEat_25 : decode cX1_miceEat 25 = .ok (.lconst 0, 1) := by decide +kernel
theorem dX1_miceEat_26 : decode cX1_miceEat 26 = .ok (.lastore, 1) := by decide +kernel
theorem dX1_miceEat_27 : decode cX1_miceEat 27 = .ok (.aload_n 1, 1) := by decide +kernel
theorem dX1_miceEat_28 : decode cX1_miceEat 28 = .ok (.iload 5, 2) := by decide +kernel
theorem dX1_miceEat_30 : decode cX1_miceEat 30 = .ok (.iload_n 2, 1) := by decide +kernel
theorem dX1_miceEat_31 : decode cX1_miceEat 31 = .ok (.iload_n 3, 1) := by decide +kernel
theorem dX1_miceEat_32 : decode cX1_miceEat 32 = .ok (.invokevirtual 34, 3) := by decide +kernel
theorem dX1_miceEat_35 : decode cX1_miceEat 35 = .ok (.istore 8, 2) := by decide +kernel
theorem dX1_miceEat_37 : decode cX1_miceEat 37 = .ok (.iload 8, 2) := by decide +kernel
theorem dX1_miceEat_39 : decode cX1_miceEat 39 = .ok (.ifCond .ne 21, 3) := by decide +kernel
theorem dX1_miceEat_42 : decode cX1_miceEat 42 = .ok (.aload_n 0, 1) := by decide +kernel
theorem dX1_miceEat_43 : decode cX1_miceEat 43 = .ok (.getfield 15, 3) := by decide +kernel
theorem dX1_miceEat_46 : decode cX1_miceEat 46 = .ok (.iconst 0, 1) := by decide +kernel
theorem dX1_miceEat_47 : decode cX1_miceEat 47 = .ok (.dup2, 1) := by decide +kernel
theorem dX1_miceEat_48 : decode cX1_miceEat 48 = .ok (.laload, 1) := by decide +kernel
theorem dX1_miceEat_49 : decode cX1_miceEat 49 = .ok (.lload 6, 2) := by decide +kernel
theorem dX1_miceEat_51 : decode cX1_miceEat 51 = .ok (.ldc2_w 88, 3) := by decide +kernel
theorem dX1_miceEat_54 : decode cX1_miceEat 54 = .ok (.lmul, 1) := by decide +kernel
theorem dX1_miceEat_55 : decode cX1_miceEat 55 = .ok (.ladd, 1) := by decide +kernel
theorem dX1_miceEat_56 : decode cX1_miceEat 56 = .ok (.lastore, 1) := by decide +kernel
theorem dX1_miceEat_57 : decode cX1_miceEat 57 = .ok (.goto 40, 3) := by decide +kernel
theorem dX1_miceEat_60 : decode cX1_miceEat 60 = .ok (.aload_n 0, 1) := by decide +kernel
theorem dX1_miceEat_61 : decode cX1_miceEat 61 = .ok (.getfield 15, 3) := by decide +kernel
theorem dX1_miceEat_64 : decode cX1_miceEat 64 = .ok (.iload 8, 2) := by decide +kernel
theorem dX1_miceEat_66 : decode cX1_miceEat 66 = .ok (.dup2, 1) := by decide +kernel
theorem dX1_miceEat_67 : decode cX1_miceEat 67 = .ok (.laload, 1) := by decide +kernel
theorem dX1_miceEat_68 : decode cX1_miceEat 68 = .ok (.lload 6, 2) := by decide +kernel
theorem dX1_miceEat_70 : decode cX1_miceEat 70 = .ok (.bipush 10, 2) := by decide +kernel
theorem dX1_miceEat_72 : decode cX1_miceEat 72 = .ok (.iload 4, 2) := by decide +kernel
theorem dX1_miceEat_74 : decode cX1_miceEat 74 = .ok (.isub, 1) := by decide +kernel
theorem dX1_miceEat_75 : decode cX1_miceEat 75 = .ok (.i2l, 1) := by decide +kernel
theorem dX1_miceEat_76 : decode cX1_miceEat 76 = .ok (.lmul, 1) := by decide +kernel
theorem dX1_miceEat_77 : decode cX1_miceEat 77 = .ok (.ladd, 1) := by decide +kernel
theorem dX1_miceEat_78 : decode cX1_miceEat 78 = .ok (.lastore, 1) := by decide +kernel
theorem dX1_miceEat_79 : decode cX1_miceEat 79 = .ok (.aload_n 0, 1) := by decide +kernel
theorem dX1_miceEat_80 : decode cX1_miceEat 80 = .ok (.getfield 15, 3) := by decide +kernel
theorem dX1_miceEat_83 : decode cX1_miceEat 83 = .ok (.iload 8, 2) := by decide +kernel
theorem dX1_miceEat_85 : decode cX1_miceEat 85 = .ok (.iconst 1, 1) := by decide +kernel
theorem dX1_miceEat_86 : decode cX1_miceEat 86 = .ok (.isub, 1) := by decide +kernel
theorem dX1_miceEat_87 : decode cX1_miceEat 87 = .ok (.dup2, 1) := by decide +kernel
theorem dX1_miceEat_88 : decode cX1_miceEat 88 = .ok (.laload, 1) := by decide +kernel
theorem dX1_miceEat_89 : decode cX1_miceEat 89 = .ok (.lload 6, 2) := by decide +kernel
theorem dX1_miceEat_91 : decode cX1_miceEat 91 = .ok (.iload 4, 2) := by decide +kernel
theorem dX1_miceEat_93 : decode cX1_miceEat 93 = .ok (.i2l, 1) := by decide +kernel
theorem dX1_miceEat_94 : decode cX1_miceEat 94 = .ok (.lmul, 1) := by decide +kernel
theorem dX1_miceEat_95 : decode cX1_miceEat 95 = .ok (.ladd, 1) := by decide +kernel
theorem dX1_miceEat_96 : decode cX1_miceEat 96 = .ok (.lastore, 1) := by decide +kernel
theorem dX1_miceEat_97 : decode cX1_miceEat 97 = .ok (.iinc 5 1, 3) := by decide +kernel
theorem dX1_miceEat_100 : decode cX1_miceEat 100 = .ok (.goto (-97), 3) := by decide +kernel
theorem dX1_miceEat_103 : decode cX1_miceEat 103 = .ok (.return_, 1) := by decide +kernel
theorem dX2_init_0 : decode cX2_init 0 = .ok (.aload_n 0, 1) := by decide +kernel
theorem dX2_init_1 : decode cX2_init 1 = .ok (.invokespecial 1, 3) := by decide +kernel
theorem dX2_init_4 : decode cX2_init 4 = .ok (.aload_n 0, 1) := by decide +kernel
theorem dX2_init_5 : decode cX2_init 5 = .ok (.lconst 0, 1) := by decide +kernel
theorem dX2_init_6 : decode cX2_init 6 = .ok (.putfield 7, 3) := by decide +kernel
theorem dX2_init_9 : decode cX2_init 9 = .ok (.aload_n 0, 1) := by decide +kernel
theorem dX2_init_10 : decode cX2_init 10 = .ok (.lconst 1, 1) := by decide +kernel
theorem dX2_init_11 : decode cX2_init 11 = .ok (.putfield 13, 3) := by decide +kernel
theorem dX2_init_14 : decode cX2_init 14 = .ok (.return_, 1) := by decide +kernel
theorem dX2_set_0 : decode cX2_set 0 = .ok (.lload_n 1, 1) := by decide +kernel
theorem dX2_set_1 : decode cX2_set 1 = .ok (.lload_n 3, 1) := by decide +kernel
theorem dX2_set_2 : decode cX2_set 2 = .ok (.invokestatic 16, 3) := by decide +kernel
theorem dX2_set_5 : decode cX2_set 5 = .ok (.lstore 5, 2) := by decide +kernel
theorem dX2_set_7 : decode cX2_set 7 = .ok (.lload 5, 2) := by decide +kernel
theorem dX2_set_9 : decode cX2_set 9 = .ok (.lconst 0, 1) := by decide +kernel
theorem dX2_set_10 : decode cX2_set 10 = .ok (.lcmp, 1) := by decide +kernel
theorem dX2_set_11 : decode cX2_set 11 = .ok (.ifCond .le 19, 3) := by decide +kernel
theorem dX2_set_14 : decode cX2_set 14 = .ok (.aload_n 0, 1) := by decide +kernel
theorem dX2_set_15 : decode cX2_set 15 = .ok (.lload_n 1, 1) := by decide +kernel
theorem dX2_set_16 : decode cX2_set 16 = .ok (.lload 5, 2) := by decide +kernel
theorem dX2_set_18 : decode cX2_set 18 = .ok (.ldiv, 1) := by decide +kernel
theorem dX2_set_19 : decode cX2_set 19 = .ok (.putfield 7, 3) := by decide +kernel
theorem dX2_set_22 : decode cX2_set 22 = .ok (.aload_n 0, 1) := by decide +kernel
theorem dX2_set_23 : decode cX2_set 23 = .ok (.lload_n 3, 1) := by decide +kernel
theorem dX2_set_24 : decode cX2_set 24 = .ok (.lload 5, 2) := by decide +kernel
theorem dX2_set_26 : decode cX2_set 26 = .ok (.ldiv, 1) := by decide +kernel
theorem dX2_set_27 : decode cX2_set 27 = .ok (.putfield 13, 3) := by decide +kernel
theorem dX2_set_30 : decode cX2_set 30 = .ok (.return_, 1) := by decide +kernel
theorem dX2_commonDivisor_0 : decode cX2_commonDivisor 0 = .ok (.lload_n 0, 1) := by decide +kernel
theorem dX2_commonDivisor_1 : decode cX2_commonDivisor 1 = .ok (.lstore 4, 2) := by decide +kernel
theorem dX2_commonDivisor_3 : decode cX2_commonDivisor 3 = .ok (.lload_n 2, 1) := by decide +kernel
theorem dX2_commonDivisor_4 : decode cX2_commonDivisor 4 = .ok (.lstore 6, 2) := by decide +kernel
theorem dX2_commonDivisor_6 : decode cX2_commonDivisor 6 = .ok (.iconst 0, 1) := by decide +kernel
theorem dX2_commonDivisor_7 : decode cX2_commonDivisor 7 = .ok (.istore 8, 2) := by decide +kernel
theorem dX2_commonDivisor_9 : decode cX2_commonDivisor 9 = .ok (.iload 8, 2) := by decide +kernel
theorem dX2_commonDivisor_11 : decode cX2_commonDivisor 11 = .ok (.bipush 100, 2) := by decide +kernel
theorem dX2_commonDivisor_13 : decode cX2_commonDivisor 13 = .ok (.if_icmp .ge 31, 3) := by decide +kernel
theorem dX2_commonDivisor_16 : decode cX2_commonDivisor 16 = .ok (.lload 6, 2) := by decide +kernel
theorem dX2_commonDivisor_18 : decode cX2_commonDivisor 18 = .ok (.lconst 0, 1) := by decide +kernel
theorem dX2_commonDivisor_19 : decode cX2_commonDivisor 19 = .ok (.lcmp, 1) := by decide +kernel
theorem dX2_commonDivisor_20 : decode cX2_commonDivisor 20 = .ok (.ifCond .eq 24, 3) := by decide +kernel
theorem dX2_commonDivisor_23 : decode cX2_commonDivisor 23 = .ok (.lload 4, 2) := by decide +kernel
theorem dX2_commonDivisor_25 : decode cX2_commonDivisor 25 = .ok (.lload 6, 2) := by decide +kernel
theorem dX2_commonDivisor_27 : decode cX2_commonDivisor 27 = .ok (.lrem, 1) := by decide +kernel
theorem dX2_commonDivisor_28 : decode cX2_commonDivisor 28 = .ok (.lstore 9, 2) := by decide +kernel
theorem dX2_commonDivisor_30 : decode cX2_commonDivisor 30 = .ok (.lload 6, 2) := by decide +kernel
theorem dX2_commonDivisor_32 : decode cX2_commonDivisor 32 = .ok (.lstore 4, 2) := by decide +kernel
theorem dX2_commonDivisor_34 : decode cX2_commonDivisor 34 = .ok (.lload 9, 2) := by decide +kernel
theorem dX2_commonDivisor_36 : decode cX2_commonDivisor 36 = .ok (.lstore 6, 2) := by decide +kernel
theorem dX2_commonDivisor_38 : decode cX2_commonDivisor 38 = .ok (.iinc 8 1, 3) := by decide +kernel
theorem dX2_commonDivisor_41 : decode cX2_commonDivisor 41 = .ok (.goto (-32), 3) := by decide +kernel
theorem dX2_commonDivisor_44 : decode cX2_commonDivisor 44 = .ok (.lload 4, 2) := by decide +kernel
theorem dX2_commonDivisor_46 : decode cX2_commonDivisor 46 = .ok (.lreturn, 1) := by decide +kernel
theorem dX3_init_0 : decode cX3_init 0 = .ok (.aload_n 0, 1) := by decide +kernel
theorem dX3_init_1 : decode cX3_init 1 = .ok (.invokespecial 3, 3) := by decide +kernel
theorem dX3_init_4 : decode cX3_init 4 = .ok (.aload_n 0, 1) := by decide +kernel
theorem dX3_init_5 : decode cX3_init 5 = .ok (.iconst 0, 1) := by decide +kernel
theorem dX3_init_6 : decode cX3_init 6 = .ok (.putfield 9, 3) := by decide +kernel
theorem dX3_init_9 : decode cX3_init 9 = .ok (.aload_n 0, 1) := by decide +kernel
theorem dX3_init_10 : decode cX3_init 10 = .ok (.iconst 0, 1) := by decide +kernel
theorem dX3_init_11 : decode cX3_init 11 = .ok (.putfield 15, 3) := by decide +kernel
theorem dX3_init_14 : decode cX3_init 14 = .ok (.aload_n 0, 1) := by decide +kernel
theorem dX3_init_15 : decode cX3_init 15 = .ok (.iconst (-1), 1) := by decide +kernel
theorem dX3_init_16 : decode cX3_init 16 = .ok (.putfield 18, 3) := by decide +kernel
theorem dX3_init_19 : decode cX3_init 19 = .ok (.aload_n 0, 1) := by decide +kernel
theorem dX3_init_20 : decode cX3_init 20 = .ok (.iconst (-1), 1) := by decide +kernel
theorem dX3_init_21 : decode cX3_init 21 = .ok (.putfield 21, 3) := by decide +kernel
theorem dX3_init_24 : decode cX3_init 24 = .ok (.aload_n 0, 1) := by decide +kernel
theorem dX3_init_25 : decode cX3_init 25 = .ok (.iconst (-1), 1) := by decide +kernel
theorem dX3_init_26 : decode cX3_init 26 = .ok (.putfield 24, 3) := by decide +kernel
theorem dX3_init_29 : decode cX3_init 29 = .ok (.return_, 1) := by decide +kernel
theorem dX3_search_0 : decode cX3_search 0 = .ok (.aload_n 0, 1) := by decide +kernel
theorem dX3_search_1 : decode cX3_search 1 = .ok (.aload_n 1, 1) := by decide +kernel
theorem dX3_search_2 : decode cX3_search 2 = .ok (.iload_n 2, 1) := by decide +kernel
theorem dX3_search_3 : decode cX3_search 3 = .ok (.iload 4, 2) := by decide +kernel
theorem dX3_search_5 : decode cX3_search 5 = .ok (.invokestatic 27, 3) := by decide +kernel
theorem dX3_search_8 : decode cX3_search 8 = .ok (.putfield 9, 3) := by decide +kernel
theorem dX3_search_11 : decode cX3_search 11 = .ok (.aload_n 0, 1) := by decide +kernel
theorem dX3_search_12 : decode cX3_search 12 = .ok (.aload_n 1, 1) := by decide +kernel
theorem dX3_search_13 : decode cX3_search 13 = .ok (.iload_n 3, 1) := by decide +kernel
theorem dX3_search_14 : decode cX3_search 14 = .ok (.iload 4, 2) := by decide +kernel
theorem dX3_search_16 : decode cX3_search 16 = .ok (.invokestatic 27, 3) := by decide +kernel
theorem dX3_search_19 : decode cX3_search 19 = .ok (.putfield 15, 3) := by decide +kernel
theorem dX3_search_22 : decode cX3_search 22 = .ok (.aload_n 0, 1) := by decide +kernel
theorem dX3_search_23 : decode cX3_search 23 = .ok (.iconst (-1), 1) := by decide +kernel
theorem dX3_search_24 : decode cX3_search 24 = .ok (.putfield 18, 3) := by decide +kernel
theorem dX3_search_27 : decode cX3_search 27 = .ok (.aload_n 0, 1) := by decide +kernel
theorem dX3_search_28 : decode cX3_search 28 = .ok (.iconst (-1), 1) := by decide +kernel
theorem dX3_search_29 : decode cX3_search 29 = .ok (.putfield 21, 3) := by decide +kernel
theorem dX3_search_32 : decode cX3_search 32 = .ok (.aload_n 0, 1) := by decide +kernel
theorem dX3_search_33 : decode cX3_search 33 = .ok (.iconst (-1), 1) := by decide +kernel
theorem dX3_search_34 : decode cX3_search 34 = .ok (.putfield 24, 3) := by decide +kernel
theorem dX3_search_37 : decode cX3_search 37 = .ok (.aload_n 0, 1) := by decide +kernel
theorem dX3_search_38 : decode cX3_search 38 = .ok (.aload_n 1, 1) := by decide +kernel
theorem dX3_search_39 : decode cX3_search 39 = .ok (.iconst 0, 1) := by decide +kernel
theorem dX3_search_40 : decode cX3_search 40 = .ok (.iconst 0, 1) := by decide +kernel
theorem dX3_search_41 : decode cX3_search 41 = .ok (.iconst 0, 1) := by decide +kernel
theorem dX3_search_42 : decode cX3_search 42 = .ok (.iconst 0, 1) := by decide +kernel
theorem dX3_search_43 : decode cX3_search 43 = .ok (.iconst 0, 1) := by decide +kernel
theorem dX3_search_44 : decode cX3_search 44 = .ok (.invokestatic 31, 3) := by decide +kernel
theorem dX3_search_47 : decode cX3_search 47 = .ok (.return_, 1) := by decide +kernel
theorem dX3_flourNeeded_0 : decode cX3_flourNeeded 0 = .ok (.iconst 0, 1) := by decide +kernel
theorem dX3_flourNeeded_1 : decode cX3_flourNeeded 1 = .ok (.istore_n 3, 1) := by decide +kernel
theorem dX3_flourNeeded_2 : decode cX3_flourNeeded 2 = .ok (.iconst 0, 1) := by decide +kernel
theorem dX3_flourNeeded_3 : decode cX3_flourNeeded 3 = .ok (.istore 4, 2) := by decide +kernel
theorem dX3_flourNeeded_5 : decode cX3_flourNeeded 5 = .ok (.iload 4, 2) := by decide +kernel
theorem dX3_flourNeeded_7 : decode cX3_flourNeeded 7 = .ok (.iload_n 2, 1) := by decide +kernel
theorem dX3_flourNeeded_8 : decode cX3_flourNeeded 8 = .ok (.if_icmp .ge 36, 3) := by decide +kernel
theorem dX3_flourNeeded_11 : decode cX3_flourNeeded 11 = .ok (.iload_n 3, 1) := by decide +kernel
theorem dX3_flourNeeded_12 : decode cX3_flourNeeded 12 = .ok (.aload_n 0, 1) := by decide +kernel
theorem dX3_flourNeeded_13 : decode cX3_flourNeeded 13 = .ok (.getfield 35, 3) := by decide +kernel
theorem dX3_flourNeeded_16 : decode cX3_flourNeeded 16 = .ok (.iload_n 1, 1) := by decide +kernel
theorem dX3_flourNeeded_17 : decode cX3_flourNeeded 17 = .ok (.iaload, 1) := by decide +kernel
theorem dX3_flourNeeded_18 : decode cX3_flourNeeded 18 = .ok (.aload_n 0, 1) := by decide +kernel
theorem dX3_flourNeeded_19 : decode cX3_flourNeeded 19 = .ok (.getfield 41, 3) := by decide +kernel
theorem dX3_flourNeeded_22 : decode cX3_flourNeeded 22 = .ok (.iload 4, 2) := by decide +kernel
theorem dX3_flourNeeded_24 : decode cX3_flourNeeded 24 = .ok (.iadd, 1) := by decide +kernel
theorem dX3_flourNeeded_25 : decode cX3_flourNeeded 25 = .ok (.aload_n 0, 1) := by decide +kernel
theorem dX3_flourNeeded_26 : decode cX3_flourNeeded 26 = .ok (.getfield 44, 3) := by decide +kernel
theorem dX3_flourNeeded_29 : decode cX3_flourNeeded 29 = .ok (.aload_n 0, 1) := by decide +kernel
theorem dX3_flourNeeded_30 : decode cX3_flourNeeded 30 = .ok (.getfield 47, 3) := by decide +kernel
theorem dX3_flourNeeded_33 : decode cX3_flourNeeded 33 = .ok (.invokestatic 50, 3) := by decide +kernel
theorem dX3_flourNeeded_36 : decode cX3_flourNeeded 36 = .ok (.iadd, 1) := by decide +kernel
theorem dX3_flourNeeded_37 : decode cX3_flourNeeded 37 = .ok (.istore_n 3, 1) := by decide +kernel
theorem dX3_flourNeeded_38 : decode cX3_flourNeeded 38 = .ok (.iinc 4 1, 3) := by decide +kernel
theorem dX3_flourNeeded_41 : decode cX3_flourNeeded 41 = .ok (.goto (-36), 3) := by decide +kernel
theorem dX3_flourNeeded_44 : decode cX3_flourNeeded 44 = .ok (.iconst 0, 1) := by decide +kernel
theorem dX3_flourNeeded_45 : decode cX3_flourNeeded 45 = .ok (.iload_n 3, 1) := by decide +kernel
theorem dX3_flourNeeded_46 : decode cX3_flourNeeded 46 = .ok (.iconst 1, 1) := by decide +kernel
theorem dX3_flourNeeded_47 : decode cX3_flourNeeded 47 = .ok (.iadd, 1) := by decide +kernel
theorem dX3_flourNeeded_48 : decode cX3_flourNeeded 48 = .ok (.aload_n 0, 1) := by decide +kernel
theorem dX3_flourNeeded_49 : decode cX3_flourNeeded 49 = .ok (.getfield 56, 3) := by decide +kernel
theorem dX3_flourNeeded_52 : decode cX3_flourNeeded 52 = .ok (.iload_n 1, 1) := by decide +kernel
theorem dX3_flourNeeded_53 : decode cX3_flourNeeded 53 = .ok (.iaload, 1) := by decide +kernel
theorem dX3_flourNeeded_54 : decode cX3_flourNeeded 54 = .ok (.isub, 1) := by decide +kernel
theorem dX3_flourNeeded_55 : decode cX3_flourNeeded 55 = .ok (.invokestatic 59, 3) := by decide +kernel
theorem dX3_flourNeeded_58 : decode cX3_flourNeeded 58 = .ok (.ireturn, 1) := by decide +kernel
theorem dX3_share_0 : decode cX3_share 0 = .ok (.aload_n 0, 1) := by decide +kernel
theorem dX3_share_1 : decode cX3_share 1 = .ok (.getfield 18, 3) := by decide +kernel
theorem dX3_share_4 : decode cX3_share 4 = .ok (.iconst (-1), 1) := by decide +kernel
theorem dX3_share_5 : decode cX3_share 5 = .ok (.if_icmp .eq 15, 3) := by decide +kernel
theorem dX3_share_8 : decode cX3_share 8 = .ok (.iload_n 3, 1) := by decide +kernel
theorem dX3_share_9 : decode cX3_share 9 = .ok (.iload 4, 2) := by decide +kernel
theorem dX3_share_11 : decode cX3_share 11 = .ok (.iadd, 1) := by decide +kernel
theorem dX3_share_12 : decode cX3_share 12 = .ok (.aload_n 0, 1) := by decide +kernel
theorem dX3_share_13 : decode cX3_share 13 = .ok (.getfield 18, 3) := by decide +kernel
theorem dX3_share_16 : decode cX3_share 16 = .ok (.if_icmp .lt 4, 3) := by decide +kernel
theorem dX3_share_19 : decode cX3_share 19 = .ok (.return_, 1) := by decide +kernel
theorem dX3_share_20 : decode cX3_share 20 = .ok (.iload_n 3, 1) := by decide +kernel
theorem dX3_share_21 : decode cX3_share 21 = .ok (.aload_n 0, 1) := by decide +kernel
theorem dX3_share_22 : decode cX3_share 22 = .ok (.getfield 9, 3) := by decide +kernel
theorem dX3_share_25 : decode cX3_share 25 = .ok (.if_icmp .lt 33, 3) := by decide +kernel
theorem dX3_share_28 : decode cX3_share 28 = .ok (.iload 4, 2) := by decide +kernel
theorem dX3_share_30 : decode cX3_share 30 = .ok (.aload_n 0, 1) := by decide +kernel
theorem dX3_share_31 : decode cX3_share 31 = .ok (.getfield 15, 3) := by decide +kernel
theorem dX3_share_34 : decode cX3_share 34 = .ok (.if_icmp .lt 24, 3) := by decide +kernel
theorem dX3_share_37 : decode cX3_share 37 = .ok (.aload_n 0, 1) := by decide +kernel
theorem dX3_share_38 : decode cX3_share 38 = .ok (.iload_n 3, 1) := by decide +kernel
theorem dX3_share_39 : decode cX3_share 39 = .ok (.iload 4, 2) := by decide +kernel
theorem dX3_share_41 : decode cX3_share 41 = .ok (.iadd, 1) := by decide +kernel
theorem dX3_share_42 : decode cX3_share 42 = .ok (.putfield 18, 3) := by decide +kernel
theorem dX3_share_45 : decode cX3_share 45 = .ok (.aload_n 0, 1) := by decide +kernel
theorem dX3_share_46 : decode cX3_share 46 = .ok (.iload 5, 2) := by decide +kernel
theorem dX3_share_48 : decode cX3_share 48 = .ok (.putfield 21, 3) := by decide +kernel
theorem dX3_share_51 : decode cX3_share 51 = .ok (.aload_n 0, 1) := by decide +kernel
theorem dX3_share_52 : decode cX3_share 52 = .ok (.iload 6, 2) := by decide +kernel
theorem dX3_share_54 : decode cX3_share 54 = .ok (.putfield 24, 3) := by decide +kernel
theorem dX3_share_57 : decode cX3_share 57 = .ok (.return_, 1) := by decide +kernel
theorem dX3_share_58 : decode cX3_share 58 = .ok (.iload_n 2, 1) := by decide +kernel
theorem dX3_share_59 : decode cX3_share 59 = .ok (.ifCond .lt 17, 3) := by decide +kernel
theorem dX3_share_62 : decode cX3_share 62 = .ok (.iload_n 2, 1) := by decide +kernel
theorem dX3_share_63 : decode cX3_share 63 = .ok (.aload_n 1, 1) := by decide +kernel
theorem dX3_share_64 : decode cX3_share 64 = .ok (.getfield 65, 3) := by decide +kernel
theorem dX3_share_67 : decode cX3_share 67 = .ok (.if_icmp .ge 9, 3) := by decide +kernel
theorem dX3_share_70 : decode cX3_share 70 = .ok (.iload_n 2, 1) := by decide +kernel
theorem dX3_share_71 : decode cX3_share 71 = .ok (.bipush 8, 2) := by decide +kernel
theorem dX3_share_73 : decode cX3_share 73 = .ok (.if_icmp .lt 4, 3) := by decide +kernel
theorem dX3_share_76 : decode cX3_share 76 = .ok (.return_, 1) := by decide +kernel
theorem dX3_share_77 : decode cX3_share 77 = .ok (.aload_n 1, 1) := by decide +kernel
theorem dX3_share_78 : decode cX3_share 78 = .ok (.getfield 68, 3) := by decide +kernel
theorem dX3_share_81 : decode cX3_share 81 = .ok (.iload_n 2, 1) := by decide +kernel
theorem dX3_share_82 : decode cX3_share 82 = .ok (.iaload, 1) := by decide +kernel
theorem dX3_share_83 : decode cX3_share 83 = .ok (.istore 7, 2) := by decide +kernel
theorem dX3_share_85 : decode cX3_share 85 = .ok (.aload_n 0, 1) := by decide +kernel
theorem dX3_share_86 : decode cX3_share 86 = .ok (.aload_n 1, 1) := by decide +kernel
theorem dX3_share_87 : decode cX3_share 87 = .ok (.iload_n 2, 1) := by decide +kernel
theorem dX3_share_88 : decode cX3_share 88 = .ok (.iconst 1, 1) := by decide +kernel
theorem dX3_share_89 : decode cX3_share 89 = .ok (.iadd, 1) := by decide +kernel
theorem dX3_share_90 : decode cX3_share 90 = .ok (.iload_n 3, 1) := by decide +kernel
theorem dX3_share_91 : decode cX3_share 91 = .ok (.iload 4, 2) := by decide +kernel
theorem dX3_share_93 : decode cX3_share 93 = .ok (.iload 5, 2) := by decide +kernel
theorem dX3_share_95 : decode cX3_share 95 = .ok (.iload 6, 2) := by decide +kernel
theorem dX3_share_97 : decode cX3_share 97 = .ok (.invokestatic 31, 3) := by decide +kernel
theorem dX3_share_100 : decode cX3_share 100 = .ok (.aload_n 0, 1) := by decide +kernel
theorem dX3_share_101 : decode cX3_share 101 = .ok (.aload_n 1, 1) := by decide +kernel
theorem dX3_share_102 : decode cX3_share 102 = .ok (.iload_n 2, 1) := by decide +kernel
theorem dX3_share_103 : decode cX3_share 103 = .ok (.iconst 1, 1) := by decide +kernel
theorem dX3_share_104 : decode cX3_share 104 = .ok (.iadd, 1) := by decide +kernel
theorem dX3_share_105 : decode cX3_share 105 = .ok (.iload_n 3, 1) := by decide +kernel
theorem dX3_share_106 : decode cX3_share 106 = .ok (.iload 7, 2) := by decide +kernel
theorem dX3_share_108 : decode cX3_share 108 = .ok (.iadd, 1) := by decide +kernel
theorem dX3_share_109 : decode cX3_share 109 = .ok (.iload 4, 2) := by decide +kernel
theorem dX3_share_111 : decode cX3_share 111 = .ok (.iload 5, 2) := by decide +kernel
theorem dX3_share_113 : decode cX3_share 113 = .ok (.iconst 1, 1) := by decide +kernel
theorem dX3_share_114 : decode cX3_share 114 = .ok (.iload_n 2, 1) := by decide +kernel
theorem dX3_share_115 : decode cX3_share 115 = .ok (.ishl, 1) := by decide +kernel
theorem dX3_share_116 : decode cX3_share 116 = .ok (.ior, 1) := by decide +kernel
theorem dX3_share_117 : decode cX3_share 117 = .ok (.iload 6, 2) := by decide +kernel
theorem dX3_share_119 : decode cX3_share 119 = .ok (.invokestatic 31, 3) := by decide +kernel
theorem dX3_share_122 : decode cX3_share 122 = .ok (.aload_n 0, 1) := by decide +kernel
theorem dX3_share_123 : decode cX3_share 123 = .ok (.aload_n 1, 1) := by decide +kernel
theorem dX3_share_124 : decode cX3_share 124 = .ok (.iload_n 2, 1) := by decide +kernel
theorem dX3_share_125 : decode cX3_share 125 = .ok (.iconst 1, 1) := by decide +kernel
theorem dX3_share_126 : decode cX3_share 126 = .ok (.iadd, 1) := by decide +kernel
theorem dX3_share_127 : decode cX3_share 127 = .ok (.iload_n 3, 1) := by decide +kernel
theorem dX3_share_128 : decode cX3_share 128 = .ok (.iload 4, 2) := by decide +kernel
theorem dX3_share_130 : decode cX3_share 130 = .ok (.iload 7, 2) := by decide +kernel
theorem dX3_share_132 : decode cX3_share 132 = .ok (.iadd, 1) := by decide +kernel
theorem dX3_share_133 : decode cX3_share 133 = .ok (.iload 5, 2) := by decide +kernel
theorem dX3_share_135 : decode cX3_share 135 = .ok (.iload 6, 2) := by decide +kernel
theorem dX3_share_137 : decode cX3_share 137 = .ok (.iconst 1, 1) := by decide +kernel
theorem dX3_share_138 : decode cX3_share 138 = .ok (.iload_n 2, 1) := by decide +kernel
theorem dX3_share_139 : decode cX3_share 139 = .ok (.ishl, 1) := by decide +kernel
theorem dX3_share_140 : decode cX3_share 140 = .ok (.ior, 1) := by decide +kernel
theorem dX3_share_141 : decode cX3_share 141 = .ok (.invokestatic 31, 3) := by decide +kernel
theorem dX3_share_144 : decode cX3_share 144 = .ok (.return_, 1) := by decide +kernel
theorem dX4_goes_0 : decode cX4_goes 0 = .ok (.iload_n 1, 1) := by decide +kernel
theorem dX4_goes_1 : decode cX4_goes 1 = .ok (.bipush 12, 2) := by decide +kernel
theorem dX4_goes_3 : decode cX4_goes 3 = .ok (.irem, 1) := by decide +kernel
theorem dX4_goes_4 : decode cX4_goes 4 = .ok (.istore 4, 2) := by decide +kernel
theorem dX4_goes_6 : decode cX4_goes 6 = .ok (.iload_n 1, 1) := by decide +kernel
theorem dX4_goes_7 : decode cX4_goes 7 = .ok (.iconst 5, 1) := by decide +kernel
theorem dX4_goes_8 : decode cX4_goes 8 = .ok (.irem, 1) := by decide +kernel
theorem dX4_goes_9 : decode cX4_goes 9 = .ok (.iconst 4, 1) := by decide +kernel
theorem dX4_goes_10 : decode cX4_goes 10 = .ok (.if_icmp .ne 7, 3) := by decide +kernel
theorem dX4_goes_13 : decode cX4_goes 13 = .ok (.iconst 1, 1) := by decide +kernel
theorem dX4_goes_14 : decode cX4_goes 14 = .ok (.goto 4, 3) := by decide +kernel
theorem dX4_goes_17 : decode cX4_goes 17 = .ok (.iconst 0, 1) := by decide +kernel
theorem dX4_goes_18 : decode cX4_goes 18 = .ok (.istore 5, 2) := by decide +kernel
theorem dX4_goes_20 : decode cX4_goes 20 = .ok (.iload_n 3, 1) := by decide +kernel
theorem dX4_goes_21 : decode cX4_goes 21 = .ok (.iload 4, 2) := by decide +kernel
theorem dX4_goes_23 : decode cX4_goes 23 = .ok (.ishr, 1) := by decide +kernel
theorem dX4_goes_24 : decode cX4_goes 24 = .ok (.iconst 1, 1) := by decide +kernel
theorem dX4_goes_25 : decode cX4_goes 25 = .ok (.iand, 1) := by decide +kernel
theorem dX4_goes_26 : decode cX4_goes 26 = .ok (.iconst 1, 1) := by decide +kernel
theorem dX4_goes_27 : decode cX4_goes 27 = .ok (.if_icmp .ne 7, 3) := by decide +kernel
theorem dX4_goes_30 : decode cX4_goes 30 = .ok (.iconst 2, 1) := by decide +kernel
theorem dX4_goes_31 : decode cX4_goes 31 = .ok (.goto 4, 3) := by decide +kernel
theorem dX4_goes_34 : decode cX4_goes 34 = .ok (.iconst 1, 1) := by decide +kernel
theorem dX4_goes_35 : decode cX4_goes 35 = .ok (.istore 6, 2) := by decide +kernel
theorem dX4_goes_37 : decode cX4_goes 37 = .ok (.iload_n 1, 1) := by decide +kernel
theorem dX4_goes_38 : decode cX4_goes 38 = .ok (.iconst 2, 1) := by decide +kernel
theorem dX4_goes_39 : decode cX4_goes 39 = .ok (.irem, 1) := by decide +kernel
theorem dX4_goes_40 : decode cX4_goes 40 = .ok (.ifCond .ne 8, 3) := by decide +kernel
theorem dX4_goes_43 : decode cX4_goes 43 = .ok (.iload 6, 2) := by decide +kernel
theorem dX4_goes_45 : decode cX4_goes 45 = .ok (.goto 4, 3) := by decide +kernel
theorem dX4_goes_48 : decode cX4_goes 48 = .ok (.iconst 0, 1) := by decide +kernel
theorem dX4_goes_49 : decode cX4_goes 49 = .ok (.istore 7, 2) := by decide +kernel
theorem dX4_goes_51 : decode cX4_goes 51 = .ok (.iload 5, 2) := by decide +kernel
theorem dX4_goes_53 : decode cX4_goes 53 = .ok (.ifCond .eq 10, 3) := by decide +kernel
theorem dX4_goes_56 : decode cX4_goes 56 = .ok (.iload 6, 2) := by decide +kernel
theorem dX4_goes_58 : decode cX4_goes 58 = .ok (.iconst 2, 1) := by decide +kernel
theorem dX4_goes_59 : decode cX4_goes 59 = .ok (.iadd, 1) := by decide +kernel
theorem dX4_goes_60 : decode cX4_goes 60 = .ok (.goto 5, 3) := by decide +kernel
theorem dX4_goes_63 : decode cX4_goes 63 = .ok (.iload 6, 2) := by decide +kernel
theorem dX4_goes_65 : decode cX4_goes 65 = .ok (.istore 8, 2) := by decide +kernel
theorem dX4_goes_67 : decode cX4_goes 67 = .ok (.iload_n 0, 1) := by decide +kernel
theorem dX4_goes_68 : decode cX4_goes 68 = .ok (.tableswitch 99 1 5 #[36, 39, 42, 62, 79], 36) := by decide +kernel
theorem dX4_goes_104 : decode cX4_goes 104 = .ok (.iload 7, 2) := by decide +kernel
theorem dX4_goes_106 : decode cX4_goes 106 = .ok (.ireturn, 1) := by decide +kernel
theorem dX4_goes_107 : decode cX4_goes 107 = .ok (.iload 8, 2) := by decide +kernel
theorem dX4_goes_109 : decode cX4_goes 109 = .ok (.ireturn, 1) := by decide +kernel
theorem dX4_goes_110 : decode cX4_goes 110 = .ok (.iload_n 2, 1) := by decide +kernel
theorem dX4_goes_111 : decode cX4_goes 111 = .ok (.iload 4, 2) := by decide +kernel
theorem dX4_goes_113 : decode cX4_goes 113 = .ok (.ishr, 1) := by decide +kernel
theorem dX4_goes_114 : decode cX4_goes 114 = .ok (.iconst 1, 1) := by decide +kernel
theorem dX4_goes_115 : decode cX4_goes 115 = .ok (.iand, 1) := by decide +kernel
theorem dX4_goes_116 : decode cX4_goes 116 = .ok (.iconst 1, 1) := by decide +kernel
theorem dX4_goes_117 : decode cX4_goes 117 = .ok (.if_icmp .ne 10, 3) := by decide +kernel
theorem dX4_goes_120 : decode cX4_goes 120 = .ok (.iconst 2, 1) := by decide +kernel
theorem dX4_goes_121 : decode cX4_goes 121 = .ok (.iload 6, 2) := by decide +kernel
theorem dX4_goes_123 : decode cX4_goes 123 = .ok (.imul, 1) := by decide +kernel
theorem dX4_goes_124 : decode cX4_goes 124 = .ok (.goto 5, 3) := by decide +kernel
theorem dX4_goes_127 : decode cX4_goes 127 = .ok (.iload 6, 2) := by decide +kernel
theorem dX4_goes_129 : decode cX4_goes 129 = .ok (.ireturn, 1) := by decide +kernel
theorem dX4_goes_130 : decode cX4_goes 130 = .ok (.iload_n 1, 1) := by decide +kernel
theorem dX4_goes_131 : decode cX4_goes 131 = .ok (.iconst 3, 1) := by decide +kernel
theorem dX4_goes_132 : decode cX4_goes 132 = .ok (.irem, 1) := by decide +kernel
theorem dX4_goes_133 : decode cX4_goes 133 = .ok (.iconst 2, 1) := by decide +kernel
theorem dX4_goes_134 : decode cX4_goes 134 = .ok (.if_icmp .ne 10, 3) := by decide +kernel
theorem dX4_goes_137 : decode cX4_goes 137 = .ok (.iload 8, 2) := by decide +kernel
theorem dX4_goes_139 : decode cX4_goes 139 = .ok (.iconst 1, 1) := by decide +kernel
theorem dX4_goes_140 : decode cX4_goes 140 = .ok (.iadd, 1) := by decide +kernel
theorem dX4_goes_141 : decode cX4_goes 141 = .ok (.goto 5, 3) := by decide +kernel
theorem dX4_goes_144 : decode cX4_goes 144 = .ok (.iload 8, 2) := by decide +kernel
theorem dX4_goes_146 : decode cX4_goes 146 = .ok (.ireturn, 1) := by decide +kernel
theorem dX4_goes_147 : decode cX4_goes 147 = .ok (.iload 5, 2) := by decide +kernel
theorem dX4_goes_149 : decode cX4_goes 149 = .ok (.ifCond .ne 8, 3) := by decide +kernel
theorem dX4_goes_152 : decode cX4_goes 152 = .ok (.iload 7, 2) := by decide +kernel
theorem dX4_goes_154 : decode cX4_goes 154 = .ok (.ifCond .ne 8, 3) := by decide +kernel
theorem dX4_goes_157 : decode cX4_goes 157 = .ok (.iload 7, 2) := by decide +kernel
theorem dX4_goes_159 : decode cX4_goes 159 = .ok (.goto 7, 3) := by decide +kernel
theorem dX4_goes_162 : decode cX4_goes 162 = .ok (.iload 7, 2) := by decide +kernel
theorem dX4_goes_164 : decode cX4_goes 164 = .ok (.iconst 1, 1) := by decide +kernel
theorem dX4_goes_165 : decode cX4_goes 165 = .ok (.isub, 1) := by decide +kernel
theorem dX4_goes_166 : decode cX4_goes 166 = .ok (.ireturn, 1) := by decide +kernel
theorem dX4_goes_167 : decode cX4_goes 167 = .ok (.iload 6, 2) := by decide +kernel
theorem dX4_goes_169 : decode cX4_goes 169 = .ok (.ireturn, 1) := by decide +kernel
theorem dX4_leftAfter_0 : decode cX4_leftAfter 0 = .ok (.iconst 0, 1) := by decide +kernel
theorem dX4_leftAfter_1 : decode cX4_leftAfter 1 = .ok (.iload_n 0, 1) := by decide +kernel
theorem dX4_leftAfter_2 : decode cX4_leftAfter 2 = .ok (.iload_n 1, 1) := by decide +kernel
theorem dX4_leftAfter_3 : decode cX4_leftAfter 3 = .ok (.iload_n 2, 1) := by decide +kernel
theorem dX4_leftAfter_4 : decode cX4_leftAfter 4 = .ok (.iload_n 3, 1) := by decide +kernel
theorem dX4_leftAfter_5 : decode cX4_leftAfter 5 = .ok (.iload 4, 2) := by decide +kernel
theorem dX4_leftAfter_7 : decode cX4_leftAfter 7 = .ok (.invokestatic 9, 3) := by decide +kernel
theorem dX4_leftAfter_10 : decode cX4_leftAfter 10 = .ok (.isub, 1) := by decide +kernel
theorem dX4_leftAfter_11 : decode cX4_leftAfter 11 = .ok (.invokestatic 15, 3) := by decide +kernel
theorem dX4_leftAfter_14 : decode cX4_leftAfter 14 = .ok (.ireturn, 1) := by decide +kernel
theorem dX5_init_0 : decode cX5_init 0 = .ok (.aload_n 0, 1) := by decide +kernel
theorem dX5_init_1 : decode cX5_init 1 = .ok (.invokespecial 3, 3) := by decide +kernel
theorem dX5_init_4 : decode cX5_init 4 = .ok (.aload_n 0, 1) := by decide +kernel
theorem dX5_init_5 : decode cX5_init 5 = .ok (.bipush 104, 2) := by decide +kernel
theorem dX5_init_7 : decode cX5_init 7 = .ok (.newarray .int, 2) := by decide +kernel
theorem dX5_init_9 : decode cX5_init 9 = .ok (.putfield 11, 3) := by decide +kernel
theorem dX5_init_12 : decode cX5_init 12 = .ok (.aload_n 0, 1) := by decide +kernel
theorem dX5_init_13 : decode cX5_init 13 = .ok (.iconst 0, 1) := by decide +kernel
theorem dX5_init_14 : decode cX5_init 14 = .ok (.putfield 15, 3) := by decide +kernel
theorem dX5_init_17 : decode cX5_init 17 = .ok (.aload_n 0, 1) := by decide +kernel
theorem dX5_init_18 : decode cX5_init 18 = .ok (.iconst 0, 1) := by decide +kernel
theorem dX5_init_19 : decode cX5_init 19 = .ok (.putfield 19, 3) := by decide +kernel
theorem dX5_init_22 : decode cX5_init 22 = .ok (.return_, 1) := by decide +kernel
theorem dX5_copy_0 : decode cX5_copy 0 = .ok (.aload_n 1, 1) := by decide +kernel
theorem dX5_copy_1 : decode cX5_copy 1 = .ok (.getfield 11, 3) := by decide +kernel
theorem dX5_copy_4 : decode cX5_copy 4 = .ok (.iconst 0, 1) := by decide +kernel
theorem dX5_copy_5 : decode cX5_copy 5 = .ok (.aload_n 0, 1) := by decide +kernel
theorem dX5_copy_6 : decode cX5_copy 6 = .ok (.getfield 11, 3) := by decide +kernel
theorem dX5_copy_9 : decode cX5_copy 9 = .ok (.iconst 0, 1) := by decide +kernel
theorem dX5_copy_10 : decode cX5_copy 10 = .ok (.bipush 104, 2) := by decide +kernel
theorem dX5_copy_12 : decode cX5_copy 12 = .ok (.invokestatic 22, 3) := by decide +kernel
theorem dX5_copy_15 : decode cX5_copy 15 = .ok (.aload_n 0, 1) := by decide +kernel
theorem dX5_copy_16 : decode cX5_copy 16 = .ok (.aload_n 1, 1) := by decide +kernel
theorem dX5_copy_17 : decode cX5_copy 17 = .ok (.getfield 15, 3) := by decide +kernel
theorem dX5_copy_20 : decode cX5_copy 20 = .ok (.putfield 15, 3) := by decide +kernel
theorem dX5_copy_23 : decode cX5_copy 23 = .ok (.aload_n 0, 1) := by decide +kernel
theorem dX5_copy_24 : decode cX5_copy 24 = .ok (.aload_n 1, 1) := by decide +kernel
theorem dX5_copy_25 : decode cX5_copy 25 = .ok (.getfield 19, 3) := by decide +kernel
theorem dX5_copy_28 : decode cX5_copy 28 = .ok (.putfield 19, 3) := by decide +kernel
theorem dX5_copy_31 : decode cX5_copy 31 = .ok (.return_, 1) := by decide +kernel
theorem dX5_push_0 : decode cX5_push 0 = .ok (.aload_n 0, 1) := by decide +kernel
theorem dX5_push_1 : decode cX5_push 1 = .ok (.getfield 15, 3) := by decide +kernel
theorem dX5_push_4 : decode cX5_push 4 = .ok (.bipush 13, 2) := by decide +kernel
theorem dX5_push_6 : decode cX5_push 6 = .ok (.imul, 1) := by decide +kernel
theorem dX5_push_7 : decode cX5_push 7 = .ok (.istore 4, 2) := by decide +kernel
theorem dX5_push_9 : decode cX5_push 9 = .ok (.aload_n 0, 1) := by decide +kernel
theorem dX5_push_10 : decode cX5_push 10 = .ok (.getfield 11, 3) := by decide +kernel
theorem dX5_push_13 : decode cX5_push 13 = .ok (.iload 4, 2) := by decide +kernel
theorem dX5_push_15 : decode cX5_push 15 = .ok (.iload_n 1, 1) := by decide +kernel
theorem dX5_push_16 : decode cX5_push 16 = .ok (.iastore, 1) := by decide +kernel
theorem dX5_push_17 : decode cX5_push 17 = .ok (.aload_n 2, 1) := by decide +kernel
theorem dX5_push_18 : decode cX5_push 18 = .ok (.iconst 0, 1) := by decide +kernel
theorem dX5_push_19 : decode cX5_push 19 = .ok (.aload_n 0, 1) := by decide +kernel
theorem dX5_push_20 : decode cX5_push 20 = .ok (.getfield 11, 3) := by decide +kernel
theorem dX5_push_23 : decode cX5_push 23 = .ok (.iload 4, 2) := by decide +kernel
theorem dX5_push_25 : decode cX5_push 25 = .ok (.iconst 1, 1) := by decide +kernel
theorem dX5_push_26 : decode cX5_push 26 = .ok (.iadd, 1) := by decide +kernel
theorem dX5_push_27 : decode cX5_push 27 = .ok (.bipush 6, 2) := by decide +kernel
theorem dX5_push_29 : decode cX5_push 29 = .ok (.invokestatic 22, 3) := by decide +kernel
theorem dX5_push_32 : decode cX5_push 32 = .ok (.aload_n 3, 1) := by decide +kernel
theorem dX5_push_33 : decode cX5_push 33 = .ok (.iconst 0, 1) := by decide +kernel
theorem dX5_push_34 : decode cX5_push 34 = .ok (.aload_n 0, 1) := by decide +kernel
theorem dX5_push_35 : decode cX5_push 35 = .ok (.getfield 11, 3) := by decide +kernel
theorem dX5_push_38 : decode cX5_push 38 = .ok (.iload 4, 2) := by decide +kernel
theorem dX5_push_40 : decode cX5_push 40 = .ok (.iconst 1, 1) := by decide +kernel
theorem dX5_push_41 : decode cX5_push 41 = .ok (.iadd, 1) := by decide +kernel
theorem dX5_push_42 : decode cX5_push 42 = .ok (.bipush 6, 2) := by decide +kernel
theorem dX5_push_44 : decode cX5_push 44 = .ok (.iadd, 1) := by decide +kernel
theorem dX5_push_45 : decode cX5_push 45 = .ok (.bipush 6, 2) := by decide +kernel
theorem dX5_push_47 : decode cX5_push 47 = .ok (.invokestatic 22, 3) := by decide +kernel
theorem dX5_push_50 : decode cX5_push 50 = .ok (.aload_n 0, 1) := by decide +kernel
theorem dX5_push_51 : decode cX5_push 51 = .ok (.aload_n 0, 1) := by decide +kernel
theorem dX5_push_52 : decode cX5_push 52 = .ok (.getfield 15, 3) := by decide +kernel
theorem dX5_push_55 : decode cX5_push 55 = .ok (.iconst 1, 1) := by decide +kernel
theorem dX5_push_56 : decode cX5_push 56 = .ok (.iadd, 1) := by decide +kernel
theorem dX5_push_57 : decode cX5_push 57 = .ok (.bipush 8, 2) := by decide +kernel
theorem dX5_push_59 : decode cX5_push 59 = .ok (.irem, 1) := by decide +kernel
theorem dX5_push_60 : decode cX5_push 60 = .ok (.putfield 15, 3) := by decide +kernel
theorem dX5_push_63 : decode cX5_push 63 = .ok (.aload_n 0, 1) := by decide +kernel
theorem dX5_push_64 : decode cX5_push 64 = .ok (.bipush 8, 2) := by decide +kernel
theorem dX5_push_66 : decode cX5_push 66 = .ok (.aload_n 0, 1) := by decide +kernel
theorem dX5_push_67 : decode cX5_push 67 = .ok (.getfield 19, 3) := by decide +kernel
theorem dX5_push_70 : decode cX5_push 70 = .ok (.iconst 1, 1) := by decide +kernel
theorem dX5_push_71 : decode cX5_push 71 = .ok (.iadd, 1) := by decide +kernel
theorem dX5_push_72 : decode cX5_push 72 = .ok (.invokestatic 28, 3) := by decide +kernel
theorem dX5_push_75 : decode cX5_push 75 = .ok (.putfield 19, 3) := by decide +kernel
theorem dX5_push_78 : decode cX5_push 78 = .ok (.return_, 1) := by decide +kernel
theorem dX5_pop_0 : decode cX5_pop 0 = .ok (.aload_n 0, 1) := by decide +kernel
theorem dX5_pop_1 : decode cX5_pop 1 = .ok (.aload_n 0, 1) := by decide +kernel
theorem dX5_pop_2 : decode cX5_pop 2 = .ok (.getfield 15, 3) := by decide +kernel
theorem dX5_pop_5 : decode cX5_pop 5 = .ok (.bipush 8, 2) := by decide +kernel
theorem dX5_pop_7 : decode cX5_pop 7 = .ok (.iadd, 1) := by decide +kernel
theorem dX5_pop_8 : decode cX5_pop 8 = .ok (.iconst 1, 1) := by decide +kernel
theorem dX5_pop_9 : decode cX5_pop 9 = .ok (.isub, 1) := by decide +kernel
theorem dX5_pop_10 : decode cX5_pop 10 = .ok (.bipush 8, 2) := by decide +kernel
theorem dX5_pop_12 : decode cX5_pop 12 = .ok (.irem, 1) := by decide +kernel
theorem dX5_pop_13 : decode cX5_pop 13 = .ok (.putfield 15, 3) := by decide +kernel
theorem dX5_pop_16 : decode cX5_pop 16 = .ok (.aload_n 0, 1) := by decide +kernel
theorem dX5_pop_17 : decode cX5_pop 17 = .ok (.iconst 0, 1) := by decide +kernel
theorem dX5_pop_18 : decode cX5_pop 18 = .ok (.aload_n 0, 1) := by decide +kernel
theorem dX5_pop_19 : decode cX5_pop 19 = .ok (.getfield 19, 3) := by decide +kernel
theorem dX5_pop_22 : decode cX5_pop 22 = .ok (.iconst 1, 1) := by decide +kernel
theorem dX5_pop_23 : decode cX5_pop 23 = .ok (.isub, 1) := by decide +kernel
theorem dX5_pop_24 : decode cX5_pop 24 = .ok (.invokestatic 34, 3) := by decide +kernel
theorem dX5_pop_27 : decode cX5_pop 27 = .ok (.putfield 19, 3) := by decide +kernel
theorem dX5_pop_30 : decode cX5_pop 30 = .ok (.aload_n 0, 1) := by decide +kernel
theorem dX5_pop_31 : decode cX5_pop 31 = .ok (.getfield 15, 3) := by decide +kernel
theorem dX5_pop_34 : decode cX5_pop 34 = .ok (.bipush 13, 2) := by decide +kernel
theorem dX5_pop_36 : decode cX5_pop 36 = .ok (.imul, 1) := by decide +kernel
theorem dX5_pop_37 : decode cX5_pop 37 = .ok (.istore_n 3, 1) := by decide +kernel
theorem dX5_pop_38 : decode cX5_pop 38 = .ok (.aload_n 0, 1) := by decide +kernel
theorem dX5_pop_39 : decode cX5_pop 39 = .ok (.getfield 11, 3) := by decide +kernel
theorem dX5_pop_42 : decode cX5_pop 42 = .ok (.iload_n 3, 1) := by decide +kernel
theorem dX5_pop_43 : decode cX5_pop 43 = .ok (.iconst 1, 1) := by decide +kernel
theorem dX5_pop_44 : decode cX5_pop 44 = .ok (.iadd, 1) := by decide +kernel
theorem dX5_pop_45 : decode cX5_pop 45 = .ok (.aload_n 1, 1) := by decide +kernel
theorem dX5_pop_46 : decode cX5_pop 46 = .ok (.iconst 0, 1) := by decide +kernel
theorem dX5_pop_47 : decode cX5_pop 47 = .ok (.bipush 6, 2) := by decide +kernel
theorem dX5_pop_49 : decode cX5_pop 49 = .ok (.invokestatic 22, 3) := by decide +kernel
theorem dX5_pop_52 : decode cX5_pop 52 = .ok (.aload_n 0, 1) := by decide +kernel
theorem dX5_pop_53 : decode cX5_pop 53 = .ok (.getfield 11, 3) := by decide +kernel
theorem dX5_pop_56 : decode cX5_pop 56 = .ok (.iload_n 3, 1) := by decide +kernel
theorem dX5_pop_57 : decode cX5_pop 57 = .ok (.iconst 1, 1) := by decide +kernel
theorem dX5_pop_58 : decode cX5_pop 58 = .ok (.iadd, 1) := by decide +kernel
theorem dX5_pop_59 : decode cX5_pop 59 = .ok (.bipush 6, 2) := by decide +kernel
theorem dX5_pop_61 : decode cX5_pop 61 = .ok (.iadd, 1) := by decide +kernel
theorem dX5_pop_62 : decode cX5_pop 62 = .ok (.aload_n 2, 1) := by decide +kernel
theorem dX5_pop_63 : decode cX5_pop 63 = .ok (.iconst 0, 1) := by decide +kernel
theorem dX5_pop_64 : decode cX5_pop 64 = .ok (.bipush 6, 2) := by decide +kernel
theorem dX5_pop_66 : decode cX5_pop 66 = .ok (.invokestatic 22, 3) := by decide +kernel
theorem dX5_pop_69 : decode cX5_pop 69 = .ok (.aload_n 0, 1) := by decide +kernel
theorem dX5_pop_70 : decode cX5_pop 70 = .ok (.getfield 11, 3) := by decide +kernel
theorem dX5_pop_73 : decode cX5_pop 73 = .ok (.iload_n 3, 1) := by decide +kernel
theorem dX5_pop_74 : decode cX5_pop 74 = .ok (.iaload, 1) := by decide +kernel
theorem dX5_pop_75 : decode cX5_pop 75 = .ok (.ireturn, 1) := by decide +kernel
theorem dX6_init_0 : decode cX6_init 0 = .ok (.aload_n 0, 1) := by decide +kernel
theorem dX6_init_1 : decode cX6_init 1 = .ok (.invokespecial 3, 3) := by decide +kernel
theorem dX6_init_4 : decode cX6_init 4 = .ok (.aload_n 0, 1) := by decide +kernel
theorem dX6_init_5 : decode cX6_init 5 = .ok (.sipush 150, 3) := by decide +kernel
theorem dX6_init_8 : decode cX6_init 8 = .ok (.newarray .byte, 2) := by decide +kernel
theorem dX6_init_10 : decode cX6_init 10 = .ok (.putfield 9, 3) := by decide +kernel
theorem dX6_init_13 : decode cX6_init 13 = .ok (.aload_n 0, 1) := by decide +kernel
theorem dX6_init_14 : decode cX6_init 14 = .ok (.iconst 0, 1) := by decide +kernel
theorem dX6_init_15 : decode cX6_init 15 = .ok (.putfield 15, 3) := by decide +kernel
theorem dX6_init_18 : decode cX6_init 18 = .ok (.aload_n 0, 1) := by decide +kernel
theorem dX6_init_19 : decode cX6_init 19 = .ok (.new 19, 3) := by decide +kernel
theorem dX6_init_22 : decode cX6_init 22 = .ok (.dup, 1) := by decide +kernel
theorem dX6_init_23 : decode cX6_init 23 = .ok (.invokespecial 21, 3) := by decide +kernel
theorem dX6_init_26 : decode cX6_init 26 = .ok (.putfield 22, 3) := by decide +kernel
theorem dX6_init_29 : decode cX6_init 29 = .ok (.aload_n 0, 1) := by decide +kernel
theorem dX6_init_30 : decode cX6_init 30 = .ok (.iconst 0, 1) := by decide +kernel
theorem dX6_init_31 : decode cX6_init 31 = .ok (.putfield 26, 3) := by decide +kernel
theorem dX6_init_34 : decode cX6_init 34 = .ok (.aload_n 0, 1) := by decide +kernel
theorem dX6_init_35 : decode cX6_init 35 = .ok (.iconst 0, 1) := by decide +kernel
theorem dX6_init_36 : decode cX6_init 36 = .ok (.putfield 29, 3) := by decide +kernel
theorem dX6_init_39 : decode cX6_init 39 = .ok (.aload_n 0, 1) := by decide +kernel
theorem dX6_init_40 : decode cX6_init 40 = .ok (.iconst 0, 1) := by decide +kernel
theorem dX6_init_41 : decode cX6_init 41 = .ok (.putfield 32, 3) := by decide +kernel
theorem dX6_init_44 : decode cX6_init 44 = .ok (.aload_n 0, 1) := by decide +kernel
theorem dX6_init_45 : decode cX6_init 45 = .ok (.iconst 0, 1) := by decide +kernel
theorem dX6_init_46 : decode cX6_init 46 = .ok (.putfield 35, 3) := by decide +kernel
theorem dX6_init_49 : decode cX6_init 49 = .ok (.return_, 1) := by decide +kernel
theorem dX6_addSign_0 : decode cX6_addSign 0 = .ok (.aload_n 0, 1) := by decide +kernel
theorem dX6_addSign_1 : decode cX6_addSign 1 = .ok (.getfield 15, 3) := by decide +kernel
theorem dX6_addSign_4 : decode cX6_addSign 4 = .ok (.sipush 150, 3) := by decide +kernel
theorem dX6_addSign_7 : decode cX6_addSign 7 = .ok (.if_icmp .lt 6, 3) := by decide +kernel
theorem dX6_addSign_10 : decode cX6_addSign 10 = .ok (.bipush (-4), 2) := by decide +kernel
theorem dX6_addSign_12 : decode cX6_addSign 12 = .ok (.ireturn, 1) := by decide +kernel
theorem dX6_addSign_13 : decode cX6_addSign 13 = .ok (.aload_n 0, 1) := by decide +kernel
theorem dX6_addSign_14 : decode cX6_addSign 14 = .ok (.getfield 9, 3) := by decide +kernel
theorem dX6_addSign_17 : decode cX6_addSign 17 = .ok (.aload_n 0, 1) := by decide +kernel
theorem dX6_addSign_18 : decode cX6_addSign 18 = .ok (.getfield 15, 3) := by decide +kernel
theorem dX6_addSign_21 : decode cX6_addSign 21 = .ok (.iload_n 1, 1) := by decide +kernel
theorem dX6_addSign_22 : decode cX6_addSign 22 = .ok (.i2b, 1) := by decide +kernel
theorem dX6_addSign_23 : decode cX6_addSign 23 = .ok (.bastore, 1) := by decide +kernel
theorem dX6_addSign_24 : decode cX6_addSign 24 = .ok (.aload_n 0, 1) := by decide +kernel
theorem dX6_addSign_25 : decode cX6_addSign 25 = .ok (.dup, 1) := by decide +kernel
theorem dX6_addSign_26 : decode cX6_addSign 26 = .ok (.getfield 15, 3) := by decide +kernel
theorem dX6_addSign_29 : decode cX6_addSign 29 = .ok (.iconst 1, 1) := by decide +kernel
theorem dX6_addSign_30 : decode cX6_addSign 30 = .ok (.iadd, 1) := by decide +kernel
theorem dX6_addSign_31 : decode cX6_addSign 31 = .ok (.dup_x1, 1) := by decide +kernel
theorem dX6_addSign_32 : decode cX6_addSign 32 = .ok (.putfield 15, 3) := by decide +kernel
theorem dX6_addSign_35 : decode cX6_addSign 35 = .ok (.ireturn, 1) := by decide +kernel
theorem dX6_empty_0 : decode cX6_empty 0 = .ok (.aload_n 0, 1) := by decide +kernel
theorem dX6_empty_1 : decode cX6_empty 1 = .ok (.getfield 15, 3) := by decide +kernel
theorem dX6_empty_4 : decode cX6_empty 4 = .ok (.istore_n 1, 1) := by decide +kernel
theorem dX6_empty_5 : decode cX6_empty 5 = .ok (.aload_n 0, 1) := by decide +kernel
theorem dX6_empty_6 : decode cX6_empty 6 = .ok (.iconst 0, 1) := by decide +kernel
theorem dX6_empty_7 : decode cX6_empty 7 = .ok (.putfield 15, 3) := by decide +kernel
theorem dX6_empty_10 : decode cX6_empty 10 = .ok (.iload_n 1, 1) := by decide +kernel
theorem dX6_empty_11 : decode cX6_empty 11 = .ok (.ireturn, 1) := by decide +kernel
theorem dX6_readInto_0 : decode cX6_readInto 0 = .ok (.aload_n 0, 1) := by decide +kernel
theorem dX6_readInto_1 : decode cX6_readInto 1 = .ok (.getfield 22, 3) := by decide +kernel
theorem dX6_readInto_4 : decode cX6_readInto 4 = .ok (.invokevirtual 38, 3) := by decide +kernel
theorem dX6_readInto_7 : decode cX6_readInto 7 = .ok (.aload_n 0, 1) := by decide +kernel
theorem dX6_readInto_8 : decode cX6_readInto 8 = .ok (.iconst 0, 1) := by decide +kernel
theorem dX6_readInto_9 : decode cX6_readInto 9 = .ok (.putfield 32, 3) := by decide +kernel
theorem dX6_readInto_12 : decode cX6_readInto 12 = .ok (.iconst 0, 1) := by decide +kernel
theorem dX6_readInto_13 : decode cX6_readInto 13 = .ok (.istore_n 2, 1) := by decide +kernel
theorem dX6_readInto_14 : decode cX6_readInto 14 = .ok (.iload_n 2, 1) := by decide +kernel
theorem dX6_readInto_15 : decode cX6_readInto 15 = .ok (.sipush 150, 3) := by decide +kernel
theorem dX6_readInto_18 : decode cX6_readInto 18 = .ok (.if_icmp .gt 53, 3) := by decide +kernel
theorem dX6_readInto_21 : decode cX6_readInto 21 = .ok (.aload_n 0, 1) := by decide +kernel
theorem dX6_readInto_22 : decode cX6_readInto 22 = .ok (.invokevirtual 41, 3) := by decide +kernel
theorem dX6_readInto_25 : decode cX6_readInto 25 = .ok (.aload_n 0, 1) := by decide +kernel
theorem dX6_readInto_26 : decode cX6_readInto 26 = .ok (.getfield 26, 3) := by decide +kernel
theorem dX6_readInto_29 : decode cX6_readInto 29 = .ok (.ifCond .ne 17, 3) := by decide +kernel
theorem dX6_readInto_32 : decode cX6_readInto 32 = .ok (.iload_n 2, 1) := by decide +kernel
theorem dX6_readInto_33 : decode cX6_readInto 33 = .ok (.ifCond .le 13, 3) := by decide +kernel
theorem dX6_readInto_36 : decode cX6_readInto 36 = .ok (.aload_n 1, 1) := by decide +kernel
theorem dX6_readInto_37 : decode cX6_readInto 37 = .ok (.aload_n 0, 1) := by decide +kernel
theorem dX6_readInto_38 : decode cX6_readInto 38 = .ok (.getfield 22, 3) := by decide +kernel
theorem dX6_readInto_41 : decode cX6_readInto 41 = .ok (.invokevirtual 44, 3) := by decide +kernel
theorem dX6_readInto_44 : decode cX6_readInto 44 = .ok (.iload_n 2, 1) := by decide +kernel
theorem dX6_readInto_45 : decode cX6_readInto 45 = .ok (.ireturn, 1) := by decide +kernel
theorem dX6_readInto_46 : decode cX6_readInto 46 = .ok (.aload_n 0, 1) := by decide +kernel
theorem dX6_readInto_47 : decode cX6_readInto 47 = .ok (.iload_n 2, 1) := by decide +kernel
theorem dX6_readInto_48 : decode cX6_readInto 48 = .ok (.ifCond .ne 7, 3) := by decide +kernel
theorem dX6_readInto_51 : decode cX6_readInto 51 = .ok (.iconst 1, 1) := by decide +kernel
theorem dX6_readInto_52 : decode cX6_readInto 52 = .ok (.goto 4, 3) := by decide +kernel
theorem dX6_readInto_55 : decode cX6_readInto 55 = .ok (.iconst 0, 1) := by decide +kernel
theorem dX6_readInto_56 : decode cX6_readInto 56 = .ok (.invokevirtual 48, 3) := by decide +kernel
theorem dX6_readInto_59 : decode cX6_readInto 59 = .ok (.ifCond .ne 6, 3) := by decide +kernel
theorem dX6_readInto_62 : decode cX6_readInto 62 = .ok (.goto 9, 3) := by decide +kernel
theorem dX6_readInto_65 : decode cX6_readInto 65 = .ok (.iinc 2 1, 3) := by decide +kernel
theorem dX6_readInto_68 : decode cX6_readInto 68 = .ok (.goto (-54), 3) := by decide +kernel
theorem dX6_readInto_71 : decode cX6_readInto 71 = .ok (.bipush (-10), 2) := by decide +kernel
theorem dX6_readInto_73 : decode cX6_readInto 73 = .ok (.aload_n 0, 1) := by decide +kernel
theorem dX6_readInto_74 : decode cX6_readInto 74 = .ok (.getfield 29, 3) := by decide +kernel
theorem dX6_readInto_77 : decode cX6_readInto 77 = .ok (.isub, 1) := by decide +kernel
theorem dX6_readInto_78 : decode cX6_readInto 78 = .ok (.ireturn, 1) := by decide +kernel
theorem dX6_readItem_0 : decode cX6_readItem 0 = .ok (.aload_n 0, 1) := by decide +kernel
theorem dX6_readItem_1 : decode cX6_readItem 1 = .ok (.getfield 26, 3) := by decide +kernel
theorem dX6_readItem_4 : decode cX6_readItem 4 = .ok (.iconst 1, 1) := by decide +kernel
theorem dX6_readItem_5 : decode cX6_readItem 5 = .ok (.if_icmp .eq 5, 3) := by decide +kernel
theorem dX6_readItem_8 : decode cX6_readItem 8 = .ok (.iconst 0, 1) := by decide +kernel
theorem dX6_readItem_9 : decode cX6_readItem 9 = .ok (.ireturn, 1) := by decide +kernel
theorem dX6_readItem_10 : decode cX6_readItem 10 = .ok (.iload_n 1, 1) := by decide +kernel
theorem dX6_readItem_11 : decode cX6_readItem 11 = .ok (.ifCond .eq 25, 3) := by decide +kernel
theorem dX6_readItem_14 : decode cX6_readItem 14 = .ok (.aload_n 0, 1) := by decide +kernel
theorem dX6_readItem_15 : decode cX6_readItem 15 = .ok (.ldc 52, 2) := by decide +kernel
theorem dX6_readItem_17 : decode cX6_readItem 17 = .ok (.invokevirtual 54, 3) := by decide +kernel
theorem dX6_readItem_20 : decode cX6_readItem 20 = .ok (.ifCond .eq 14, 3) := by decide +kernel
theorem dX6_readItem_23 : decode cX6_readItem 23 = .ok (.aload_n 0, 1) := by decide +kernel
theorem dX6_readItem_24 : decode cX6_readItem 24 = .ok (.invokevirtual 58, 3) := by decide +kernel
theorem dX6_readItem_27 : decode cX6_readItem 27 = .ok (.ifCond .eq 7, 3) := by decide +kernel
theorem dX6_readItem_30 : decode cX6_readItem 30 = .ok (.iconst 1, 1) := by decide +kernel
theorem dX6_readItem_31 : decode cX6_readItem 31 = .ok (.goto 4, 3) := by decide +kernel
theorem dX6_readItem_34 : decode cX6_readItem 34 = .ok (.iconst 0, 1) := by decide +kernel
theorem dX6_readItem_35 : decode cX6_readItem 35 = .ok (.ireturn, 1) := by decide +kernel
theorem dX6_readItem_36 : decode cX6_readItem 36 = .ok (.aload_n 0, 1) := by decide +kernel
theorem dX6_readItem_37 : decode cX6_readItem 37 = .ok (.ldc 62, 2) := by decide +kernel
theorem dX6_readItem_39 : decode cX6_readItem 39 = .ok (.invokevirtual 54, 3) := by decide +kernel
theorem dX6_readItem_42 : decode cX6_readItem 42 = .ok (.ifCond .eq 8, 3) := by decide +kernel
theorem dX6_readItem_45 : decode cX6_readItem 45 = .ok (.aload_n 0, 1) := by decide +kernel
theorem dX6_readItem_46 : decode cX6_readItem 46 = .ok (.invokevirtual 64, 3) := by decide +kernel
theorem dX6_readItem_49 : decode cX6_readItem 49 = .ok (.ireturn, 1) := by decide +kernel
theorem dX6_readItem_50 : decode cX6_readItem 50 = .ok (.aload_n 0, 1) := by decide +kernel
theorem dX6_readItem_51 : decode cX6_readItem 51 = .ok (.ldc 67, 2) := by decide +kernel
theorem dX6_readItem_53 : decode cX6_readItem 53 = .ok (.invokevirtual 54, 3) := by decide +kernel
theorem dX6_readItem_56 : decode cX6_readItem 56 = .ok (.ifCond .eq 8, 3) := by decide +kernel
theorem dX6_readItem_59 : decode cX6_readItem 59 = .ok (.aload_n 0, 1) := by decide +kernel
theorem dX6_readItem_60 : decode cX6_readItem 60 = .ok (.invokevirtual 69, 3) := by decide +kernel
theorem dX6_readItem_63 : decode cX6_readItem 63 = .ok (.ireturn, 1) := by decide +kernel
theorem dX6_readItem_64 : decode cX6_readItem 64 = .ok (.aload_n 0, 1) := by decide +kernel
theorem dX6_readItem_65 : decode cX6_readItem 65 = .ok (.ldc 72, 2) := by decide +kernel
theorem dX6_readItem_67 : decode cX6_readItem 67 = .ok (.invokevirtual 54, 3) := by decide +kernel
theorem dX6_readItem_70 : decode cX6_readItem 70 = .ok (.ifCond .eq 8, 3) := by decide +kernel
theorem dX6_readItem_73 : decode cX6_readItem 73 = .ok (.aload_n 0, 1) := by decide +kernel
theorem dX6_readItem_74 : decode cX6_readItem 74 = .ok (.invokevirtual 74, 3) := by decide +kernel
theorem dX6_readItem_77 : decode cX6_readItem 77 = .ok (.ireturn, 1) := by decide +kernel
theorem dX6_readItem_78 : decode cX6_readItem 78 = .ok (.aload_n 0, 1) := by decide +kernel
theorem dX6_readItem_79 : decode cX6_readItem 79 = .ok (.ldc 77, 2) := by decide +kernel
theorem dX6_readItem_81 : decode cX6_readItem 81 = .ok (.invokevirtual 54, 3) := by decide +kernel
theorem dX6_readItem_84 : decode cX6_readItem 84 = .ok (.ifCond .eq 14, 3) := by decide +kernel
theorem dX6_readItem_87 : decode cX6_readItem 87 = .ok (.aload_n 0, 1) := by decide +kernel
theorem dX6_readItem_88 : decode cX6_readItem 88 = .ok (.invokevirtual 79, 3) := by decide +kernel
theorem dX6_readItem_91 : decode cX6_readItem 91 = .ok (.ifCond .eq 7, 3) := by decide +kernel
theorem dX6_readItem_94 : decode cX6_readItem 94 = .ok (.iconst 1, 1) := by decide +kernel
theorem dX6_readItem_95 : decode cX6_readItem 95 = .ok (.goto 4, 3) := by decide +kernel
theorem dX6_readItem_98 : decode cX6_readItem 98 = .ok (.iconst 0, 1) := by decide +kernel
theorem dX6_readItem_99 : decode cX6_readItem 99 = .ok (.ireturn, 1) := by decide +kernel
theorem dX6_readDamp_0 : decode cX6_readDamp 0 = .ok (.aload_n 0, 1) := by decide +kernel
theorem dX6_readDamp_1 : decode cX6_readDamp 1 = .ok (.invokevirtual 82, 3) := by decide +kernel
theorem dX6_readDamp_4 : decode cX6_readDamp 4 = .ok (.istore_n 1, 1) := by decide +kernel
theorem dX6_readDamp_5 : decode cX6_readDamp 5 = .ok (.iload_n 1, 1) := by decide +kernel
theorem dX6_readDamp_6 : decode cX6_readDamp 6 = .ok (.iconst (-1), 1) := by decide +kernel
theorem dX6_readDamp_7 : decode cX6_readDamp 7 = .ok (.if_icmp .ne 5, 3) := by decide +kernel
theorem dX6_readDamp_10 : decode cX6_readDamp 10 = .ok (.iconst 0, 1) := by decide +kernel
theorem dX6_readDamp_11 : decode cX6_readDamp 11 = .ok (.ireturn, 1) := by decide +kernel
theorem dX6_readDamp_12 : decode cX6_readDamp 12 = .ok (.aload_n 0, 1) := by decide +kernel
theorem dX6_readDamp_13 : decode cX6_readDamp 13 = .ok (.getfield 22, 3) := by decide +kernel
theorem dX6_readDamp_16 : decode cX6_readDamp 16 = .ok (.dup, 1) := by decide +kernel
theorem dX6_readDamp_17 : decode cX6_readDamp 17 = .ok (.getfield 86, 3) := by decide +kernel
theorem dX6_readDamp_20 : decode cX6_readDamp 20 = .ok (.iload_n 1, 1) := by decide +kernel
theorem dX6_readDamp_21 : decode cX6_readDamp 21 = .ok (.ior, 1) := by decide +kernel
theorem dX6_readDamp_22 : decode cX6_readDamp 22 = .ok (.putfield 86, 3) := by decide +kernel
theorem dX6_readDamp_25 : decode cX6_readDamp 25 = .ok (.iconst 1, 1) := by decide +kernel
theorem dX6_readDamp_26 : decode cX6_readDamp 26 = .ok (.ireturn, 1) := by decide +kernel
theorem dX6_readDry_0 : decode cX6_readDry 0 = .ok (.aload_n 0, 1) := by decide +kernel
theorem dX6_readDry_1 : decode cX6_readDry 1 = .ok (.invokevirtual 82, 3) := by decide +kernel
theorem dX6_readDry_4 : decode cX6_readDry 4 = .ok (.istore_n 1, 1) := by decide +kernel
theorem dX6_readDry_5 : decode cX6_readDry 5 = .ok (.iload_n 1, 1) := by decide +kernel
theorem dX6_readDry_6 : decode cX6_readDry 6 = .ok (.iconst (-1), 1) := by decide +kernel
theorem dX6_readDry_7 : decode cX6_readDry 7 = .ok (.if_icmp .ne 5, 3) := by decide +kernel
theorem dX6_readDry_10 : decode cX6_readDry 10 = .ok (.iconst 0, 1) := by decide +kernel
theorem dX6_readDry_11 : decode cX6_readDry 11 = .ok (.ireturn, 1) := by decide +kernel
theorem dX6_readDry_12 : decode cX6_readDry 12 = .ok (.aload_n 0, 1) := by decide +kernel
theorem dX6_readDry_13 : decode cX6_readDry 13 = .ok (.getfield 22, 3) := by decide +kernel
theorem dX6_readDry_16 : decode cX6_readDry 16 = .ok (.dup, 1) := by decide +kernel
theorem dX6_readDry_17 : decode cX6_readDry 17 = .ok (.getfield 88, 3) := by decide +kernel
theorem dX6_readDry_20 : decode cX6_readDry 20 = .ok (.iload_n 1, 1) := by decide +kernel
theorem dX6_readDry_21 : decode cX6_readDry 21 = .ok (.ior, 1) := by decide +kernel
theorem dX6_readDry_22 : decode cX6_readDry 22 = .ok (.putfield 88, 3) := by decide +kernel
theorem dX6_readDry_25 : decode cX6_readDry 25 = .ok (.iconst 1, 1) := by decide +kernel
theorem dX6_readDry_26 : decode cX6_readDry 26 = .ok (.ireturn, 1) := by decide +kernel
theorem dX6_readPair_0 : decode cX6_readPair 0 = .ok (.aload_n 0, 1) := by decide +kernel
theorem dX6_readPair_1 : decode cX6_readPair 1 = .ok (.getfield 22, 3) := by decide +kernel
theorem dX6_readPair_4 : decode cX6_readPair 4 = .ok (.getfield 90, 3) := by decide +kernel
theorem dX6_readPair_7 : decode cX6_readPair 7 = .ok (.bipush 6, 2) := by decide +kernel
theorem dX6_readPair_9 : decode cX6_readPair 9 = .ok (.if_icmp .ge 12, 3) := by decide +kernel
theorem dX6_readPair_12 : decode cX6_readPair 12 = .ok (.aload_n 0, 1) := by decide +kernel
theorem dX6_readPair_13 : decode cX6_readPair 13 = .ok (.iconst 0, 1) := by decide +kernel
theorem dX6_readPair_14 : decode cX6_readPair 14 = .ok (.iconst 5, 1) := by decide +kernel
theorem dX6_readPair_15 : decode cX6_readPair 15 = .ok (.invokevirtual 93, 3) := by decide +kernel
theorem dX6_readPair_18 : decode cX6_readPair 18 = .ok (.ifCond .ne 5, 3) := by decide +kernel
theorem dX6_readPair_21 : decode cX6_readPair 21 = .ok (.iconst 0, 1) := by decide +kernel
theorem dX6_readPair_22 : decode cX6_readPair 22 = .ok (.ireturn, 1) := by decide +kernel
theorem dX6_readPair_23 : decode cX6_readPair 23 = .ok (.aload_n 0, 1) := by decide +kernel
theorem dX6_readPair_24 : decode cX6_readPair 24 = .ok (.getfield 35, 3) := by decide +kernel
theorem dX6_readPair_27 : decode cX6_readPair 27 = .ok (.istore_n 1, 1) := by decide +kernel
theorem dX6_readPair_28 : decode cX6_readPair 28 = .ok (.aload_n 0, 1) := by decide +kernel
theorem dX6_readPair_29 : decode cX6_readPair 29 = .ok (.iconst 0, 1) := by decide +kernel
theorem dX6_readPair_30 : decode cX6_readPair 30 = .ok (.bipush 60, 2) := by decide +kernel
theorem dX6_readPair_32 : decode cX6_readPair 32 = .ok (.invokevirtual 93, 3) := by decide +kernel
theorem dX6_readPair_35 : decode cX6_readPair 35 = .ok (.ifCond .ne 5, 3) := by decide +kernel
theorem dX6_readPair_38 : decode cX6_readPair 38 = .ok (.iconst 0, 1) := by decide +kernel
theorem dX6_readPair_39 : decode cX6_readPair 39 = .ok (.ireturn, 1) := by decide +kernel
theorem dX6_readPair_40 : decode cX6_readPair 40 = .ok (.aload_n 0, 1) := by decide +kernel
theorem dX6_readPair_41 : decode cX6_readPair 41 = .ok (.getfield 22, 3) := by decide +kernel
theorem dX6_readPair_44 : decode cX6_readPair 44 = .ok (.iload_n 1, 1) := by decide +kernel
theorem dX6_readPair_45 : decode cX6_readPair 45 = .ok (.aload_n 0, 1) := by decide +kernel
theorem dX6_readPair_46 : decode cX6_readPair 46 = .ok (.getfield 35, 3) := by decide +kernel
theorem dX6_readPair_49 : decode cX6_readPair 49 = .ok (.invokevirtual 97, 3) := by decide +kernel
theorem dX6_readPair_52 : decode cX6_readPair 52 = .ok (.pop, 1) := by decide +kernel
theorem dX6_readPair_53 : decode cX6_readPair 53 = .ok (.aload_n 0, 1) := by decide +kernel
theorem dX6_readPair_54 : decode cX6_readPair 54 = .ok (.invokevirtual 58, 3) := by decide +kernel
theorem dX6_readPair_57 : decode cX6_readPair 57 = .ok (.ireturn, 1) := by decide +kernel
theorem dX6_readKin_0 : decode cX6_readKin 0 = .ok (.aload_n 0, 1) := by decide +kernel
theorem dX6_readKin_1 : decode cX6_readKin 1 = .ok (.getfield 22, 3) := by decide +kernel
theorem dX6_readKin_4 : decode cX6_readKin 4 = .ok (.getfield 101, 3) := by decide +kernel
theorem dX6_readKin_7 : decode cX6_readKin 7 = .ok (.bipush 8, 2) := by decide +kernel
theorem dX6_readKin_9 : decode cX6_readKin 9 = .ok (.if_icmp .ge 13, 3) := by decide +kernel
theorem dX6_readKin_12 : decode cX6_readKin 12 = .ok (.aload_n 0, 1) := by decide +kernel
theorem dX6_readKin_13 : decode cX6_readKin 13 = .ok (.iconst 1, 1) := by decide +kernel
theorem dX6_readKin_14 : decode cX6_readKin 14 = .ok (.bipush 20, 2) := by decide +kernel
theorem dX6_readKin_16 : decode cX6_readKin 16 = .ok (.invokevirtual 93, 3) := by decide +kernel
theorem dX6_readKin_19 : decode cX6_readKin 19 = .ok (.ifCond .ne 5, 3) := by decide +kernel
theorem dX6_readKin_22 : decode cX6_readKin 22 = .ok (.iconst 0, 1) := by decide +kernel
theorem dX6_readKin_23 : decode cX6_readKin 23 = .ok (.ireturn, 1) := by decide +kernel
theorem dX6_readKin_24 : decode cX6_readKin 24 = .ok (.aload_n 0, 1) := by decide +kernel
theorem dX6_readKin_25 : decode cX6_readKin 25 = .ok (.getfield 22, 3) := by decide +kernel
theorem dX6_readKin_28 : decode cX6_readKin 28 = .ok (.aload_n 0, 1) := by decide +kernel
theorem dX6_readKin_29 : decode cX6_readKin 29 = .ok (.getfield 35, 3) := by decide +kernel
theorem dX6_readKin_32 : decode cX6_readKin 32 = .ok (.invokevirtual 103, 3) := by decide +kernel
theorem dX6_readKin_35 : decode cX6_readKin 35 = .ok (.pop, 1) := by decide +kernel
theorem dX6_readKin_36 : decode cX6_readKin 36 = .ok (.aload_n 0, 1) := by decide +kernel
theorem dX6_readKin_37 : decode cX6_readKin 37 = .ok (.invokevirtual 58, 3) := by decide +kernel
theorem dX6_readKin_40 : decode cX6_readKin 40 = .ok (.ireturn, 1) := by decide +kernel
theorem dX6_takeYears_0 : decode cX6_takeYears 0 = .ok (.iconst 0, 1) := by decide +kernel
theorem dX6_takeYears_1 : decode cX6_takeYears 1 = .ok (.istore_n 1, 1) := by decide +kernel
theorem dX6_takeYears_2 : decode cX6_takeYears 2 = .ok (.iconst 0, 1) := by decide +kernel
theorem dX6_takeYears_3 : decode cX6_takeYears 3 = .ok (.istore_n 2, 1) := by decide +kernel
theorem dX6_takeYears_4 : decode cX6_takeYears 4 = .ok (.iload_n 2, 1) := by decide +kernel
theorem dX6_takeYears_5 : decode cX6_takeYears 5 = .ok (.sipush 150, 3) := by decide +kernel
theorem dX6_takeYears_8 : decode cX6_takeYears 8 = .ok (.if_icmp .gt 51, 3) := by decide +kernel
theorem dX6_takeYears_11 : decode cX6_takeYears 11 = .ok (.aload_n 0, 1) := by decide +kernel
theorem dX6_takeYears_12 : decode cX6_takeYears 12 = .ok (.invokevirtual 41, 3) := by decide +kernel
theorem dX6_takeYears_15 : decode cX6_takeYears 15 = .ok (.aload_n 0, 1) := by decide +kernel
theorem dX6_takeYears_16 : decode cX6_takeYears 16 = .ok (.getfield 26, 3) := by decide +kernel
theorem dX6_takeYears_19 : decode cX6_takeYears 19 = .ok (.iconst 3, 1) := by decide +kernel
theorem dX6_takeYears_20 : decode cX6_takeYears 20 = .ok (.if_icmp .ne 5, 3) := by decide +kernel
theorem dX6_takeYears_23 : decode cX6_takeYears 23 = .ok (.iload_n 1, 1) := by decide +kernel
theorem dX6_takeYears_24 : decode cX6_takeYears 24 = .ok (.ireturn, 1) := by decide +kernel
theorem dX6_takeYears_25 : decode cX6_takeYears 25 = .ok (.aload_n 0, 1) := by decide +kernel
theorem dX6_takeYears_26 : decode cX6_takeYears 26 = .ok (.getfield 26, 3) := by decide +kernel
theorem dX6_takeYears_29 : decode cX6_takeYears 29 = .ok (.iconst 2, 1) := by decide +kernel
theorem dX6_takeYears_30 : decode cX6_takeYears 30 = .ok (.if_icmp .ne 12, 3) := by decide +kernel
theorem dX6_takeYears_33 : decode cX6_takeYears 33 = .ok (.aload_n 0, 1) := by decide +kernel
theorem dX6_takeYears_34 : decode cX6_takeYears 34 = .ok (.getfield 35, 3) := by decide +kernel
theorem dX6_takeYears_37 : decode cX6_takeYears 37 = .ok (.bipush 12, 2) := by decide +kernel
theorem dX6_takeYears_39 : decode cX6_takeYears 39 = .ok (.if_icmp .lt 5, 3) := by decide +kernel
theorem dX6_takeYears_42 : decode cX6_takeYears 42 = .ok (.iconst (-1), 1) := by decide +kernel
theorem dX6_takeYears_43 : decode cX6_takeYears 43 = .ok (.ireturn, 1) := by decide +kernel
theorem dX6_takeYears_44 : decode cX6_takeYears 44 = .ok (.iload_n 1, 1) := by decide +kernel
theorem dX6_takeYears_45 : decode cX6_takeYears 45 = .ok (.iconst 1, 1) := by decide +kernel
theorem dX6_takeYears_46 : decode cX6_takeYears 46 = .ok (.aload_n 0, 1) := by decide +kernel
theorem dX6_takeYears_47 : decode cX6_takeYears 47 = .ok (.getfield 35, 3) := by decide +kernel
theorem dX6_takeYears_50 : decode cX6_takeYears 50 = .ok (.ishl, 1) := by decide +kernel
theorem dX6_takeYears_51 : decode cX6_takeYears 51 = .ok (.ior, 1) := by decide +kernel
theorem dX6_takeYears_52 : decode cX6_takeYears 52 = .ok (.istore_n 1, 1) := by decide +kernel
theorem dX6_takeYears_53 : decode cX6_takeYears 53 = .ok (.iinc 2 1, 3) := by decide +kernel
theorem dX6_takeYears_56 : decode cX6_takeYears 56 = .ok (.goto (-52), 3) := by decide +kernel
theorem dX6_takeYears_59 : decode cX6_takeYears 59 = .ok (.iconst (-1), 1) := by decide +kernel
theorem dX6_takeYears_60 : decode cX6_takeYears 60 = .ok (.ireturn, 1) := by decide +kernel
theorem dX6_takeNumber_0 : decode cX6_takeNumber 0 = .ok (.aload_n 0, 1) := by decide +kernel
theorem dX6_takeNumber_1 : decode cX6_takeNumber 1 = .ok (.invokevirtual 41, 3) := by decide +kernel
theorem dX6_takeNumber_4 : decode cX6_takeNumber 4 = .ok (.aload_n 0, 1) := by decide +kernel
theorem dX6_takeNumber_5 : decode cX6_takeNumber 5 = .ok (.getfield 26, 3) := by decide +kernel
theorem dX6_takeNumber_8 : decode cX6_takeNumber 8 = .ok (.iconst 2, 1) := by decide +kernel
theorem dX6_takeNumber_9 : decode cX6_takeNumber 9 = .ok (.if_icmp .ne 19, 3) := by decide +kernel
theorem dX6_takeNumber_12 : decode cX6_takeNumber 12 = .ok (.aload_n 0, 1) := by decide +kernel
theorem dX6_takeNumber_13 : decode cX6_takeNumber 13 = .ok (.getfield 35, 3) := by decide +kernel
theorem dX6_takeNumber_16 : decode cX6_takeNumber 16 = .ok (.iload_n 1, 1) := by decide +kernel
theorem dX6_takeNumber_17 : decode cX6_takeNumber 17 = .ok (.iload_n 2, 1) := by decide +kernel
theorem dX6_takeNumber_18 : decode cX6_takeNumber 18 = .ok (.invokestatic 107, 3) := by decide +kernel
theorem dX6_takeNumber_21 : decode cX6_takeNumber 21 = .ok (.ifCond .eq 7, 3) := by decide +kernel
theorem dX6_takeNumber_24 : decode cX6_takeNumber 24 = .ok (.iconst 1, 1) := by decide +kernel
theorem dX6_takeNumber_25 : decode cX6_takeNumber 25 = .ok (.goto 4, 3) := by decide +kernel
theorem dX6_takeNumber_28 : decode cX6_takeNumber 28 = .ok (.iconst 0, 1) := by decide +kernel
theorem dX6_takeNumber_29 : decode cX6_takeNumber 29 = .ok (.ireturn, 1) := by decide +kernel
theorem dX6_takeSemicolon_0 : decode cX6_takeSemicolon 0 = .ok (.aload_n 0, 1) := by decide +kernel
theorem dX6_takeSemicolon_1 : decode cX6_takeSemicolon 1 = .ok (.invokevirtual 41, 3) := by decide +kernel
theorem dX6_takeSemicolon_4 : decode cX6_takeSemicolon 4 = .ok (.aload_n 0, 1) := by decide +kernel
theorem dX6_takeSemicolon_5 : decode cX6_takeSemicolon 5 = .ok (.getfield 26, 3) := by decide +kernel
theorem dX6_takeSemicolon_8 : decode cX6_takeSemicolon 8 = .ok (.iconst 3, 1) := by decide +kernel
theorem dX6_takeSemicolon_9 : decode cX6_takeSemicolon 9 = .ok (.if_icmp .ne 7, 3) := by decide +kernel
theorem dX6_takeSemicolon_12 : decode cX6_takeSemicolon 12 = .ok (.iconst 1, 1) := by decide +kernel
theorem dX6_takeSemicolon_13 : decode cX6_takeSemicolon 13 = .ok (.goto 4, 3) := by decide +kernel
theorem dX6_takeSemicolon_16 : decode cX6_takeSemicolon 16 = .ok (.iconst 0, 1) := by decide +kernel
theorem dX6_takeSemicolon_17 : decode cX6_takeSemicolon 17 = .ok (.ireturn, 1) := by decide +kernel
theorem dX6_takeToken_0 : decode cX6_takeToken 0 = .ok (.aload_n 0, 1) := by decide +kernel
theorem dX6_takeToken_1 : decode cX6_takeToken 1 = .ok (.bipush 32, 2) := by decide +kernel
theorem dX6_takeToken_3 : decode cX6_takeToken 3 = .ok (.bipush 32, 2) := by decide +kernel
theorem dX6_takeToken_5 : decode cX6_takeToken 5 = .ok (.invokevirtual 111, 3) := by decide +kernel
theorem dX6_takeToken_8 : decode cX6_takeToken 8 = .ok (.aload_n 0, 1) := by decide +kernel
theorem dX6_takeToken_9 : decode cX6_takeToken 9 = .ok (.aload_n 0, 1) := by decide +kernel
theorem dX6_takeToken_10 : decode cX6_takeToken 10 = .ok (.getfield 32, 3) := by decide +kernel
theorem dX6_takeToken_13 : decode cX6_takeToken 13 = .ok (.putfield 29, 3) := by decide +kernel
theorem dX6_takeToken_16 : decode cX6_takeToken 16 = .ok (.aload_n 0, 1) := by decide +kernel
theorem dX6_takeToken_17 : decode cX6_takeToken 17 = .ok (.getfield 32, 3) := by decide +kernel
theorem dX6_takeToken_20 : decode cX6_takeToken 20 = .ok (.aload_n 0, 1) := by decide +kernel
theorem dX6_takeToken_21 : decode cX6_takeToken 21 = .ok (.getfield 15, 3) := by decide +kernel
theorem dX6_takeToken_24 : decode cX6_takeToken 24 = .ok (.if_icmp .lt 11, 3) := by decide +kernel
theorem dX6_takeToken_27 : decode cX6_takeToken 27 = .ok (.aload_n 0, 1) := by decide +kernel
theorem dX6_takeToken_28 : decode cX6_takeToken 28 = .ok (.iconst 0, 1) := by decide +kernel
theorem dX6_takeToken_29 : decode cX6_takeToken 29 = .ok (.putfield 26, 3) := by decide +kernel
theorem dX6_takeToken_32 : decode cX6_takeToken 32 = .ok (.goto 105, 3) := by decide +kernel
theorem dX6_takeToken_35 : decode cX6_takeToken 35 = .ok (.aload_n 0, 1) := by decide +kernel
theorem dX6_takeToken_36 : decode cX6_takeToken 36 = .ok (.getfield 9, 3) := by decide +kernel
theorem dX6_takeToken_39 : decode cX6_takeToken 39 = .ok (.aload_n 0, 1) := by decide +kernel
theorem dX6_takeToken_40 : decode cX6_takeToken 40 = .ok (.getfield 32, 3) := by decide +kernel
theorem dX6_takeToken_43 : decode cX6_takeToken 43 = .ok (.baload, 1) := by decide +kernel
theorem dX6_takeToken_44 : decode cX6_takeToken 44 = .ok (.bipush 97, 2) := by decide +kernel
theorem dX6_takeToken_46 : decode cX6_takeToken 46 = .ok (.bipush 122, 2) := by decide +kernel
theorem dX6_takeToken_48 : decode cX6_takeToken 48 = .ok (.invokestatic 107, 3) := by decide +kernel
theorem dX6_takeToken_51 : decode cX6_takeToken 51 = .ok (.ifCond .eq 19, 3) := by decide +kernel
theorem dX6_takeToken_54 : decode cX6_takeToken 54 = .ok (.aload_n 0, 1) := by decide +kernel
theorem dX6_takeToken_55 : decode cX6_takeToken 55 = .ok (.bipush 97, 2) := by decide +kernel
theorem dX6_takeToken_57 : decode cX6_takeToken 57 = .ok (.bipush 122, 2) := by decide +kernel
theorem dX6_takeToken_59 : decode cX6_takeToken 59 = .ok (.invokevirtual 111, 3) := by decide +kernel
theorem dX6_takeToken_62 : decode cX6_takeToken 62 = .ok (.aload_n 0, 1) := by decide +kernel
theorem dX6_takeToken_63 : decode cX6_takeToken 63 = .ok (.iconst 1, 1) := by decide +kernel
theorem dX6_takeToken_64 : decode cX6_takeToken 64 = .ok (.putfield 26, 3) := by decide +kernel
theorem dX6_takeToken_67 : decode cX6_takeToken 67 = .ok (.goto 70, 3) := by decide +kernel
theorem dX6_takeToken_70 : decode cX6_takeToken 70 = .ok (.aload_n 0, 1) := by decide +kernel
theorem dX6_takeToken_71 : decode cX6_takeToken 71 = .ok (.getfield 9, 3) := by decide +kernel
theorem dX6_takeToken_74 : decode cX6_takeToken 74 = .ok (.aload_n 0, 1) := by decide +kernel
theorem dX6_takeToken_75 : decode cX6_takeToken 75 = .ok (.getfield 32, 3) := by decide +kernel
theorem dX6_takeToken_78 : decode cX6_takeToken 78 = .ok (.baload, 1) := by decide +kernel
theorem dX6_takeToken_79 : decode cX6_takeToken 79 = .ok (.bipush 48, 2) := by decide +kernel
theorem dX6_takeToken_81 : decode cX6_takeToken 81 = .ok (.bipush 57, 2) := by decide +kernel
theorem dX6_takeToken_83 : decode cX6_takeToken 83 = .ok (.invokestatic 107, 3) := by decide +kernel
theorem dX6_takeToken_86 : decode cX6_takeToken 86 = .ok (.ifCond .eq 18, 3) := by decide +kernel
theorem dX6_takeToken_89 : decode cX6_takeToken 89 = .ok (.aload_n 0, 1) := by decide +kernel
theorem dX6_takeToken_90 : decode cX6_takeToken 90 = .ok (.bipush 48, 2) := by decide +kernel
theorem dX6_takeToken_92 : decode cX6_takeToken 92 = .ok (.bipush 57, 2) := by decide +kernel
theorem dX6_takeToken_94 : decode cX6_takeToken 94 = .ok (.invokevirtual 111, 3) := by decide +kernel
theorem dX6_takeToken_97 : decode cX6_takeToken 97 = .ok (.aload_n 0, 1) := by decide +kernel
theorem dX6_takeToken_98 : decode cX6_takeToken 98 = .ok (.invokevirtual 115, 3) := by decide +kernel
theorem dX6_takeToken_101 : decode cX6_takeToken 101 = .ok (.goto 36, 3) := by decide +kernel
theorem dX6_takeToken_104 : decode cX6_takeToken 104 = .ok (.aload_n 0, 1) := by decide +kernel
theorem dX6_takeToken_105 : decode cX6_takeToken 105 = .ok (.aload_n 0, 1) := by decide +kernel
theorem dX6_takeToken_106 : decode cX6_takeToken 106 = .ok (.getfield 9, 3) := by decide +kernel
theorem dX6_takeToken_109 : decode cX6_takeToken 109 = .ok (.aload_n 0, 1) := by decide +kernel
theorem dX6_takeToken_110 : decode cX6_takeToken 110 = .ok (.getfield 32, 3) := by decide +kernel
theorem dX6_takeToken_113 : decode cX6_takeToken 113 = .ok (.baload, 1) := by decide +kernel
theorem dX6_takeToken_114 : decode cX6_takeToken 114 = .ok (.bipush 59, 2) := by decide +kernel
theorem dX6_takeToken_116 : decode cX6_takeToken 116 = .ok (.if_icmp .ne 7, 3) := by decide +kernel
theorem dX6_takeToken_119 : decode cX6_takeToken 119 = .ok (.iconst 3, 1) := by decide +kernel
theorem dX6_takeToken_120 : decode cX6_takeToken 120 = .ok (.goto 4, 3) := by decide +kernel
theorem dX6_takeToken_123 : decode cX6_takeToken 123 = .ok (.iconst 4, 1) := by decide +kernel
theorem dX6_takeToken_124 : decode cX6_takeToken 124 = .ok (.putfield 26, 3) := by decide +kernel
theorem dX6_takeToken_127 : decode cX6_takeToken 127 = .ok (.aload_n 0, 1) := by decide +kernel
theorem dX6_takeToken_128 : decode cX6_takeToken 128 = .ok (.dup, 1) := by decide +kernel
theorem dX6_takeToken_129 : decode cX6_takeToken 129 = .ok (.getfield 32, 3) := by decide +kernel
theorem dX6_takeToken_132 : decode cX6_takeToken 132 = .ok (.iconst 1, 1) := by decide +kernel
theorem dX6_takeToken_133 : decode cX6_takeToken 133 = .ok (.iadd, 1) := by decide +kernel
theorem dX6_takeToken_134 : decode cX6_takeToken 134 = .ok (.putfield 32, 3) := by decide +kernel
theorem dX6_takeToken_137 : decode cX6_takeToken 137 = .ok (.return_, 1) := by decide +kernel
theorem dX6_setNumber_0 : decode cX6_setNumber 0 = .ok (.aload_n 0, 1) := by decide +kernel
theorem dX6_setNumber_1 : decode cX6_setNumber 1 = .ok (.aload_n 0, 1) := by decide +kernel
theorem dX6_setNumber_2 : decode cX6_setNumber 2 = .ok (.getfield 32, 3) := by decide +kernel
theorem dX6_setNumber_5 : decode cX6_setNumber 5 = .ok (.aload_n 0, 1) := by decide +kernel
theorem dX6_setNumber_6 : decode cX6_setNumber 6 = .ok (.getfield 29, 3) := by decide +kernel
theorem dX6_setNumber_9 : decode cX6_setNumber 9 = .ok (.isub, 1) := by decide +kernel
theorem dX6_setNumber_10 : decode cX6_setNumber 10 = .ok (.iconst 2, 1) := by decide +kernel
theorem dX6_setNumber_11 : decode cX6_setNumber 11 = .ok (.if_icmp .gt 7, 3) := by decide +kernel
theorem dX6_setNumber_14 : decode cX6_setNumber 14 = .ok (.iconst 2, 1) := by decide +kernel
theorem dX6_setNumber_15 : decode cX6_setNumber 15 = .ok (.goto 4, 3) := by decide +kernel
theorem dX6_setNumber_18 : decode cX6_setNumber 18 = .ok (.iconst 4, 1) := by decide +kernel
theorem dX6_setNumber_19 : decode cX6_setNumber 19 = .ok (.putfield 26, 3) := by decide +kernel
theorem dX6_setNumber_22 : decode cX6_setNumber 22 = .ok (.aload_n 0, 1) := by decide +kernel
theorem dX6_setNumber_23 : decode cX6_setNumber 23 = .ok (.iconst 0, 1) := by decide +kernel
theorem dX6_setNumber_24 : decode cX6_setNumber 24 = .ok (.putfield 35, 3) := by decide +kernel
theorem dX6_setNumber_27 : decode cX6_setNumber 27 = .ok (.aload_n 0, 1) := by decide +kernel
theorem dX6_setNumber_28 : decode cX6_setNumber 28 = .ok (.getfield 29, 3) := by decide +kernel
theorem dX6_setNumber_31 : decode cX6_setNumber 31 = .ok (.istore_n 1, 1) := by decide +kernel
theorem dX6_setNumber_32 : decode cX6_setNumber 32 = .ok (.iload_n 1, 1) := by decide +kernel
theorem dX6_setNumber_33 : decode cX6_setNumber 33 = .ok (.aload_n 0, 1) := by decide +kernel
theorem dX6_setNumber_34 : decode cX6_setNumber 34 = .ok (.getfield 32, 3) := by decide +kernel
theorem dX6_setNumber_37 : decode cX6_setNumber 37 = .ok (.if_icmp .ge 38, 3) := by decide +kernel
theorem dX6_setNumber_40 : decode cX6_setNumber 40 = .ok (.aload_n 0, 1) := by decide +kernel
theorem dX6_setNumber_41 : decode cX6_setNumber 41 = .ok (.getfield 26, 3) := by decide +kernel
theorem dX6_setNumber_44 : decode cX6_setNumber 44 = .ok (.iconst 2, 1) := by decide +kernel
theorem dX6_setNumber_45 : decode cX6_setNumber 45 = .ok (.if_icmp .ne 30, 3) := by decide +kernel
theorem dX6_setNumber_48 : decode cX6_setNumber 48 = .ok (.aload_n 0, 1) := by decide +kernel
theorem dX6_setNumber_49 : decode cX6_setNumber 49 = .ok (.bipush 10, 2) := by decide +kernel
theorem dX6_setNumber_51 : decode cX6_setNumber 51 = .ok (.aload_n 0, 1) := by decide +kernel
theorem dX6_setNumber_52 : decode cX6_setNumber 52 = .ok (.getfield 35, 3) := by decide +kernel
theorem dX6_setNumber_55 : decode cX6_setNumber 55 = .ok (.imul, 1) := by decide +kernel
theorem dX6_setNumber_56 : decode cX6_setNumber 56 = .ok (.aload_n 0, 1) := by decide +kernel
theorem dX6_setNumber_57 : decode cX6_setNumber 57 = .ok (.getfield 9, 3) := by decide +kernel
theorem dX6_setNumber_60 : decode cX6_setNumber 60 = .ok (.iload_n 1, 1) := by decide +kernel
theorem dX6_setNumber_61 : decode cX6_setNumber 61 = .ok (.baload, 1) := by decide +kernel
theorem dX6_setNumber_62 : decode cX6_setNumber 62 = .ok (.iadd, 1) := by decide +kernel
theorem dX6_setNumber_63 : decode cX6_setNumber 63 = .ok (.bipush 48, 2) := by decide +kernel
theorem dX6_setNumber_65 : decode cX6_setNumber 65 = .ok (.isub, 1) := by decide +kernel
theorem dX6_setNumber_66 : decode cX6_setNumber 66 = .ok (.putfield 35, 3) := by decide +kernel
theorem dX6_setNumber_69 : decode cX6_setNumber 69 = .ok (.iinc 1 1, 3) := by decide +kernel
theorem dX6_setNumber_72 : decode cX6_setNumber 72 = .ok (.goto (-40), 3) := by decide +kernel
theorem dX6_setNumber_75 : decode cX6_setNumber 75 = .ok (.return_, 1) := by decide +kernel
theorem dX6_takeRun_0 : decode cX6_takeRun 0 = .ok (.aload_n 0, 1) := by decide +kernel
theorem dX6_takeRun_1 : decode cX6_takeRun 1 = .ok (.getfield 32, 3) := by decide +kernel
theorem dX6_takeRun_4 : decode cX6_takeRun 4 = .ok (.aload_n 0, 1) := by decide +kernel
theorem dX6_takeRun_5 : decode cX6_takeRun 5 = .ok (.getfield 15, 3) := by decide +kernel
theorem dX6_takeRun_8 : decode cX6_takeRun 8 = .ok (.if_icmp .ge 42, 3) := by decide +kernel
theorem dX6_takeRun_11 : decode cX6_takeRun 11 = .ok (.aload_n 0, 1) := by decide +kernel
theorem dX6_takeRun_12 : decode cX6_takeRun 12 = .ok (.getfield 9, 3) := by decide +kernel
theorem dX6_takeRun_15 : decode cX6_takeRun 15 = .ok (.aload_n 0, 1) := by decide +kernel
theorem dX6_takeRun_16 : decode cX6_takeRun 16 = .ok (.getfield 32, 3) := by decide +kernel
theorem dX6_takeRun_19 : decode cX6_takeRun 19 = .ok (.baload, 1) := by decide +kernel
theorem dX6_takeRun_20 : decode cX6_takeRun 20 = .ok (.iload_n 1, 1) := by decide +kernel
theorem dX6_takeRun_21 : decode cX6_takeRun 21 = .ok (.if_icmp .lt 29, 3) := by decide +kernel
theorem dX6_takeRun_24 : decode cX6_takeRun 24 = .ok (.aload_n 0, 1) := by decide +kernel
theorem dX6_takeRun_25 : decode cX6_takeRun 25 = .ok (.getfield 9, 3) := by decide +kernel
theorem dX6_takeRun_28 : decode cX6_takeRun 28 = .ok (.aload_n 0, 1) := by decide +kernel
theorem dX6_takeRun_29 : decode cX6_takeRun 29 = .ok (.getfield 32, 3) := by decide +kernel
theorem dX6_takeRun_32 : decode cX6_takeRun 32 = .ok (.baload, 1) := by decide +kernel
theorem dX6_takeRun_33 : decode cX6_takeRun 33 = .ok (.iload_n 2, 1) := by decide +kernel
theorem dX6_takeRun_34 : decode cX6_takeRun 34 = .ok (.if_icmp .gt 16, 3) := by decide +kernel
theorem dX6_takeRun_37 : decode cX6_takeRun 37 = .ok (.aload_n 0, 1) := by decide +kernel
theorem dX6_takeRun_38 : decode cX6_takeRun 38 = .ok (.dup, 1) := by decide +kernel
theorem dX6_takeRun_39 : decode cX6_takeRun 39 = .ok (.getfield 32, 3) := by decide +kernel
theorem dX6_takeRun_42 : decode cX6_takeRun 42 = .ok (.iconst 1, 1) := by decide +kernel
theorem dX6_takeRun_43 : decode cX6_takeRun 43 = .ok (.iadd, 1) := by decide +kernel
theorem dX6_takeRun_44 : decode cX6_takeRun 44 = .ok (.putfield 32, 3) := by decide +kernel
theorem dX6_takeRun_47 : decode cX6_takeRun 47 = .ok (.goto (-47), 3) := by decide +kernel
theorem dX6_takeRun_50 : decode cX6_takeRun 50 = .ok (.return_, 1) := by decide +kernel
theorem dX6_isWord_0 : decode cX6_isWord 0 = .ok (.aload_n 0, 1) := by decide +kernel
theorem dX6_isWord_1 : decode cX6_isWord 1 = .ok (.getfield 32, 3) := by decide +kernel
theorem dX6_isWord_4 : decode cX6_isWord 4 = .ok (.aload_n 0, 1) := by decide +kernel
theorem dX6_isWord_5 : decode cX6_isWord 5 = .ok (.getfield 29, 3) := by decide +kernel
theorem dX6_isWord_8 : decode cX6_isWord 8 = .ok (.isub, 1) := by decide +kernel
theorem dX6_isWord_9 : decode cX6_isWord 9 = .ok (.aload_n 1, 1) := by decide +kernel
theorem dX6_isWord_10 : decode cX6_isWord 10 = .ok (.invokevirtual 118, 3) := by decide +kernel
theorem dX6_isWord_13 : decode cX6_isWord 13 = .ok (.if_icmp .eq 5, 3) := by decide +kernel
theorem dX6_isWord_16 : decode cX6_isWord 16 = .ok (.iconst 0, 1) := by decide +kernel
theorem dX6_isWord_17 : decode cX6_isWord 17 = .ok (.ireturn, 1) := by decide +kernel
theorem dX6_isWord_18 : decode cX6_isWord 18 = .ok (.iconst 0, 1) := by decide +kernel
theorem dX6_isWord_19 : decode cX6_isWord 19 = .ok (.istore_n 2, 1) := by decide +kernel
theorem dX6_isWord_20 : decode cX6_isWord 20 = .ok (.iload_n 2, 1) := by decide +kernel
theorem dX6_isWord_21 : decode cX6_isWord 21 = .ok (.aload_n 1, 1) := by decide +kernel
theorem dX6_isWord_22 : decode cX6_isWord 22 = .ok (.invokevirtual 118, 3) := by decide +kernel
theorem dX6_isWord_25 : decode cX6_isWord 25 = .ok (.if_icmp .ge 30, 3) := by decide +kernel
theorem dX6_isWord_28 : decode cX6_isWord 28 = .ok (.aload_n 0, 1) := by decide +kernel
theorem dX6_isWord_29 : decode cX6_isWord 29 = .ok (.getfield 9, 3) := by decide +kernel
theorem dX6_isWord_32 : decode cX6_isWord 32 = .ok (.aload_n 0, 1) := by decide +kernel
theorem dX6_isWord_33 : decode cX6_isWord 33 = .ok (.getfield 29, 3) := by decide +kernel
theorem dX6_isWord_36 : decode cX6_isWord 36 = .ok (.iload_n 2, 1) := by decide +kernel
theorem dX6_isWord_37 : decode cX6_isWord 37 = .ok (.iadd, 1) := by decide +kernel
theorem dX6_isWord_38 : decode cX6_isWord 38 = .ok (.baload, 1) := by decide +kernel
theorem dX6_isWord_39 : decode cX6_isWord 39 = .ok (.aload_n 1, 1) := by decide +kernel
theorem dX6_isWord_40 : decode cX6_isWord 40 = .ok (.iload_n 2, 1) := by decide +kernel
theorem dX6_isWord_41 : decode cX6_isWord 41 = .ok (.invokevirtual 122, 3) := by decide +kernel
theorem dX6_isWord_44 : decode cX6_isWord 44 = .ok (.if_icmp .eq 5, 3) := by decide +kernel
theorem dX6_isWord_47 : decode cX6_isWord 47 = .ok (.iconst 0, 1) := by decide +kernel
theorem dX6_isWord_48 : decode cX6_isWord 48 = .ok (.ireturn, 1) := by decide +kernel
theorem dX6_isWord_49 : decode cX6_isWord 49 = .ok (.iinc 2 1, 3) := by decide +kernel
theorem dX6_isWord_52 : decode cX6_isWord 52 = .ok (.goto (-32), 3) := by decide +kernel
theorem dX6_isWord_55 : decode cX6_isWord 55 = .ok (.iconst 1, 1) := by decide +kernel
theorem dX6_isWord_56 : decode cX6_isWord 56 = .ok (.ireturn, 1) := by decide +kernel
theorem dX7_init_0 : decode cX7_init 0 = .ok (.aload_n 0, 1) := by decide +kernel
theorem dX7_init_1 : decode cX7_init 1 = .ok (.invokespecial 3, 3) := by decide +kernel
theorem dX7_init_4 : decode cX7_init 4 = .ok (.aload_n 0, 1) := by decide +kernel
theorem dX7_init_5 : decode cX7_init 5 = .ok (.bipush 6, 2) := by decide +kernel
theorem dX7_init_7 : decode cX7_init 7 = .ok (.newarray .int, 2) := by decide +kernel
theorem dX7_init_9 : decode cX7_init 9 = .ok (.putfield 9, 3) := by decide +kernel
theorem dX7_init_12 : decode cX7_init 12 = .ok (.return_, 1) := by decide +kernel
theorem dX7_kindsThatFit_0 : decode cX7_kindsThatFit 0 = .ok (.iconst 0, 1) := by decide +kernel
theorem dX7_kindsThatFit_1 : decode cX7_kindsThatFit 1 = .ok (.istore_n 2, 1) := by decide +kernel
theorem dX7_kindsThatFit_2 : decode cX7_kindsThatFit 2 = .ok (.iconst 0, 1) := by decide +kernel
theorem dX7_kindsThatFit_3 : decode cX7_kindsThatFit 3 = .ok (.istore_n 3, 1) := by decide +kernel
theorem dX7_kindsThatFit_4 : decode cX7_kindsThatFit 4 = .ok (.iload_n 3, 1) := by decide +kernel
theorem dX7_kindsThatFit_5 : decode cX7_kindsThatFit 5 = .ok (.bipush 6, 2) := by decide +kernel
theorem dX7_kindsThatFit_7 : decode cX7_kindsThatFit 7 = .ok (.if_icmp .ge 24, 3) := by decide +kernel
theorem dX7_kindsThatFit_10 : decode cX7_kindsThatFit 10 = .ok (.aload_n 0, 1) := by decide +kernel
theorem dX7_kindsThatFit_11 : decode cX7_kindsThatFit 11 = .ok (.iload_n 1, 1) := by decide +kernel
theorem dX7_kindsThatFit_12 : decode cX7_kindsThatFit 12 = .ok (.iload_n 3, 1) := by decide +kernel
theorem dX7_kindsThatFit_13 : decode cX7_kindsThatFit 13 = .ok (.invokestatic 15, 3) := by decide +kernel
theorem dX7_kindsThatFit_16 : decode cX7_kindsThatFit 16 = .ok (.ifCond .eq 9, 3) := by decide +kernel
theorem dX7_kindsThatFit_19 : decode cX7_kindsThatFit 19 = .ok (.iload_n 2, 1) := by decide +kernel
theorem dX7_kindsThatFit_20 : decode cX7_kindsThatFit 20 = .ok (.iconst 1, 1) := by decide +kernel
theorem dX7_kindsThatFit_21 : decode cX7_kindsThatFit 21 = .ok (.iload_n 3, 1) := by decide +kernel
theorem dX7_kindsThatFit_22 : decode cX7_kindsThatFit 22 = .ok (.ishl, 1) := by decide +kernel
theorem dX7_kindsThatFit_23 : decode cX7_kindsThatFit 23 = .ok (.ior, 1) := by decide +kernel
theorem dX7_kindsThatFit_24 : decode cX7_kindsThatFit 24 = .ok (.istore_n 2, 1) := by decide +kernel
theorem dX7_kindsThatFit_25 : decode cX7_kindsThatFit 25 = .ok (.iinc 3 1, 3) := by decide +kernel
theorem dX7_kindsThatFit_28 : decode cX7_kindsThatFit 28 = .ok (.goto (-24), 3) := by decide +kernel
theorem dX7_kindsThatFit_31 : decode cX7_kindsThatFit 31 = .ok (.iload_n 2, 1) := by decide +kernel
theorem dX7_kindsThatFit_32 : decode cX7_kindsThatFit 32 = .ok (.ireturn, 1) := by decide +kernel
theorem dX7_fits_0 : decode cX7_fits 0 = .ok (.iconst 0, 1) := by decide +kernel
theorem dX7_fits_1 : decode cX7_fits 1 = .ok (.istore_n 3, 1) := by decide +kernel
theorem dX7_fits_2 : decode cX7_fits 2 = .ok (.iload_n 3, 1) := by decide +kernel
theorem dX7_fits_3 : decode cX7_fits 3 = .ok (.aload_n 0, 1) := by decide +kernel
theorem dX7_fits_4 : decode cX7_fits 4 = .ok (.getfield 19, 3) := by decide +kernel
theorem dX7_fits_7 : decode cX7_fits 7 = .ok (.if_icmp .ge 55, 3) := by decide +kernel
theorem dX7_fits_10 : decode cX7_fits 10 = .ok (.aload_n 0, 1) := by decide +kernel
theorem dX7_fits_11 : decode cX7_fits 11 = .ok (.getfield 25, 3) := by decide +kernel
theorem dX7_fits_14 : decode cX7_fits 14 = .ok (.iload_n 3, 1) := by decide +kernel
theorem dX7_fits_15 : decode cX7_fits 15 = .ok (.iaload, 1) := by decide +kernel
theorem dX7_fits_16 : decode cX7_fits 16 = .ok (.iload_n 1, 1) := by decide +kernel
theorem dX7_fits_17 : decode cX7_fits 17 = .ok (.if_icmp .ne 39, 3) := by decide +kernel
theorem dX7_fits_20 : decode cX7_fits 20 = .ok (.aload_n 0, 1) := by decide +kernel
theorem dX7_fits_21 : decode cX7_fits 21 = .ok (.iload_n 2, 1) := by decide +kernel
theorem dX7_fits_22 : decode cX7_fits 22 = .ok (.aload_n 0, 1) := by decide +kernel
theorem dX7_fits_23 : decode cX7_fits 23 = .ok (.getfield 28, 3) := by decide +kernel
theorem dX7_fits_26 : decode cX7_fits 26 = .ok (.iload_n 1, 1) := by decide +kernel
theorem dX7_fits_27 : decode cX7_fits 27 = .ok (.iaload, 1) := by decide +kernel
theorem dX7_fits_28 : decode cX7_fits 28 = .ok (.aload_n 0, 1) := by decide +kernel
theorem dX7_fits_29 : decode cX7_fits 29 = .ok (.getfield 31, 3) := by decide +kernel
theorem dX7_fits_32 : decode cX7_fits 32 = .ok (.iload_n 3, 1) := by decide +kernel
theorem dX7_fits_33 : decode cX7_fits 33 = .ok (.iaload, 1) := by decide +kernel
theorem dX7_fits_34 : decode cX7_fits 34 = .ok (.aload_n 0, 1) := by decide +kernel
theorem dX7_fits_35 : decode cX7_fits 35 = .ok (.getfield 34, 3) := by decide +kernel
theorem dX7_fits_38 : decode cX7_fits 38 = .ok (.invokevirtual 37, 3) := by decide +kernel
theorem dX7_fits_41 : decode cX7_fits 41 = .ok (.istore 4, 2) := by decide +kernel
theorem dX7_fits_43 : decode cX7_fits 43 = .ok (.iload 4, 2) := by decide +kernel
theorem dX7_fits_45 : decode cX7_fits 45 = .ok (.aload_n 0, 1) := by decide +kernel
theorem dX7_fits_46 : decode cX7_fits 46 = .ok (.getfield 41, 3) := by decide +kernel
theorem dX7_fits_49 : decode cX7_fits 49 = .ok (.iload_n 3, 1) := by decide +kernel
theorem dX7_fits_50 : decode cX7_fits 50 = .ok (.iaload, 1) := by decide +kernel
theorem dX7_fits_51 : decode cX7_fits 51 = .ok (.if_icmp .eq 5, 3) := by decide +kernel
theorem dX7_fits_54 : decode cX7_fits 54 = .ok (.iconst 0, 1) := by decide +kernel
theorem dX7_fits_55 : decode cX7_fits 55 = .ok (.ireturn, 1) := by decide +kernel
theorem dX7_fits_56 : decode cX7_fits 56 = .ok (.iinc 3 1, 3) := by decide +kernel
theorem dX7_fits_59 : decode cX7_fits 59 = .ok (.goto (-57), 3) := by decide +kernel
theorem dX7_fits_62 : decode cX7_fits 62 = .ok (.iconst 1, 1) := by decide +kernel
theorem dX7_fits_63 : decode cX7_fits 63 = .ok (.ireturn, 1) := by decide +kernel
theorem dX7_countNext_0 : decode cX7_countNext 0 = .ok (.aload_n 1, 1) := by decide +kernel
theorem dX7_countNext_1 : decode cX7_countNext 1 = .ok (.iload_n 2, 1) := by decide +kernel
theorem dX7_countNext_2 : decode cX7_countNext 2 = .ok (.invokestatic 44, 3) := by decide +kernel
theorem dX7_countNext_5 : decode cX7_countNext 5 = .ok (.istore_n 3, 1) := by decide +kernel
theorem dX7_countNext_6 : decode cX7_countNext 6 = .ok (.iload_n 3, 1) := by decide +kernel
theorem dX7_countNext_7 : decode cX7_countNext 7 = .ok (.ifCond .ne 5, 3) := by decide +kernel
theorem dX7_countNext_10 : decode cX7_countNext 10 = .ok (.iconst (-1), 1) := by decide +kernel
theorem dX7_countNext_11 : decode cX7_countNext 11 = .ok (.ireturn, 1) := by decide +kernel
theorem dX7_countNext_12 : decode cX7_countNext 12 = .ok (.iconst 0, 1) := by decide +kernel
theorem dX7_countNext_13 : decode cX7_countNext 13 = .ok (.istore 4, 2) := by decide +kernel
theorem dX7_countNext_15 : decode cX7_countNext 15 = .ok (.iload 4, 2) := by decide +kernel
theorem dX7_countNext_17 : decode cX7_countNext 17 = .ok (.bipush 6, 2) := by decide +kernel
theorem dX7_countNext_19 : decode cX7_countNext 19 = .ok (.if_icmp .ge 22, 3) := by decide +kernel
theorem dX7_countNext_22 : decode cX7_countNext 22 = .ok (.aload_n 0, 1) := by decide +kernel
theorem dX7_countNext_23 : decode cX7_countNext 23 = .ok (.getfield 9, 3) := by decide +kernel
theorem dX7_countNext_26 : decode cX7_countNext 26 = .ok (.iload 4, 2) := by decide +kernel
theorem dX7_countNext_28 : decode cX7_countNext 28 = .ok (.aload_n 1, 1) := by decide +kernel
theorem dX7_countNext_29 : decode cX7_countNext 29 = .ok (.getfield 28, 3) := by decide +kernel
theorem dX7_countNext_32 : decode cX7_countNext 32 = .ok (.iload_n 2, 1) := by decide +kernel
theorem dX7_countNext_33 : decode cX7_countNext 33 = .ok (.iaload, 1) := by decide +kernel
theorem dX7_countNext_34 : decode cX7_countNext 34 = .ok (.iastore, 1) := by decide +kernel
theorem dX7_countNext_35 : decode cX7_countNext 35 = .ok (.iinc 4 1, 3) := by decide +kernel
theorem dX7_countNext_38 : decode cX7_countNext 38 = .ok (.goto (-23), 3) := by decide +kernel
theorem dX7_countNext_41 : decode cX7_countNext 41 = .ok (.iconst 0, 1) := by decide +kernel
theorem dX7_countNext_42 : decode cX7_countNext 42 = .ok (.istore 4, 2) := by decide +kernel
theorem dX7_countNext_44 : decode cX7_countNext 44 = .ok (.aload_n 0, 1) := by decide +kernel
theorem dX7_countNext_45 : decode cX7_countNext 45 = .ok (.iload_n 3, 1) := by decide +kernel
theorem dX7_countNext_46 : decode cX7_countNext 46 = .ok (.invokevirtual 48, 3) := by decide +kernel
theorem dX7_countNext_49 : decode cX7_countNext 49 = .ok (.istore 5, 2) := by decide +kernel
theorem dX7_countNext_51 : decode cX7_countNext 51 = .ok (.iconst 1, 1) := by decide +kernel
theorem dX7_countNext_52 : decode cX7_countNext 52 = .ok (.istore 6, 2) := by decide +kernel
theorem dX7_countNext_54 : decode cX7_countNext 54 = .ok (.iload 6, 2) := by decide +kernel
theorem dX7_countNext_56 : decode cX7_countNext 56 = .ok (.bipush 60, 2) := by decide +kernel
theorem dX7_countNext_58 : decode cX7_countNext 58 = .ok (.if_icmp .gt 40, 3) := by decide +kernel
theorem dX7_countNext_61 : decode cX7_countNext 61 = .ok (.aload_n 0, 1) := by decide +kernel
theorem dX7_countNext_62 : decode cX7_countNext 62 = .ok (.aload_n 1, 1) := by decide +kernel
theorem dX7_countNext_63 : decode cX7_countNext 63 = .ok (.iload 6, 2) := by decide +kernel
theorem dX7_countNext_65 : decode cX7_countNext 65 = .ok (.iconst 1, 1) := by decide +kernel
theorem dX7_countNext_66 : decode cX7_countNext 66 = .ok (.isub, 1) := by decide +kernel
theorem dX7_countNext_67 : decode cX7_countNext 67 = .ok (.invokevirtual 52, 3) := by decide +kernel
theorem dX7_countNext_70 : decode cX7_countNext 70 = .ok (.aload_n 0, 1) := by decide +kernel
theorem dX7_countNext_71 : decode cX7_countNext 71 = .ok (.iload_n 3, 1) := by decide +kernel
theorem dX7_countNext_72 : decode cX7_countNext 72 = .ok (.invokevirtual 48, 3) := by decide +kernel
theorem dX7_countNext_75 : decode cX7_countNext 75 = .ok (.istore 7, 2) := by decide +kernel
theorem dX7_countNext_77 : decode cX7_countNext 77 = .ok (.iload 7, 2) := by decide +kernel
theorem dX7_countNext_79 : decode cX7_countNext 79 = .ok (.iload 5, 2) := by decide +kernel
theorem dX7_countNext_81 : decode cX7_countNext 81 = .ok (.if_icmp .ge 11, 3) := by decide +kernel
theorem dX7_countNext_84 : decode cX7_countNext 84 = .ok (.iload 6, 2) := by decide +kernel
theorem dX7_countNext_86 : decode cX7_countNext 86 = .ok (.istore 4, 2) := by decide +kernel
theorem dX7_countNext_88 : decode cX7_countNext 88 = .ok (.iload 7, 2) := by decide +kernel
theorem dX7_countNext_90 : decode cX7_countNext 90 = .ok (.istore 5, 2) := by decide +kernel
theorem dX7_countNext_92 : decode cX7_countNext 92 = .ok (.iinc 6 1, 3) := by decide +kernel
theorem dX7_countNext_95 : decode cX7_countNext 95 = .ok (.goto (-41), 3) := by decide +kernel
theorem dX7_countNext_98 : decode cX7_countNext 98 = .ok (.iload 4, 2) := by decide +kernel
theorem dX7_countNext_100 : decode cX7_countNext 100 = .ok (.ireturn, 1) := by decide +kernel
theorem dX7_passYearByKind_0 : decode cX7_passYearByKind 0 = .ok (.iconst 0, 1) := by decide +kernel
theorem dX7_passYearByKind_1 : decode cX7_passYearByKind 1 = .ok (.istore_n 3, 1) := by decide +kernel
theorem dX7_passYearByKind_2 : decode cX7_passYearByKind 2 = .ok (.iload_n 3, 1) := by decide +kernel
theorem dX7_passYearByKind_3 : decode cX7_passYearByKind 3 = .ok (.bipush 6, 2) := by decide +kernel
theorem dX7_passYearByKind_5 : decode cX7_passYearByKind 5 = .ok (.if_icmp .ge 39, 3) := by decide +kernel
theorem dX7_passYearByKind_8 : decode cX7_passYearByKind 8 = .ok (.aload_n 0, 1) := by decide +kernel
theorem dX7_passYearByKind_9 : decode cX7_passYearByKind 9 = .ok (.getfield 9, 3) := by decide +kernel
theorem dX7_passYearByKind_12 : decode cX7_passYearByKind 12 = .ok (.iload_n 3, 1) := by decide +kernel
theorem dX7_passYearByKind_13 : decode cX7_passYearByKind 13 = .ok (.aload_n 0, 1) := by decide +kernel
theorem dX7_passYearByKind_14 : decode cX7_passYearByKind 14 = .ok (.getfield 9, 3) := by decide +kernel
theorem dX7_passYearByKind_17 : decode cX7_passYearByKind 17 = .ok (.iload_n 3, 1) := by decide +kernel
theorem dX7_passYearByKind_18 : decode cX7_passYearByKind 18 = .ok (.iaload, 1) := by decide +kernel
theorem dX7_passYearByKind_19 : decode cX7_passYearByKind 19 = .ok (.iload_n 3, 1) := by decide +kernel
theorem dX7_passYearByKind_20 : decode cX7_passYearByKind 20 = .ok (.aload_n 1, 1) := by decide +kernel
theorem dX7_passYearByKind_21 : decode cX7_passYearByKind 21 = .ok (.getfield 56, 3) := by decide +kernel
theorem dX7_passYearByKind_24 : decode cX7_passYearByKind 24 = .ok (.iload_n 2, 1) := by decide +kernel
theorem dX7_passYearByKind_25 : decode cX7_passYearByKind 25 = .ok (.iadd, 1) := by decide +kernel
theorem dX7_passYearByKind_26 : decode cX7_passYearByKind 26 = .ok (.aload_n 1, 1) := by decide +kernel
theorem dX7_passYearByKind_27 : decode cX7_passYearByKind 27 = .ok (.getfield 59, 3) := by decide +kernel
theorem dX7_passYearByKind_30 : decode cX7_passYearByKind 30 = .ok (.aload_n 1, 1) := by decide +kernel
theorem dX7_passYearByKind_31 : decode cX7_passYearByKind 31 = .ok (.getfield 34, 3) := by decide +kernel
theorem dX7_passYearByKind_34 : decode cX7_passYearByKind 34 = .ok (.invokestatic 62, 3) := by decide +kernel
theorem dX7_passYearByKind_37 : decode cX7_passYearByKind 37 = .ok (.iastore, 1) := by decide +kernel
theorem dX7_passYearByKind_38 : decode cX7_passYearByKind 38 = .ok (.iinc 3 1, 3) := by decide +kernel
theorem dX7_passYearByKind_41 : decode cX7_passYearByKind 41 = .ok (.goto (-39), 3) := by decide +kernel
theorem dX7_passYearByKind_44 : decode cX7_passYearByKind 44 = .ok (.return_, 1) := by decide +kernel
theorem dX7_mostAlike_0 : decode cX7_mostAlike 0 = .ok (.iconst 0, 1) := by decide +kernel
theorem dX7_mostAlike_1 : decode cX7_mostAlike 1 = .ok (.istore_n 2, 1) := by decide +kernel
theorem dX7_mostAlike_2 : decode cX7_mostAlike 2 = .ok (.iconst 0, 1) := by decide +kernel
theorem dX7_mostAlike_3 : decode cX7_mostAlike 3 = .ok (.istore_n 3, 1) := by decide +kernel
theorem dX7_mostAlike_4 : decode cX7_mostAlike 4 = .ok (.iload_n 3, 1) := by decide +kernel
theorem dX7_mostAlike_5 : decode cX7_mostAlike 5 = .ok (.bipush 6, 2) := by decide +kernel
theorem dX7_mostAlike_7 : decode cX7_mostAlike 7 = .ok (.if_icmp .ge 34, 3) := by decide +kernel
theorem dX7_mostAlike_10 : decode cX7_mostAlike 10 = .ok (.iload_n 1, 1) := by decide +kernel
theorem dX7_mostAlike_11 : decode cX7_mostAlike 11 = .ok (.iload_n 3, 1) := by decide +kernel
theorem dX7_mostAlike_12 : decode cX7_mostAlike 12 = .ok (.ishr, 1) := by decide +kernel
theorem dX7_mostAlike_13 : decode cX7_mostAlike 13 = .ok (.iconst 1, 1) := by decide +kernel
theorem dX7_mostAlike_14 : decode cX7_mostAlike 14 = .ok (.iand, 1) := by decide +kernel
theorem dX7_mostAlike_15 : decode cX7_mostAlike 15 = .ok (.iconst 1, 1) := by decide +kernel
theorem dX7_mostAlike_16 : decode cX7_mostAlike 16 = .ok (.if_icmp .ne 19, 3) := by decide +kernel
theorem dX7_mostAlike_19 : decode cX7_mostAlike 19 = .ok (.iload_n 2, 1) := by decide +kernel
theorem dX7_mostAlike_20 : decode cX7_mostAlike 20 = .ok (.aload_n 0, 1) := by decide +kernel
theorem dX7_mostAlike_21 : decode cX7_mostAlike 21 = .ok (.aload_n 0, 1) := by decide +kernel
theorem dX7_mostAlike_22 : decode cX7_mostAlike 22 = .ok (.getfield 9, 3) := by decide +kernel
theorem dX7_mostAlike_25 : decode cX7_mostAlike 25 = .ok (.iload_n 3, 1) := by decide +kernel
theorem dX7_mostAlike_26 : decode cX7_mostAlike 26 = .ok (.iaload, 1) := by decide +kernel
theorem dX7_mostAlike_27 : decode cX7_mostAlike 27 = .ok (.iload_n 1, 1) := by decide +kernel
theorem dX7_mostAlike_28 : decode cX7_mostAlike 28 = .ok (.invokevirtual 68, 3) := by decide +kernel
theorem dX7_mostAlike_31 : decode cX7_mostAlike 31 = .ok (.invokestatic 72, 3) := by decide +kernel
theorem dX7_mostAlike_34 : decode cX7_mostAlike 34 = .ok (.istore_n 2, 1) := by decide +kernel
theorem dX7_mostAlike_35 : decode cX7_mostAlike 35 = .ok (.iinc 3 1, 3) := by decide +kernel
theorem dX7_mostAlike_38 : decode cX7_mostAlike 38 = .ok (.goto (-34), 3) := by decide +kernel
theorem dX7_mostAlike_41 : decode cX7_mostAlike 41 = .ok (.iload_n 2, 1) := by decide +kernel
theorem dX7_mostAlike_42 : decode cX7_mostAlike 42 = .ok (.ireturn, 1) := by decide +kernel
theorem dX7_howManyHave_0 : decode cX7_howManyHave 0 = .ok (.iconst 0, 1) := by decide +kernel
theorem dX7_howManyHave_1 : decode cX7_howManyHave 1 = .ok (.istore_n 3, 1) := by decide +kernel
theorem dX7_howManyHave_2 : decode cX7_howManyHave 2 = .ok (.iconst 0, 1) := by decide +kernel
theorem dX7_howManyHave_3 : decode cX7_howManyHave 3 = .ok (.istore 4, 2) := by decide +kernel
theorem dX7_howManyHave_5 : decode cX7_howManyHave 5 = .ok (.iload 4, 2) := by decide +kernel
theorem dX7_howManyHave_7 : decode cX7_howManyHave 7 = .ok (.bipush 6, 2) := by decide +kernel
theorem dX7_howManyHave_9 : decode cX7_howManyHave 9 = .ok (.if_icmp .ge 33, 3) := by decide +kernel
theorem dX7_howManyHave_12 : decode cX7_howManyHave 12 = .ok (.iload_n 2, 1) := by decide +kernel
theorem dX7_howManyHave_13 : decode cX7_howManyHave 13 = .ok (.iload 4, 2) := by decide +kernel
theorem dX7_howManyHave_15 : decode cX7_howManyHave 15 = .ok (.ishr, 1) := by decide +kernel
theorem dX7_howManyHave_16 : decode cX7_howManyHave 16 = .ok (.iconst 1, 1) := by decide +kernel
theorem dX7_howManyHave_17 : decode cX7_howManyHave 17 = .ok (.iand, 1) := by decide +kernel
theorem dX7_howManyHave_18 : decode cX7_howManyHave 18 = .ok (.iconst 1, 1) := by decide +kernel
theorem dX7_howManyHave_19 : decode cX7_howManyHave 19 = .ok (.if_icmp .ne 17, 3) := by decide +kernel
theorem dX7_howManyHave_22 : decode cX7_howManyHave 22 = .ok (.aload_n 0, 1) := by decide +kernel
theorem dX7_howManyHave_23 : decode cX7_howManyHave 23 = .ok (.getfield 9, 3) := by decide +kernel
theorem dX7_howManyHave_26 : decode cX7_howManyHave 26 = .ok (.iload 4, 2) := by decide +kernel
theorem dX7_howManyHave_28 : decode cX7_howManyHave 28 = .ok (.iaload, 1) := by decide +kernel
theorem dX7_howManyHave_29 : decode cX7_howManyHave 29 = .ok (.iload_n 1, 1) := by decide +kernel
theorem dX7_howManyHave_30 : decode cX7_howManyHave 30 = .ok (.if_icmp .ne 6, 3) := by decide +kernel
theorem dX7_howManyHave_33 : decode cX7_howManyHave 33 = .ok (.iinc 3 1, 3) := by decide +kernel
theorem dX7_howManyHave_36 : decode cX7_howManyHave 36 = .ok (.iinc 4 1, 3) := by decide +kernel
theorem dX7_howManyHave_39 : decode cX7_howManyHave 39 = .ok (.goto (-34), 3) := by decide +kernel
theorem dX7_howManyHave_42 : decode cX7_howManyHave 42 = .ok (.iload_n 3, 1) := by decide +kernel
theorem dX7_howManyHave_43 : decode cX7_howManyHave 43 = .ok (.ireturn, 1) := by decide +kernel
theorem dX7_swaps_0 : decode cX7_swaps 0 = .ok (.iconst 0, 1) := by decide +kernel
theorem dX7_swaps_1 : decode cX7_swaps 1 = .ok (.istore_n 2, 1) := by decide +kernel
theorem dX7_swaps_2 : decode cX7_swaps 2 = .ok (.iconst 0, 1) := by decide +kernel
theorem dX7_swaps_3 : decode cX7_swaps 3 = .ok (.istore_n 3, 1) := by decide +kernel
theorem dX7_swaps_4 : decode cX7_swaps 4 = .ok (.iload_n 3, 1) := by decide +kernel
theorem dX7_swaps_5 : decode cX7_swaps 5 = .ok (.aload_n 0, 1) := by decide +kernel
theorem dX7_swaps_6 : decode cX7_swaps 6 = .ok (.getfield 77, 3) := by decide +kernel
theorem dX7_swaps_9 : decode cX7_swaps 9 = .ok (.if_icmp .ge 55, 3) := by decide +kernel
theorem dX7_swaps_12 : decode cX7_swaps 12 = .ok (.iload_n 3, 1) := by decide +kernel
theorem dX7_swaps_13 : decode cX7_swaps 13 = .ok (.iconst 1, 1) := by decide +kernel
theorem dX7_swaps_14 : decode cX7_swaps 14 = .ok (.iadd, 1) := by decide +kernel
theorem dX7_swaps_15 : decode cX7_swaps 15 = .ok (.istore 4, 2) := by decide +kernel
theorem dX7_swaps_17 : decode cX7_swaps 17 = .ok (.iload 4, 2) := by decide +kernel
theorem dX7_swaps_19 : decode cX7_swaps 19 = .ok (.aload_n 0, 1) := by decide +kernel
theorem dX7_swaps_20 : decode cX7_swaps 20 = .ok (.getfield 77, 3) := by decide +kernel
theorem dX7_swaps_23 : decode cX7_swaps 23 = .ok (.if_icmp .ge 35, 3) := by decide +kernel
theorem dX7_swaps_26 : decode cX7_swaps 26 = .ok (.aload_n 0, 1) := by decide +kernel
theorem dX7_swaps_27 : decode cX7_swaps 27 = .ok (.iload_n 3, 1) := by decide +kernel
theorem dX7_swaps_28 : decode cX7_swaps 28 = .ok (.iload 4, 2) := by decide +kernel
theorem dX7_swaps_30 : decode cX7_swaps 30 = .ok (.invokestatic 80, 3) := by decide +kernel
theorem dX7_swaps_33 : decode cX7_swaps 33 = .ok (.ifCond .eq 19, 3) := by decide +kernel
theorem dX7_swaps_36 : decode cX7_swaps 36 = .ok (.iload_n 2, 1) := by decide +kernel
theorem dX7_swaps_37 : decode cX7_swaps 37 = .ok (.iload_n 1, 1) := by decide +kernel
theorem dX7_swaps_38 : decode cX7_swaps 38 = .ok (.if_icmp .ne 11, 3) := by decide +kernel
theorem dX7_swaps_41 : decode cX7_swaps 41 = .ok (.bipush 10, 2) := by decide +kernel
theorem dX7_swaps_43 : decode cX7_swaps 43 = .ok (.iload_n 3, 1) := by decide +kernel
theorem dX7_swaps_44 : decode cX7_swaps 44 = .ok (.imul, 1) := by decide +kernel
theorem dX7_swaps_45 : decode cX7_swaps 45 = .ok (.iload 4, 2) := by decide +kernel
theorem dX7_swaps_47 : decode cX7_swaps 47 = .ok (.iadd, 1) := by decide +kernel
theorem dX7_swaps_48 : decode cX7_swaps 48 = .ok (.ireturn, 1) := by decide +kernel
theorem dX7_swaps_49 : decode cX7_swaps 49 = .ok (.iinc 2 1, 3) := by decide +kernel
theorem dX7_swaps_52 : decode cX7_swaps 52 = .ok (.iinc 4 1, 3) := by decide +kernel
theorem dX7_swaps_55 : decode cX7_swaps 55 = .ok (.goto (-38), 3) := by decide +kernel
theorem dX7_swaps_58 : decode cX7_swaps 58 = .ok (.iinc 3 1, 3) := by decide +kernel
theorem dX7_swaps_61 : decode cX7_swaps 61 = .ok (.goto (-57), 3) := by decide +kernel
theorem dX7_swaps_64 : decode cX7_swaps 64 = .ok (.iload_n 1, 1) := by decide +kernel
theorem dX7_swaps_65 : decode cX7_swaps 65 = .ok (.iconst (-1), 1) := by decide +kernel
theorem dX7_swaps_66 : decode cX7_swaps 66 = .ok (.if_icmp .ne 7, 3) := by decide +kernel
theorem dX7_swaps_69 : decode cX7_swaps 69 = .ok (.iload_n 2, 1) := by decide +kernel
theorem dX7_swaps_70 : decode cX7_swaps 70 = .ok (.goto 5, 3) := by decide +kernel
theorem dX7_swaps_73 : decode cX7_swaps 73 = .ok (.bipush (-5), 2) := by decide +kernel
theorem dX7_swaps_75 : decode cX7_swaps 75 = .ok (.ireturn, 1) := by decide +kernel
theorem dX7_fitsSwapped_0 : decode cX7_fitsSwapped 0 = .ok (.iconst 0, 1) := by decide +kernel
theorem dX7_fitsSwapped_1 : decode cX7_fitsSwapped 1 = .ok (.istore_n 3, 1) := by decide +kernel
theorem dX7_fitsSwapped_2 : decode cX7_fitsSwapped 2 = .ok (.iload_n 3, 1) := by decide +kernel
theorem dX7_fitsSwapped_3 : decode cX7_fitsSwapped 3 = .ok (.aload_n 0, 1) := by decide +kernel
theorem dX7_fitsSwapped_4 : decode cX7_fitsSwapped 4 = .ok (.getfield 19, 3) := by decide +kernel
theorem dX7_fitsSwapped_7 : decode cX7_fitsSwapped 7 = .ok (.if_icmp .ge 84, 3) := by decide +kernel
theorem dX7_fitsSwapped_10 : decode cX7_fitsSwapped 10 = .ok (.aload_n 0, 1) := by decide +kernel
theorem dX7_fitsSwapped_11 : decode cX7_fitsSwapped 11 = .ok (.getfield 25, 3) := by decide +kernel
theorem dX7_fitsSwapped_14 : decode cX7_fitsSwapped 14 = .ok (.iload_n 3, 1) := by decide +kernel
theorem dX7_fitsSwapped_15 : decode cX7_fitsSwapped 15 = .ok (.iaload, 1) := by decide +kernel
theorem dX7_fitsSwapped_16 : decode cX7_fitsSwapped 16 = .ok (.istore 4, 2) := by decide +kernel
theorem dX7_fitsSwapped_18 : decode cX7_fitsSwapped 18 = .ok (.iload 4, 2) := by decide +kernel
theorem dX7_fitsSwapped_20 : decode cX7_fitsSwapped 20 = .ok (.iload_n 1, 1) := by decide +kernel
theorem dX7_fitsSwapped_21 : decode cX7_fitsSwapped 21 = .ok (.if_icmp .ne 7, 3) := by decide +kernel
theorem dX7_fitsSwapped_24 : decode cX7_fitsSwapped 24 = .ok (.iload_n 2, 1) := by decide +kernel
theorem dX7_fitsSwapped_25 : decode cX7_fitsSwapped 25 = .ok (.goto 15, 3) := by decide +kernel
theorem dX7_fitsSwapped_28 : decode cX7_fitsSwapped 28 = .ok (.iload 4, 2) := by decide +kernel
theorem dX7_fitsSwapped_30 : decode cX7_fitsSwapped 30 = .ok (.iload_n 2, 1) := by decide +kernel
theorem dX7_fitsSwapped_31 : decode cX7_fitsSwapped 31 = .ok (.if_icmp .ne 7, 3) := by decide +kernel
theorem dX7_fitsSwapped_34 : decode cX7_fitsSwapped 34 = .ok (.iload_n 1, 1) := by decide +kernel
theorem dX7_fitsSwapped_35 : decode cX7_fitsSwapped 35 = .ok (.goto 5, 3) := by decide +kernel
theorem dX7_fitsSwapped_38 : decode cX7_fitsSwapped 38 = .ok (.iload 4, 2) := by decide +kernel
theorem dX7_fitsSwapped_40 : decode cX7_fitsSwapped 40 = .ok (.istore 5, 2) := by decide +kernel
theorem dX7_fitsSwapped_42 : decode cX7_fitsSwapped 42 = .ok (.aload_n 0, 1) := by decide +kernel
theorem dX7_fitsSwapped_43 : decode cX7_fitsSwapped 43 = .ok (.aload_n 0, 1) := by decide +kernel
theorem dX7_fitsSwapped_44 : decode cX7_fitsSwapped 44 = .ok (.getfield 83, 3) := by decide +kernel
theorem dX7_fitsSwapped_47 : decode cX7_fitsSwapped 47 = .ok (.iload 4, 2) := by decide +kernel
theorem dX7_fitsSwapped_49 : decode cX7_fitsSwapped 49 = .ok (.iaload, 1) := by decide +kernel
theorem dX7_fitsSwapped_50 : decode cX7_fitsSwapped 50 = .ok (.aload_n 0, 1) := by decide +kernel
theorem dX7_fitsSwapped_51 : decode cX7_fitsSwapped 51 = .ok (.getfield 28, 3) := by decide +kernel
theorem dX7_fitsSwapped_54 : decode cX7_fitsSwapped 54 = .ok (.iload 5, 2) := by decide +kernel
theorem dX7_fitsSwapped_56 : decode cX7_fitsSwapped 56 = .ok (.iaload, 1) := by decide +kernel
theorem dX7_fitsSwapped_57 : decode cX7_fitsSwapped 57 = .ok (.aload_n 0, 1) := by decide +kernel
theorem dX7_fitsSwapped_58 : decode cX7_fitsSwapped 58 = .ok (.getfield 31, 3) := by decide +kernel
theorem dX7_fitsSwapped_61 : decode cX7_fitsSwapped 61 = .ok (.iload_n 3, 1) := by decide +kernel
theorem dX7_fitsSwapped_62 : decode cX7_fitsSwapped 62 = .ok (.iaload, 1) := by decide +kernel
theorem dX7_fitsSwapped_63 : decode cX7_fitsSwapped 63 = .ok (.aload_n 0, 1) := by decide +kernel
theorem dX7_fitsSwapped_64 : decode cX7_fitsSwapped 64 = .ok (.getfield 34, 3) := by decide +kernel
theorem dX7_fitsSwapped_67 : decode cX7_fitsSwapped 67 = .ok (.invokevirtual 37, 3) := by decide +kernel
theorem dX7_fitsSwapped_70 : decode cX7_fitsSwapped 70 = .ok (.istore 6, 2) := by decide +kernel
theorem dX7_fitsSwapped_72 : decode cX7_fitsSwapped 72 = .ok (.iload 6, 2) := by decide +kernel
theorem dX7_fitsSwapped_74 : decode cX7_fitsSwapped 74 = .ok (.aload_n 0, 1) := by decide +kernel
theorem dX7_fitsSwapped_75 : decode cX7_fitsSwapped 75 = .ok (.getfield 41, 3) := by decide +kernel
theorem dX7_fitsSwapped_78 : decode cX7_fitsSwapped 78 = .ok (.iload_n 3, 1) := by decide +kernel
theorem dX7_fitsSwapped_79 : decode cX7_fitsSwapped 79 = .ok (.iaload, 1) := by decide +kernel
theorem dX7_fitsSwapped_80 : decode cX7_fitsSwapped 80 = .ok (.if_icmp .eq 5, 3) := by decide +kernel
theorem dX7_fitsSwapped_83 : decode cX7_fitsSwapped 83 = .ok (.iconst 0, 1) := by decide +kernel
theorem dX7_fitsSwapped_84 : decode cX7_fitsSwapped 84 = .ok (.ireturn, 1) := by decide +kernel
theorem dX7_fitsSwapped_85 : decode cX7_fitsSwapped 85 = .ok (.iinc 3 1, 3) := by decide +kernel
theorem dX7_fitsSwapped_88 : decode cX7_fitsSwapped 88 = .ok (.goto (-86), 3) := by decide +kernel
theorem dX7_fitsSwapped_91 : decode cX7_fitsSwapped 91 = .ok (.iconst 1, 1) := by decide +kernel
theorem dX7_fitsSwapped_92 : decode cX7_fitsSwapped 92 = .ok (.ireturn, 1) := by decide +kernel
theorem dX7_pairsPutBack_0 : decode cX7_pairsPutBack 0 = .ok (.iconst 0, 1) := by decide +kernel
theorem dX7_pairsPutBack_1 : decode cX7_pairsPutBack 1 = .ok (.istore_n 1, 1) := by decide +kernel
theorem dX7_pairsPutBack_2 : decode cX7_pairsPutBack 2 = .ok (.iconst 0, 1) := by decide +kernel
theorem dX7_pairsPutBack_3 : decode cX7_pairsPutBack 3 = .ok (.istore_n 2, 1) := by decide +kernel
theorem dX7_pairsPutBack_4 : decode cX7_pairsPutBack 4 = .ok (.iload_n 2, 1) := by decide +kernel
theorem dX7_pairsPutBack_5 : decode cX7_pairsPutBack 5 = .ok (.aload_n 0, 1) := by decide +kernel
theorem dX7_pairsPutBack_6 : decode cX7_pairsPutBack 6 = .ok (.getfield 77, 3) := by decide +kernel
theorem dX7_pairsPutBack_9 : decode cX7_pairsPutBack 9 = .ok (.if_icmp .ge 23, 3) := by decide +kernel
theorem dX7_pairsPutBack_12 : decode cX7_pairsPutBack 12 = .ok (.aload_n 0, 1) := by decide +kernel
theorem dX7_pairsPutBack_13 : decode cX7_pairsPutBack 13 = .ok (.iload_n 2, 1) := by decide +kernel
theorem dX7_pairsPutBack_14 : decode cX7_pairsPutBack 14 = .ok (.invokestatic 86, 3) := by decide +kernel
theorem dX7_pairsPutBack_17 : decode cX7_pairsPutBack 17 = .ok (.ifCond .eq 9, 3) := by decide +kernel
theorem dX7_pairsPutBack_20 : decode cX7_pairsPutBack 20 = .ok (.iload_n 1, 1) := by decide +kernel
theorem dX7_pairsPutBack_21 : decode cX7_pairsPutBack 21 = .ok (.iconst 1, 1) := by decide +kernel
theorem dX7_pairsPutBack_22 : decode cX7_pairsPutBack 22 = .ok (.iload_n 2, 1) := by decide +kernel
theorem dX7_pairsPutBack_23 : decode cX7_pairsPutBack 23 = .ok (.ishl, 1) := by decide +kernel
theorem dX7_pairsPutBack_24 : decode cX7_pairsPutBack 24 = .ok (.ior, 1) := by decide +kernel
theorem dX7_pairsPutBack_25 : decode cX7_pairsPutBack 25 = .ok (.istore_n 1, 1) := by decide +kernel
theorem dX7_pairsPutBack_26 : decode cX7_pairsPutBack 26 = .ok (.iinc 2 1, 3) := by decide +kernel
theorem dX7_pairsPutBack_29 : decode cX7_pairsPutBack 29 = .ok (.goto (-25), 3) := by decide +kernel
theorem dX7_pairsPutBack_32 : decode cX7_pairsPutBack 32 = .ok (.iload_n 1, 1) := by decide +kernel
theorem dX7_pairsPutBack_33 : decode cX7_pairsPutBack 33 = .ok (.ireturn, 1) := by decide +kernel
theorem dX7_fitsPutBack_0 : decode cX7_fitsPutBack 0 = .ok (.iconst 0, 1) := by decide +kernel
theorem dX7_fitsPutBack_1 : decode cX7_fitsPutBack 1 = .ok (.istore_n 2, 1) := by decide +kernel
theorem dX7_fitsPutBack_2 : decode cX7_fitsPutBack 2 = .ok (.iload_n 2, 1) := by decide +kernel
theorem dX7_fitsPutBack_3 : decode cX7_fitsPutBack 3 = .ok (.aload_n 0, 1) := by decide +kernel
theorem dX7_fitsPutBack_4 : decode cX7_fitsPutBack 4 = .ok (.getfield 19, 3) := by decide +kernel
theorem dX7_fitsPutBack_7 : decode cX7_fitsPutBack 7 = .ok (.if_icmp .ge 52, 3) := by decide +kernel
theorem dX7_fitsPutBack_10 : decode cX7_fitsPutBack 10 = .ok (.aload_n 0, 1) := by decide +kernel
theorem dX7_fitsPutBack_11 : decode cX7_fitsPutBack 11 = .ok (.getfield 25, 3) := by decide +kernel
theorem dX7_fitsPutBack_14 : decode cX7_fitsPutBack 14 = .ok (.iload_n 2, 1) := by decide +kernel
theorem dX7_fitsPutBack_15 : decode cX7_fitsPutBack 15 = .ok (.iaload, 1) := by decide +kernel
theorem dX7_fitsPutBack_16 : decode cX7_fitsPutBack 16 = .ok (.istore_n 3, 1) := by decide +kernel
theorem dX7_fitsPutBack_17 : decode cX7_fitsPutBack 17 = .ok (.iload_n 3, 1) := by decide +kernel
theorem dX7_fitsPutBack_18 : decode cX7_fitsPutBack 18 = .ok (.iload_n 1, 1) := by decide +kernel
theorem dX7_fitsPutBack_19 : decode cX7_fitsPutBack 19 = .ok (.if_icmp .ne 7, 3) := by decide +kernel
theorem dX7_fitsPutBack_22 : decode cX7_fitsPutBack 22 = .ok (.iconst 1, 1) := by decide +kernel
theorem dX7_fitsPutBack_23 : decode cX7_fitsPutBack 23 = .ok (.goto 4, 3) := by decide +kernel
theorem dX7_fitsPutBack_26 : decode cX7_fitsPutBack 26 = .ok (.iconst 0, 1) := by decide +kernel
theorem dX7_fitsPutBack_27 : decode cX7_fitsPutBack 27 = .ok (.istore 4, 2) := by decide +kernel
theorem dX7_fitsPutBack_29 : decode cX7_fitsPutBack 29 = .ok (.aload_n 0, 1) := by decide +kernel
theorem dX7_fitsPutBack_30 : decode cX7_fitsPutBack 30 = .ok (.iload_n 3, 1) := by decide +kernel
theorem dX7_fitsPutBack_31 : decode cX7_fitsPutBack 31 = .ok (.aload_n 0, 1) := by decide +kernel
theorem dX7_fitsPutBack_32 : decode cX7_fitsPutBack 32 = .ok (.getfield 31, 3) := by decide +kernel
theorem dX7_fitsPutBack_35 : decode cX7_fitsPutBack 35 = .ok (.iload_n 2, 1) := by decide +kernel
theorem dX7_fitsPutBack_36 : decode cX7_fitsPutBack 36 = .ok (.iaload, 1) := by decide +kernel
theorem dX7_fitsPutBack_37 : decode cX7_fitsPutBack 37 = .ok (.iload 4, 2) := by decide +kernel
theorem dX7_fitsPutBack_39 : decode cX7_fitsPutBack 39 = .ok (.invokestatic 90, 3) := by decide +kernel
theorem dX7_fitsPutBack_42 : decode cX7_fitsPutBack 42 = .ok (.aload_n 0, 1) := by decide +kernel
theorem dX7_fitsPutBack_43 : decode cX7_fitsPutBack 43 = .ok (.getfield 41, 3) := by decide +kernel
theorem dX7_fitsPutBack_46 : decode cX7_fitsPutBack 46 = .ok (.iload_n 2, 1) := by decide +kernel
theorem dX7_fitsPutBack_47 : decode cX7_fitsPutBack 47 = .ok (.iaload, 1) := by decide +kernel
theorem dX7_fitsPutBack_48 : decode cX7_fitsPutBack 48 = .ok (.if_icmp .eq 5, 3) := by decide +kernel
theorem dX7_fitsPutBack_51 : decode cX7_fitsPutBack 51 = .ok (.iconst 0, 1) := by decide +kernel
theorem dX7_fitsPutBack_52 : decode cX7_fitsPutBack 52 = .ok (.ireturn, 1) := by decide +kernel
theorem dX7_fitsPutBack_53 : decode cX7_fitsPutBack 53 = .ok (.iinc 2 1, 3) := by decide +kernel
theorem dX7_fitsPutBack_56 : decode cX7_fitsPutBack 56 = .ok (.goto (-54), 3) := by decide +kernel
theorem dX7_fitsPutBack_59 : decode cX7_fitsPutBack 59 = .ok (.iconst 1, 1) := by decide +kernel
theorem dX7_fitsPutBack_60 : decode cX7_fitsPutBack 60 = .ok (.ireturn, 1) := by decide +kernel
theorem dX7_leftWithMore_0 : decode cX7_leftWithMore 0 = .ok (.aload_n 0, 1) := by decide +kernel
theorem dX7_leftWithMore_1 : decode cX7_leftWithMore 1 = .ok (.getfield 28, 3) := by decide +kernel
theorem dX7_leftWithMore_4 : decode cX7_leftWithMore 4 = .ok (.iload_n 1, 1) := by decide +kernel
theorem dX7_leftWithMore_5 : decode cX7_leftWithMore 5 = .ok (.iaload, 1) := by decide +kernel
theorem dX7_leftWithMore_6 : decode cX7_leftWithMore 6 = .ok (.istore 4, 2) := by decide +kernel
theorem dX7_leftWithMore_8 : decode cX7_leftWithMore 8 = .ok (.iconst 0, 1) := by decide +kernel
theorem dX7_leftWithMore_9 : decode cX7_leftWithMore 9 = .ok (.istore 5, 2) := by decide +kernel
theorem dX7_leftWithMore_11 : decode cX7_leftWithMore 11 = .ok (.iload 5, 2) := by decide +kernel
theorem dX7_leftWithMore_13 : decode cX7_leftWithMore 13 = .ok (.iload_n 2, 1) := by decide +kernel
theorem dX7_leftWithMore_14 : decode cX7_leftWithMore 14 = .ok (.if_icmp .ge 32, 3) := by decide +kernel
theorem dX7_leftWithMore_17 : decode cX7_leftWithMore 17 = .ok (.iload 4, 2) := by decide +kernel
theorem dX7_leftWithMore_19 : decode cX7_leftWithMore 19 = .ok (.ifCond .le 27, 3) := by decide +kernel
theorem dX7_leftWithMore_22 : decode cX7_leftWithMore 22 = .ok (.aload_n 0, 1) := by decide +kernel
theorem dX7_leftWithMore_23 : decode cX7_leftWithMore 23 = .ok (.bipush 60, 2) := by decide +kernel
theorem dX7_leftWithMore_25 : decode cX7_leftWithMore 25 = .ok (.iload 4, 2) := by decide +kernel
theorem dX7_leftWithMore_27 : decode cX7_leftWithMore 27 = .ok (.iload_n 3, 1) := by decide +kernel
theorem dX7_leftWithMore_28 : decode cX7_leftWithMore 28 = .ok (.iadd, 1) := by decide +kernel
theorem dX7_leftWithMore_29 : decode cX7_leftWithMore 29 = .ok (.invokestatic 94, 3) := by decide +kernel
theorem dX7_leftWithMore_32 : decode cX7_leftWithMore 32 = .ok (.iload_n 1, 1) := by decide +kernel
theorem dX7_leftWithMore_33 : decode cX7_leftWithMore 33 = .ok (.iload 5, 2) := by decide +kernel
theorem dX7_leftWithMore_35 : decode cX7_leftWithMore 35 = .ok (.invokevirtual 97, 3) := by decide +kernel
theorem dX7_leftWithMore_38 : decode cX7_leftWithMore 38 = .ok (.istore 4, 2) := by decide +kernel
theorem dX7_leftWithMore_40 : decode cX7_leftWithMore 40 = .ok (.iinc 5 1, 3) := by decide +kernel
theorem dX7_leftWithMore_43 : decode cX7_leftWithMore 43 = .ok (.goto (-32), 3) := by decide +kernel
theorem dX7_leftWithMore_46 : decode cX7_leftWithMore 46 = .ok (.iload 4, 2) := by decide +kernel
theorem dX7_leftWithMore_48 : decode cX7_leftWithMore 48 = .ok (.ireturn, 1) := by decide +kernel
theorem dX8_init_0 : decode cX8_init 0 = .ok (.aload_n 0, 1) := by decide +kernel
theorem dX8_init_1 : decode cX8_init 1 = .ok (.invokespecial 3, 3) := by decide +kernel
theorem dX8_init_4 : decode cX8_init 4 = .ok (.aload_n 0, 1) := by decide +kernel
theorem dX8_init_5 : decode cX8_init 5 = .ok (.iconst 0, 1) := by decide +kernel
theorem dX8_init_6 : decode cX8_init 6 = .ok (.putfield 9, 3) := by decide +kernel
theorem dX8_init_9 : decode cX8_init 9 = .ok (.aload_n 0, 1) := by decide +kernel
theorem dX8_init_10 : decode cX8_init 10 = .ok (.iconst 0, 1) := by decide +kernel
theorem dX8_init_11 : decode cX8_init 11 = .ok (.putfield 15, 3) := by decide +kernel
theorem dX8_init_14 : decode cX8_init 14 = .ok (.aload_n 0, 1) := by decide +kernel
theorem dX8_init_15 : decode cX8_init 15 = .ok (.iconst 0, 1) := by decide +kernel
theorem dX8_init_16 : decode cX8_init 16 = .ok (.putfield 18, 3) := by decide +kernel
theorem dX8_init_19 : decode cX8_init 19 = .ok (.aload_n 0, 1) := by decide +kernel
theorem dX8_init_20 : decode cX8_init 20 = .ok (.iconst 0, 1) := by decide +kernel
theorem dX8_init_21 : decode cX8_init 21 = .ok (.putfield 21, 3) := by decide +kernel
theorem dX8_init_24 : decode cX8_init 24 = .ok (.aload_n 0, 1) := by decide +kernel
theorem dX8_init_25 : decode cX8_init 25 = .ok (.iconst 0, 1) := by decide +kernel
theorem dX8_init_26 : decode cX8_init 26 = .ok (.putfield 24, 3) := by decide +kernel
theorem dX8_init_29 : decode cX8_init 29 = .ok (.aload_n 0, 1) := by decide +kernel
theorem dX8_init_30 : decode cX8_init 30 = .ok (.iconst 0, 1) := by decide +kernel
theorem dX8_init_31 : decode cX8_init 31 = .ok (.putfield 27, 3) := by decide +kernel
theorem dX8_init_34 : decode cX8_init 34 = .ok (.aload_n 0, 1) := by decide +kernel
theorem dX8_init_35 : decode cX8_init 35 = .ok (.bipush 6, 2) := by decide +kernel
theorem dX8_init_37 : decode cX8_init 37 = .ok (.newarray .int, 2) := by decide +kernel
theorem dX8_init_39 : decode cX8_init 39 = .ok (.putfield 30, 3) := by decide +kernel
theorem dX8_init_42 : decode cX8_init 42 = .ok (.aload_n 0, 1) := by decide +kernel
theorem dX8_init_43 : decode cX8_init 43 = .ok (.bipush 6, 2) := by decide +kernel
theorem dX8_init_45 : decode cX8_init 45 = .ok (.newarray .int, 2) := by decide +kernel
theorem dX8_init_47 : decode cX8_init 47 = .ok (.putfield 34, 3) := by decide +kernel
theorem dX8_init_50 : decode cX8_init 50 = .ok (.aload_n 0, 1) := by decide +kernel
theorem dX8_init_51 : decode cX8_init 51 = .ok (.bipush 6, 2) := by decide +kernel
theorem dX8_init_53 : decode cX8_init 53 = .ok (.newarray .int, 2) := by decide +kernel
theorem dX8_init_55 : decode cX8_init 55 = .ok (.putfield 37, 3) := by decide +kernel
theorem dX8_init_58 : decode cX8_init 58 = .ok (.aload_n 0, 1) := by decide +kernel
theorem dX8_init_59 : decode cX8_init 59 = .ok (.bipush 6, 2) := by decide +kernel
theorem dX8_init_61 : decode cX8_init 61 = .ok (.newarray .int, 2) := by decide +kernel
theorem dX8_init_63 : decode cX8_init 63 = .ok (.putfield 40, 3) := by decide +kernel
theorem dX8_init_66 : decode cX8_init 66 = .ok (.aload_n 0, 1) := by decide +kernel
theorem dX8_init_67 : decode cX8_init 67 = .ok (.bipush 8, 2) := by decide +kernel
theorem dX8_init_69 : decode cX8_init 69 = .ok (.newarray .int, 2) := by decide +kernel
theorem dX8_init_71 : decode cX8_init 71 = .ok (.putfield 43, 3) := by decide +kernel
theorem dX8_init_74 : decode cX8_init 74 = .ok (.aload_n 0, 1) := by decide +kernel
theorem dX8_init_75 : decode cX8_init 75 = .ok (.bipush 8, 2) := by decide +kernel
theorem dX8_init_77 : decode cX8_init 77 = .ok (.newarray .int, 2) := by decide +kernel
theorem dX8_init_79 : decode cX8_init 79 = .ok (.putfield 46, 3) := by decide +kernel
theorem dX8_init_82 : decode cX8_init 82 = .ok (.aload_n 0, 1) := by decide +kernel
theorem dX8_init_83 : decode cX8_init 83 = .ok (.bipush 8, 2) := by decide +kernel
theorem dX8_init_85 : decode cX8_init 85 = .ok (.newarray .int, 2) := by decide +kernel
theorem dX8_init_87 : decode cX8_init 87 = .ok (.putfield 49, 3) := by decide +kernel
theorem dX8_init_90 : decode cX8_init 90 = .ok (.aload_n 0, 1) := by decide +kernel
theorem dX8_init_91 : decode cX8_init 91 = .ok (.bipush 8, 2) := by decide +kernel
theorem dX8_init_93 : decode cX8_init 93 = .ok (.newarray .int, 2) := by decide +kernel
theorem dX8_init_95 : decode cX8_init 95 = .ok (.putfield 52, 3) := by decide +kernel
theorem dX8_init_98 : decode cX8_init 98 = .ok (.aload_n 0, 1) := by decide +kernel
theorem dX8_init_99 : decode cX8_init 99 = .ok (.new 55, 3) := by decide +kernel
theorem dX8_init_102 : decode cX8_init 102 = .ok (.dup, 1) := by decide +kernel
theorem dX8_init_103 : decode cX8_init 103 = .ok (.invokespecial 57, 3) := by decide +kernel
theorem dX8_init_106 : decode cX8_init 106 = .ok (.putfield 58, 3) := by decide +kernel
theorem dX8_init_109 : decode cX8_init 109 = .ok (.return_, 1) := by decide +kernel
theorem dX8_begin_0 : decode cX8_begin 0 = .ok (.aload_n 0, 1) := by decide +kernel
theorem dX8_begin_1 : decode cX8_begin 1 = .ok (.iconst 0, 1) := by decide +kernel
theorem dX8_begin_2 : decode cX8_begin 2 = .ok (.putfield 9, 3) := by decide +kernel
theorem dX8_begin_5 : decode cX8_begin 5 = .ok (.aload_n 0, 1) := by decide +kernel
theorem dX8_begin_6 : decode cX8_begin 6 = .ok (.iconst 0, 1) := by decide +kernel
theorem dX8_begin_7 : decode cX8_begin 7 = .ok (.putfield 15, 3) := by decide +kernel
theorem dX8_begin_10 : decode cX8_begin 10 = .ok (.aload_n 0, 1) := by decide +kernel
theorem dX8_begin_11 : decode cX8_begin 11 = .ok (.iconst 0, 1) := by decide +kernel
theorem dX8_begin_12 : decode cX8_begin 12 = .ok (.putfield 18, 3) := by decide +kernel
theorem dX8_begin_15 : decode cX8_begin 15 = .ok (.aload_n 0, 1) := by decide +kernel
theorem dX8_begin_16 : decode cX8_begin 16 = .ok (.iconst 0, 1) := by decide +kernel
theorem dX8_begin_17 : decode cX8_begin 17 = .ok (.putfield 21, 3) := by decide +kernel
theorem dX8_begin_20 : decode cX8_begin 20 = .ok (.aload_n 0, 1) := by decide +kernel
theorem dX8_begin_21 : decode cX8_begin 21 = .ok (.iconst 0, 1) := by decide +kernel
theorem dX8_begin_22 : decode cX8_begin 22 = .ok (.putfield 24, 3) := by decide +kernel
theorem dX8_begin_25 : decode cX8_begin 25 = .ok (.aload_n 0, 1) := by decide +kernel
theorem dX8_begin_26 : decode cX8_begin 26 = .ok (.iconst 0, 1) := by decide +kernel
theorem dX8_begin_27 : decode cX8_begin 27 = .ok (.putfield 27, 3) := by decide +kernel
theorem dX8_begin_30 : decode cX8_begin 30 = .ok (.aload_n 0, 1) := by decide +kernel
theorem dX8_begin_31 : decode cX8_begin 31 = .ok (.getfield 58, 3) := by decide +kernel
theorem dX8_begin_34 : decode cX8_begin 34 = .ok (.iconst 0, 1) := by decide +kernel
theorem dX8_begin_35 : decode cX8_begin 35 = .ok (.putfield 62, 3) := by decide +kernel
theorem dX8_begin_38 : decode cX8_begin 38 = .ok (.return_, 1) := by decide +kernel
theorem dX8_copy_0 : decode cX8_copy 0 = .ok (.aload_n 0, 1) := by decide +kernel
theorem dX8_copy_1 : decode cX8_copy 1 = .ok (.aload_n 1, 1) := by decide +kernel
theorem dX8_copy_2 : decode cX8_copy 2 = .ok (.getfield 9, 3) := by decide +kernel
theorem dX8_copy_5 : decode cX8_copy 5 = .ok (.putfield 9, 3) := by decide +kernel
theorem dX8_copy_8 : decode cX8_copy 8 = .ok (.aload_n 0, 1) := by decide +kernel
theorem dX8_copy_9 : decode cX8_copy 9 = .ok (.aload_n 1, 1) := by decide +kernel
theorem dX8_copy_10 : decode cX8_copy 10 = .ok (.getfield 15, 3) := by decide +kernel
theorem dX8_copy_13 : decode cX8_copy 13 = .ok (.putfield 15, 3) := by decide +kernel
theorem dX8_copy_16 : decode cX8_copy 16 = .ok (.aload_n 0, 1) := by decide +kernel
theorem dX8_copy_17 : decode cX8_copy 17 = .ok (.aload_n 1, 1) := by decide +kernel
theorem dX8_copy_18 : decode cX8_copy 18 = .ok (.getfield 18, 3) := by decide +kernel
theorem dX8_copy_21 : decode cX8_copy 21 = .ok (.putfield 18, 3) := by decide +kernel
theorem dX8_copy_24 : decode cX8_copy 24 = .ok (.aload_n 0, 1) := by decide +kernel
theorem dX8_copy_25 : decode cX8_copy 25 = .ok (.aload_n 1, 1) := by decide +kernel
theorem dX8_copy_26 : decode cX8_copy 26 = .ok (.getfield 21, 3) := by decide +kernel
theorem dX8_copy_29 : decode cX8_copy 29 = .ok (.putfield 21, 3) := by decide +kernel
theorem dX8_copy_32 : decode cX8_copy 32 = .ok (.aload_n 0, 1) := by decide +kernel
theorem dX8_copy_33 : decode cX8_copy 33 = .ok (.aload_n 1, 1) := by decide +kernel
theorem dX8_copy_34 : decode cX8_copy 34 = .ok (.getfield 24, 3) := by decide +kernel
theorem dX8_copy_37 : decode cX8_copy 37 = .ok (.putfield 24, 3) := by decide +kernel
theorem dX8_copy_40 : decode cX8_copy 40 = .ok (.aload_n 0, 1) := by decide +kernel
theorem dX8_copy_41 : decode cX8_copy 41 = .ok (.aload_n 1, 1) := by decide +kernel
theorem dX8_copy_42 : decode cX8_copy 42 = .ok (.getfield 27, 3) := by decide +kernel
theorem dX8_copy_45 : decode cX8_copy 45 = .ok (.putfield 27, 3) := by decide +kernel
theorem dX8_copy_48 : decode cX8_copy 48 = .ok (.aload_n 1, 1) := by decide +kernel
theorem dX8_copy_49 : decode cX8_copy 49 = .ok (.getfield 30, 3) := by decide +kernel
theorem dX8_copy_52 : decode cX8_copy 52 = .ok (.iconst 0, 1) := by decide +kernel
theorem dX8_copy_53 : decode cX8_copy 53 = .ok (.aload_n 0, 1) := by decide +kernel
theorem dX8_copy_54 : decode cX8_copy 54 = .ok (.getfield 30, 3) := by decide +kernel
theorem dX8_copy_57 : decode cX8_copy 57 = .ok (.iconst 0, 1) := by decide +kernel
theorem dX8_copy_58 : decode cX8_copy 58 = .ok (.bipush 6, 2) := by decide +kernel
theorem dX8_copy_60 : decode cX8_copy 60 = .ok (.invokestatic 65, 3) := by decide +kernel
theorem dX8_copy_63 : decode cX8_copy 63 = .ok (.aload_n 1, 1) := by decide +kernel
theorem dX8_copy_64 : decode cX8_copy 64 = .ok (.getfield 34, 3) := by decide +kernel
theorem dX8_copy_67 : decode cX8_copy 67 = .ok (.iconst 0, 1) := by decide +kernel
theorem dX8_copy_68 : decode cX8_copy 68 = .ok (.aload_n 0, 1) := by decide +kernel
theorem dX8_copy_69 : decode cX8_copy 69 = .ok (.getfield 34, 3) := by decide +kernel
theorem dX8_copy_72 : decode cX8_copy 72 = .ok (.iconst 0, 1) := by decide +kernel
theorem dX8_copy_73 : decode cX8_copy 73 = .ok (.bipush 6, 2) := by decide +kernel
theorem dX8_copy_75 : decode cX8_copy 75 = .ok (.invokestatic 65, 3) := by decide +kernel
theorem dX8_copy_78 : decode cX8_copy 78 = .ok (.aload_n 1, 1) := by decide +kernel
theorem dX8_copy_79 : decode cX8_copy 79 = .ok (.getfield 37, 3) := by decide +kernel
theorem dX8_copy_82 : decode cX8_copy 82 = .ok (.iconst 0, 1) := by decide +kernel
theorem dX8_copy_83 : decode cX8_copy 83 = .ok (.aload_n 0, 1) := by decide +kernel
theorem dX8_copy_84 : decode cX8_copy 84 = .ok (.getfield 37, 3) := by decide +kernel
theorem dX8_copy_87 : decode cX8_copy 87 = .ok (.iconst 0, 1) := by decide +kernel
theorem dX8_copy_88 : decode cX8_copy 88 = .ok (.bipush 6, 2) := by decide +kernel
theorem dX8_copy_90 : decode cX8_copy 90 = .ok (.invokestatic 65, 3) := by decide +kernel
theorem dX8_copy_93 : decode cX8_copy 93 = .ok (.aload_n 1, 1) := by decide +kernel
theorem dX8_copy_94 : decode cX8_copy 94 = .ok (.getfield 40, 3) := by decide +kernel
theorem dX8_copy_97 : decode cX8_copy 97 = .ok (.iconst 0, 1) := by decide +kernel
theorem dX8_copy_98 : decode cX8_copy 98 = .ok (.aload_n 0, 1) := by decide +kernel
theorem dX8_copy_99 : decode cX8_copy 99 = .ok (.getfield 40, 3) := by decide +kernel
theorem dX8_copy_102 : decode cX8_copy 102 = .ok (.iconst 0, 1) := by decide +kernel
theorem dX8_copy_103 : decode cX8_copy 103 = .ok (.bipush 6, 2) := by decide +kernel
theorem dX8_copy_105 : decode cX8_copy 105 = .ok (.invokestatic 65, 3) := by decide +kernel
theorem dX8_copy_108 : decode cX8_copy 108 = .ok (.aload_n 1, 1) := by decide +kernel
theorem dX8_copy_109 : decode cX8_copy 109 = .ok (.getfield 43, 3) := by decide +kernel
theorem dX8_copy_112 : decode cX8_copy 112 = .ok (.iconst 0, 1) := by decide +kernel
theorem dX8_copy_113 : decode cX8_copy 113 = .ok (.aload_n 0, 1) := by decide +kernel
theorem dX8_copy_114 : decode cX8_copy 114 = .ok (.getfield 43, 3) := by decide +kernel
theorem dX8_copy_117 : decode cX8_copy 117 = .ok (.iconst 0, 1) := by decide +kernel
theorem dX8_copy_118 : decode cX8_copy 118 = .ok (.bipush 8, 2) := by decide +kernel
theorem dX8_copy_120 : decode cX8_copy 120 = .ok (.invokestatic 65, 3) := by decide +kernel
theorem dX8_copy_123 : decode cX8_copy 123 = .ok (.aload_n 1, 1) := by decide +kernel
theorem dX8_copy_124 : decode cX8_copy 124 = .ok (.getfield 46, 3) := by decide +kernel
theorem dX8_copy_127 : decode cX8_copy 127 = .ok (.iconst 0, 1) := by decide +kernel
theorem dX8_copy_128 : decode cX8_copy 128 = .ok (.aload_n 0, 1) := by decide +kernel
theorem dX8_copy_129 : decode cX8_copy 129 = .ok (.getfield 46, 3) := by decide +kernel
theorem dX8_copy_132 : decode cX8_copy 132 = .ok (.iconst 0, 1) := by decide +kernel
theorem dX8_copy_133 : decode cX8_copy 133 = .ok (.bipush 8, 2) := by decide +kernel
theorem dX8_copy_135 : decode cX8_copy 135 = .ok (.invokestatic 65, 3) := by decide +kernel
theorem dX8_copy_138 : decode cX8_copy 138 = .ok (.aload_n 1, 1) := by decide +kernel
theorem dX8_copy_139 : decode cX8_copy 139 = .ok (.getfield 49, 3) := by decide +kernel
theorem dX8_copy_142 : decode cX8_copy 142 = .ok (.iconst 0, 1) := by decide +kernel
theorem dX8_copy_143 : decode cX8_copy 143 = .ok (.aload_n 0, 1) := by decide +kernel
theorem dX8_copy_144 : decode cX8_copy 144 = .ok (.getfield 49, 3) := by decide +kernel
theorem dX8_copy_147 : decode cX8_copy 147 = .ok (.iconst 0, 1) := by decide +kernel
theorem dX8_copy_148 : decode cX8_copy 148 = .ok (.bipush 8, 2) := by decide +kernel
theorem dX8_copy_150 : decode cX8_copy 150 = .ok (.invokestatic 65, 3) := by decide +kernel
theorem dX8_copy_153 : decode cX8_copy 153 = .ok (.aload_n 1, 1) := by decide +kernel
theorem dX8_copy_154 : decode cX8_copy 154 = .ok (.getfield 52, 3) := by decide +kernel
theorem dX8_copy_157 : decode cX8_copy 157 = .ok (.iconst 0, 1) := by decide +kernel
theorem dX8_copy_158 : decode cX8_copy 158 = .ok (.aload_n 0, 1) := by decide +kernel
theorem dX8_copy_159 : decode cX8_copy 159 = .ok (.getfield 52, 3) := by decide +kernel
theorem dX8_copy_162 : decode cX8_copy 162 = .ok (.iconst 0, 1) := by decide +kernel
theorem dX8_copy_163 : decode cX8_copy 163 = .ok (.bipush 8, 2) := by decide +kernel
theorem dX8_copy_165 : decode cX8_copy 165 = .ok (.invokestatic 65, 3) := by decide +kernel
theorem dX8_copy_168 : decode cX8_copy 168 = .ok (.aload_n 0, 1) := by decide +kernel
theorem dX8_copy_169 : decode cX8_copy 169 = .ok (.getfield 58, 3) := by decide +kernel
theorem dX8_copy_172 : decode cX8_copy 172 = .ok (.aload_n 1, 1) := by decide +kernel
theorem dX8_copy_173 : decode cX8_copy 173 = .ok (.getfield 58, 3) := by decide +kernel
theorem dX8_copy_176 : decode cX8_copy 176 = .ok (.invokevirtual 71, 3) := by decide +kernel
theorem dX8_copy_179 : decode cX8_copy 179 = .ok (.return_, 1) := by decide +kernel
theorem dX8_hasPair_0 : decode cX8_hasPair 0 = .ok (.iload_n 1, 1) := by decide +kernel
theorem dX8_hasPair_1 : decode cX8_hasPair 1 = .ok (.ifCond .lt 15, 3) := by decide +kernel
theorem dX8_hasPair_4 : decode cX8_hasPair 4 = .ok (.iload_n 1, 1) := by decide +kernel
theorem dX8_hasPair_5 : decode cX8_hasPair 5 = .ok (.aload_n 0, 1) := by decide +kernel
theorem dX8_hasPair_6 : decode cX8_hasPair 6 = .ok (.getfield 21, 3) := by decide +kernel
theorem dX8_hasPair_9 : decode cX8_hasPair 9 = .ok (.if_icmp .ge 7, 3) := by decide +kernel
theorem dX8_hasPair_12 : decode cX8_hasPair 12 = .ok (.iconst 1, 1) := by decide +kernel
theorem dX8_hasPair_13 : decode cX8_hasPair 13 = .ok (.goto 4, 3) := by decide +kernel
theorem dX8_hasPair_16 : decode cX8_hasPair 16 = .ok (.iconst 0, 1) := by decide +kernel
theorem dX8_hasPair_17 : decode cX8_hasPair 17 = .ok (.ireturn, 1) := by decide +kernel
theorem dX8_addPair_0 : decode cX8_addPair 0 = .ok (.aload_n 0, 1) := by decide +kernel
theorem dX8_addPair_1 : decode cX8_addPair 1 = .ok (.getfield 21, 3) := by decide +kernel
theorem dX8_addPair_4 : decode cX8_addPair 4 = .ok (.bipush 6, 2) := by decide +kernel
theorem dX8_addPair_6 : decode cX8_addPair 6 = .ok (.if_icmp .lt 6, 3) := by decide +kernel
theorem dX8_addPair_9 : decode cX8_addPair 9 = .ok (.bipush (-4), 2) := by decide +kernel
theorem dX8_addPair_11 : decode cX8_addPair 11 = .ok (.ireturn, 1) := by decide +kernel
theorem dX8_addPair_12 : decode cX8_addPair 12 = .ok (.aload_n 0, 1) := by decide +kernel
theorem dX8_addPair_13 : decode cX8_addPair 13 = .ok (.getfield 30, 3) := by decide +kernel
theorem dX8_addPair_16 : decode cX8_addPair 16 = .ok (.aload_n 0, 1) := by decide +kernel
theorem dX8_addPair_17 : decode cX8_addPair 17 = .ok (.getfield 21, 3) := by decide +kernel
theorem dX8_addPair_20 : decode cX8_addPair 20 = .ok (.iload_n 1, 1) := by decide +kernel
theorem dX8_addPair_21 : decode cX8_addPair 21 = .ok (.iastore, 1) := by decide +kernel
theorem dX8_addPair_22 : decode cX8_addPair 22 = .ok (.aload_n 0, 1) := by decide +kernel
theorem dX8_addPair_23 : decode cX8_addPair 23 = .ok (.getfield 34, 3) := by decide +kernel
theorem dX8_addPair_26 : decode cX8_addPair 26 = .ok (.aload_n 0, 1) := by decide +kernel
theorem dX8_addPair_27 : decode cX8_addPair 27 = .ok (.getfield 21, 3) := by decide +kernel
theorem dX8_addPair_30 : decode cX8_addPair 30 = .ok (.iload_n 2, 1) := by decide +kernel
theorem dX8_addPair_31 : decode cX8_addPair 31 = .ok (.iastore, 1) := by decide +kernel
theorem dX8_addPair_32 : decode cX8_addPair 32 = .ok (.aload_n 0, 1) := by decide +kernel
theorem dX8_addPair_33 : decode cX8_addPair 33 = .ok (.getfield 37, 3) := by decide +kernel
theorem dX8_addPair_36 : decode cX8_addPair 36 = .ok (.aload_n 0, 1) := by decide +kernel
theorem dX8_addPair_37 : decode cX8_addPair 37 = .ok (.getfield 21, 3) := by decide +kernel
theorem dX8_addPair_40 : decode cX8_addPair 40 = .ok (.aload_n 0, 1) := by decide +kernel
theorem dX8_addPair_41 : decode cX8_addPair 41 = .ok (.getfield 9, 3) := by decide +kernel
theorem dX8_addPair_44 : decode cX8_addPair 44 = .ok (.iastore, 1) := by decide +kernel
theorem dX8_addPair_45 : decode cX8_addPair 45 = .ok (.aload_n 0, 1) := by decide +kernel
theorem dX8_addPair_46 : decode cX8_addPair 46 = .ok (.getfield 40, 3) := by decide +kernel
theorem dX8_addPair_49 : decode cX8_addPair 49 = .ok (.aload_n 0, 1) := by decide +kernel
theorem dX8_addPair_50 : decode cX8_addPair 50 = .ok (.getfield 21, 3) := by decide +kernel
theorem dX8_addPair_53 : decode cX8_addPair 53 = .ok (.iconst (-1), 1) := by decide +kernel
theorem dX8_addPair_54 : decode cX8_addPair 54 = .ok (.iastore, 1) := by decide +kernel
theorem dX8_addPair_55 : decode cX8_addPair 55 = .ok (.aload_n 0, 1) := by decide +kernel
theorem dX8_addPair_56 : decode cX8_addPair 56 = .ok (.getfield 58, 3) := by decide +kernel
theorem dX8_addPair_59 : decode cX8_addPair 59 = .ok (.iconst 0, 1) := by decide +kernel
theorem dX8_addPair_60 : decode cX8_addPair 60 = .ok (.putfield 62, 3) := by decide +kernel
theorem dX8_addPair_63 : decode cX8_addPair 63 = .ok (.aload_n 0, 1) := by decide +kernel
theorem dX8_addPair_64 : decode cX8_addPair 64 = .ok (.dup, 1) := by decide +kernel
theorem dX8_addPair_65 : decode cX8_addPair 65 = .ok (.getfield 21, 3) := by decide +kernel
theorem dX8_addPair_68 : decode cX8_addPair 68 = .ok (.dup_x1, 1) := by decide +kernel
theorem dX8_addPair_69 : decode cX8_addPair 69 = .ok (.iconst 1, 1) := by decide +kernel
theorem dX8_addPair_70 : decode cX8_addPair 70 = .ok (.iadd, 1) := by decide +kernel
theorem dX8_addPair_71 : decode cX8_addPair 71 = .ok (.putfield 21, 3) := by decide +kernel
theorem dX8_addPair_74 : decode cX8_addPair 74 = .ok (.ireturn, 1) := by decide +kernel
theorem dX8_addKin_0 : decode cX8_addKin 0 = .ok (.aload_n 0, 1) := by decide +kernel
theorem dX8_addKin_1 : decode cX8_addKin 1 = .ok (.getfield 24, 3) := by decide +kernel
theorem dX8_addKin_4 : decode cX8_addKin 4 = .ok (.bipush 8, 2) := by decide +kernel
theorem dX8_addKin_6 : decode cX8_addKin 6 = .ok (.if_icmp .lt 6, 3) := by decide +kernel
theorem dX8_addKin_9 : decode cX8_addKin 9 = .ok (.bipush (-4), 2) := by decide +kernel
theorem dX8_addKin_11 : decode cX8_addKin 11 = .ok (.ireturn, 1) := by decide +kernel
theorem dX8_addKin_12 : decode cX8_addKin 12 = .ok (.aload_n 0, 1) := by decide +kernel
theorem dX8_addKin_13 : decode cX8_addKin 13 = .ok (.getfield 43, 3) := by decide +kernel
theorem dX8_addKin_16 : decode cX8_addKin 16 = .ok (.aload_n 0, 1) := by decide +kernel
theorem dX8_addKin_17 : decode cX8_addKin 17 = .ok (.getfield 24, 3) := by decide +kernel
theorem dX8_addKin_20 : decode cX8_addKin 20 = .ok (.iload_n 1, 1) := by decide +kernel
theorem dX8_addKin_21 : decode cX8_addKin 21 = .ok (.iastore, 1) := by decide +kernel
theorem dX8_addKin_22 : decode cX8_addKin 22 = .ok (.aload_n 0, 1) := by decide +kernel
theorem dX8_addKin_23 : decode cX8_addKin 23 = .ok (.dup, 1) := by decide +kernel
theorem dX8_addKin_24 : decode cX8_addKin 24 = .ok (.getfield 24, 3) := by decide +kernel
theorem dX8_addKin_27 : decode cX8_addKin 27 = .ok (.dup_x1, 1) := by decide +kernel
theorem dX8_addKin_28 : decode cX8_addKin 28 = .ok (.iconst 1, 1) := by decide +kernel
theorem dX8_addKin_29 : decode cX8_addKin 29 = .ok (.iadd, 1) := by decide +kernel
theorem dX8_addKin_30 : decode cX8_addKin 30 = .ok (.putfield 24, 3) := by decide +kernel
theorem dX8_addKin_33 : decode cX8_addKin 33 = .ok (.ireturn, 1) := by decide +kernel
theorem dX8_addCounted_0 : decode cX8_addCounted 0 = .ok (.aload_n 0, 1) := by decide +kernel
theorem dX8_addCounted_1 : decode cX8_addCounted 1 = .ok (.getfield 27, 3) := by decide +kernel
theorem dX8_addCounted_4 : decode cX8_addCounted 4 = .ok (.bipush 8, 2) := by decide +kernel
theorem dX8_addCounted_6 : decode cX8_addCounted 6 = .ok (.if_icmp .lt 6, 3) := by decide +kernel
theorem dX8_addCounted_9 : decode cX8_addCounted 9 = .ok (.bipush (-4), 2) := by decide +kernel
theorem dX8_addCounted_11 : decode cX8_addCounted 11 = .ok (.ireturn, 1) := by decide +kernel
theorem dX8_addCounted_12 : decode cX8_addCounted 12 = .ok (.aload_n 0, 1) := by decide +kernel
theorem dX8_addCounted_13 : decode cX8_addCounted 13 = .ok (.getfield 46, 3) := by decide +kernel
theorem dX8_addCounted_16 : decode cX8_addCounted 16 = .ok (.aload_n 0, 1) := by decide +kernel
theorem dX8_addCounted_17 : decode cX8_addCounted 17 = .ok (.getfield 27, 3) := by decide +kernel
theorem dX8_addCounted_20 : decode cX8_addCounted 20 = .ok (.iload_n 1, 1) := by decide +kernel
theorem dX8_addCounted_21 : decode cX8_addCounted 21 = .ok (.iastore, 1) := by decide +kernel
theorem dX8_addCounted_22 : decode cX8_addCounted 22 = .ok (.aload_n 0, 1) := by decide +kernel
theorem dX8_addCounted_23 : decode cX8_addCounted 23 = .ok (.getfield 49, 3) := by decide +kernel
theorem dX8_addCounted_26 : decode cX8_addCounted 26 = .ok (.aload_n 0, 1) := by decide +kernel
theorem dX8_addCounted_27 : decode cX8_addCounted 27 = .ok (.getfield 27, 3) := by decide +kernel
theorem dX8_addCounted_30 : decode cX8_addCounted 30 = .ok (.iload_n 2, 1) := by decide +kernel
theorem dX8_addCounted_31 : decode cX8_addCounted 31 = .ok (.iastore, 1) := by decide +kernel
theorem dX8_addCounted_32 : decode cX8_addCounted 32 = .ok (.aload_n 0, 1) := by decide +kernel
theorem dX8_addCounted_33 : decode cX8_addCounted 33 = .ok (.getfield 52, 3) := by decide +kernel
theorem dX8_addCounted_36 : decode cX8_addCounted 36 = .ok (.aload_n 0, 1) := by decide +kernel
theorem dX8_addCounted_37 : decode cX8_addCounted 37 = .ok (.getfield 27, 3) := by decide +kernel
theorem dX8_addCounted_40 : decode cX8_addCounted 40 = .ok (.iload_n 3, 1) := by decide +kernel
theorem dX8_addCounted_41 : decode cX8_addCounted 41 = .ok (.iastore, 1) := by decide +kernel
theorem dX8_addCounted_42 : decode cX8_addCounted 42 = .ok (.aload_n 0, 1) := by decide +kernel
theorem dX8_addCounted_43 : decode cX8_addCounted 43 = .ok (.dup, 1) := by decide +kernel
theorem dX8_addCounted_44 : decode cX8_addCounted 44 = .ok (.getfield 27, 3) := by decide +kernel
theorem dX8_addCounted_47 : decode cX8_addCounted 47 = .ok (.iconst 1, 1) := by decide +kernel
theorem dX8_addCounted_48 : decode cX8_addCounted 48 = .ok (.iadd, 1) := by decide +kernel
theorem dX8_addCounted_49 : decode cX8_addCounted 49 = .ok (.dup_x1, 1) := by decide +kernel
theorem dX8_addCounted_50 : decode cX8_addCounted 50 = .ok (.putfield 27, 3) := by decide +kernel
theorem dX8_addCounted_53 : decode cX8_addCounted 53 = .ok (.ireturn, 1) := by decide +kernel
theorem dX8_passYear_0 : decode cX8_passYear 0 = .ok (.aload_n 0, 1) := by decide +kernel
theorem dX8_passYear_1 : decode cX8_passYear 1 = .ok (.getfield 58, 3) := by decide +kernel
theorem dX8_passYear_4 : decode cX8_passYear 4 = .ok (.aload_n 0, 1) := by decide +kernel
theorem dX8_passYear_5 : decode cX8_passYear 5 = .ok (.getfield 9, 3) := by decide +kernel
theorem dX8_passYear_8 : decode cX8_passYear 8 = .ok (.aload_n 0, 1) := by decide +kernel
theorem dX8_passYear_9 : decode cX8_passYear 9 = .ok (.getfield 34, 3) := by decide +kernel
theorem dX8_passYear_12 : decode cX8_passYear 12 = .ok (.aload_n 0, 1) := by decide +kernel
theorem dX8_passYear_13 : decode cX8_passYear 13 = .ok (.getfield 40, 3) := by decide +kernel
theorem dX8_passYear_16 : decode cX8_passYear 16 = .ok (.invokevirtual 75, 3) := by decide +kernel
theorem dX8_passYear_19 : decode cX8_passYear 19 = .ok (.iconst 0, 1) := by decide +kernel
theorem dX8_passYear_20 : decode cX8_passYear 20 = .ok (.istore_n 1, 1) := by decide +kernel
theorem dX8_passYear_21 : decode cX8_passYear 21 = .ok (.iconst 0, 1) := by decide +kernel
theorem dX8_passYear_22 : decode cX8_passYear 22 = .ok (.istore_n 2, 1) := by decide +kernel
theorem dX8_passYear_23 : decode cX8_passYear 23 = .ok (.iload_n 2, 1) := by decide +kernel
theorem dX8_passYear_24 : decode cX8_passYear 24 = .ok (.aload_n 0, 1) := by decide +kernel
theorem dX8_passYear_25 : decode cX8_passYear 25 = .ok (.getfield 21, 3) := by decide +kernel
theorem dX8_passYear_28 : decode cX8_passYear 28 = .ok (.if_icmp .ge 76, 3) := by decide +kernel
theorem dX8_passYear_31 : decode cX8_passYear 31 = .ok (.aload_n 0, 1) := by decide +kernel
theorem dX8_passYear_32 : decode cX8_passYear 32 = .ok (.getfield 34, 3) := by decide +kernel
theorem dX8_passYear_35 : decode cX8_passYear 35 = .ok (.iload_n 2, 1) := by decide +kernel
theorem dX8_passYear_36 : decode cX8_passYear 36 = .ok (.iaload, 1) := by decide +kernel
theorem dX8_passYear_37 : decode cX8_passYear 37 = .ok (.ifCond .le 61, 3) := by decide +kernel
theorem dX8_passYear_40 : decode cX8_passYear 40 = .ok (.aload_n 0, 1) := by decide +kernel
theorem dX8_passYear_41 : decode cX8_passYear 41 = .ok (.getfield 34, 3) := by decide +kernel
theorem dX8_passYear_44 : decode cX8_passYear 44 = .ok (.iload_n 2, 1) := by decide +kernel
theorem dX8_passYear_45 : decode cX8_passYear 45 = .ok (.aload_n 0, 1) := by decide +kernel
theorem dX8_passYear_46 : decode cX8_passYear 46 = .ok (.getfield 34, 3) := by decide +kernel
theorem dX8_passYear_49 : decode cX8_passYear 49 = .ok (.iload_n 2, 1) := by decide +kernel
theorem dX8_passYear_50 : decode cX8_passYear 50 = .ok (.iaload, 1) := by decide +kernel
theorem dX8_passYear_51 : decode cX8_passYear 51 = .ok (.aload_n 0, 1) := by decide +kernel
theorem dX8_passYear_52 : decode cX8_passYear 52 = .ok (.getfield 30, 3) := by decide +kernel
theorem dX8_passYear_55 : decode cX8_passYear 55 = .ok (.iload_n 2, 1) := by decide +kernel
theorem dX8_passYear_56 : decode cX8_passYear 56 = .ok (.iaload, 1) := by decide +kernel
theorem dX8_passYear_57 : decode cX8_passYear 57 = .ok (.aload_n 0, 1) := by decide +kernel
theorem dX8_passYear_58 : decode cX8_passYear 58 = .ok (.getfield 9, 3) := by decide +kernel
theorem dX8_passYear_61 : decode cX8_passYear 61 = .ok (.aload_n 0, 1) := by decide +kernel
theorem dX8_passYear_62 : decode cX8_passYear 62 = .ok (.getfield 15, 3) := by decide +kernel
theorem dX8_passYear_65 : decode cX8_passYear 65 = .ok (.aload_n 0, 1) := by decide +kernel
theorem dX8_passYear_66 : decode cX8_passYear 66 = .ok (.getfield 18, 3) := by decide +kernel
theorem dX8_passYear_69 : decode cX8_passYear 69 = .ok (.invokestatic 79, 3) := by decide +kernel
theorem dX8_passYear_72 : decode cX8_passYear 72 = .ok (.iastore, 1) := by decide +kernel
theorem dX8_passYear_73 : decode cX8_passYear 73 = .ok (.aload_n 0, 1) := by decide +kernel
theorem dX8_passYear_74 : decode cX8_passYear 74 = .ok (.getfield 34, 3) := by decide +kernel
theorem dX8_passYear_77 : decode cX8_passYear 77 = .ok (.iload_n 2, 1) := by decide +kernel
theorem dX8_passYear_78 : decode cX8_passYear 78 = .ok (.iaload, 1) := by decide +kernel
theorem dX8_passYear_79 : decode cX8_passYear 79 = .ok (.ifCond .ne 19, 3) := by decide +kernel
theorem dX8_passYear_82 : decode cX8_passYear 82 = .ok (.aload_n 0, 1) := by decide +kernel
theorem dX8_passYear_83 : decode cX8_passYear 83 = .ok (.getfield 40, 3) := by decide +kernel
theorem dX8_passYear_86 : decode cX8_passYear 86 = .ok (.iload_n 2, 1) := by decide +kernel
theorem dX8_passYear_87 : decode cX8_passYear 87 = .ok (.aload_n 0, 1) := by decide +kernel
theorem dX8_passYear_88 : decode cX8_passYear 88 = .ok (.getfield 9, 3) := by decide +kernel
theorem dX8_passYear_91 : decode cX8_passYear 91 = .ok (.iastore, 1) := by decide +kernel
theorem dX8_passYear_92 : decode cX8_passYear 92 = .ok (.iload_n 1, 1) := by decide +kernel
theorem dX8_passYear_93 : decode cX8_passYear 93 = .ok (.iconst 1, 1) := by decide +kernel
theorem dX8_passYear_94 : decode cX8_passYear 94 = .ok (.iload_n 2, 1) := by decide +kernel
theorem dX8_passYear_95 : decode cX8_passYear 95 = .ok (.ishl, 1) := by decide +kernel
theorem dX8_passYear_96 : decode cX8_passYear 96 = .ok (.ior, 1) := by decide +kernel
theorem dX8_passYear_97 : decode cX8_passYear 97 = .ok (.istore_n 1, 1) := by decide +kernel
theorem dX8_passYear_98 : decode cX8_passYear 98 = .ok (.iinc 2 1, 3) := by decide +kernel
theorem dX8_passYear_101 : decode cX8_passYear 101 = .ok (.goto (-78), 3) := by decide +kernel
theorem dX8_passYear_104 : decode cX8_passYear 104 = .ok (.aload_n 0, 1) := by decide +kernel
theorem dX8_passYear_105 : decode cX8_passYear 105 = .ok (.dup, 1) := by decide +kernel
theorem dX8_passYear_106 : decode cX8_passYear 106 = .ok (.getfield 9, 3) := by decide +kernel
theorem dX8_passYear_109 : decode cX8_passYear 109 = .ok (.iconst 1, 1) := by decide +kernel
theorem dX8_passYear_110 : decode cX8_passYear 110 = .ok (.iadd, 1) := by decide +kernel
theorem dX8_passYear_111 : decode cX8_passYear 111 = .ok (.putfield 9, 3) := by decide +kernel
theorem dX8_passYear_114 : decode cX8_passYear 114 = .ok (.iload_n 1, 1) := by decide +kernel
theorem dX8_passYear_115 : decode cX8_passYear 115 = .ok (.ireturn, 1) := by decide +kernel
theorem dX8_setLoaves_0 : decode cX8_setLoaves 0 = .ok (.aload_n 0, 1) := by decide +kernel
theorem dX8_setLoaves_1 : decode cX8_setLoaves 1 = .ok (.getfield 58, 3) := by decide +kernel
theorem dX8_setLoaves_4 : decode cX8_setLoaves 4 = .ok (.aload_n 0, 1) := by decide +kernel
theorem dX8_setLoaves_5 : decode cX8_setLoaves 5 = .ok (.getfield 9, 3) := by decide +kernel
theorem dX8_setLoaves_8 : decode cX8_setLoaves 8 = .ok (.aload_n 0, 1) := by decide +kernel
theorem dX8_setLoaves_9 : decode cX8_setLoaves 9 = .ok (.getfield 34, 3) := by decide +kernel
theorem dX8_setLoaves_12 : decode cX8_setLoaves 12 = .ok (.aload_n 0, 1) := by decide +kernel
theorem dX8_setLoaves_13 : decode cX8_setLoaves 13 = .ok (.getfield 40, 3) := by decide +kernel
theorem dX8_setLoaves_16 : decode cX8_setLoaves 16 = .ok (.invokevirtual 75, 3) := by decide +kernel
theorem dX8_setLoaves_19 : decode cX8_setLoaves 19 = .ok (.aload_n 0, 1) := by decide +kernel
theorem dX8_setLoaves_20 : decode cX8_setLoaves 20 = .ok (.getfield 34, 3) := by decide +kernel
theorem dX8_setLoaves_23 : decode cX8_setLoaves 23 = .ok (.iload_n 1, 1) := by decide +kernel
theorem dX8_setLoaves_24 : decode cX8_setLoaves 24 = .ok (.iload_n 2, 1) := by decide +kernel
theorem dX8_setLoaves_25 : decode cX8_setLoaves 25 = .ok (.iastore, 1) := by decide +kernel
theorem dX8_setLoaves_26 : decode cX8_setLoaves 26 = .ok (.return_, 1) := by decide +kernel
theorem dX8_goBack_0 : decode cX8_goBack 0 = .ok (.aload_n 0, 1) := by decide +kernel
theorem dX8_goBack_1 : decode cX8_goBack 1 = .ok (.getfield 58, 3) := by decide +kernel
theorem dX8_goBack_4 : decode cX8_goBack 4 = .ok (.getfield 62, 3) := by decide +kernel
theorem dX8_goBack_7 : decode cX8_goBack 7 = .ok (.ifCond .le 22, 3) := by decide +kernel
theorem dX8_goBack_10 : decode cX8_goBack 10 = .ok (.aload_n 0, 1) := by decide +kernel
theorem dX8_goBack_11 : decode cX8_goBack 11 = .ok (.aload_n 0, 1) := by decide +kernel
theorem dX8_goBack_12 : decode cX8_goBack 12 = .ok (.getfield 58, 3) := by decide +kernel
theorem dX8_goBack_15 : decode cX8_goBack 15 = .ok (.aload_n 0, 1) := by decide +kernel
theorem dX8_goBack_16 : decode cX8_goBack 16 = .ok (.getfield 34, 3) := by decide +kernel
theorem dX8_goBack_19 : decode cX8_goBack 19 = .ok (.aload_n 0, 1) := by decide +kernel
theorem dX8_goBack_20 : decode cX8_goBack 20 = .ok (.getfield 40, 3) := by decide +kernel
theorem dX8_goBack_23 : decode cX8_goBack 23 = .ok (.invokevirtual 85, 3) := by decide +kernel
theorem dX8_goBack_26 : decode cX8_goBack 26 = .ok (.putfield 9, 3) := by decide +kernel
theorem dX8_goBack_29 : decode cX8_goBack 29 = .ok (.return_, 1) := by decide +kernel
theorem dX8_leftAs_0 : decode cX8_leftAs 0 = .ok (.iload_n 2, 1) := by decide +kernel
theorem dX8_leftAs_1 : decode cX8_leftAs 1 = .ok (.istore 5, 2) := by decide +kernel
theorem dX8_leftAs_3 : decode cX8_leftAs 3 = .ok (.iconst 0, 1) := by decide +kernel
theorem dX8_leftAs_4 : decode cX8_leftAs 4 = .ok (.istore 6, 2) := by decide +kernel
theorem dX8_leftAs_6 : decode cX8_leftAs 6 = .ok (.iload 6, 2) := by decide +kernel
theorem dX8_leftAs_8 : decode cX8_leftAs 8 = .ok (.iload_n 3, 1) := by decide +kernel
theorem dX8_leftAs_9 : decode cX8_leftAs 9 = .ok (.if_icmp .ge 35, 3) := by decide +kernel
theorem dX8_leftAs_12 : decode cX8_leftAs 12 = .ok (.iload 5, 2) := by decide +kernel
theorem dX8_leftAs_14 : decode cX8_leftAs 14 = .ok (.ifCond .le 30, 3) := by decide +kernel
theorem dX8_leftAs_17 : decode cX8_leftAs 17 = .ok (.iload 5, 2) := by decide +kernel
theorem dX8_leftAs_19 : decode cX8_leftAs 19 = .ok (.iload_n 1, 1) := by decide +kernel
theorem dX8_leftAs_20 : decode cX8_leftAs 20 = .ok (.aload_n 0, 1) := by decide +kernel
theorem dX8_leftAs_21 : decode cX8_leftAs 21 = .ok (.getfield 9, 3) := by decide +kernel
theorem dX8_leftAs_24 : decode cX8_leftAs 24 = .ok (.iload 6, 2) := by decide +kernel
theorem dX8_leftAs_26 : decode cX8_leftAs 26 = .ok (.iadd, 1) := by decide +kernel
theorem dX8_leftAs_27 : decode cX8_leftAs 27 = .ok (.aload_n 0, 1) := by decide +kernel
theorem dX8_leftAs_28 : decode cX8_leftAs 28 = .ok (.getfield 15, 3) := by decide +kernel
theorem dX8_leftAs_31 : decode cX8_leftAs 31 = .ok (.iload 4, 2) := by decide +kernel
theorem dX8_leftAs_33 : decode cX8_leftAs 33 = .ok (.invokestatic 79, 3) := by decide +kernel
theorem dX8_leftAs_36 : decode cX8_leftAs 36 = .ok (.istore 5, 2) := by decide +kernel
theorem dX8_leftAs_38 : decode cX8_leftAs 38 = .ok (.iinc 6 1, 3) := by decide +kernel
theorem dX8_leftAs_41 : decode cX8_leftAs 41 = .ok (.goto (-35), 3) := by decide +kernel
theorem dX8_leftAs_44 : decode cX8_leftAs 44 = .ok (.iload 5, 2) := by decide +kernel
theorem dX8_leftAs_46 : decode cX8_leftAs 46 = .ok (.ireturn, 1) := by decide +kernel
theorem dX8_leftInYear_0 : decode cX8_leftInYear 0 = .ok (.iload_n 1, 1) := by decide +kernel
theorem dX8_leftInYear_1 : decode cX8_leftInYear 1 = .ok (.aload_n 0, 1) := by decide +kernel
theorem dX8_leftInYear_2 : decode cX8_leftInYear 2 = .ok (.getfield 30, 3) := by decide +kernel
theorem dX8_leftInYear_5 : decode cX8_leftInYear 5 = .ok (.iload_n 2, 1) := by decide +kernel
theorem dX8_leftInYear_6 : decode cX8_leftInYear 6 = .ok (.iaload, 1) := by decide +kernel
theorem dX8_leftInYear_7 : decode cX8_leftInYear 7 = .ok (.aload_n 0, 1) := by decide +kernel
theorem dX8_leftInYear_8 : decode cX8_leftInYear 8 = .ok (.getfield 9, 3) := by decide +kernel
theorem dX8_leftInYear_11 : decode cX8_leftInYear 11 = .ok (.iload_n 3, 1) := by decide +kernel
theorem dX8_leftInYear_12 : decode cX8_leftInYear 12 = .ok (.iadd, 1) := by decide +kernel
theorem dX8_leftInYear_13 : decode cX8_leftInYear 13 = .ok (.aload_n 0, 1) := by decide +kernel
theorem dX8_leftInYear_14 : decode cX8_leftInYear 14 = .ok (.getfield 15, 3) := by decide +kernel
theorem dX8_leftInYear_17 : decode cX8_leftInYear 17 = .ok (.aload_n 0, 1) := by decide +kernel
theorem dX8_leftInYear_18 : decode cX8_leftInYear 18 = .ok (.getfield 18, 3) := by decide +kernel
theorem dX8_leftInYear_21 : decode cX8_leftInYear 21 = .ok (.invokestatic 79, 3) := by decide +kernel
theorem dX8_leftInYear_24 : decode cX8_leftInYear 24 = .ok (.ireturn, 1) := by decide +kernel
theorem dX8_allLoaves_0 : decode cX8_allLoaves 0 = .ok (.iconst 0, 1) := by decide +kernel
theorem dX8_allLoaves_1 : decode cX8_allLoaves 1 = .ok (.istore_n 1, 1) := by decide +kernel
theorem dX8_allLoaves_2 : decode cX8_allLoaves 2 = .ok (.iconst 0, 1) := by decide +kernel
theorem dX8_allLoaves_3 : decode cX8_allLoaves 3 = .ok (.istore_n 2, 1) := by decide +kernel
theorem dX8_allLoaves_4 : decode cX8_allLoaves 4 = .ok (.iload_n 2, 1) := by decide +kernel
theorem dX8_allLoaves_5 : decode cX8_allLoaves 5 = .ok (.aload_n 0, 1) := by decide +kernel
theorem dX8_allLoaves_6 : decode cX8_allLoaves 6 = .ok (.getfield 21, 3) := by decide +kernel
theorem dX8_allLoaves_9 : decode cX8_allLoaves 9 = .ok (.if_icmp .ge 18, 3) := by decide +kernel
theorem dX8_allLoaves_12 : decode cX8_allLoaves 12 = .ok (.iload_n 1, 1) := by decide +kernel
theorem dX8_allLoaves_13 : decode cX8_allLoaves 13 = .ok (.aload_n 0, 1) := by decide +kernel
theorem dX8_allLoaves_14 : decode cX8_allLoaves 14 = .ok (.getfield 34, 3) := by decide +kernel
theorem dX8_allLoaves_17 : decode cX8_allLoaves 17 = .ok (.iload_n 2, 1) := by decide +kernel
theorem dX8_allLoaves_18 : decode cX8_allLoaves 18 = .ok (.iaload, 1) := by decide +kernel
theorem dX8_allLoaves_19 : decode cX8_allLoaves 19 = .ok (.iadd, 1) := by decide +kernel
theorem dX8_allLoaves_20 : decode cX8_allLoaves 20 = .ok (.istore_n 1, 1) := by decide +kernel
theorem dX8_allLoaves_21 : decode cX8_allLoaves 21 = .ok (.iinc 2 1, 3) := by decide +kernel
theorem dX8_allLoaves_24 : decode cX8_allLoaves 24 = .ok (.goto (-20), 3) := by decide +kernel
theorem dX8_allLoaves_27 : decode cX8_allLoaves 27 = .ok (.iload_n 1, 1) := by decide +kernel
theorem dX8_allLoaves_28 : decode cX8_allLoaves 28 = .ok (.ireturn, 1) := by decide +kernel
theorem dX8_digestOn_0 : decode cX8_digestOn 0 = .ok (.ldc2_w 89, 3) := by decide +kernel
theorem dX8_digestOn_3 : decode cX8_digestOn 3 = .ok (.lload_n 1, 1) := by decide +kernel
theorem dX8_digestOn_4 : decode cX8_digestOn 4 = .ok (.lmul, 1) := by decide +kernel
theorem dX8_digestOn_5 : decode cX8_digestOn 5 = .ok (.aload_n 0, 1) := by decide +kernel
theorem dX8_digestOn_6 : decode cX8_digestOn 6 = .ok (.getfield 15, 3) := by decide +kernel
theorem dX8_digestOn_9 : decode cX8_digestOn 9 = .ok (.i2l, 1) := by decide +kernel
theorem dX8_digestOn_10 : decode cX8_digestOn 10 = .ok (.ladd, 1) := by decide +kernel
theorem dX8_digestOn_11 : decode cX8_digestOn 11 = .ok (.lstore_n 3, 1) := by decide +kernel
theorem dX8_digestOn_12 : decode cX8_digestOn 12 = .ok (.ldc2_w 89, 3) := by decide +kernel
theorem dX8_digestOn_15 : decode cX8_digestOn 15 = .ok (.lload_n 3, 1) := by decide +kernel
theorem dX8_digestOn_16 : decode cX8_digestOn 16 = .ok (.lmul, 1) := by decide +kernel
theorem dX8_digestOn_17 : decode cX8_digestOn 17 = .ok (.aload_n 0, 1) := by decide +kernel
theorem dX8_digestOn_18 : decode cX8_digestOn 18 = .ok (.getfield 18, 3) := by decide +kernel
theorem dX8_digestOn_21 : decode cX8_digestOn 21 = .ok (.i2l, 1) := by decide +kernel
theorem dX8_digestOn_22 : decode cX8_digestOn 22 = .ok (.ladd, 1) := by decide +kernel
theorem dX8_digestOn_23 : decode cX8_digestOn 23 = .ok (.lstore_n 3, 1) := by decide +kernel
theorem dX8_digestOn_24 : decode cX8_digestOn 24 = .ok (.iconst 0, 1) := by decide +kernel
theorem dX8_digestOn_25 : decode cX8_digestOn 25 = .ok (.istore 5, 2) := by decide +kernel
theorem dX8_digestOn_27 : decode cX8_digestOn 27 = .ok (.iload 5, 2) := by decide +kernel
theorem dX8_digestOn_29 : decode cX8_digestOn 29 = .ok (.aload_n 0, 1) := by decide +kernel
theorem dX8_digestOn_30 : decode cX8_digestOn 30 = .ok (.getfield 21, 3) := by decide +kernel
theorem dX8_digestOn_33 : decode cX8_digestOn 33 = .ok (.if_icmp .ge 69, 3) := by decide +kernel
theorem dX8_digestOn_36 : decode cX8_digestOn 36 = .ok (.ldc2_w 89, 3) := by decide +kernel
theorem dX8_digestOn_39 : decode cX8_digestOn 39 = .ok (.lload_n 3, 1) := by decide +kernel
theorem dX8_digestOn_40 : decode cX8_digestOn 40 = .ok (.lmul, 1) := by decide +kernel
theorem dX8_digestOn_41 : decode cX8_digestOn 41 = .ok (.aload_n 0, 1) := by decide +kernel
theorem dX8_digestOn_42 : decode cX8_digestOn 42 = .ok (.getfield 30, 3) := by decide +kernel
theorem dX8_digestOn_45 : decode cX8_digestOn 45 = .ok (.iload 5, 2) := by decide +kernel
theorem dX8_digestOn_47 : decode cX8_digestOn 47 = .ok (.iaload, 1) := by decide +kernel
theorem dX8_digestOn_48 : decode cX8_digestOn 48 = .ok (.i2l, 1) := by decide +kernel
theorem dX8_digestOn_49 : decode cX8_digestOn 49 = .ok (.ladd, 1) := by decide +kernel
theorem dX8_digestOn_50 : decode cX8_digestOn 50 = .ok (.lstore_n 3, 1) := by decide +kernel
theorem dX8_digestOn_51 : decode cX8_digestOn 51 = .ok (.ldc2_w 89, 3) := by decide +kernel
theorem dX8_digestOn_54 : decode cX8_digestOn 54 = .ok (.lload_n 3, 1) := by decide +kernel
theorem dX8_digestOn_55 : decode cX8_digestOn 55 = .ok (.lmul, 1) := by decide +kernel
theorem dX8_digestOn_56 : decode cX8_digestOn 56 = .ok (.aload_n 0, 1) := by decide +kernel
theorem dX8_digestOn_57 : decode cX8_digestOn 57 = .ok (.getfield 34, 3) := by decide +kernel
theorem dX8_digestOn_60 : decode cX8_digestOn 60 = .ok (.iload 5, 2) := by decide +kernel
theorem dX8_digestOn_62 : decode cX8_digestOn 62 = .ok (.iaload, 1) := by decide +kernel
theorem dX8_digestOn_63 : decode cX8_digestOn 63 = .ok (.i2l, 1) := by decide +kernel
theorem dX8_digestOn_64 : decode cX8_digestOn 64 = .ok (.ladd, 1) := by decide +kernel
theorem dX8_digestOn_65 : decode cX8_digestOn 65 = .ok (.lstore_n 3, 1) := by decide +kernel
theorem dX8_digestOn_66 : decode cX8_digestOn 66 = .ok (.ldc2_w 89, 3) := by decide +kernel
theorem dX8_digestOn_69 : decode cX8_digestOn 69 = .ok (.lload_n 3, 1) := by decide +kernel
theorem dX8_digestOn_70 : decode cX8_digestOn 70 = .ok (.lmul, 1) := by decide +kernel
theorem dX8_digestOn_71 : decode cX8_digestOn 71 = .ok (.aload_n 0, 1) := by decide +kernel
theorem dX8_digestOn_72 : decode cX8_digestOn 72 = .ok (.getfield 37, 3) := by decide +kernel
theorem dX8_digestOn_75 : decode cX8_digestOn 75 = .ok (.iload 5, 2) := by decide +kernel
theorem dX8_digestOn_77 : decode cX8_digestOn 77 = .ok (.iaload, 1) := by decide +kernel
theorem dX8_digestOn_78 : decode cX8_digestOn 78 = .ok (.i2l, 1) := by decide +kernel
theorem dX8_digestOn_79 : decode cX8_digestOn 79 = .ok (.ladd, 1) := by decide +kernel
theorem dX8_digestOn_80 : decode cX8_digestOn 80 = .ok (.lstore_n 3, 1) := by decide +kernel
theorem dX8_digestOn_81 : decode cX8_digestOn 81 = .ok (.ldc2_w 89, 3) := by decide +kernel
theorem dX8_digestOn_84 : decode cX8_digestOn 84 = .ok (.lload_n 3, 1) := by decide +kernel
theorem dX8_digestOn_85 : decode cX8_digestOn 85 = .ok (.lmul, 1) := by decide +kernel
theorem dX8_digestOn_86 : decode cX8_digestOn 86 = .ok (.aload_n 0, 1) := by decide +kernel
theorem dX8_digestOn_87 : decode cX8_digestOn 87 = .ok (.getfield 40, 3) := by decide +kernel
theorem dX8_digestOn_90 : decode cX8_digestOn 90 = .ok (.iload 5, 2) := by decide +kernel
theorem dX8_digestOn_92 : decode cX8_digestOn 92 = .ok (.iaload, 1) := by decide +kernel
theorem dX8_digestOn_93 : decode cX8_digestOn 93 = .ok (.i2l, 1) := by decide +kernel
theorem dX8_digestOn_94 : decode cX8_digestOn 94 = .ok (.ladd, 1) := by decide +kernel
theorem dX8_digestOn_95 : decode cX8_digestOn 95 = .ok (.lstore_n 3, 1) := by decide +kernel
theorem dX8_digestOn_96 : decode cX8_digestOn 96 = .ok (.iinc 5 1, 3) := by decide +kernel
theorem dX8_digestOn_99 : decode cX8_digestOn 99 = .ok (.goto (-72), 3) := by decide +kernel
theorem dX8_digestOn_102 : decode cX8_digestOn 102 = .ok (.iconst 0, 1) := by decide +kernel
theorem dX8_digestOn_103 : decode cX8_digestOn 103 = .ok (.istore 5, 2) := by decide +kernel
theorem dX8_digestOn_105 : decode cX8_digestOn 105 = .ok (.iload 5, 2) := by decide +kernel
theorem dX8_digestOn_107 : decode cX8_digestOn 107 = .ok (.aload_n 0, 1) := by decide +kernel
theorem dX8_digestOn_108 : decode cX8_digestOn 108 = .ok (.getfield 24, 3) := by decide +kernel
theorem dX8_digestOn_111 : decode cX8_digestOn 111 = .ok (.if_icmp .ge 24, 3) := by decide +kernel
theorem dX8_digestOn_114 : decode cX8_digestOn 114 = .ok (.ldc2_w 89, 3) := by decide +kernel
theorem dX8_digestOn_117 : decode cX8_digestOn 117 = .ok (.lload_n 3, 1) := by decide +kernel
theorem dX8_digestOn_118 : decode cX8_digestOn 118 = .ok (.lmul, 1) := by decide +kernel
theorem dX8_digestOn_119 : decode cX8_digestOn 119 = .ok (.aload_n 0, 1) := by decide +kernel
theorem dX8_digestOn_120 : decode cX8_digestOn 120 = .ok (.getfield 43, 3) := by decide +kernel
theorem dX8_digestOn_123 : decode cX8_digestOn 123 = .ok (.iload 5, 2) := by decide +kernel
theorem dX8_digestOn_125 : decode cX8_digestOn 125 = .ok (.iaload, 1) := by decide +kernel
theorem dX8_digestOn_126 : decode cX8_digestOn 126 = .ok (.i2l, 1) := by decide +kernel
theorem dX8_digestOn_127 : decode cX8_digestOn 127 = .ok (.ladd, 1) := by decide +kernel
theorem dX8_digestOn_128 : decode cX8_digestOn 128 = .ok (.lstore_n 3, 1) := by decide +kernel
theorem dX8_digestOn_129 : decode cX8_digestOn 129 = .ok (.iinc 5 1, 3) := by decide +kernel
theorem dX8_digestOn_132 : decode cX8_digestOn 132 = .ok (.goto (-27), 3) := by decide +kernel
theorem dX8_digestOn_135 : decode cX8_digestOn 135 = .ok (.iconst 0, 1) := by decide +kernel
theorem dX8_digestOn_136 : decode cX8_digestOn 136 = .ok (.istore 5, 2) := by decide +kernel
theorem dX8_digestOn_138 : decode cX8_digestOn 138 = .ok (.iload 5, 2) := by decide +kernel
theorem dX8_digestOn_140 : decode cX8_digestOn 140 = .ok (.aload_n 0, 1) := by decide +kernel
theorem dX8_digestOn_141 : decode cX8_digestOn 141 = .ok (.getfield 27, 3) := by decide +kernel
theorem dX8_digestOn_144 : decode cX8_digestOn 144 = .ok (.if_icmp .ge 54, 3) := by decide +kernel
theorem dX8_digestOn_147 : decode cX8_digestOn 147 = .ok (.ldc2_w 89, 3) := by decide +kernel
theorem dX8_digestOn_150 : decode cX8_digestOn 150 = .ok (.lload_n 3, 1) := by decide +kernel
theorem dX8_digestOn_151 : decode cX8_digestOn 151 = .ok (.lmul, 1) := by decide +kernel
theorem dX8_digestOn_152 : decode cX8_digestOn 152 = .ok (.aload_n 0, 1) := by decide +kernel
theorem dX8_digestOn_153 : decode cX8_digestOn 153 = .ok (.getfield 46, 3) := by decide +kernel
theorem dX8_digestOn_156 : decode cX8_digestOn 156 = .ok (.iload 5, 2) := by decide +kernel
theorem dX8_digestOn_158 : decode cX8_digestOn 158 = .ok (.iaload, 1) := by decide +kernel
theorem dX8_digestOn_159 : decode cX8_digestOn 159 = .ok (.i2l, 1) := by decide +kernel
theorem dX8_digestOn_160 : decode cX8_digestOn 160 = .ok (.ladd, 1) := by decide +kernel
theorem dX8_digestOn_161 : decode cX8_digestOn 161 = .ok (.lstore_n 3, 1) := by decide +kernel
theorem dX8_digestOn_162 : decode cX8_digestOn 162 = .ok (.ldc2_w 89, 3) := by decide +kernel
theorem dX8_digestOn_165 : decode cX8_digestOn 165 = .ok (.lload_n 3, 1) := by decide +kernel
theorem dX8_digestOn_166 : decode cX8_digestOn 166 = .ok (.lmul, 1) := by decide +kernel
theorem dX8_digestOn_167 : decode cX8_digestOn 167 = .ok (.aload_n 0, 1) := by decide +kernel
theorem dX8_digestOn_168 : decode cX8_digestOn 168 = .ok (.getfield 49, 3) := by decide +kernel
theorem dX8_digestOn_171 : decode cX8_digestOn 171 = .ok (.iload 5, 2) := by decide +kernel
theorem dX8_digestOn_173 : decode cX8_digestOn 173 = .ok (.iaload, 1) := by decide +kernel
theorem dX8_digestOn_174 : decode cX8_digestOn 174 = .ok (.i2l, 1) := by decide +kernel
theorem dX8_digestOn_175 : decode cX8_digestOn 175 = .ok (.ladd, 1) := by decide +kernel
theorem dX8_digestOn_176 : decode cX8_digestOn 176 = .ok (.lstore_n 3, 1) := by decide +kernel
theorem dX8_digestOn_177 : decode cX8_digestOn 177 = .ok (.ldc2_w 89, 3) := by decide +kernel
theorem dX8_digestOn_180 : decode cX8_digestOn 180 = .ok (.lload_n 3, 1) := by decide +kernel
theorem dX8_digestOn_181 : decode cX8_digestOn 181 = .ok (.lmul, 1) := by decide +kernel
theorem dX8_digestOn_182 : decode cX8_digestOn 182 = .ok (.aload_n 0, 1) := by decide +kernel
theorem dX8_digestOn_183 : decode cX8_digestOn 183 = .ok (.getfield 52, 3) := by decide +kernel
theorem dX8_digestOn_186 : decode cX8_digestOn 186 = .ok (.iload 5, 2) := by decide +kernel
theorem dX8_digestOn_188 : decode cX8_digestOn 188 = .ok (.iaload, 1) := by decide +kernel
theorem dX8_digestOn_189 : decode cX8_digestOn 189 = .ok (.i2l, 1) := by decide +kernel
theorem dX8_digestOn_190 : decode cX8_digestOn 190 = .ok (.ladd, 1) := by decide +kernel
theorem dX8_digestOn_191 : decode cX8_digestOn 191 = .ok (.lstore_n 3, 1) := by decide +kernel
theorem dX8_digestOn_192 : decode cX8_digestOn 192 = .ok (.iinc 5 1, 3) := by decide +kernel
theorem dX8_digestOn_195 : decode cX8_digestOn 195 = .ok (.goto (-57), 3) := by decide +kernel
theorem dX8_digestOn_198 : decode cX8_digestOn 198 = .ok (.lload_n 3, 1) := by decide +kernel
theorem dX8_digestOn_199 : decode cX8_digestOn 199 = .ok (.lreturn, 1) := by decide +kernel
theorem dX9_init_0 : decode cX9_init 0 = .ok (.aload_n 0, 1) := by decide +kernel
theorem dX9_init_1 : decode cX9_init 1 = .ok (.invokespecial 1, 3) := by decide +kernel
theorem dX9_init_4 : decode cX9_init 4 = .ok (.aload_n 0, 1) := by decide +kernel
theorem dX9_init_5 : decode cX9_init 5 = .ok (.new 7, 3) := by decide +kernel
theorem dX9_init_8 : decode cX9_init 8 = .ok (.dup, 1) := by decide +kernel
theorem dX9_init_9 : decode cX9_init 9 = .ok (.invokespecial 9, 3) := by decide +kernel
theorem dX9_init_12 : decode cX9_init 12 = .ok (.putfield 10, 3) := by decide +kernel
theorem dX9_init_15 : decode cX9_init 15 = .ok (.aload_n 0, 1) := by decide +kernel
theorem dX9_init_16 : decode cX9_init 16 = .ok (.iconst 2, 1) := by decide +kernel
theorem dX9_init_17 : decode cX9_init 17 = .ok (.anewarray 7, 3) := by decide +kernel
theorem dX9_init_20 : decode cX9_init 20 = .ok (.putfield 16, 3) := by decide +kernel
theorem dX9_init_23 : decode cX9_init 23 = .ok (.aload_n 0, 1) := by decide +kernel
theorem dX9_init_24 : decode cX9_init 24 = .ok (.new 20, 3) := by decide +kernel
theorem dX9_init_27 : decode cX9_init 27 = .ok (.dup, 1) := by decide +kernel
theorem dX9_init_28 : decode cX9_init 28 = .ok (.invokespecial 22, 3) := by decide +kernel
theorem dX9_init_31 : decode cX9_init 31 = .ok (.putfield 23, 3) := by decide +kernel
theorem dX9_init_34 : decode cX9_init 34 = .ok (.aload_n 0, 1) := by decide +kernel
theorem dX9_init_35 : decode cX9_init 35 = .ok (.new 27, 3) := by decide +kernel
theorem dX9_init_38 : decode cX9_init 38 = .ok (.dup, 1) := by decide +kernel
theorem dX9_init_39 : decode cX9_init 39 = .ok (.invokespecial 29, 3) := by decide +kernel
theorem dX9_init_42 : decode cX9_init 42 = .ok (.putfield 30, 3) := by decide +kernel
theorem dX9_init_45 : decode cX9_init 45 = .ok (.aload_n 0, 1) := by decide +kernel
theorem dX9_init_46 : decode cX9_init 46 = .ok (.new 34, 3) := by decide +kernel
theorem dX9_init_49 : decode cX9_init 49 = .ok (.dup, 1) := by decide +kernel
theorem dX9_init_50 : decode cX9_init 50 = .ok (.invokespecial 36, 3) := by decide +kernel
theorem dX9_init_53 : decode cX9_init 53 = .ok (.putfield 37, 3) := by decide +kernel
theorem dX9_init_56 : decode cX9_init 56 = .ok (.aload_n 0, 1) := by decide +kernel
theorem dX9_init_57 : decode cX9_init 57 = .ok (.new 41, 3) := by decide +kernel
theorem dX9_init_60 : decode cX9_init 60 = .ok (.dup, 1) := by decide +kernel
theorem dX9_init_61 : decode cX9_init 61 = .ok (.invokespecial 43, 3) := by decide +kernel
theorem dX9_init_64 : decode cX9_init 64 = .ok (.putfield 44, 3) := by decide +kernel
theorem dX9_init_67 : decode cX9_init 67 = .ok (.aload_n 0, 1) := by decide +kernel
theorem dX9_init_68 : decode cX9_init 68 = .ok (.new 48, 3) := by decide +kernel
theorem dX9_init_71 : decode cX9_init 71 = .ok (.dup, 1) := by decide +kernel
theorem dX9_init_72 : decode cX9_init 72 = .ok (.invokespecial 50, 3) := by decide +kernel
theorem dX9_init_75 : decode cX9_init 75 = .ok (.putfield 51, 3) := by decide +kernel
theorem dX9_init_78 : decode cX9_init 78 = .ok (.aload_n 0, 1) := by decide +kernel
theorem dX9_init_79 : decode cX9_init 79 = .ok (.iconst 0, 1) := by decide +kernel
theorem dX9_init_80 : decode cX9_init 80 = .ok (.putfield 55, 3) := by decide +kernel
theorem dX9_init_83 : decode cX9_init 83 = .ok (.aload_n 0, 1) := by decide +kernel
theorem dX9_init_84 : decode cX9_init 84 = .ok (.iconst 0, 1) := by decide +kernel
theorem dX9_init_85 : decode cX9_init 85 = .ok (.putfield 59, 3) := by decide +kernel
theorem dX9_init_88 : decode cX9_init 88 = .ok (.aload_n 0, 1) := by decide +kernel
theorem dX9_init_89 : decode cX9_init 89 = .ok (.iconst 0, 1) := by decide +kernel
theorem dX9_init_90 : decode cX9_init 90 = .ok (.putfield 62, 3) := by decide +kernel
theorem dX9_init_93 : decode cX9_init 93 = .ok (.return_, 1) := by decide +kernel
theorem dX9_valley_0 : decode cX9_valley 0 = .ok (.aload_n 0, 1) := by decide +kernel
theorem dX9_valley_1 : decode cX9_valley 1 = .ok (.getfield 10, 3) := by decide +kernel
theorem dX9_valley_4 : decode cX9_valley 4 = .ok (.getfield 65, 3) := by decide +kernel
theorem dX9_valley_7 : decode cX9_valley 7 = .ok (.istore_n 1, 1) := by decide +kernel
theorem dX9_valley_8 : decode cX9_valley 8 = .ok (.aload_n 0, 1) := by decide +kernel
theorem dX9_valley_9 : decode cX9_valley 9 = .ok (.getfield 10, 3) := by decide +kernel
theorem dX9_valley_12 : decode cX9_valley 12 = .ok (.invokevirtual 68, 3) := by decide +kernel
theorem dX9_valley_15 : decode cX9_valley 15 = .ok (.iload_n 1, 1) := by decide +kernel
theorem dX9_valley_16 : decode cX9_valley 16 = .ok (.ireturn, 1) := by decide +kernel
theorem dX9_damp_0 : decode cX9_damp 0 = .ok (.iload_n 1, 1) := by decide +kernel
theorem dX9_damp_1 : decode cX9_damp 1 = .ok (.iconst 0, 1) := by decide +kernel
theorem dX9_damp_2 : decode cX9_damp 2 = .ok (.sipush 4095, 3) := by decide +kernel
theorem dX9_damp_5 : decode cX9_damp 5 = .ok (.invokestatic 71, 3) := by decide +kernel
theorem dX9_damp_8 : decode cX9_damp 8 = .ok (.ifCond .ne 8, 3) := by decide +kernel
theorem dX9_damp_11 : decode cX9_damp 11 = .ok (.aload_n 0, 1) := by decide +kernel
theorem dX9_damp_12 : decode cX9_damp 12 = .ok (.invokevirtual 75, 3) := by decide +kernel
theorem dX9_damp_15 : decode cX9_damp 15 = .ok (.ireturn, 1) := by decide +kernel
theorem dX9_damp_16 : decode cX9_damp 16 = .ok (.aload_n 0, 1) := by decide +kernel
theorem dX9_damp_17 : decode cX9_damp 17 = .ok (.getfield 10, 3) := by decide +kernel
theorem dX9_damp_20 : decode cX9_damp 20 = .ok (.getfield 79, 3) := by decide +kernel
theorem dX9_damp_23 : decode cX9_damp 23 = .ok (.istore_n 2, 1) := by decide +kernel
theorem dX9_damp_24 : decode cX9_damp 24 = .ok (.aload_n 0, 1) := by decide +kernel
theorem dX9_damp_25 : decode cX9_damp 25 = .ok (.getfield 10, 3) := by decide +kernel
theorem dX9_damp_28 : decode cX9_damp 28 = .ok (.iload_n 1, 1) := by decide +kernel
theorem dX9_damp_29 : decode cX9_damp 29 = .ok (.putfield 79, 3) := by decide +kernel
theorem dX9_damp_32 : decode cX9_damp 32 = .ok (.iload_n 2, 1) := by decide +kernel
theorem dX9_damp_33 : decode cX9_damp 33 = .ok (.ireturn, 1) := by decide +kernel
theorem dX9_dry_0 : decode cX9_dry 0 = .ok (.iload_n 1, 1) := by decide +kernel
theorem dX9_dry_1 : decode cX9_dry 1 = .ok (.iconst 0, 1) := by decide +kernel
theorem dX9_dry_2 : decode cX9_dry 2 = .ok (.sipush 4095, 3) := by decide +kernel
theorem dX9_dry_5 : decode cX9_dry 5 = .ok (.invokestatic 71, 3) := by decide +kernel
theorem dX9_dry_8 : decode cX9_dry 8 = .ok (.ifCond .ne 8, 3) := by decide +kernel
theorem dX9_dry_11 : decode cX9_dry 11 = .ok (.aload_n 0, 1) := by decide +kernel
theorem dX9_dry_12 : decode cX9_dry 12 = .ok (.invokevirtual 75, 3) := by decide +kernel
theorem dX9_dry_15 : decode cX9_dry 15 = .ok (.ireturn, 1) := by decide +kernel
theorem dX9_dry_16 : decode cX9_dry 16 = .ok (.aload_n 0, 1) := by decide +kernel
theorem dX9_dry_17 : decode cX9_dry 17 = .ok (.getfield 10, 3) := by decide +kernel
theorem dX9_dry_20 : decode cX9_dry 20 = .ok (.getfield 82, 3) := by decide +kernel
theorem dX9_dry_23 : decode cX9_dry 23 = .ok (.istore_n 2, 1) := by decide +kernel
theorem dX9_dry_24 : decode cX9_dry 24 = .ok (.aload_n 0, 1) := by decide +kernel
theorem dX9_dry_25 : decode cX9_dry 25 = .ok (.getfield 10, 3) := by decide +kernel
theorem dX9_dry_28 : decode cX9_dry 28 = .ok (.iload_n 1, 1) := by decide +kernel
theorem dX9_dry_29 : decode cX9_dry 29 = .ok (.putfield 82, 3) := by decide +kernel
theorem dX9_dry_32 : decode cX9_dry 32 = .ok (.iload_n 2, 1) := by decide +kernel
theorem dX9_dry_33 : decode cX9_dry 33 = .ok (.ireturn, 1) := by decide +kernel
theorem dX9_pair_0 : decode cX9_pair 0 = .ok (.iload_n 1, 1) := by decide +kernel
theorem dX9_pair_1 : decode cX9_pair 1 = .ok (.iconst 0, 1) := by decide +kernel
theorem dX9_pair_2 : decode cX9_pair 2 = .ok (.iconst 5, 1) := by decide +kernel
theorem dX9_pair_3 : decode cX9_pair 3 = .ok (.invokestatic 71, 3) := by decide +kernel
theorem dX9_pair_6 : decode cX9_pair 6 = .ok (.ifCond .eq 13, 3) := by decide +kernel
theorem dX9_pair_9 : decode cX9_pair 9 = .ok (.iload_n 2, 1) := by decide +kernel
theorem dX9_pair_10 : decode cX9_pair 10 = .ok (.iconst 0, 1) := by decide +kernel
theorem dX9_pair_11 : decode cX9_pair 11 = .ok (.bipush 60, 2) := by decide +kernel
theorem dX9_pair_13 : decode cX9_pair 13 = .ok (.invokestatic 71, 3) := by decide +kernel
theorem dX9_pair_16 : decode cX9_pair 16 = .ok (.ifCond .ne 8, 3) := by decide +kernel
theorem dX9_pair_19 : decode cX9_pair 19 = .ok (.aload_n 0, 1) := by decide +kernel
theorem dX9_pair_20 : decode cX9_pair 20 = .ok (.invokevirtual 75, 3) := by decide +kernel
theorem dX9_pair_23 : decode cX9_pair 23 = .ok (.ireturn, 1) := by decide +kernel
theorem dX9_pair_24 : decode cX9_pair 24 = .ok (.aload_n 0, 1) := by decide +kernel
theorem dX9_pair_25 : decode cX9_pair 25 = .ok (.getfield 10, 3) := by decide +kernel
theorem dX9_pair_28 : decode cX9_pair 28 = .ok (.iload_n 1, 1) := by decide +kernel
theorem dX9_pair_29 : decode cX9_pair 29 = .ok (.iload_n 2, 1) := by decide +kernel
theorem dX9_pair_30 : decode cX9_pair 30 = .ok (.invokevirtual 85, 3) := by decide +kernel
theorem dX9_pair_33 : decode cX9_pair 33 = .ok (.istore_n 3, 1) := by decide +kernel
theorem dX9_pair_34 : decode cX9_pair 34 = .ok (.iload_n 3, 1) := by decide +kernel
theorem dX9_pair_35 : decode cX9_pair 35 = .ok (.bipush (-4), 2) := by decide +kernel
theorem dX9_pair_37 : decode cX9_pair 37 = .ok (.if_icmp .ne 10, 3) := by decide +kernel
theorem dX9_pair_40 : decode cX9_pair 40 = .ok (.aload_n 0, 1) := by decide +kernel
theorem dX9_pair_41 : decode cX9_pair 41 = .ok (.invokevirtual 89, 3) := by decide +kernel
theorem dX9_pair_44 : decode cX9_pair 44 = .ok (.goto 4, 3) := by decide +kernel
theorem dX9_pair_47 : decode cX9_pair 47 = .ok (.iload_n 3, 1) := by decide +kernel
theorem dX9_pair_48 : decode cX9_pair 48 = .ok (.ireturn, 1) := by decide +kernel
theorem dX9_kin_0 : decode cX9_kin 0 = .ok (.iload_n 1, 1) := by decide +kernel
theorem dX9_kin_1 : decode cX9_kin 1 = .ok (.iconst 1, 1) := by decide +kernel
theorem dX9_kin_2 : decode cX9_kin 2 = .ok (.bipush 20, 2) := by decide +kernel
theorem dX9_kin_4 : decode cX9_kin 4 = .ok (.invokestatic 71, 3) := by decide +kernel
theorem dX9_kin_7 : decode cX9_kin 7 = .ok (.ifCond .ne 8, 3) := by decide +kernel
theorem dX9_kin_10 : decode cX9_kin 10 = .ok (.aload_n 0, 1) := by decide +kernel
theorem dX9_kin_11 : decode cX9_kin 11 = .ok (.invokevirtual 75, 3) := by decide +kernel
theorem dX9_kin_14 : decode cX9_kin 14 = .ok (.ireturn, 1) := by decide +kernel
theorem dX9_kin_15 : decode cX9_kin 15 = .ok (.aload_n 0, 1) := by decide +kernel
theorem dX9_kin_16 : decode cX9_kin 16 = .ok (.getfield 10, 3) := by decide +kernel
theorem dX9_kin_19 : decode cX9_kin 19 = .ok (.iload_n 1, 1) := by decide +kernel
theorem dX9_kin_20 : decode cX9_kin 20 = .ok (.invokevirtual 92, 3) := by decide +kernel
theorem dX9_kin_23 : decode cX9_kin 23 = .ok (.istore_n 2, 1) := by decide +kernel
theorem dX9_kin_24 : decode cX9_kin 24 = .ok (.iload_n 2, 1) := by decide +kernel
theorem dX9_kin_25 : decode cX9_kin 25 = .ok (.bipush (-4), 2) := by decide +kernel
theorem dX9_kin_27 : decode cX9_kin 27 = .ok (.if_icmp .ne 10, 3) := by decide +kernel
theorem dX9_kin_30 : decode cX9_kin 30 = .ok (.aload_n 0, 1) := by decide +kernel
theorem dX9_kin_31 : decode cX9_kin 31 = .ok (.invokevirtual 89, 3) := by decide +kernel
theorem dX9_kin_34 : decode cX9_kin 34 = .ok (.goto 4, 3) := by decide +kernel
theorem dX9_kin_37 : decode cX9_kin 37 = .ok (.iload_n 2, 1) := by decide +kernel
theorem dX9_kin_38 : decode cX9_kin 38 = .ok (.ireturn, 1) := by decide +kernel
theorem dX9_type_0 : decode cX9_type 0 = .ok (.iload_n 1, 1) := by decide +kernel
theorem dX9_type_1 : decode cX9_type 1 = .ok (.iconst 0, 1) := by decide +kernel
theorem dX9_type_2 : decode cX9_type 2 = .ok (.bipush 127, 2) := by decide +kernel
theorem dX9_type_4 : decode cX9_type 4 = .ok (.invokestatic 71, 3) := by decide +kernel
theorem dX9_type_7 : decode cX9_type 7 = .ok (.ifCond .ne 8, 3) := by decide +kernel
theorem dX9_type_10 : decode cX9_type 10 = .ok (.aload_n 0, 1) := by decide +kernel
theorem dX9_type_11 : decode cX9_type 11 = .ok (.invokevirtual 75, 3) := by decide +kernel
theorem dX9_type_14 : decode cX9_type 14 = .ok (.ireturn, 1) := by decide +kernel
theorem dX9_type_15 : decode cX9_type 15 = .ok (.aload_n 0, 1) := by decide +kernel
theorem dX9_type_16 : decode cX9_type 16 = .ok (.getfield 23, 3) := by decide +kernel
theorem dX9_type_19 : decode cX9_type 19 = .ok (.iload_n 1, 1) := by decide +kernel
theorem dX9_type_20 : decode cX9_type 20 = .ok (.invokevirtual 96, 3) := by decide +kernel
theorem dX9_type_23 : decode cX9_type 23 = .ok (.istore_n 2, 1) := by decide +kernel
theorem dX9_type_24 : decode cX9_type 24 = .ok (.iload_n 2, 1) := by decide +kernel
theorem dX9_type_25 : decode cX9_type 25 = .ok (.bipush (-4), 2) := by decide +kernel
theorem dX9_type_27 : decode cX9_type 27 = .ok (.if_icmp .ne 10, 3) := by decide +kernel
theorem dX9_type_30 : decode cX9_type 30 = .ok (.aload_n 0, 1) := by decide +kernel
theorem dX9_type_31 : decode cX9_type 31 = .ok (.invokevirtual 89, 3) := by decide +kernel
theorem dX9_type_34 : decode cX9_type 34 = .ok (.goto 4, 3) := by decide +kernel
theorem dX9_type_37 : decode cX9_type 37 = .ok (.iload_n 2, 1) := by decide +kernel
theorem dX9_type_38 : decode cX9_type 38 = .ok (.ireturn, 1) := by decide +kernel
theorem dX9_clear_0 : decode cX9_clear 0 = .ok (.aload_n 0, 1) := by decide +kernel
theorem dX9_clear_1 : decode cX9_clear 1 = .ok (.getfield 23, 3) := by decide +kernel
theorem dX9_clear_4 : decode cX9_clear 4 = .ok (.invokevirtual 99, 3) := by decide +kernel
theorem dX9_clear_7 : decode cX9_clear 7 = .ok (.ireturn, 1) := by decide +kernel
theorem dX9_read_0 : decode cX9_read 0 = .ok (.aload_n 0, 1) := by decide +kernel
theorem dX9_read_1 : decode cX9_read 1 = .ok (.getfield 23, 3) := by decide +kernel
theorem dX9_read_4 : decode cX9_read 4 = .ok (.aload_n 0, 1) := by decide +kernel
theorem dX9_read_5 : decode cX9_read 5 = .ok (.getfield 10, 3) := by decide +kernel
theorem dX9_read_8 : decode cX9_read 8 = .ok (.invokevirtual 102, 3) := by decide +kernel
theorem dX9_read_11 : decode cX9_read 11 = .ok (.ireturn, 1) := by decide +kernel
theorem dX9_year_0 : decode cX9_year 0 = .ok (.iload_n 1, 1) := by decide +kernel
theorem dX9_year_1 : decode cX9_year 1 = .ok (.iconst 1, 1) := by decide +kernel
theorem dX9_year_2 : decode cX9_year 2 = .ok (.bipush 60, 2) := by decide +kernel
theorem dX9_year_4 : decode cX9_year 4 = .ok (.invokestatic 71, 3) := by decide +kernel
theorem dX9_year_7 : decode cX9_year 7 = .ok (.ifCond .ne 8, 3) := by decide +kernel
theorem dX9_year_10 : decode cX9_year 10 = .ok (.aload_n 0, 1) := by decide +kernel
theorem dX9_year_11 : decode cX9_year 11 = .ok (.invokevirtual 75, 3) := by decide +kernel
theorem dX9_year_14 : decode cX9_year 14 = .ok (.ireturn, 1) := by decide +kernel
theorem dX9_year_15 : decode cX9_year 15 = .ok (.iconst 0, 1) := by decide +kernel
theorem dX9_year_16 : decode cX9_year 16 = .ok (.istore_n 2, 1) := by decide +kernel
theorem dX9_year_17 : decode cX9_year 17 = .ok (.iconst 0, 1) := by decide +kernel
theorem dX9_year_18 : decode cX9_year 18 = .ok (.istore_n 3, 1) := by decide +kernel
theorem dX9_year_19 : decode cX9_year 19 = .ok (.iload_n 3, 1) := by decide +kernel
theorem dX9_year_20 : decode cX9_year 20 = .ok (.iload_n 1, 1) := by decide +kernel
theorem dX9_year_21 : decode cX9_year 21 = .ok (.if_icmp .ge 19, 3) := by decide +kernel
theorem dX9_year_24 : decode cX9_year 24 = .ok (.iload_n 2, 1) := by decide +kernel
theorem dX9_year_25 : decode cX9_year 25 = .ok (.aload_n 0, 1) := by decide +kernel
theorem dX9_year_26 : decode cX9_year 26 = .ok (.getfield 10, 3) := by decide +kernel
theorem dX9_year_29 : decode cX9_year 29 = .ok (.invokevirtual 106, 3) := by decide +kernel
theorem dX9_year_32 : decode cX9_year 32 = .ok (.ior, 1) := by decide +kernel
theorem dX9_year_33 : decode cX9_year 33 = .ok (.istore_n 2, 1) := by decide +kernel
theorem dX9_year_34 : decode cX9_year 34 = .ok (.iinc 3 1, 3) := by decide +kernel
theorem dX9_year_37 : decode cX9_year 37 = .ok (.goto (-18), 3) := by decide +kernel
theorem dX9_year_40 : decode cX9_year 40 = .ok (.iload_n 2, 1) := by decide +kernel
theorem dX9_year_41 : decode cX9_year 41 = .ok (.ireturn, 1) := by decide +kernel
theorem dX9_give_0 : decode cX9_give 0 = .ok (.aload_n 0, 1) := by decide +kernel
theorem dX9_give_1 : decode cX9_give 1 = .ok (.getfield 10, 3) := by decide +kernel
theorem dX9_give_4 : decode cX9_give 4 = .ok (.iload_n 1, 1) := by decide +kernel
theorem dX9_give_5 : decode cX9_give 5 = .ok (.invokevirtual 109, 3) := by decide +kernel
theorem dX9_give_8 : decode cX9_give 8 = .ok (.ifCond .eq 14, 3) := by decide +kernel
theorem dX9_give_11 : decode cX9_give 11 = .ok (.iload_n 2, 1) := by decide +kernel
theorem dX9_give_12 : decode cX9_give 12 = .ok (.bipush (-60), 2) := by decide +kernel
theorem dX9_give_14 : decode cX9_give 14 = .ok (.bipush 60, 2) := by decide +kernel
theorem dX9_give_16 : decode cX9_give 16 = .ok (.invokestatic 71, 3) := by decide +kernel
theorem dX9_give_19 : decode cX9_give 19 = .ok (.ifCond .ne 8, 3) := by decide +kernel
theorem dX9_give_22 : decode cX9_give 22 = .ok (.aload_n 0, 1) := by decide +kernel
theorem dX9_give_23 : decode cX9_give 23 = .ok (.invokevirtual 113, 3) := by decide +kernel
theorem dX9_give_26 : decode cX9_give 26 = .ok (.ireturn, 1) := by decide +kernel
theorem dX9_give_27 : decode cX9_give 27 = .ok (.aload_n 0, 1) := by decide +kernel
theorem dX9_give_28 : decode cX9_give 28 = .ok (.getfield 10, 3) := by decide +kernel
theorem dX9_give_31 : decode cX9_give 31 = .ok (.getfield 116, 3) := by decide +kernel
theorem dX9_give_34 : decode cX9_give 34 = .ok (.iload_n 1, 1) := by decide +kernel
theorem dX9_give_35 : decode cX9_give 35 = .ok (.iaload, 1) := by decide +kernel
theorem dX9_give_36 : decode cX9_give 36 = .ok (.istore_n 3, 1) := by decide +kernel
theorem dX9_give_37 : decode cX9_give 37 = .ok (.iload_n 3, 1) := by decide +kernel
theorem dX9_give_38 : decode cX9_give 38 = .ok (.ifCond .eq 15, 3) := by decide +kernel
theorem dX9_give_41 : decode cX9_give 41 = .ok (.iload_n 3, 1) := by decide +kernel
theorem dX9_give_42 : decode cX9_give 42 = .ok (.iload_n 2, 1) := by decide +kernel
theorem dX9_give_43 : decode cX9_give 43 = .ok (.iadd, 1) := by decide +kernel
theorem dX9_give_44 : decode cX9_give 44 = .ok (.iconst 1, 1) := by decide +kernel
theorem dX9_give_45 : decode cX9_give 45 = .ok (.bipush 60, 2) := by decide +kernel
theorem dX9_give_47 : decode cX9_give 47 = .ok (.invokestatic 71, 3) := by decide +kernel
theorem dX9_give_50 : decode cX9_give 50 = .ok (.ifCond .ne 8, 3) := by decide +kernel
theorem dX9_give_53 : decode cX9_give 53 = .ok (.aload_n 0, 1) := by decide +kernel
theorem dX9_give_54 : decode cX9_give 54 = .ok (.invokevirtual 120, 3) := by decide +kernel
theorem dX9_give_57 : decode cX9_give 57 = .ok (.ireturn, 1) := by decide +kernel
theorem dX9_give_58 : decode cX9_give 58 = .ok (.aload_n 0, 1) := by decide +kernel
theorem dX9_give_59 : decode cX9_give 59 = .ok (.getfield 10, 3) := by decide +kernel
theorem dX9_give_62 : decode cX9_give 62 = .ok (.iload_n 1, 1) := by decide +kernel
theorem dX9_give_63 : decode cX9_give 63 = .ok (.iload_n 3, 1) := by decide +kernel
theorem dX9_give_64 : decode cX9_give 64 = .ok (.iload_n 2, 1) := by decide +kernel
theorem dX9_give_65 : decode cX9_give 65 = .ok (.iadd, 1) := by decide +kernel
theorem dX9_give_66 : decode cX9_give 66 = .ok (.invokevirtual 123, 3) := by decide +kernel
theorem dX9_give_69 : decode cX9_give 69 = .ok (.iload_n 3, 1) := by decide +kernel
theorem dX9_give_70 : decode cX9_give 70 = .ok (.iload_n 2, 1) := by decide +kernel
theorem dX9_give_71 : decode cX9_give 71 = .ok (.iadd, 1) := by decide +kernel
theorem dX9_give_72 : decode cX9_give 72 = .ok (.ireturn, 1) := by decide +kernel
theorem dX9_undo_0 : decode cX9_undo 0 = .ok (.aload_n 0, 1) := by decide +kernel
theorem dX9_undo_1 : decode cX9_undo 1 = .ok (.getfield 10, 3) := by decide +kernel
theorem dX9_undo_4 : decode cX9_undo 4 = .ok (.getfield 127, 3) := by decide +kernel
theorem dX9_undo_7 : decode cX9_undo 7 = .ok (.getfield 131, 3) := by decide +kernel
theorem dX9_undo_10 : decode cX9_undo 10 = .ok (.ifCond .ne 8, 3) := by decide +kernel
theorem dX9_undo_13 : decode cX9_undo 13 = .ok (.aload_n 0, 1) := by decide +kernel
theorem dX9_undo_14 : decode cX9_undo 14 = .ok (.invokevirtual 120, 3) := by decide +kernel
theorem dX9_undo_17 : decode cX9_undo 17 = .ok (.ireturn, 1) := by decide +kernel
theorem dX9_undo_18 : decode cX9_undo 18 = .ok (.aload_n 0, 1) := by decide +kernel
theorem dX9_undo_19 : decode cX9_undo 19 = .ok (.getfield 10, 3) := by decide +kernel
theorem dX9_undo_22 : decode cX9_undo 22 = .ok (.invokevirtual 136, 3) := by decide +kernel
theorem dX9_undo_25 : decode cX9_undo 25 = .ok (.aload_n 0, 1) := by decide +kernel
theorem dX9_undo_26 : decode cX9_undo 26 = .ok (.getfield 10, 3) := by decide +kernel
theorem dX9_undo_29 : decode cX9_undo 29 = .ok (.getfield 139, 3) := by decide +kernel
theorem dX9_undo_32 : decode cX9_undo 32 = .ok (.ireturn, 1) := by decide +kernel
theorem dX9_of_0 : decode cX9_of 0 = .ok (.aload_n 0, 1) := by decide +kernel
theorem dX9_of_1 : decode cX9_of 1 = .ok (.getfield 10, 3) := by decide +kernel
theorem dX9_of_4 : decode cX9_of 4 = .ok (.iload_n 1, 1) := by decide +kernel
theorem dX9_of_5 : decode cX9_of 5 = .ok (.invokevirtual 109, 3) := by decide +kernel
theorem dX9_of_8 : decode cX9_of 8 = .ok (.ifCond .ne 8, 3) := by decide +kernel
theorem dX9_of_11 : decode cX9_of 11 = .ok (.aload_n 0, 1) := by decide +kernel
theorem dX9_of_12 : decode cX9_of 12 = .ok (.invokevirtual 113, 3) := by decide +kernel
theorem dX9_of_15 : decode cX9_of 15 = .ok (.ireturn, 1) := by decide +kernel
theorem dX9_of_16 : decode cX9_of 16 = .ok (.iload_n 2, 1) := by decide +kernel
theorem dX9_of_17 : decode cX9_of 17 = .ok (.tableswitch 109 0 4 #[35, 45, 55, 65, 75], 35) := by decide +kernel
theorem dX9_of_52 : decode cX9_of 52 = .ok (.aload_n 0, 1) := by decide +kernel
theorem dX9_of_53 : decode cX9_of 53 = .ok (.getfield 10, 3) := by decide +kernel
theorem dX9_of_56 : decode cX9_of 56 = .ok (.getfield 142, 3) := by decide +kernel
theorem dX9_of_59 : decode cX9_of 59 = .ok (.iload_n 1, 1) := by decide +kernel
theorem dX9_of_60 : decode cX9_of 60 = .ok (.iaload, 1) := by decide +kernel
theorem dX9_of_61 : decode cX9_of 61 = .ok (.ireturn, 1) := by decide +kernel
theorem dX9_of_62 : decode cX9_of 62 = .ok (.aload_n 0, 1) := by decide +kernel
theorem dX9_of_63 : decode cX9_of 63 = .ok (.getfield 10, 3) := by decide +kernel
theorem dX9_of_66 : decode cX9_of 66 = .ok (.getfield 116, 3) := by decide +kernel
theorem dX9_of_69 : decode cX9_of 69 = .ok (.iload_n 1, 1) := by decide +kernel
theorem dX9_of_70 : decode cX9_of 70 = .ok (.iaload, 1) := by decide +kernel
theorem dX9_of_71 : decode cX9_of 71 = .ok (.ireturn, 1) := by decide +kernel
theorem dX9_of_72 : decode cX9_of 72 = .ok (.aload_n 0, 1) := by decide +kernel
theorem dX9_of_73 : decode cX9_of 73 = .ok (.getfield 10, 3) := by decide +kernel
theorem dX9_of_76 : decode cX9_of 76 = .ok (.getfield 145, 3) := by decide +kernel
theorem dX9_of_79 : decode cX9_of 79 = .ok (.iload_n 1, 1) := by decide +kernel
theorem dX9_of_80 : decode cX9_of 80 = .ok (.iaload, 1) := by decide +kernel
theorem dX9_of_81 : decode cX9_of 81 = .ok (.ireturn, 1) := by decide +kernel
theorem dX9_of_82 : decode cX9_of 82 = .ok (.aload_n 0, 1) := by decide +kernel
theorem dX9_of_83 : decode cX9_of 83 = .ok (.getfield 10, 3) := by decide +kernel
theorem dX9_of_86 : decode cX9_of 86 = .ok (.getfield 148, 3) := by decide +kernel
theorem dX9_of_89 : decode cX9_of 89 = .ok (.iload_n 1, 1) := by decide +kernel
theorem dX9_of_90 : decode cX9_of 90 = .ok (.iaload, 1) := by decide +kernel
theorem dX9_of_91 : decode cX9_of 91 = .ok (.ireturn, 1) := by decide +kernel
theorem dX9_of_92 : decode cX9_of 92 = .ok (.aload_n 0, 1) := by decide +kernel
theorem dX9_of_93 : decode cX9_of 93 = .ok (.getfield 10, 3) := by decide +kernel
theorem dX9_of_96 : decode cX9_of 96 = .ok (.getfield 142, 3) := by decide +kernel
theorem dX9_of_99 : decode cX9_of 99 = .ok (.iload_n 1, 1) := by decide +kernel
theorem dX9_of_100 : decode cX9_of 100 = .ok (.iaload, 1) := by decide +kernel
theorem dX9_of_101 : decode cX9_of 101 = .ok (.aload_n 0, 1) := by decide +kernel
theorem dX9_of_102 : decode cX9_of 102 = .ok (.getfield 10, 3) := by decide +kernel
theorem dX9_of_105 : decode cX9_of 105 = .ok (.getfield 139, 3) := by decide +kernel
theorem dX9_of_108 : decode cX9_of 108 = .ok (.aload_n 0, 1) := by decide +kernel
theorem dX9_of_109 : decode cX9_of 109 = .ok (.getfield 10, 3) := by decide +kernel
theorem dX9_of_112 : decode cX9_of 112 = .ok (.getfield 79, 3) := by decide +kernel
theorem dX9_of_115 : decode cX9_of 115 = .ok (.aload_n 0, 1) := by decide +kernel
theorem dX9_of_116 : decode cX9_of 116 = .ok (.getfield 10, 3) := by decide +kernel
theorem dX9_of_119 : decode cX9_of 119 = .ok (.getfield 82, 3) := by decide +kernel
theorem dX9_of_122 : decode cX9_of 122 = .ok (.invokestatic 151, 3) := by decide +kernel
theorem dX9_of_125 : decode cX9_of 125 = .ok (.ireturn, 1) := by decide +kernel
theorem dX9_of_126 : decode cX9_of 126 = .ok (.aload_n 0, 1) := by decide +kernel
theorem dX9_of_127 : decode cX9_of 127 = .ok (.invokevirtual 113, 3) := by decide +kernel
theorem dX9_of_130 : decode cX9_of 130 = .ok (.ireturn, 1) := by decide +kernel
theorem dX9_left_0 : decode cX9_left 0 = .ok (.aload_n 0, 1) := by decide +kernel
theorem dX9_left_1 : decode cX9_left 1 = .ok (.getfield 10, 3) := by decide +kernel
theorem dX9_left_4 : decode cX9_left 4 = .ok (.iload_n 1, 1) := by decide +kernel
theorem dX9_left_5 : decode cX9_left 5 = .ok (.invokevirtual 109, 3) := by decide +kernel
theorem dX9_left_8 : decode cX9_left 8 = .ok (.ifCond .eq 13, 3) := by decide +kernel
theorem dX9_left_11 : decode cX9_left 11 = .ok (.iload_n 2, 1) := by decide +kernel
theorem dX9_left_12 : decode cX9_left 12 = .ok (.iconst 0, 1) := by decide +kernel
theorem dX9_left_13 : decode cX9_left 13 = .ok (.bipush 99, 2) := by decide +kernel
theorem dX9_left_15 : decode cX9_left 15 = .ok (.invokestatic 71, 3) := by decide +kernel
theorem dX9_left_18 : decode cX9_left 18 = .ok (.ifCond .ne 8, 3) := by decide +kernel
theorem dX9_left_21 : decode cX9_left 21 = .ok (.aload_n 0, 1) := by decide +kernel
theorem dX9_left_22 : decode cX9_left 22 = .ok (.invokevirtual 75, 3) := by decide +kernel
theorem dX9_left_25 : decode cX9_left 25 = .ok (.ireturn, 1) := by decide +kernel
theorem dX9_left_26 : decode cX9_left 26 = .ok (.aload_n 0, 1) := by decide +kernel
theorem dX9_left_27 : decode cX9_left 27 = .ok (.getfield 10, 3) := by decide +kernel
theorem dX9_left_30 : decode cX9_left 30 = .ok (.aload_n 0, 1) := by decide +kernel
theorem dX9_left_31 : decode cX9_left 31 = .ok (.getfield 10, 3) := by decide +kernel
theorem dX9_left_34 : decode cX9_left 34 = .ok (.getfield 142, 3) := by decide +kernel
theorem dX9_left_37 : decode cX9_left 37 = .ok (.iload_n 1, 1) := by decide +kernel
theorem dX9_left_38 : decode cX9_left 38 = .ok (.iaload, 1) := by decide +kernel
theorem dX9_left_39 : decode cX9_left 39 = .ok (.aload_n 0, 1) := by decide +kernel
theorem dX9_left_40 : decode cX9_left 40 = .ok (.getfield 10, 3) := by decide +kernel
theorem dX9_left_43 : decode cX9_left 43 = .ok (.getfield 116, 3) := by decide +kernel
theorem dX9_left_46 : decode cX9_left 46 = .ok (.iload_n 1, 1) := by decide +kernel
theorem dX9_left_47 : decode cX9_left 47 = .ok (.iaload, 1) := by decide +kernel
theorem dX9_left_48 : decode cX9_left 48 = .ok (.iload_n 2, 1) := by decide +kernel
theorem dX9_left_49 : decode cX9_left 49 = .ok (.aload_n 0, 1) := by decide +kernel
theorem dX9_left_50 : decode cX9_left 50 = .ok (.getfield 10, 3) := by decide +kernel
theorem dX9_left_53 : decode cX9_left 53 = .ok (.getfield 82, 3) := by decide +kernel
theorem dX9_left_56 : decode cX9_left 56 = .ok (.invokevirtual 157, 3) := by decide +kernel
theorem dX9_left_59 : decode cX9_left 59 = .ok (.ireturn, 1) := by decide +kernel
theorem dX9_till_0 : decode cX9_till 0 = .ok (.aload_n 0, 1) := by decide +kernel
theorem dX9_till_1 : decode cX9_till 1 = .ok (.getfield 10, 3) := by decide +kernel
theorem dX9_till_4 : decode cX9_till 4 = .ok (.iload_n 1, 1) := by decide +kernel
theorem dX9_till_5 : decode cX9_till 5 = .ok (.invokevirtual 109, 3) := by decide +kernel
theorem dX9_till_8 : decode cX9_till 8 = .ok (.ifCond .ne 8, 3) := by decide +kernel
theorem dX9_till_11 : decode cX9_till 11 = .ok (.aload_n 0, 1) := by decide +kernel
theorem dX9_till_12 : decode cX9_till 12 = .ok (.invokevirtual 75, 3) := by decide +kernel
theorem dX9_till_15 : decode cX9_till 15 = .ok (.ireturn, 1) := by decide +kernel
theorem dX9_till_16 : decode cX9_till 16 = .ok (.aload_n 0, 1) := by decide +kernel
theorem dX9_till_17 : decode cX9_till 17 = .ok (.getfield 10, 3) := by decide +kernel
theorem dX9_till_20 : decode cX9_till 20 = .ok (.iload_n 1, 1) := by decide +kernel
theorem dX9_till_21 : decode cX9_till 21 = .ok (.invokestatic 160, 3) := by decide +kernel
theorem dX9_till_24 : decode cX9_till 24 = .ok (.ireturn, 1) := by decide +kernel
theorem dX9_together_0 : decode cX9_together 0 = .ok (.iload_n 1, 1) := by decide +kernel
theorem dX9_together_1 : decode cX9_together 1 = .ok (.iconst 0, 1) := by decide +kernel
theorem dX9_together_2 : decode cX9_together 2 = .ok (.iconst 1, 1) := by decide +kernel
theorem dX9_together_3 : decode cX9_together 3 = .ok (.invokestatic 71, 3) := by decide +kernel
theorem dX9_together_6 : decode cX9_together 6 = .ok (.ifCond .ne 8, 3) := by decide +kernel
theorem dX9_together_9 : decode cX9_together 9 = .ok (.aload_n 0, 1) := by decide +kernel
theorem dX9_together_10 : decode cX9_together 10 = .ok (.invokevirtual 75, 3) := by decide +kernel
theorem dX9_together_13 : decode cX9_together 13 = .ok (.ireturn, 1) := by decide +kernel
theorem dX9_together_14 : decode cX9_together 14 = .ok (.aload_n 0, 1) := by decide +kernel
theorem dX9_together_15 : decode cX9_together 15 = .ok (.getfield 30, 3) := by decide +kernel
theorem dX9_together_18 : decode cX9_together 18 = .ok (.aload_n 0, 1) := by decide +kernel
theorem dX9_together_19 : decode cX9_together 19 = .ok (.getfield 10, 3) := by decide +kernel
theorem dX9_together_22 : decode cX9_together 22 = .ok (.invokevirtual 164, 3) := by decide +kernel
theorem dX9_together_25 : decode cX9_together 25 = .ok (.iload_n 1, 1) := by decide +kernel
theorem dX9_together_26 : decode cX9_together 26 = .ok (.ifCond .ne 13, 3) := by decide +kernel
theorem dX9_together_29 : decode cX9_together 29 = .ok (.aload_n 0, 1) := by decide +kernel
theorem dX9_together_30 : decode cX9_together 30 = .ok (.getfield 30, 3) := by decide +kernel
theorem dX9_together_33 : decode cX9_together 33 = .ok (.getfield 168, 3) := by decide +kernel
theorem dX9_together_36 : decode cX9_together 36 = .ok (.goto 10, 3) := by decide +kernel
theorem dX9_together_39 : decode cX9_together 39 = .ok (.aload_n 0, 1) := by decide +kernel
theorem dX9_together_40 : decode cX9_together 40 = .ok (.getfield 30, 3) := by decide +kernel
theorem dX9_together_43 : decode cX9_together 43 = .ok (.getfield 171, 3) := by decide +kernel
theorem dX9_together_46 : decode cX9_together 46 = .ok (.ireturn, 1) := by decide +kernel
theorem dX9_gifts_0 : decode cX9_gifts 0 = .ok (.aload_n 0, 1) := by decide +kernel
theorem dX9_gifts_1 : decode cX9_gifts 1 = .ok (.getfield 10, 3) := by decide +kernel
theorem dX9_gifts_4 : decode cX9_gifts 4 = .ok (.iload_n 1, 1) := by decide +kernel
theorem dX9_gifts_5 : decode cX9_gifts 5 = .ok (.invokevirtual 109, 3) := by decide +kernel
theorem dX9_gifts_8 : decode cX9_gifts 8 = .ok (.ifCond .eq 19, 3) := by decide +kernel
theorem dX9_gifts_11 : decode cX9_gifts 11 = .ok (.aload_n 0, 1) := by decide +kernel
theorem dX9_gifts_12 : decode cX9_gifts 12 = .ok (.getfield 10, 3) := by decide +kernel
theorem dX9_gifts_15 : decode cX9_gifts 15 = .ok (.iload_n 2, 1) := by decide +kernel
theorem dX9_gifts_16 : decode cX9_gifts 16 = .ok (.invokevirtual 109, 3) := by decide +kernel
theorem dX9_gifts_19 : decode cX9_gifts 19 = .ok (.ifCond .eq 8, 3) := by decide +kernel
theorem dX9_gifts_22 : decode cX9_gifts 22 = .ok (.iload_n 1, 1) := by decide +kernel
theorem dX9_gifts_23 : decode cX9_gifts 23 = .ok (.iload_n 2, 1) := by decide +kernel
theorem dX9_gifts_24 : decode cX9_gifts 24 = .ok (.if_icmp .ne 8, 3) := by decide +kernel
theorem dX9_gifts_27 : decode cX9_gifts 27 = .ok (.aload_n 0, 1) := by decide +kernel
theorem dX9_gifts_28 : decode cX9_gifts 28 = .ok (.invokevirtual 75, 3) := by decide +kernel
theorem dX9_gifts_31 : decode cX9_gifts 31 = .ok (.ireturn, 1) := by decide +kernel
theorem dX9_gifts_32 : decode cX9_gifts 32 = .ok (.iload_n 3, 1) := by decide +kernel
theorem dX9_gifts_33 : decode cX9_gifts 33 = .ok (.iconst 1, 1) := by decide +kernel
theorem dX9_gifts_34 : decode cX9_gifts 34 = .ok (.bipush 60, 2) := by decide +kernel
theorem dX9_gifts_36 : decode cX9_gifts 36 = .ok (.invokestatic 71, 3) := by decide +kernel
theorem dX9_gifts_39 : decode cX9_gifts 39 = .ok (.ifCond .eq 13, 3) := by decide +kernel
theorem dX9_gifts_42 : decode cX9_gifts 42 = .ok (.iload 4, 2) := by decide +kernel
theorem dX9_gifts_44 : decode cX9_gifts 44 = .ok (.iconst 0, 1) := by decide +kernel
theorem dX9_gifts_45 : decode cX9_gifts 45 = .ok (.iconst 2, 1) := by decide +kernel
theorem dX9_gifts_46 : decode cX9_gifts 46 = .ok (.invokestatic 71, 3) := by decide +kernel
theorem dX9_gifts_49 : decode cX9_gifts 49 = .ok (.ifCond .ne 8, 3) := by decide +kernel
theorem dX9_gifts_52 : decode cX9_gifts 52 = .ok (.aload_n 0, 1) := by decide +kernel
theorem dX9_gifts_53 : decode cX9_gifts 53 = .ok (.invokevirtual 75, 3) := by decide +kernel
theorem dX9_gifts_56 : decode cX9_gifts 56 = .ok (.ireturn, 1) := by decide +kernel
theorem dX9_gifts_57 : decode cX9_gifts 57 = .ok (.aload_n 0, 1) := by decide +kernel
theorem dX9_gifts_58 : decode cX9_gifts 58 = .ok (.getfield 37, 3) := by decide +kernel
theorem dX9_gifts_61 : decode cX9_gifts 61 = .ok (.aload_n 0, 1) := by decide +kernel
theorem dX9_gifts_62 : decode cX9_gifts 62 = .ok (.getfield 10, 3) := by decide +kernel
theorem dX9_gifts_65 : decode cX9_gifts 65 = .ok (.iload_n 1, 1) := by decide +kernel
theorem dX9_gifts_66 : decode cX9_gifts 66 = .ok (.iload_n 2, 1) := by decide +kernel
theorem dX9_gifts_67 : decode cX9_gifts 67 = .ok (.iload_n 3, 1) := by decide +kernel
theorem dX9_gifts_68 : decode cX9_gifts 68 = .ok (.invokevirtual 174, 3) := by decide +kernel
theorem dX9_gifts_71 : decode cX9_gifts 71 = .ok (.iload 4, 2) := by decide +kernel
theorem dX9_gifts_73 : decode cX9_gifts 73 = .ok (.ifCond .ne 11, 3) := by decide +kernel
theorem dX9_gifts_76 : decode cX9_gifts 76 = .ok (.aload_n 0, 1) := by decide +kernel
theorem dX9_gifts_77 : decode cX9_gifts 77 = .ok (.getfield 37, 3) := by decide +kernel
theorem dX9_gifts_80 : decode cX9_gifts 80 = .ok (.getfield 178, 3) := by decide +kernel
theorem dX9_gifts_83 : decode cX9_gifts 83 = .ok (.ireturn, 1) := by decide +kernel
theorem dX9_gifts_84 : decode cX9_gifts 84 = .ok (.iload 4, 2) := by decide +kernel
theorem dX9_gifts_86 : decode cX9_gifts 86 = .ok (.iconst 1, 1) := by decide +kernel
theorem dX9_gifts_87 : decode cX9_gifts 87 = .ok (.if_icmp .ne 13, 3) := by decide +kernel
theorem dX9_gifts_90 : decode cX9_gifts 90 = .ok (.aload_n 0, 1) := by decide +kernel
theorem dX9_gifts_91 : decode cX9_gifts 91 = .ok (.getfield 37, 3) := by decide +kernel
theorem dX9_gifts_94 : decode cX9_gifts 94 = .ok (.getfield 181, 3) := by decide +kernel
theorem dX9_gifts_97 : decode cX9_gifts 97 = .ok (.goto 10, 3) := by decide +kernel
theorem dX9_gifts_100 : decode cX9_gifts 100 = .ok (.aload_n 0, 1) := by decide +kernel
theorem dX9_gifts_101 : decode cX9_gifts 101 = .ok (.getfield 37, 3) := by decide +kernel
theorem dX9_gifts_104 : decode cX9_gifts 104 = .ok (.getfield 184, 3) := by decide +kernel
theorem dX9_gifts_107 : decode cX9_gifts 107 = .ok (.ireturn, 1) := by decide +kernel
theorem dX9_drought_0 : decode cX9_drought 0 = .ok (.iload_n 1, 1) := by decide +kernel
theorem dX9_drought_1 : decode cX9_drought 1 = .ok (.iconst 0, 1) := by decide +kernel
theorem dX9_drought_2 : decode cX9_drought 2 = .ok (.bipush 60, 2) := by decide +kernel
theorem dX9_drought_4 : decode cX9_drought 4 = .ok (.invokestatic 71, 3) := by decide +kernel
theorem dX9_drought_7 : decode cX9_drought 7 = .ok (.ifCond .ne 8, 3) := by decide +kernel
theorem dX9_drought_10 : decode cX9_drought 10 = .ok (.aload_n 0, 1) := by decide +kernel
theorem dX9_drought_11 : decode cX9_drought 11 = .ok (.invokevirtual 75, 3) := by decide +kernel
theorem dX9_drought_14 : decode cX9_drought 14 = .ok (.ireturn, 1) := by decide +kernel
theorem dX9_drought_15 : decode cX9_drought 15 = .ok (.aload_n 0, 1) := by decide +kernel
theorem dX9_drought_16 : decode cX9_drought 16 = .ok (.getfield 10, 3) := by decide +kernel
theorem dX9_drought_19 : decode cX9_drought 19 = .ok (.iload_n 1, 1) := by decide +kernel
theorem dX9_drought_20 : decode cX9_drought 20 = .ok (.invokestatic 187, 3) := by decide +kernel
theorem dX9_drought_23 : decode cX9_drought 23 = .ok (.ireturn, 1) := by decide +kernel
theorem dX9_counted_0 : decode cX9_counted 0 = .ok (.aload_n 0, 1) := by decide +kernel
theorem dX9_counted_1 : decode cX9_counted 1 = .ok (.getfield 10, 3) := by decide +kernel
theorem dX9_counted_4 : decode cX9_counted 4 = .ok (.iload_n 1, 1) := by decide +kernel
theorem dX9_counted_5 : decode cX9_counted 5 = .ok (.invokevirtual 109, 3) := by decide +kernel
theorem dX9_counted_8 : decode cX9_counted 8 = .ok (.ifCond .eq 23, 3) := by decide +kernel
theorem dX9_counted_11 : decode cX9_counted 11 = .ok (.iload_n 2, 1) := by decide +kernel
theorem dX9_counted_12 : decode cX9_counted 12 = .ok (.iconst 0, 1) := by decide +kernel
theorem dX9_counted_13 : decode cX9_counted 13 = .ok (.bipush 60, 2) := by decide +kernel
theorem dX9_counted_15 : decode cX9_counted 15 = .ok (.invokestatic 71, 3) := by decide +kernel
theorem dX9_counted_18 : decode cX9_counted 18 = .ok (.ifCond .eq 13, 3) := by decide +kernel
theorem dX9_counted_21 : decode cX9_counted 21 = .ok (.iload_n 3, 1) := by decide +kernel
theorem dX9_counted_22 : decode cX9_counted 22 = .ok (.iconst 0, 1) := by decide +kernel
theorem dX9_counted_23 : decode cX9_counted 23 = .ok (.bipush 60, 2) := by decide +kernel
theorem dX9_counted_25 : decode cX9_counted 25 = .ok (.invokestatic 71, 3) := by decide +kernel
theorem dX9_counted_28 : decode cX9_counted 28 = .ok (.ifCond .ne 8, 3) := by decide +kernel
theorem dX9_counted_31 : decode cX9_counted 31 = .ok (.aload_n 0, 1) := by decide +kernel
theorem dX9_counted_32 : decode cX9_counted 32 = .ok (.invokevirtual 75, 3) := by decide +kernel
theorem dX9_counted_35 : decode cX9_counted 35 = .ok (.ireturn, 1) := by decide +kernel
theorem dX9_counted_36 : decode cX9_counted 36 = .ok (.aload_n 0, 1) := by decide +kernel
theorem dX9_counted_37 : decode cX9_counted 37 = .ok (.getfield 10, 3) := by decide +kernel
theorem dX9_counted_40 : decode cX9_counted 40 = .ok (.iload_n 1, 1) := by decide +kernel
theorem dX9_counted_41 : decode cX9_counted 41 = .ok (.iload_n 2, 1) := by decide +kernel
theorem dX9_counted_42 : decode cX9_counted 42 = .ok (.iload_n 3, 1) := by decide +kernel
theorem dX9_counted_43 : decode cX9_counted 43 = .ok (.invokevirtual 190, 3) := by decide +kernel
theorem dX9_counted_46 : decode cX9_counted 46 = .ok (.istore 4, 2) := by decide +kernel
theorem dX9_counted_48 : decode cX9_counted 48 = .ok (.iload 4, 2) := by decide +kernel
theorem dX9_counted_50 : decode cX9_counted 50 = .ok (.bipush (-4), 2) := by decide +kernel
theorem dX9_counted_52 : decode cX9_counted 52 = .ok (.if_icmp .ne 10, 3) := by decide +kernel
theorem dX9_counted_55 : decode cX9_counted 55 = .ok (.aload_n 0, 1) := by decide +kernel
theorem dX9_counted_56 : decode cX9_counted 56 = .ok (.invokevirtual 89, 3) := by decide +kernel
theorem dX9_counted_59 : decode cX9_counted 59 = .ok (.goto 5, 3) := by decide +kernel
theorem dX9_counted_62 : decode cX9_counted 62 = .ok (.iload 4, 2) := by decide +kernel
theorem dX9_counted_64 : decode cX9_counted 64 = .ok (.ireturn, 1) := by decide +kernel
theorem dX9_forget_0 : decode cX9_forget 0 = .ok (.aload_n 0, 1) := by decide +kernel
theorem dX9_forget_1 : decode cX9_forget 1 = .ok (.getfield 10, 3) := by decide +kernel
theorem dX9_forget_4 : decode cX9_forget 4 = .ok (.getfield 194, 3) := by decide +kernel
theorem dX9_forget_7 : decode cX9_forget 7 = .ok (.istore_n 1, 1) := by decide +kernel
theorem dX9_forget_8 : decode cX9_forget 8 = .ok (.aload_n 0, 1) := by decide +kernel
theorem dX9_forget_9 : decode cX9_forget 9 = .ok (.getfield 10, 3) := by decide +kernel
theorem dX9_forget_12 : decode cX9_forget 12 = .ok (.iconst 0, 1) := by decide +kernel
theorem dX9_forget_13 : decode cX9_forget 13 = .ok (.putfield 194, 3) := by decide +kernel
theorem dX9_forget_16 : decode cX9_forget 16 = .ok (.iload_n 1, 1) := by decide +kernel
theorem dX9_forget_17 : decode cX9_forget 17 = .ok (.ireturn, 1) := by decide +kernel
theorem dX9_is_0 : decode cX9_is 0 = .ok (.aload_n 0, 1) := by decide +kernel
theorem dX9_is_1 : decode cX9_is 1 = .ok (.getfield 10, 3) := by decide +kernel
theorem dX9_is_4 : decode cX9_is 4 = .ok (.iload_n 1, 1) := by decide +kernel
theorem dX9_is_5 : decode cX9_is 5 = .ok (.invokevirtual 109, 3) := by decide +kernel
theorem dX9_is_8 : decode cX9_is 8 = .ok (.ifCond .ne 8, 3) := by decide +kernel
theorem dX9_is_11 : decode cX9_is 11 = .ok (.aload_n 0, 1) := by decide +kernel
theorem dX9_is_12 : decode cX9_is 12 = .ok (.invokevirtual 75, 3) := by decide +kernel
theorem dX9_is_15 : decode cX9_is 15 = .ok (.ireturn, 1) := by decide +kernel
theorem dX9_is_16 : decode cX9_is 16 = .ok (.aload_n 0, 1) := by decide +kernel
theorem dX9_is_17 : decode cX9_is 17 = .ok (.getfield 10, 3) := by decide +kernel
theorem dX9_is_20 : decode cX9_is 20 = .ok (.iload_n 1, 1) := by decide +kernel
theorem dX9_is_21 : decode cX9_is 21 = .ok (.invokestatic 197, 3) := by decide +kernel
theorem dX9_is_24 : decode cX9_is 24 = .ok (.ireturn, 1) := by decide +kernel
theorem dX9_next_0 : decode cX9_next 0 = .ok (.aload_n 0, 1) := by decide +kernel
theorem dX9_next_1 : decode cX9_next 1 = .ok (.getfield 10, 3) := by decide +kernel
theorem dX9_next_4 : decode cX9_next 4 = .ok (.iload_n 1, 1) := by decide +kernel
theorem dX9_next_5 : decode cX9_next 5 = .ok (.invokevirtual 109, 3) := by decide +kernel
theorem dX9_next_8 : decode cX9_next 8 = .ok (.ifCond .ne 8, 3) := by decide +kernel
theorem dX9_next_11 : decode cX9_next 11 = .ok (.aload_n 0, 1) := by decide +kernel
theorem dX9_next_12 : decode cX9_next 12 = .ok (.invokevirtual 75, 3) := by decide +kernel
theorem dX9_next_15 : decode cX9_next 15 = .ok (.ireturn, 1) := by decide +kernel
theorem dX9_next_16 : decode cX9_next 16 = .ok (.aload_n 0, 1) := by decide +kernel
theorem dX9_next_17 : decode cX9_next 17 = .ok (.getfield 44, 3) := by decide +kernel
theorem dX9_next_20 : decode cX9_next 20 = .ok (.aload_n 0, 1) := by decide +kernel
theorem dX9_next_21 : decode cX9_next 21 = .ok (.getfield 10, 3) := by decide +kernel
theorem dX9_next_24 : decode cX9_next 24 = .ok (.iload_n 1, 1) := by decide +kernel
theorem dX9_next_25 : decode cX9_next 25 = .ok (.invokevirtual 200, 3) := by decide +kernel
theorem dX9_next_28 : decode cX9_next 28 = .ok (.ireturn, 1) := by decide +kernel
theorem dX9_swapped_0 : decode cX9_swapped 0 = .ok (.iload_n 1, 1) := by decide +kernel
theorem dX9_swapped_1 : decode cX9_swapped 1 = .ok (.iconst (-1), 1) := by decide +kernel
theorem dX9_swapped_2 : decode cX9_swapped 2 = .ok (.if_icmp .ge 8, 3) := by decide +kernel
theorem dX9_swapped_5 : decode cX9_swapped 5 = .ok (.aload_n 0, 1) := by decide +kernel
theorem dX9_swapped_6 : decode cX9_swapped 6 = .ok (.invokevirtual 113, 3) := by decide +kernel
theorem dX9_swapped_9 : decode cX9_swapped 9 = .ok (.ireturn, 1) := by decide +kernel
theorem dX9_swapped_10 : decode cX9_swapped 10 = .ok (.aload_n 0, 1) := by decide +kernel
theorem dX9_swapped_11 : decode cX9_swapped 11 = .ok (.getfield 10, 3) := by decide +kernel
theorem dX9_swapped_14 : decode cX9_swapped 14 = .ok (.iload_n 1, 1) := by decide +kernel
theorem dX9_swapped_15 : decode cX9_swapped 15 = .ok (.invokestatic 203, 3) := by decide +kernel
theorem dX9_swapped_18 : decode cX9_swapped 18 = .ok (.ireturn, 1) := by decide +kernel
theorem dX9_back_0 : decode cX9_back 0 = .ok (.aload_n 0, 1) := by decide +kernel
theorem dX9_back_1 : decode cX9_back 1 = .ok (.getfield 10, 3) := by decide +kernel
theorem dX9_back_4 : decode cX9_back 4 = .ok (.invokestatic 206, 3) := by decide +kernel
theorem dX9_back_7 : decode cX9_back 7 = .ok (.ireturn, 1) := by decide +kernel
theorem dX9_crusts_0 : decode cX9_crusts 0 = .ok (.aload_n 0, 1) := by decide +kernel
theorem dX9_crusts_1 : decode cX9_crusts 1 = .ok (.getfield 10, 3) := by decide +kernel
theorem dX9_crusts_4 : decode cX9_crusts 4 = .ok (.iload_n 1, 1) := by decide +kernel
theorem dX9_crusts_5 : decode cX9_crusts 5 = .ok (.invokevirtual 109, 3) := by decide +kernel
theorem dX9_crusts_8 : decode cX9_crusts 8 = .ok (.ifCond .eq 12, 3) := by decide +kernel
theorem dX9_crusts_11 : decode cX9_crusts 11 = .ok (.iload_n 2, 1) := by decide +kernel
theorem dX9_crusts_12 : decode cX9_crusts 12 = .ok (.iconst 0, 1) := by decide +kernel
theorem dX9_crusts_13 : decode cX9_crusts 13 = .ok (.iconst 1, 1) := by decide +kernel
theorem dX9_crusts_14 : decode cX9_crusts 14 = .ok (.invokestatic 71, 3) := by decide +kernel
theorem dX9_crusts_17 : decode cX9_crusts 17 = .ok (.ifCond .ne 8, 3) := by decide +kernel
theorem dX9_crusts_20 : decode cX9_crusts 20 = .ok (.aload_n 0, 1) := by decide +kernel
theorem dX9_crusts_21 : decode cX9_crusts 21 = .ok (.invokevirtual 75, 3) := by decide +kernel
theorem dX9_crusts_24 : decode cX9_crusts 24 = .ok (.ireturn, 1) := by decide +kernel
theorem dX9_crusts_25 : decode cX9_crusts 25 = .ok (.aload_n 0, 1) := by decide +kernel
theorem dX9_crusts_26 : decode cX9_crusts 26 = .ok (.getfield 10, 3) := by decide +kernel
theorem dX9_crusts_29 : decode cX9_crusts 29 = .ok (.getfield 116, 3) := by decide +kernel
theorem dX9_crusts_32 : decode cX9_crusts 32 = .ok (.iload_n 1, 1) := by decide +kernel
theorem dX9_crusts_33 : decode cX9_crusts 33 = .ok (.iaload, 1) := by decide +kernel
theorem dX9_crusts_34 : decode cX9_crusts 34 = .ok (.istore_n 3, 1) := by decide +kernel
theorem dX9_crusts_35 : decode cX9_crusts 35 = .ok (.iload_n 2, 1) := by decide +kernel
theorem dX9_crusts_36 : decode cX9_crusts 36 = .ok (.ifCond .ne 10, 3) := by decide +kernel
theorem dX9_crusts_39 : decode cX9_crusts 39 = .ok (.iload_n 3, 1) := by decide +kernel
theorem dX9_crusts_40 : decode cX9_crusts 40 = .ok (.invokestatic 209, 3) := by decide +kernel
theorem dX9_crusts_43 : decode cX9_crusts 43 = .ok (.goto 7, 3) := by decide +kernel
theorem dX9_crusts_46 : decode cX9_crusts 46 = .ok (.iload_n 3, 1) := by decide +kernel
theorem dX9_crusts_47 : decode cX9_crusts 47 = .ok (.invokestatic 214, 3) := by decide +kernel
theorem dX9_crusts_50 : decode cX9_crusts 50 = .ok (.ireturn, 1) := by decide +kernel
theorem dX9_mice_0 : decode cX9_mice 0 = .ok (.aload_n 0, 1) := by decide +kernel
theorem dX9_mice_1 : decode cX9_mice 1 = .ok (.getfield 10, 3) := by decide +kernel
theorem dX9_mice_4 : decode cX9_mice 4 = .ok (.iload_n 1, 1) := by decide +kernel
theorem dX9_mice_5 : decode cX9_mice 5 = .ok (.invokevirtual 109, 3) := by decide +kernel
theorem dX9_mice_8 : decode cX9_mice 8 = .ok (.ifCond .eq 23, 3) := by decide +kernel
theorem dX9_mice_11 : decode cX9_mice 11 = .ok (.iload_n 2, 1) := by decide +kernel
theorem dX9_mice_12 : decode cX9_mice 12 = .ok (.iconst 0, 1) := by decide +kernel
theorem dX9_mice_13 : decode cX9_mice 13 = .ok (.bipush 12, 2) := by decide +kernel
theorem dX9_mice_15 : decode cX9_mice 15 = .ok (.invokestatic 71, 3) := by decide +kernel
theorem dX9_mice_18 : decode cX9_mice 18 = .ok (.ifCond .eq 13, 3) := by decide +kernel
theorem dX9_mice_21 : decode cX9_mice 21 = .ok (.iload_n 3, 1) := by decide +kernel
theorem dX9_mice_22 : decode cX9_mice 22 = .ok (.iconst 0, 1) := by decide +kernel
theorem dX9_mice_23 : decode cX9_mice 23 = .ok (.bipush 10, 2) := by decide +kernel
theorem dX9_mice_25 : decode cX9_mice 25 = .ok (.invokestatic 71, 3) := by decide +kernel
theorem dX9_mice_28 : decode cX9_mice 28 = .ok (.ifCond .ne 8, 3) := by decide +kernel
theorem dX9_mice_31 : decode cX9_mice 31 = .ok (.aload_n 0, 1) := by decide +kernel
theorem dX9_mice_32 : decode cX9_mice 32 = .ok (.invokevirtual 75, 3) := by decide +kernel
theorem dX9_mice_35 : decode cX9_mice 35 = .ok (.ireturn, 1) := by decide +kernel
theorem dX9_mice_36 : decode cX9_mice 36 = .ok (.aload_n 0, 1) := by decide +kernel
theorem dX9_mice_37 : decode cX9_mice 37 = .ok (.getfield 30, 3) := by decide +kernel
theorem dX9_mice_40 : decode cX9_mice 40 = .ok (.aload_n 0, 1) := by decide +kernel
theorem dX9_mice_41 : decode cX9_mice 41 = .ok (.getfield 10, 3) := by decide +kernel
theorem dX9_mice_44 : decode cX9_mice 44 = .ok (.iload_n 1, 1) := by decide +kernel
theorem dX9_mice_45 : decode cX9_mice 45 = .ok (.iload_n 2, 1) := by decide +kernel
theorem dX9_mice_46 : decode cX9_mice 46 = .ok (.iload_n 3, 1) := by decide +kernel
theorem dX9_mice_47 : decode cX9_mice 47 = .ok (.aload_n 0, 1) := by decide +kernel
theorem dX9_mice_48 : decode cX9_mice 48 = .ok (.getfield 51, 3) := by decide +kernel
theorem dX9_mice_51 : decode cX9_mice 51 = .ok (.invokevirtual 217, 3) := by decide +kernel
theorem dX9_mice_54 : decode cX9_mice 54 = .ok (.iconst 1, 1) := by decide +kernel
theorem dX9_mice_55 : decode cX9_mice 55 = .ok (.ireturn, 1) := by decide +kernel
theorem dX9_years_0 : decode cX9_years 0 = .ok (.iload_n 1, 1) := by decide +kernel
theorem dX9_years_1 : decode cX9_years 1 = .ok (.iconst 0, 1) := by decide +kernel
theorem dX9_years_2 : decode cX9_years 2 = .ok (.ldc 221, 2) := by decide +kernel
theorem dX9_years_4 : decode cX9_years 4 = .ok (.invokestatic 71, 3) := by decide +kernel
theorem dX9_years_7 : decode cX9_years 7 = .ok (.ifCond .eq 23, 3) := by decide +kernel
theorem dX9_years_10 : decode cX9_years 10 = .ok (.iload_n 2, 1) := by decide +kernel
theorem dX9_years_11 : decode cX9_years 11 = .ok (.iconst 0, 1) := by decide +kernel
theorem dX9_years_12 : decode cX9_years 12 = .ok (.bipush 60, 2) := by decide +kernel
theorem dX9_years_14 : decode cX9_years 14 = .ok (.invokestatic 71, 3) := by decide +kernel
theorem dX9_years_17 : decode cX9_years 17 = .ok (.ifCond .eq 13, 3) := by decide +kernel
theorem dX9_years_20 : decode cX9_years 20 = .ok (.iload_n 3, 1) := by decide +kernel
theorem dX9_years_21 : decode cX9_years 21 = .ok (.iconst 0, 1) := by decide +kernel
theorem dX9_years_22 : decode cX9_years 22 = .ok (.bipush 100, 2) := by decide +kernel
theorem dX9_years_24 : decode cX9_years 24 = .ok (.invokestatic 71, 3) := by decide +kernel
theorem dX9_years_27 : decode cX9_years 27 = .ok (.ifCond .ne 8, 3) := by decide +kernel
theorem dX9_years_30 : decode cX9_years 30 = .ok (.aload_n 0, 1) := by decide +kernel
theorem dX9_years_31 : decode cX9_years 31 = .ok (.invokevirtual 75, 3) := by decide +kernel
theorem dX9_years_34 : decode cX9_years 34 = .ok (.ireturn, 1) := by decide +kernel
theorem dX9_years_35 : decode cX9_years 35 = .ok (.aload_n 0, 1) := by decide +kernel
theorem dX9_years_36 : decode cX9_years 36 = .ok (.getfield 30, 3) := by decide +kernel
theorem dX9_years_39 : decode cX9_years 39 = .ok (.aload_n 0, 1) := by decide +kernel
theorem dX9_years_40 : decode cX9_years 40 = .ok (.getfield 10, 3) := by decide +kernel
theorem dX9_years_43 : decode cX9_years 43 = .ok (.iload_n 1, 1) := by decide +kernel
theorem dX9_years_44 : decode cX9_years 44 = .ok (.iload_n 2, 1) := by decide +kernel
theorem dX9_years_45 : decode cX9_years 45 = .ok (.iload_n 3, 1) := by decide +kernel
theorem dX9_years_46 : decode cX9_years 46 = .ok (.invokevirtual 222, 3) := by decide +kernel
theorem dX9_years_49 : decode cX9_years 49 = .ok (.ireturn, 1) := by decide +kernel
theorem dX9_part_0 : decode cX9_part 0 = .ok (.iload_n 1, 1) := by decide +kernel
theorem dX9_part_1 : decode cX9_part 1 = .ok (.iconst 0, 1) := by decide +kernel
theorem dX9_part_2 : decode cX9_part 2 = .ok (.iconst 1, 1) := by decide +kernel
theorem dX9_part_3 : decode cX9_part 3 = .ok (.invokestatic 71, 3) := by decide +kernel
theorem dX9_part_6 : decode cX9_part 6 = .ok (.ifCond .ne 9, 3) := by decide +kernel
theorem dX9_part_9 : decode cX9_part 9 = .ok (.aload_n 0, 1) := by decide +kernel
theorem dX9_part_10 : decode cX9_part 10 = .ok (.invokevirtual 75, 3) := by decide +kernel
theorem dX9_part_13 : decode cX9_part 13 = .ok (.i2l, 1) := by decide +kernel
theorem dX9_part_14 : decode cX9_part 14 = .ok (.lreturn, 1) := by decide +kernel
theorem dX9_part_15 : decode cX9_part 15 = .ok (.iload_n 1, 1) := by decide +kernel
theorem dX9_part_16 : decode cX9_part 16 = .ok (.ifCond .ne 13, 3) := by decide +kernel
theorem dX9_part_19 : decode cX9_part 19 = .ok (.aload_n 0, 1) := by decide +kernel
theorem dX9_part_20 : decode cX9_part 20 = .ok (.getfield 51, 3) := by decide +kernel
theorem dX9_part_23 : decode cX9_part 23 = .ok (.getfield 226, 3) := by decide +kernel
theorem dX9_part_26 : decode cX9_part 26 = .ok (.goto 10, 3) := by decide +kernel
theorem dX9_part_29 : decode cX9_part 29 = .ok (.aload_n 0, 1) := by decide +kernel
theorem dX9_part_30 : decode cX9_part 30 = .ok (.getfield 51, 3) := by decide +kernel
theorem dX9_part_33 : decode cX9_part 33 = .ok (.getfield 230, 3) := by decide +kernel
theorem dX9_part_36 : decode cX9_part 36 = .ok (.lreturn, 1) := by decide +kernel
theorem dX9_image_0 : decode cX9_image 0 = .ok (.iload_n 1, 1) := by decide +kernel
theorem dX9_image_1 : decode cX9_image 1 = .ok (.iconst 0, 1) := by decide +kernel
theorem dX9_image_2 : decode cX9_image 2 = .ok (.iconst 1, 1) := by decide +kernel
theorem dX9_image_3 : decode cX9_image 3 = .ok (.invokestatic 71, 3) := by decide +kernel
theorem dX9_image_6 : decode cX9_image 6 = .ok (.ifCond .ne 8, 3) := by decide +kernel
theorem dX9_image_9 : decode cX9_image 9 = .ok (.aload_n 0, 1) := by decide +kernel
theorem dX9_image_10 : decode cX9_image 10 = .ok (.invokevirtual 75, 3) := by decide +kernel
theorem dX9_image_13 : decode cX9_image 13 = .ok (.ireturn, 1) := by decide +kernel
theorem dX9_image_14 : decode cX9_image 14 = .ok (.aload_n 0, 1) := by decide +kernel
theorem dX9_image_15 : decode cX9_image 15 = .ok (.getfield 16, 3) := by decide +kernel
theorem dX9_image_18 : decode cX9_image 18 = .ok (.iload_n 1, 1) := by decide +kernel
theorem dX9_image_19 : decode cX9_image 19 = .ok (.aaload, 1) := by decide +kernel
theorem dX9_image_20 : decode cX9_image 20 = .ok (.astore_n 2, 1) := by decide +kernel
theorem dX9_image_21 : decode cX9_image 21 = .ok (.aload_n 2, 1) := by decide +kernel
theorem dX9_image_22 : decode cX9_image 22 = .ok (.ifnonnull 18, 3) := by decide +kernel
theorem dX9_image_25 : decode cX9_image 25 = .ok (.new 7, 3) := by decide +kernel
theorem dX9_image_28 : decode cX9_image 28 = .ok (.dup, 1) := by decide +kernel
theorem dX9_image_29 : decode cX9_image 29 = .ok (.invokespecial 9, 3) := by decide +kernel
theorem dX9_image_32 : decode cX9_image 32 = .ok (.astore_n 2, 1) := by decide +kernel
theorem dX9_image_33 : decode cX9_image 33 = .ok (.aload_n 0, 1) := by decide +kernel
theorem dX9_image_34 : decode cX9_image 34 = .ok (.getfield 16, 3) := by decide +kernel
theorem dX9_image_37 : decode cX9_image 37 = .ok (.iload_n 1, 1) := by decide +kernel
theorem dX9_image_38 : decode cX9_image 38 = .ok (.aload_n 2, 1) := by decide +kernel
theorem dX9_image_39 : decode cX9_image 39 = .ok (.aastore, 1) := by decide +kernel
theorem dX9_image_40 : decode cX9_image 40 = .ok (.aload_n 2, 1) := by decide +kernel
theorem dX9_image_41 : decode cX9_image 41 = .ok (.aload_n 0, 1) := by decide +kernel
theorem dX9_image_42 : decode cX9_image 42 = .ok (.getfield 10, 3) := by decide +kernel
theorem dX9_image_45 : decode cX9_image 45 = .ok (.invokevirtual 233, 3) := by decide +kernel
theorem dX9_image_48 : decode cX9_image 48 = .ok (.iconst 1, 1) := by decide +kernel
theorem dX9_image_49 : decode cX9_image 49 = .ok (.ireturn, 1) := by decide +kernel
theorem dX9_from_0 : decode cX9_from 0 = .ok (.iload_n 1, 1) := by decide +kernel
theorem dX9_from_1 : decode cX9_from 1 = .ok (.iconst 0, 1) := by decide +kernel
theorem dX9_from_2 : decode cX9_from 2 = .ok (.iconst 1, 1) := by decide +kernel
theorem dX9_from_3 : decode cX9_from 3 = .ok (.invokestatic 71, 3) := by decide +kernel
theorem dX9_from_6 : decode cX9_from 6 = .ok (.ifCond .ne 8, 3) := by decide +kernel
theorem dX9_from_9 : decode cX9_from 9 = .ok (.aload_n 0, 1) := by decide +kernel
theorem dX9_from_10 : decode cX9_from 10 = .ok (.invokevirtual 75, 3) := by decide +kernel
theorem dX9_from_13 : decode cX9_from 13 = .ok (.ireturn, 1) := by decide +kernel
theorem dX9_from_14 : decode cX9_from 14 = .ok (.aload_n 0, 1) := by decide +kernel
theorem dX9_from_15 : decode cX9_from 15 = .ok (.getfield 16, 3) := by decide +kernel
theorem dX9_from_18 : decode cX9_from 18 = .ok (.iload_n 1, 1) := by decide +kernel
theorem dX9_from_19 : decode cX9_from 19 = .ok (.aaload, 1) := by decide +kernel
theorem dX9_from_20 : decode cX9_from 20 = .ok (.astore_n 2, 1) := by decide +kernel
theorem dX9_from_21 : decode cX9_from 21 = .ok (.aload_n 2, 1) := by decide +kernel
theorem dX9_from_22 : decode cX9_from 22 = .ok (.ifnonnull 8, 3) := by decide +kernel
theorem dX9_from_25 : decode cX9_from 25 = .ok (.aload_n 0, 1) := by decide +kernel
theorem dX9_from_26 : decode cX9_from 26 = .ok (.invokevirtual 120, 3) := by decide +kernel
theorem dX9_from_29 : decode cX9_from 29 = .ok (.ireturn, 1) := by decide +kernel
theorem dX9_from_30 : decode cX9_from 30 = .ok (.aload_n 0, 1) := by decide +kernel
theorem dX9_from_31 : decode cX9_from 31 = .ok (.getfield 10, 3) := by decide +kernel
theorem dX9_from_34 : decode cX9_from 34 = .ok (.aload_n 2, 1) := by decide +kernel
theorem dX9_from_35 : decode cX9_from 35 = .ok (.invokevirtual 233, 3) := by decide +kernel
theorem dX9_from_38 : decode cX9_from 38 = .ok (.iconst 1, 1) := by decide +kernel
theorem dX9_from_39 : decode cX9_from 39 = .ok (.ireturn, 1) := by decide +kernel
theorem dX9_status_0 : decode cX9_status 0 = .ok (.iload_n 1, 1) := by decide +kernel
theorem dX9_status_1 : decode cX9_status 1 = .ok (.tableswitch 42 0 2 #[27, 32, 37], 27) := by decide +kernel
theorem dX9_status_28 : decode cX9_status 28 = .ok (.aload_n 0, 1) := by decide +kernel
theorem dX9_status_29 : decode cX9_status 29 = .ok (.getfield 55, 3) := by decide +kernel
theorem dX9_status_32 : decode cX9_status 32 = .ok (.ireturn, 1) := by decide +kernel
theorem dX9_status_33 : decode cX9_status 33 = .ok (.aload_n 0, 1) := by decide +kernel
theorem dX9_status_34 : decode cX9_status 34 = .ok (.getfield 59, 3) := by decide +kernel
theorem dX9_status_37 : decode cX9_status 37 = .ok (.ireturn, 1) := by decide +kernel
theorem dX9_status_38 : decode cX9_status 38 = .ok (.aload_n 0, 1) := by decide +kernel
theorem dX9_status_39 : decode cX9_status 39 = .ok (.getfield 62, 3) := by decide +kernel
theorem dX9_status_42 : decode cX9_status 42 = .ok (.ireturn, 1) := by decide +kernel
theorem dX9_status_43 : decode cX9_status 43 = .ok (.aload_n 0, 1) := by decide +kernel
theorem dX9_status_44 : decode cX9_status 44 = .ok (.dup, 1) := by decide +kernel
theorem dX9_status_45 : decode cX9_status 45 = .ok (.getfield 55, 3) := by decide +kernel
theorem dX9_status_48 : decode cX9_status 48 = .ok (.iconst 1, 1) := by decide +kernel
theorem dX9_status_49 : decode cX9_status 49 = .ok (.iadd, 1) := by decide +kernel
theorem dX9_status_50 : decode cX9_status 50 = .ok (.putfield 55, 3) := by decide +kernel
theorem dX9_status_53 : decode cX9_status 53 = .ok (.iconst (-1), 1) := by decide +kernel
theorem dX9_status_54 : decode cX9_status 54 = .ok (.ireturn, 1) := by decide +kernel
theorem dX9_count_0 : decode cX9_count 0 = .ok (.iload_n 1, 1) := by decide +kernel
theorem dX9_count_1 : decode cX9_count 1 = .ok (.tableswitch 102 0 6 #[43, 51, 59, 67, 75, 83, 94], 43) := by decide +kernel
theorem dX9_count_44 : decode cX9_count 44 = .ok (.aload_n 0, 1) := by decide +kernel
theorem dX9_count_45 : decode cX9_count 45 = .ok (.getfield 10, 3) := by decide +kernel
theorem dX9_count_48 : decode cX9_count 48 = .ok (.getfield 65, 3) := by decide +kernel
theorem dX9_count_51 : decode cX9_count 51 = .ok (.ireturn, 1) := by decide +kernel
theorem dX9_count_52 : decode cX9_count 52 = .ok (.aload_n 0, 1) := by decide +kernel
theorem dX9_count_53 : decode cX9_count 53 = .ok (.getfield 10, 3) := by decide +kernel
theorem dX9_count_56 : decode cX9_count 56 = .ok (.getfield 236, 3) := by decide +kernel
theorem dX9_count_59 : decode cX9_count 59 = .ok (.ireturn, 1) := by decide +kernel
theorem dX9_count_60 : decode cX9_count 60 = .ok (.aload_n 0, 1) := by decide +kernel
theorem dX9_count_61 : decode cX9_count 61 = .ok (.getfield 10, 3) := by decide +kernel
theorem dX9_count_64 : decode cX9_count 64 = .ok (.getfield 139, 3) := by decide +kernel
theorem dX9_count_67 : decode cX9_count 67 = .ok (.ireturn, 1) := by decide +kernel
theorem dX9_count_68 : decode cX9_count 68 = .ok (.aload_n 0, 1) := by decide +kernel
theorem dX9_count_69 : decode cX9_count 69 = .ok (.getfield 10, 3) := by decide +kernel
theorem dX9_count_72 : decode cX9_count 72 = .ok (.invokevirtual 239, 3) := by decide +kernel
theorem dX9_count_75 : decode cX9_count 75 = .ok (.ireturn, 1) := by decide +kernel
theorem dX9_count_76 : decode cX9_count 76 = .ok (.aload_n 0, 1) := by decide +kernel
theorem dX9_count_77 : decode cX9_count 77 = .ok (.getfield 10, 3) := by decide +kernel
theorem dX9_count_80 : decode cX9_count 80 = .ok (.getfield 194, 3) := by decide +kernel
theorem dX9_count_83 : decode cX9_count 83 = .ok (.ireturn, 1) := by decide +kernel
theorem dX9_count_84 : decode cX9_count 84 = .ok (.aload_n 0, 1) := by decide +kernel
theorem dX9_count_85 : decode cX9_count 85 = .ok (.getfield 10, 3) := by decide +kernel
theorem dX9_count_88 : decode cX9_count 88 = .ok (.getfield 127, 3) := by decide +kernel
theorem dX9_count_91 : decode cX9_count 91 = .ok (.getfield 131, 3) := by decide +kernel
theorem dX9_count_94 : decode cX9_count 94 = .ok (.ireturn, 1) := by decide +kernel
theorem dX9_count_95 : decode cX9_count 95 = .ok (.aload_n 0, 1) := by decide +kernel
theorem dX9_count_96 : decode cX9_count 96 = .ok (.getfield 23, 3) := by decide +kernel
theorem dX9_count_99 : decode cX9_count 99 = .ok (.getfield 242, 3) := by decide +kernel
theorem dX9_count_102 : decode cX9_count 102 = .ok (.ireturn, 1) := by decide +kernel
theorem dX9_count_103 : decode cX9_count 103 = .ok (.aload_n 0, 1) := by decide +kernel
theorem dX9_count_104 : decode cX9_count 104 = .ok (.invokevirtual 75, 3) := by decide +kernel
theorem dX9_count_107 : decode cX9_count 107 = .ok (.ireturn, 1) := by decide +kernel
theorem dX9_digest_0 : decode cX9_digest 0 = .ok (.ldc2_w 245, 3) := by decide +kernel
theorem dX9_digest_3 : decode cX9_digest 3 = .ok (.lstore_n 1, 1) := by decide +kernel
theorem dX9_digest_4 : decode cX9_digest 4 = .ok (.iconst 0, 1) := by decide +kernel
theorem dX9_digest_5 : decode cX9_digest 5 = .ok (.istore_n 3, 1) := by decide +kernel
theorem dX9_digest_6 : decode cX9_digest 6 = .ok (.iload_n 3, 1) := by decide +kernel
theorem dX9_digest_7 : decode cX9_digest 7 = .ok (.bipush 6, 2) := by decide +kernel
theorem dX9_digest_9 : decode cX9_digest 9 = .ok (.if_icmp .gt 22, 3) := by decide +kernel
theorem dX9_digest_12 : decode cX9_digest 12 = .ok (.ldc2_w 247, 3) := by decide +kernel
theorem dX9_digest_15 : decode cX9_digest 15 = .ok (.lload_n 1, 1) := by decide +kernel
theorem dX9_digest_16 : decode cX9_digest 16 = .ok (.lmul, 1) := by decide +kernel
theorem dX9_digest_17 : decode cX9_digest 17 = .ok (.aload_n 0, 1) := by decide +kernel
theorem dX9_digest_18 : decode cX9_digest 18 = .ok (.iload_n 3, 1) := by decide +kernel
theorem dX9_digest_19 : decode cX9_digest 19 = .ok (.invokevirtual 249, 3) := by decide +kernel
theorem dX9_digest_22 : decode cX9_digest 22 = .ok (.i2l, 1) := by decide +kernel
theorem dX9_digest_23 : decode cX9_digest 23 = .ok (.ladd, 1) := by decide +kernel
theorem dX9_digest_24 : decode cX9_digest 24 = .ok (.lstore_n 1, 1) := by decide +kernel
theorem dX9_digest_25 : decode cX9_digest 25 = .ok (.iinc 3 1, 3) := by decide +kernel
theorem dX9_digest_28 : decode cX9_digest 28 = .ok (.goto (-22), 3) := by decide +kernel
theorem dX9_digest_31 : decode cX9_digest 31 = .ok (.aload_n 0, 1) := by decide +kernel
theorem dX9_digest_32 : decode cX9_digest 32 = .ok (.getfield 10, 3) := by decide +kernel
theorem dX9_digest_35 : decode cX9_digest 35 = .ok (.lload_n 1, 1) := by decide +kernel
theorem dX9_digest_36 : decode cX9_digest 36 = .ok (.invokevirtual 252, 3) := by decide +kernel
theorem dX9_digest_39 : decode cX9_digest 39 = .ok (.lstore_n 1, 1) := by decide +kernel
theorem dX9_digest_40 : decode cX9_digest 40 = .ok (.ldc2_w 247, 3) := by decide +kernel
theorem dX9_digest_43 : decode cX9_digest 43 = .ok (.lload_n 1, 1) := by decide +kernel
theorem dX9_digest_44 : decode cX9_digest 44 = .ok (.lmul, 1) := by decide +kernel
theorem dX9_digest_45 : decode cX9_digest 45 = .ok (.aload_n 0, 1) := by decide +kernel
theorem dX9_digest_46 : decode cX9_digest 46 = .ok (.getfield 51, 3) := by decide +kernel
theorem dX9_digest_49 : decode cX9_digest 49 = .ok (.getfield 226, 3) := by decide +kernel
theorem dX9_digest_52 : decode cX9_digest 52 = .ok (.ladd, 1) := by decide +kernel
theorem dX9_digest_53 : decode cX9_digest 53 = .ok (.lstore_n 1, 1) := by decide +kernel
theorem dX9_digest_54 : decode cX9_digest 54 = .ok (.ldc2_w 247, 3) := by decide +kernel
theorem dX9_digest_57 : decode cX9_digest 57 = .ok (.lload_n 1, 1) := by decide +kernel
theorem dX9_digest_58 : decode cX9_digest 58 = .ok (.lmul, 1) := by decide +kernel
theorem dX9_digest_59 : decode cX9_digest 59 = .ok (.aload_n 0, 1) := by decide +kernel
theorem dX9_digest_60 : decode cX9_digest 60 = .ok (.getfield 51, 3) := by decide +kernel
theorem dX9_digest_63 : decode cX9_digest 63 = .ok (.getfield 230, 3) := by decide +kernel
theorem dX9_digest_66 : decode cX9_digest 66 = .ok (.ladd, 1) := by decide +kernel
theorem dX9_digest_67 : decode cX9_digest 67 = .ok (.lreturn, 1) := by decide +kernel
theorem dX9_bad_0 : decode cX9_bad 0 = .ok (.aload_n 0, 1) := by decide +kernel
theorem dX9_bad_1 : decode cX9_bad 1 = .ok (.dup, 1) := by decide +kernel
theorem dX9_bad_2 : decode cX9_bad 2 = .ok (.getfield 55, 3) := by decide +kernel
theorem dX9_bad_5 : decode cX9_bad 5 = .ok (.iconst 1, 1) := by decide +kernel
theorem dX9_bad_6 : decode cX9_bad 6 = .ok (.iadd, 1) := by decide +kernel
theorem dX9_bad_7 : decode cX9_bad 7 = .ok (.putfield 55, 3) := by decide +kernel
theorem dX9_bad_10 : decode cX9_bad 10 = .ok (.bipush (-2), 2) := by decide +kernel
theorem dX9_bad_12 : decode cX9_bad 12 = .ok (.ireturn, 1) := by decide +kernel
theorem dX9_badTen_0 : decode cX9_badTen 0 = .ok (.aload_n 0, 1) := by decide +kernel
theorem dX9_badTen_1 : decode cX9_badTen 1 = .ok (.dup, 1) := by decide +kernel
theorem dX9_badTen_2 : decode cX9_badTen 2 = .ok (.getfield 55, 3) := by decide +kernel
theorem dX9_badTen_5 : decode cX9_badTen 5 = .ok (.iconst 1, 1) := by decide +kernel
theorem dX9_badTen_6 : decode cX9_badTen 6 = .ok (.iadd, 1) := by decide +kernel
theorem dX9_badTen_7 : decode cX9_badTen 7 = .ok (.putfield 55, 3) := by decide +kernel
theorem dX9_badTen_10 : decode cX9_badTen 10 = .ok (.bipush (-10), 2) := by decide +kernel
theorem dX9_badTen_12 : decode cX9_badTen 12 = .ok (.ireturn, 1) := by decide +kernel
theorem dX9_no_0 : decode cX9_no 0 = .ok (.aload_n 0, 1) := by decide +kernel
theorem dX9_no_1 : decode cX9_no 1 = .ok (.dup, 1) := by decide +kernel
theorem dX9_no_2 : decode cX9_no 2 = .ok (.getfield 59, 3) := by decide +kernel
theorem dX9_no_5 : decode cX9_no 5 = .ok (.iconst 1, 1) := by decide +kernel
theorem dX9_no_6 : decode cX9_no 6 = .ok (.iadd, 1) := by decide +kernel
theorem dX9_no_7 : decode cX9_no 7 = .ok (.putfield 59, 3) := by decide +kernel
theorem dX9_no_10 : decode cX9_no 10 = .ok (.bipush (-3), 2) := by decide +kernel
theorem dX9_no_12 : decode cX9_no 12 = .ok (.ireturn, 1) := by decide +kernel
theorem dX9_full_0 : decode cX9_full 0 = .ok (.aload_n 0, 1) := by decide +kernel
theorem dX9_full_1 : decode cX9_full 1 = .ok (.dup, 1) := by decide +kernel
theorem dX9_full_2 : decode cX9_full 2 = .ok (.getfield 62, 3) := by decide +kernel
theorem dX9_full_5 : decode cX9_full 5 = .ok (.iconst 1, 1) := by decide +kernel
theorem dX9_full_6 : decode cX9_full 6 = .ok (.iadd, 1) := by decide +kernel
theorem dX9_full_7 : decode cX9_full 7 = .ok (.putfield 62, 3) := by decide +kernel
theorem dX9_full_10 : decode cX9_full 10 = .ok (.bipush (-4), 2) := by decide +kernel
theorem dX9_full_12 : decode cX9_full 12 = .ok (.ireturn, 1) := by decide +kernel
theorem dX9_within_0 : decode cX9_within 0 = .ok (.iload_n 0, 1) := by decide +kernel
theorem dX9_within_1 : decode cX9_within 1 = .ok (.iload_n 1, 1) := by decide +kernel
theorem dX9_within_2 : decode cX9_within 2 = .ok (.if_icmp .lt 12, 3) := by decide +kernel
theorem dX9_within_5 : decode cX9_within 5 = .ok (.iload_n 0, 1) := by decide +kernel
theorem dX9_within_6 : decode cX9_within 6 = .ok (.iload_n 2, 1) := by decide +kernel
theorem dX9_within_7 : decode cX9_within 7 = .ok (.if_icmp .gt 7, 3) := by decide +kernel
theorem dX9_within_10 : decode cX9_within 10 = .ok (.iconst 1, 1) := by decide +kernel
theorem dX9_within_11 : decode cX9_within 11 = .ok (.goto 4, 3) := by decide +kernel
theorem dX9_within_14 : decode cX9_within 14 = .ok (.iconst 0, 1) := by decide +kernel
theorem dX9_within_15 : decode cX9_within 15 = .ok (.ireturn, 1) := by decide +kernel
theorem dJ6_bitCount_0f7a4_0 : decode cJ6_bitCount_0f7a4 0 = .ok (.iload_n 0, 1) := by decide +kernel
theorem dJ6_bitCount_0f7a4_1 : decode cJ6_bitCount_0f7a4 1 = .ok (.iload_n 0, 1) := by decide +kernel
theorem dJ6_bitCount_0f7a4_2 : decode cJ6_bitCount_0f7a4 2 = .ok (.iconst 1, 1) := by decide +kernel
theorem dJ6_bitCount_0f7a4_3 : decode cJ6_bitCount_0f7a4 3 = .ok (.iushr, 1) := by decide +kernel
theorem dJ6_bitCount_0f7a4_4 : decode cJ6_bitCount_0f7a4 4 = .ok (.ldc_w 265, 3) := by decide +kernel
theorem dJ6_bitCount_0f7a4_7 : decode cJ6_bitCount_0f7a4 7 = .ok (.iand, 1) := by decide +kernel
theorem dJ6_bitCount_0f7a4_8 : decode cJ6_bitCount_0f7a4 8 = .ok (.isub, 1) := by decide +kernel
theorem dJ6_bitCount_0f7a4_9 : decode cJ6_bitCount_0f7a4 9 = .ok (.istore_n 0, 1) := by decide +kernel
theorem dJ6_bitCount_0f7a4_10 : decode cJ6_bitCount_0f7a4 10 = .ok (.iload_n 0, 1) := by decide +kernel
theorem dJ6_bitCount_0f7a4_11 : decode cJ6_bitCount_0f7a4 11 = .ok (.ldc_w 266, 3) := by decide +kernel
theorem dJ6_bitCount_0f7a4_14 : decode cJ6_bitCount_0f7a4 14 = .ok (.iand, 1) := by decide +kernel
theorem dJ6_bitCount_0f7a4_15 : decode cJ6_bitCount_0f7a4 15 = .ok (.iload_n 0, 1) := by decide +kernel
theorem dJ6_bitCount_0f7a4_16 : decode cJ6_bitCount_0f7a4 16 = .ok (.iconst 2, 1) := by decide +kernel
theorem dJ6_bitCount_0f7a4_17 : decode cJ6_bitCount_0f7a4 17 = .ok (.iushr, 1) := by decide +kernel
theorem dJ6_bitCount_0f7a4_18 : decode cJ6_bitCount_0f7a4 18 = .ok (.ldc_w 266, 3) := by decide +kernel
theorem dJ6_bitCount_0f7a4_21 : decode cJ6_bitCount_0f7a4 21 = .ok (.iand, 1) := by decide +kernel
theorem dJ6_bitCount_0f7a4_22 : decode cJ6_bitCount_0f7a4 22 = .ok (.iadd, 1) := by decide +kernel
theorem dJ6_bitCount_0f7a4_23 : decode cJ6_bitCount_0f7a4 23 = .ok (.istore_n 0, 1) := by decide +kernel
theorem dJ6_bitCount_0f7a4_24 : decode cJ6_bitCount_0f7a4 24 = .ok (.iload_n 0, 1) := by decide +kernel
theorem dJ6_bitCount_0f7a4_25 : decode cJ6_bitCount_0f7a4 25 = .ok (.iload_n 0, 1) := by decide +kernel
theorem dJ6_bitCount_0f7a4_26 : decode cJ6_bitCount_0f7a4 26 = .ok (.iconst 4, 1) := by decide +kernel
theorem dJ6_bitCount_0f7a4_27 : decode cJ6_bitCount_0f7a4 27 = .ok (.iushr, 1) := by decide +kernel
theorem dJ6_bitCount_0f7a4_28 : decode cJ6_bitCount_0f7a4 28 = .ok (.iadd, 1) := by decide +kernel
theorem dJ6_bitCount_0f7a4_29 : decode cJ6_bitCount_0f7a4 29 = .ok (.ldc_w 267, 3) := by decide +kernel
theorem dJ6_bitCount_0f7a4_32 : decode cJ6_bitCount_0f7a4 32 = .ok (.iand, 1) := by decide +kernel
theorem dJ6_bitCount_0f7a4_33 : decode cJ6_bitCount_0f7a4 33 = .ok (.istore_n 0, 1) := by decide +kernel
theorem dJ6_bitCount_0f7a4_34 : decode cJ6_bitCount_0f7a4 34 = .ok (.iload_n 0, 1) := by decide +kernel
theorem dJ6_bitCount_0f7a4_35 : decode cJ6_bitCount_0f7a4 35 = .ok (.iload_n 0, 1) := by decide +kernel
theorem dJ6_bitCount_0f7a4_36 : decode cJ6_bitCount_0f7a4 36 = .ok (.bipush 8, 2) := by decide +kernel
theorem dJ6_bitCount_0f7a4_38 : decode cJ6_bitCount_0f7a4 38 = .ok (.iushr, 1) := by decide +kernel
theorem dJ6_bitCount_0f7a4_39 : decode cJ6_bitCount_0f7a4 39 = .ok (.iadd, 1) := by decide +kernel
theorem dJ6_bitCount_0f7a4_40 : decode cJ6_bitCount_0f7a4 40 = .ok (.istore_n 0, 1) := by decide +kernel
theorem dJ6_bitCount_0f7a4_41 : decode cJ6_bitCount_0f7a4 41 = .ok (.iload_n 0, 1) := by decide +kernel
theorem dJ6_bitCount_0f7a4_42 : decode cJ6_bitCount_0f7a4 42 = .ok (.iload_n 0, 1) := by decide +kernel
theorem dJ6_bitCount_0f7a4_43 : decode cJ6_bitCount_0f7a4 43 = .ok (.bipush 16, 2) := by decide +kernel
theorem dJ6_bitCount_0f7a4_45 : decode cJ6_bitCount_0f7a4 45 = .ok (.iushr, 1) := by decide +kernel
theorem dJ6_bitCount_0f7a4_46 : decode cJ6_bitCount_0f7a4 46 = .ok (.iadd, 1) := by decide +kernel
theorem dJ6_bitCount_0f7a4_47 : decode cJ6_bitCount_0f7a4 47 = .ok (.istore_n 0, 1) := by decide +kernel
theorem dJ6_bitCount_0f7a4_48 : decode cJ6_bitCount_0f7a4 48 = .ok (.iload_n 0, 1) := by decide +kernel
theorem dJ6_bitCount_0f7a4_49 : decode cJ6_bitCount_0f7a4 49 = .ok (.bipush 63, 2) := by decide +kernel
theorem dJ6_bitCount_0f7a4_51 : decode cJ6_bitCount_0f7a4 51 = .ok (.iand, 1) := by decide +kernel
theorem dJ6_bitCount_0f7a4_52 : decode cJ6_bitCount_0f7a4 52 = .ok (.ireturn, 1) := by decide +kernel
theorem dJ9_max_7cf53_0 : decode cJ9_max_7cf53 0 = .ok (.iload_n 0, 1) := by decide +kernel
theorem dJ9_max_7cf53_1 : decode cJ9_max_7cf53 1 = .ok (.iload_n 1, 1) := by decide +kernel
theorem dJ9_max_7cf53_2 : decode cJ9_max_7cf53 2 = .ok (.if_icmp .lt 7, 3) := by decide +kernel
theorem dJ9_max_7cf53_5 : decode cJ9_max_7cf53 5 = .ok (.iload_n 0, 1) := by decide +kernel
theorem dJ9_max_7cf53_6 : decode cJ9_max_7cf53 6 = .ok (.goto 4, 3) := by decide +kernel
theorem dJ9_max_7cf53_9 : decode cJ9_max_7cf53 9 = .ok (.iload_n 1, 1) := by decide +kernel
theorem dJ9_max_7cf53_10 : decode cJ9_max_7cf53 10 = .ok (.ireturn, 1) := by decide +kernel
theorem dJ9_min_7cf53_0 : decode cJ9_min_7cf53 0 = .ok (.iload_n 0, 1) := by decide +kernel
theorem dJ9_min_7cf53_1 : decode cJ9_min_7cf53 1 = .ok (.iload_n 1, 1) := by decide +kernel
theorem dJ9_min_7cf53_2 : decode cJ9_min_7cf53 2 = .ok (.if_icmp .gt 7, 3) := by decide +kernel
theorem dJ9_min_7cf53_5 : decode cJ9_min_7cf53 5 = .ok (.iload_n 0, 1) := by decide +kernel
theorem dJ9_min_7cf53_6 : decode cJ9_min_7cf53 6 = .ok (.goto 4, 3) := by decide +kernel
theorem dJ9_min_7cf53_9 : decode cJ9_min_7cf53 9 = .ok (.iload_n 1, 1) := by decide +kernel
theorem dJ9_min_7cf53_10 : decode cJ9_min_7cf53 10 = .ok (.ireturn, 1) := by decide +kernel
theorem dJ0_length_8abf5_0 : decode cJ0_length_8abf5 0 = .ok (.aload_n 0, 1) := by decide +kernel
theorem dJ0_length_8abf5_1 : decode cJ0_length_8abf5 1 = .ok (.getfield 9, 3) := by decide +kernel
theorem dJ0_length_8abf5_4 : decode cJ0_length_8abf5 4 = .ok (.arraylength, 1) := by decide +kernel
theorem dJ0_length_8abf5_5 : decode cJ0_length_8abf5 5 = .ok (.aload_n 0, 1) := by decide +kernel
theorem dJ0_length_8abf5_6 : decode cJ0_length_8abf5 6 = .ok (.invokevirtual 335, 3) := by decide +kernel
theorem dJ0_length_8abf5_9 : decode cJ0_length_8abf5 9 = .ok (.ishr, 1) := by decide +kernel
theorem dJ0_length_8abf5_10 : decode cJ0_length_8abf5 10 = .ok (.ireturn, 1) := by decide +kernel
theorem dJ0_charAt_5068e_0 : decode cJ0_charAt_5068e 0 = .ok (.aload_n 0, 1) := by decide +kernel
theorem dJ0_charAt_5068e_1 : decode cJ0_charAt_5068e 1 = .ok (.invokevirtual 492, 3) := by decide +kernel
theorem dJ0_charAt_5068e_4 : decode cJ0_charAt_5068e 4 = .ok (.ifCond .eq 12, 3) := by decide +kernel
theorem dJ0_charAt_5068e_7 : decode cJ0_charAt_5068e 7 = .ok (.aload_n 0, 1) := by decide +kernel
theorem dJ0_charAt_5068e_8 : decode cJ0_charAt_5068e 8 = .ok (.getfield 9, 3) := by decide +kernel
theorem dJ0_charAt_5068e_11 : decode cJ0_charAt_5068e 11 = .ok (.iload_n 1, 1) := by decide +kernel
theorem dJ0_charAt_5068e_12 : decode cJ0_charAt_5068e 12 = .ok (.invokestatic 495, 3) := by decide +kernel
theorem dJ0_charAt_5068e_15 : decode cJ0_charAt_5068e 15 = .ok (.ireturn, 1) := by decide +kernel
theorem dJ0_charAt_5068e_16 : decode cJ0_charAt_5068e 16 = .ok (.aload_n 0, 1) := by decide +kernel
theorem dJ0_charAt_5068e_17 : decode cJ0_charAt_5068e 17 = .ok (.getfield 9, 3) := by decide +kernel
theorem dJ0_charAt_5068e_20 : decode cJ0_charAt_5068e 20 = .ok (.iload_n 1, 1) := by decide +kernel
theorem dJ0_charAt_5068e_21 : decode cJ0_charAt_5068e 21 = .ok (.invokestatic 498, 3) := by decide +kernel
theorem dJ0_charAt_5068e_24 : decode cJ0_charAt_5068e 24 = .ok (.ireturn, 1) := by decide +kernel
theorem dJ0_coder_7d493_0 : decode cJ0_coder_7d493 0 = .ok (.getstatic 38, 3) := by decide +kernel
theorem dJ0_coder_7d493_3 : decode cJ0_coder_7d493 3 = .ok (.ifCond .eq 10, 3) := by decide +kernel
theorem dJ0_coder_7d493_6 : decode cJ0_coder_7d493 6 = .ok (.aload_n 0, 1) := by decide +kernel
theorem dJ0_coder_7d493_7 : decode cJ0_coder_7d493 7 = .ok (.getfield 15, 3) := by decide +kernel
theorem dJ0_coder_7d493_10 : decode cJ0_coder_7d493 10 = .ok (.goto 4, 3) := by decide +kernel
theorem dJ0_coder_7d493_13 : decode cJ0_coder_7d493 13 = .ok (.iconst 1, 1) := by decide +kernel
theorem dJ0_coder_7d493_14 : decode cJ0_coder_7d493 14 = .ok (.ireturn, 1) := by decide +kernel
theorem dJ0_isLatin1_aae02_0 : decode cJ0_isLatin1_aae02 0 = .ok (.getstatic 38, 3) := by decide +kernel
theorem dJ0_isLatin1_aae02_3 : decode cJ0_isLatin1_aae02 3 = .ok (.ifCond .eq 14, 3) := by decide +kernel
theorem dJ0_isLatin1_aae02_6 : decode cJ0_isLatin1_aae02 6 = .ok (.aload_n 0, 1) := by decide +kernel
theorem dJ0_isLatin1_aae02_7 : decode cJ0_isLatin1_aae02 7 = .ok (.getfield 15, 3) := by decide +kernel
theorem dJ0_isLatin1_aae02_10 : decode cJ0_isLatin1_aae02 10 = .ok (.ifCond .ne 7, 3) := by decide +kernel
theorem dJ0_isLatin1_aae02_13 : decode cJ0_isLatin1_aae02 13 = .ok (.iconst 1, 1) := by decide +kernel
theorem dJ0_isLatin1_aae02_14 : decode cJ0_isLatin1_aae02 14 = .ok (.goto 4, 3) := by decide +kernel
theorem dJ0_isLatin1_aae02_17 : decode cJ0_isLatin1_aae02 17 = .ok (.iconst 0, 1) := by decide +kernel
theorem dJ0_isLatin1_aae02_18 : decode cJ0_isLatin1_aae02 18 = .ok (.ireturn, 1) := by decide +kernel
theorem dJ0_checkIndex_df160_0 : decode cJ0_checkIndex_df160 0 = .ok (.iload_n 0, 1) := by decide +kernel
theorem dJ0_checkIndex_df160_1 : decode cJ0_checkIndex_df160 1 = .ok (.iload_n 1, 1) := by decide +kernel
theorem dJ0_checkIndex_df160_2 : decode cJ0_checkIndex_df160 2 = .ok (.getstatic 1053, 3) := by decide +kernel
theorem dJ0_checkIndex_df160_5 : decode cJ0_checkIndex_df160 5 = .ok (.invokestatic 1059, 3) := by decide +kernel
theorem dJ0_checkIndex_df160_8 : decode cJ0_checkIndex_df160 8 = .ok (.pop, 1) := by decide +kernel
theorem dJ0_checkIndex_df160_9 : decode cJ0_checkIndex_df160 9 = .ok (.return_, 1) := by decide +kernel
theorem dJ1_charAt_3b067_0 : decode cJ1_charAt_3b067 0 = .ok (.iload_n 1, 1) := by decide +kernel
theorem dJ1_charAt_3b067_1 : decode cJ1_charAt_3b067 1 = .ok (.aload_n 0, 1) := by decide +kernel
theorem dJ1_charAt_3b067_2 : decode cJ1_charAt_3b067 2 = .ok (.arraylength, 1) := by decide +kernel
theorem dJ1_charAt_3b067_3 : decode cJ1_charAt_3b067 3 = .ok (.invokestatic 9, 3) := by decide +kernel
theorem dJ1_charAt_3b067_6 : decode cJ1_charAt_3b067 6 = .ok (.aload_n 0, 1) := by decide +kernel
theorem dJ1_charAt_3b067_7 : decode cJ1_charAt_3b067 7 = .ok (.iload_n 1, 1) := by decide +kernel
theorem dJ1_charAt_3b067_8 : decode cJ1_charAt_3b067 8 = .ok (.baload, 1) := by decide +kernel
theorem dJ1_charAt_3b067_9 : decode cJ1_charAt_3b067 9 = .ok (.sipush 255, 3) := by decide +kernel
theorem dJ1_charAt_3b067_12 : decode cJ1_charAt_3b067 12 = .ok (.iand, 1) := by decide +kernel
theorem dJ1_charAt_3b067_13 : decode cJ1_charAt_3b067 13 = .ok (.i2c, 1) := by decide +kernel
theorem dJ1_charAt_3b067_14 : decode cJ1_charAt_3b067 14 = .ok (.ireturn, 1) := by decide +kernel
theorem dJ2_getChar_3b067_0 : decode cJ2_getChar_3b067 0 = .ok (.getstatic 44, 3) := by decide +kernel
theorem dJ2_getChar_3b067_3 : decode cJ2_getChar_3b067 3 = .ok (.ifCond .ne 25, 3) := by decide +kernel
theorem dJ2_getChar_3b067_6 : decode cJ2_getChar_3b067 6 = .ok (.iload_n 1, 1) := by decide +kernel
theorem dJ2_getChar_3b067_7 : decode cJ2_getChar_3b067 7 = .ok (.ifCond .lt 11, 3) := by decide +kernel
theorem dJ2_getChar_3b067_10 : decode cJ2_getChar_3b067 10 = .ok (.iload_n 1, 1) := by decide +kernel
theorem dJ2_getChar_3b067_11 : decode cJ2_getChar_3b067 11 = .ok (.aload_n 0, 1) := by decide +kernel
theorem dJ2_getChar_3b067_12 : decode cJ2_getChar_3b067 12 = .ok (.invokestatic 48, 3) := by decide +kernel
theorem dJ2_getChar_3b067_15 : decode cJ2_getChar_3b067 15 = .ok (.if_icmp .lt 13, 3) := by decide +kernel
theorem dJ2_getChar_3b067_18 : decode cJ2_getChar_3b067 18 = .ok (.new 52, 3) := by decide +kernel
theorem dJ2_getChar_3b067_21 : decode cJ2_getChar_3b067 21 = .ok (.dup, 1) := by decide +kernel
theorem dJ2_getChar_3b067_22 : decode cJ2_getChar_3b067 22 = .ok (.ldc 54, 2) := by decide +kernel
theorem dJ2_getChar_3b067_24 : decode cJ2_getChar_3b067 24 = .ok (.invokespecial 56, 3) := by decide +kernel
theorem dJ2_getChar_3b067_27 : decode cJ2_getChar_3b067 27 = .ok (.athrow, 1) := by decide +kernel
theorem dJ2_getChar_3b067_28 : decode cJ2_getChar_3b067 28 = .ok (.iload_n 1, 1) := by decide +kernel
theorem dJ2_getChar_3b067_29 : decode cJ2_getChar_3b067 29 = .ok (.iconst 1, 1) := by decide +kernel
theorem dJ2_getChar_3b067_30 : decode cJ2_getChar_3b067 30 = .ok (.ishl, 1) := by decide +kernel
theorem dJ2_getChar_3b067_31 : decode cJ2_getChar_3b067 31 = .ok (.istore_n 1, 1) := by decide +kernel
theorem dJ2_getChar_3b067_32 : decode cJ2_getChar_3b067 32 = .ok (.aload_n 0, 1) := by decide +kernel
theorem dJ2_getChar_3b067_33 : decode cJ2_getChar_3b067 33 = .ok (.iload_n 1, 1) := by decide +kernel
theorem dJ2_getChar_3b067_34 : decode cJ2_getChar_3b067 34 = .ok (.iinc 1 1, 3) := by decide +kernel
theorem dJ2_getChar_3b067_37 : decode cJ2_getChar_3b067 37 = .ok (.baload, 1) := by decide +kernel
theorem dJ2_getChar_3b067_38 : decode cJ2_getChar_3b067 38 = .ok (.sipush 255, 3) := by decide +kernel
theorem dJ2_getChar_3b067_41 : decode cJ2_getChar_3b067 41 = .ok (.iand, 1) := by decide +kernel
theorem dJ2_getChar_3b067_42 : decode cJ2_getChar_3b067 42 = .ok (.getstatic 59, 3) := by decide +kernel
theorem dJ2_getChar_3b067_45 : decode cJ2_getChar_3b067 45 = .ok (.ishl, 1) := by decide +kernel
theorem dJ2_getChar_3b067_46 : decode cJ2_getChar_3b067 46 = .ok (.aload_n 0, 1) := by decide +kernel
theorem dJ2_getChar_3b067_47 : decode cJ2_getChar_3b067 47 = .ok (.iload_n 1, 1) := by decide +kernel
theorem dJ2_getChar_3b067_48 : decode cJ2_getChar_3b067 48 = .ok (.baload, 1) := by decide +kernel
theorem dJ2_getChar_3b067_49 : decode cJ2_getChar_3b067 49 = .ok (.sipush 255, 3) := by decide +kernel
theorem dJ2_getChar_3b067_52 : decode cJ2_getChar_3b067 52 = .ok (.iand, 1) := by decide +kernel
theorem dJ2_getChar_3b067_53 : decode cJ2_getChar_3b067 53 = .ok (.getstatic 63, 3) := by decide +kernel
theorem dJ2_getChar_3b067_56 : decode cJ2_getChar_3b067 56 = .ok (.ishl, 1) := by decide +kernel
theorem dJ2_getChar_3b067_57 : decode cJ2_getChar_3b067 57 = .ok (.ior, 1) := by decide +kernel
theorem dJ2_getChar_3b067_58 : decode cJ2_getChar_3b067 58 = .ok (.i2c, 1) := by decide +kernel
theorem dJ2_getChar_3b067_59 : decode cJ2_getChar_3b067 59 = .ok (.ireturn, 1) := by decide +kernel
theorem dJ2_length_9d52b_0 : decode cJ2_length_9d52b 0 = .ok (.aload_n 0, 1) := by decide +kernel
theorem dJ2_length_9d52b_1 : decode cJ2_length_9d52b 1 = .ok (.arraylength, 1) := by decide +kernel
theorem dJ2_length_9d52b_2 : decode cJ2_length_9d52b 2 = .ok (.iconst 1, 1) := by decide +kernel
theorem dJ2_length_9d52b_3 : decode cJ2_length_9d52b 3 = .ok (.ishr, 1) := by decide +kernel
theorem dJ2_length_9d52b_4 : decode cJ2_length_9d52b 4 = .ok (.ireturn, 1) := by decide +kernel
theorem dJ2_charAt_3b067_0 : decode cJ2_charAt_3b067 0 = .ok (.iload_n 1, 1) := by decide +kernel
theorem dJ2_charAt_3b067_1 : decode cJ2_charAt_3b067 1 = .ok (.aload_n 0, 1) := by decide +kernel
theorem dJ2_charAt_3b067_2 : decode cJ2_charAt_3b067 2 = .ok (.invokestatic 67, 3) := by decide +kernel
theorem dJ2_charAt_3b067_5 : decode cJ2_charAt_3b067 5 = .ok (.aload_n 0, 1) := by decide +kernel
theorem dJ2_charAt_3b067_6 : decode cJ2_charAt_3b067 6 = .ok (.iload_n 1, 1) := by decide +kernel
theorem dJ2_charAt_3b067_7 : decode cJ2_charAt_3b067 7 = .ok (.invokestatic 71, 3) := by decide +kernel
theorem dJ2_charAt_3b067_10 : decode cJ2_charAt_3b067 10 = .ok (.ireturn, 1) := by decide +kernel
theorem dJ2_checkIndex_2214a_0 : decode cJ2_checkIndex_2214a 0 = .ok (.iload_n 0, 1) := by decide +kernel
theorem dJ2_checkIndex_2214a_1 : decode cJ2_checkIndex_2214a 1 = .ok (.aload_n 1, 1) := by decide +kernel
theorem dJ2_checkIndex_2214a_2 : decode cJ2_checkIndex_2214a 2 = .ok (.invokestatic 48, 3) := by decide +kernel
theorem dJ2_checkIndex_2214a_5 : decode cJ2_checkIndex_2214a 5 = .ok (.invokestatic 414, 3) := by decide +kernel
theorem dJ2_checkIndex_2214a_8 : decode cJ2_checkIndex_2214a 8 = .ok (.return_, 1) := by decide +kernel
theorem dJ3_checkIndex_8e157_0 : decode cJ3_checkIndex_8e157 0 = .ok (.iload_n 0, 1) := by decide +kernel
theorem dJ3_checkIndex_8e157_1 : decode cJ3_checkIndex_8e157 1 = .ok (.ifCond .lt 8, 3) := by decide +kernel
theorem dJ3_checkIndex_8e157_4 : decode cJ3_checkIndex_8e157 4 = .ok (.iload_n 0, 1) := by decide +kernel
theorem dJ3_checkIndex_8e157_5 : decode cJ3_checkIndex_8e157 5 = .ok (.iload_n 1, 1) := by decide +kernel
theorem dJ3_checkIndex_8e157_6 : decode cJ3_checkIndex_8e157 6 = .ok (.if_icmp .lt 10, 3) := by decide +kernel
theorem dJ3_checkIndex_8e157_9 : decode cJ3_checkIndex_8e157 9 = .ok (.aload_n 2, 1) := by decide +kernel
theorem dJ3_checkIndex_8e157_10 : decode cJ3_checkIndex_8e157 10 = .ok (.iload_n 0, 1) := by decide +kernel
theorem dJ3_checkIndex_8e157_11 : decode cJ3_checkIndex_8e157 11 = .ok (.iload_n 1, 1) := by decide +kernel
theorem dJ3_checkIndex_8e157_12 : decode cJ3_checkIndex_8e157 12 = .ok (.invokestatic 95, 3) := by decide +kernel
theorem dJ3_checkIndex_8e157_15 : decode cJ3_checkIndex_8e157 15 = .ok (.athrow, 1) := by decide +kernel
theorem dJ3_checkIndex_8e157_16 : decode cJ3_checkIndex_8e157 16 = .ok (.iload_n 0, 1) := by decide +kernel
theorem dJ3_checkIndex_8e157_17 : decode cJ3_checkIndex_8e157 17 = .ok (.ireturn, 1) := by decide +kernel
