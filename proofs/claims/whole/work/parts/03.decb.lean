theorem dX10_init_0 : decode cX10_init 0 = .ok (.aload_n 0, 1) := by decide +kernel
theorem dX10_init_1 : decode cX10_init 1 = .ok (.invokespecial 1, 3) := by decide +kernel
theorem dX10_init_4 : decode cX10_init 4 = .ok (.aload_n 0, 1) := by decide +kernel
theorem dX10_init_5 : decode cX10_init 5 = .ok (.sipush 167, 3) := by decide +kernel
theorem dX10_init_8 : decode cX10_init 8 = .ok (.newarray .int, 2) := by decide +kernel
theorem dX10_init_10 : decode cX10_init 10 = .ok (.putfield 7, 3) := by decide +kernel
theorem dX10_init_13 : decode cX10_init 13 = .ok (.aload_n 0, 1) := by decide +kernel
theorem dX10_init_14 : decode cX10_init 14 = .ok (.sipush 167, 3) := by decide +kernel
theorem dX10_init_17 : decode cX10_init 17 = .ok (.newarray .int, 2) := by decide +kernel
theorem dX10_init_19 : decode cX10_init 19 = .ok (.putfield 13, 3) := by decide +kernel
theorem dX10_init_22 : decode cX10_init 22 = .ok (.aload_n 0, 1) := by decide +kernel
theorem dX10_init_23 : decode cX10_init 23 = .ok (.sipush 334, 3) := by decide +kernel
theorem dX10_init_26 : decode cX10_init 26 = .ok (.newarray .int, 2) := by decide +kernel
theorem dX10_init_28 : decode cX10_init 28 = .ok (.putfield 16, 3) := by decide +kernel
theorem dX10_init_31 : decode cX10_init 31 = .ok (.aload_n 0, 1) := by decide +kernel
theorem dX10_init_32 : decode cX10_init 32 = .ok (.iconst 2, 1) := by decide +kernel
theorem dX10_init_33 : decode cX10_init 33 = .ok (.newarray .boolean, 2) := by decide +kernel
theorem dX10_init_35 : decode cX10_init 35 = .ok (.putfield 19, 3) := by decide +kernel
theorem dX10_init_38 : decode cX10_init 38 = .ok (.aload_n 0, 1) := by decide +kernel
theorem dX10_init_39 : decode cX10_init 39 = .ok (.sipush 150, 3) := by decide +kernel
theorem dX10_init_42 : decode cX10_init 42 = .ok (.newarray .int, 2) := by decide +kernel
theorem dX10_init_44 : decode cX10_init 44 = .ok (.putfield 23, 3) := by decide +kernel
theorem dX10_init_47 : decode cX10_init 47 = .ok (.aload_n 0, 1) := by decide +kernel
theorem dX10_init_48 : decode cX10_init 48 = .ok (.lconst 1, 1) := by decide +kernel
theorem dX10_init_49 : decode cX10_init 49 = .ok (.putfield 26, 3) := by decide +kernel
theorem dX10_init_52 : decode cX10_init 52 = .ok (.aload_n 0, 1) := by decide +kernel
theorem dX10_init_53 : decode cX10_init 53 = .ok (.iconst 3, 1) := by decide +kernel
theorem dX10_init_54 : decode cX10_init 54 = .ok (.newarray .int, 2) := by decide +kernel
theorem dX10_init_56 : decode cX10_init 56 = .ok (.putfield 30, 3) := by decide +kernel
theorem dX10_init_59 : decode cX10_init 59 = .ok (.aload_n 0, 1) := by decide +kernel
theorem dX10_init_60 : decode cX10_init 60 = .ok (.bipush 6, 2) := by decide +kernel
theorem dX10_init_62 : decode cX10_init 62 = .ok (.newarray .int, 2) := by decide +kernel
theorem dX10_init_64 : decode cX10_init 64 = .ok (.putfield 33, 3) := by decide +kernel
theorem dX10_init_67 : decode cX10_init 67 = .ok (.aload_n 0, 1) := by decide +kernel
theorem dX10_init_68 : decode cX10_init 68 = .ok (.bipush 15, 2) := by decide +kernel
theorem dX10_init_70 : decode cX10_init 70 = .ok (.newarray .int, 2) := by decide +kernel
theorem dX10_init_72 : decode cX10_init 72 = .ok (.putfield 36, 3) := by decide +kernel
theorem dX10_init_75 : decode cX10_init 75 = .ok (.aload_n 0, 1) := by decide +kernel
theorem dX10_init_76 : decode cX10_init 76 = .ok (.bipush 61, 2) := by decide +kernel
theorem dX10_init_78 : decode cX10_init 78 = .ok (.newarray .long, 2) := by decide +kernel
theorem dX10_init_80 : decode cX10_init 80 = .ok (.putfield 39, 3) := by decide +kernel
theorem dX10_init_83 : decode cX10_init 83 = .ok (.aload_n 0, 1) := by decide +kernel
theorem dX10_init_84 : decode cX10_init 84 = .ok (.bipush 61, 2) := by decide +kernel
theorem dX10_init_86 : decode cX10_init 86 = .ok (.newarray .long, 2) := by decide +kernel
theorem dX10_init_88 : decode cX10_init 88 = .ok (.putfield 43, 3) := by decide +kernel
theorem dX10_init_91 : decode cX10_init 91 = .ok (.aload_n 0, 1) := by decide +kernel
theorem dX10_init_92 : decode cX10_init 92 = .ok (.getfield 7, 3) := by decide +kernel
theorem dX10_init_95 : decode cX10_init 95 = .ok (.invokestatic 46, 3) := by decide +kernel
theorem dX10_init_98 : decode cX10_init 98 = .ok (.return_, 1) := by decide +kernel
theorem dX10_layFirst_0 : decode cX10_layFirst 0 = .ok (.iconst 0, 1) := by decide +kernel
theorem dX10_layFirst_1 : decode cX10_layFirst 1 = .ok (.istore_n 1, 1) := by decide +kernel
theorem dX10_layFirst_2 : decode cX10_layFirst 2 = .ok (.iload_n 1, 1) := by decide +kernel
theorem dX10_layFirst_3 : decode cX10_layFirst 3 = .ok (.sipush 167, 3) := by decide +kernel
theorem dX10_layFirst_6 : decode cX10_layFirst 6 = .ok (.if_icmp .ge 13, 3) := by decide +kernel
theorem dX10_layFirst_9 : decode cX10_layFirst 9 = .ok (.aload_n 0, 1) := by decide +kernel
theorem dX10_layFirst_10 : decode cX10_layFirst 10 = .ok (.iload_n 1, 1) := by decide +kernel
theorem dX10_layFirst_11 : decode cX10_layFirst 11 = .ok (.iconst 0, 1) := by decide +kernel
theorem dX10_layFirst_12 : decode cX10_layFirst 12 = .ok (.iastore, 1) := by decide +kernel
theorem dX10_layFirst_13 : decode cX10_layFirst 13 = .ok (.iinc 1 1, 3) := by decide +kernel
theorem dX10_layFirst_16 : decode cX10_layFirst 16 = .ok (.goto (-14), 3) := by decide +kernel
theorem dX10_layFirst_19 : decode cX10_layFirst 19 = .ok (.return_, 1) := by decide +kernel
theorem dX10_in_0 : decode cX10_in 0 = .ok (.iload_n 0, 1) := by decide +kernel
theorem dX10_in_1 : decode cX10_in 1 = .ok (.iload_n 1, 1) := by decide +kernel
theorem dX10_in_2 : decode cX10_in 2 = .ok (.if_icmp .lt 12, 3) := by decide +kernel
theorem dX10_in_5 : decode cX10_in 5 = .ok (.iload_n 0, 1) := by decide +kernel
theorem dX10_in_6 : decode cX10_in 6 = .ok (.iload_n 2, 1) := by decide +kernel
theorem dX10_in_7 : decode cX10_in 7 = .ok (.if_icmp .gt 7, 3) := by decide +kernel
theorem dX10_in_10 : decode cX10_in 10 = .ok (.iconst 1, 1) := by decide +kernel
theorem dX10_in_11 : decode cX10_in 11 = .ok (.goto 4, 3) := by decide +kernel
theorem dX10_in_14 : decode cX10_in 14 = .ok (.iconst 0, 1) := by decide +kernel
theorem dX10_in_15 : decode cX10_in 15 = .ok (.ireturn, 1) := by decide +kernel
theorem dX10_has_0 : decode cX10_has 0 = .ok (.iload_n 0, 1) := by decide +kernel
theorem dX10_has_1 : decode cX10_has 1 = .ok (.iload_n 1, 1) := by decide +kernel
theorem dX10_has_2 : decode cX10_has 2 = .ok (.ishr, 1) := by decide +kernel
theorem dX10_has_3 : decode cX10_has 3 = .ok (.iconst 1, 1) := by decide +kernel
theorem dX10_has_4 : decode cX10_has 4 = .ok (.iand, 1) := by decide +kernel
theorem dX10_has_5 : decode cX10_has 5 = .ok (.iconst 1, 1) := by decide +kernel
theorem dX10_has_6 : decode cX10_has 6 = .ok (.if_icmp .ne 7, 3) := by decide +kernel
theorem dX10_has_9 : decode cX10_has 9 = .ok (.iconst 1, 1) := by decide +kernel
theorem dX10_has_10 : decode cX10_has 10 = .ok (.goto 4, 3) := by decide +kernel
theorem dX10_has_13 : decode cX10_has 13 = .ok (.iconst 0, 1) := by decide +kernel
theorem dX10_has_14 : decode cX10_has 14 = .ok (.ireturn, 1) := by decide +kernel
theorem dX10_refuse_0 : decode cX10_refuse 0 = .ok (.aload_n 0, 1) := by decide +kernel
theorem dX10_refuse_1 : decode cX10_refuse 1 = .ok (.getfield 30, 3) := by decide +kernel
theorem dX10_refuse_4 : decode cX10_refuse 4 = .ok (.iload_n 1, 1) := by decide +kernel
theorem dX10_refuse_5 : decode cX10_refuse 5 = .ok (.bipush (-3), 2) := by decide +kernel
theorem dX10_refuse_7 : decode cX10_refuse 7 = .ok (.if_icmp .ne 7, 3) := by decide +kernel
theorem dX10_refuse_10 : decode cX10_refuse 10 = .ok (.iconst 1, 1) := by decide +kernel
theorem dX10_refuse_11 : decode cX10_refuse 11 = .ok (.goto 14, 3) := by decide +kernel
theorem dX10_refuse_14 : decode cX10_refuse 14 = .ok (.iload_n 1, 1) := by decide +kernel
theorem dX10_refuse_15 : decode cX10_refuse 15 = .ok (.bipush (-4), 2) := by decide +kernel
theorem dX10_refuse_17 : decode cX10_refuse 17 = .ok (.if_icmp .ne 7, 3) := by decide +kernel
theorem dX10_refuse_20 : decode cX10_refuse 20 = .ok (.iconst 2, 1) := by decide +kernel
theorem dX10_refuse_21 : decode cX10_refuse 21 = .ok (.goto 4, 3) := by decide +kernel
theorem dX10_refuse_24 : decode cX10_refuse 24 = .ok (.iconst 0, 1) := by decide +kernel
theorem dX10_refuse_25 : decode cX10_refuse 25 = .ok (.dup2, 1) := by decide +kernel
theorem dX10_refuse_26 : decode cX10_refuse 26 = .ok (.iaload, 1) := by decide +kernel
theorem dX10_refuse_27 : decode cX10_refuse 27 = .ok (.iconst 1, 1) := by decide +kernel
theorem dX10_refuse_28 : decode cX10_refuse 28 = .ok (.iadd, 1) := by decide +kernel
theorem dX10_refuse_29 : decode cX10_refuse 29 = .ok (.iastore, 1) := by decide +kernel
theorem dX10_refuse_30 : decode cX10_refuse 30 = .ok (.iload_n 1, 1) := by decide +kernel
theorem dX10_refuse_31 : decode cX10_refuse 31 = .ok (.ireturn, 1) := by decide +kernel
theorem dX10_isPair_0 : decode cX10_isPair 0 = .ok (.iload_n 1, 1) := by decide +kernel
theorem dX10_isPair_1 : decode cX10_isPair 1 = .ok (.iconst 0, 1) := by decide +kernel
theorem dX10_isPair_2 : decode cX10_isPair 2 = .ok (.aload_n 0, 1) := by decide +kernel
theorem dX10_isPair_3 : decode cX10_isPair 3 = .ok (.getfield 7, 3) := by decide +kernel
theorem dX10_isPair_6 : decode cX10_isPair 6 = .ok (.iconst 0, 1) := by decide +kernel
theorem dX10_isPair_7 : decode cX10_isPair 7 = .ok (.iaload, 1) := by decide +kernel
theorem dX10_isPair_8 : decode cX10_isPair 8 = .ok (.iconst 1, 1) := by decide +kernel
theorem dX10_isPair_9 : decode cX10_isPair 9 = .ok (.isub, 1) := by decide +kernel
theorem dX10_isPair_10 : decode cX10_isPair 10 = .ok (.invokestatic 50, 3) := by decide +kernel
theorem dX10_isPair_13 : decode cX10_isPair 13 = .ok (.ireturn, 1) := by decide +kernel
theorem dX10_valley_0 : decode cX10_valley 0 = .ok (.aload_n 0, 1) := by decide +kernel
theorem dX10_valley_1 : decode cX10_valley 1 = .ok (.getfield 7, 3) := by decide +kernel
theorem dX10_valley_4 : decode cX10_valley 4 = .ok (.iconst 0, 1) := by decide +kernel
theorem dX10_valley_5 : decode cX10_valley 5 = .ok (.iaload, 1) := by decide +kernel
theorem dX10_valley_6 : decode cX10_valley 6 = .ok (.istore_n 1, 1) := by decide +kernel
theorem dX10_valley_7 : decode cX10_valley 7 = .ok (.aload_n 0, 1) := by decide +kernel
theorem dX10_valley_8 : decode cX10_valley 8 = .ok (.getfield 7, 3) := by decide +kernel
theorem dX10_valley_11 : decode cX10_valley 11 = .ok (.invokestatic 46, 3) := by decide +kernel
theorem dX10_valley_14 : decode cX10_valley 14 = .ok (.iload_n 1, 1) := by decide +kernel
theorem dX10_valley_15 : decode cX10_valley 15 = .ok (.ireturn, 1) := by decide +kernel
theorem dX10_damp_0 : decode cX10_damp 0 = .ok (.iload_n 1, 1) := by decide +kernel
theorem dX10_damp_1 : decode cX10_damp 1 = .ok (.iconst 0, 1) := by decide +kernel
theorem dX10_damp_2 : decode cX10_damp 2 = .ok (.sipush 4095, 3) := by decide +kernel
theorem dX10_damp_5 : decode cX10_damp 5 = .ok (.invokestatic 50, 3) := by decide +kernel
theorem dX10_damp_8 : decode cX10_damp 8 = .ok (.ifCond .ne 10, 3) := by decide +kernel
theorem dX10_damp_11 : decode cX10_damp 11 = .ok (.aload_n 0, 1) := by decide +kernel
theorem dX10_damp_12 : decode cX10_damp 12 = .ok (.bipush (-2), 2) := by decide +kernel
theorem dX10_damp_14 : decode cX10_damp 14 = .ok (.invokevirtual 54, 3) := by decide +kernel
theorem dX10_damp_17 : decode cX10_damp 17 = .ok (.ireturn, 1) := by decide +kernel
theorem dX10_damp_18 : decode cX10_damp 18 = .ok (.aload_n 0, 1) := by decide +kernel
theorem dX10_damp_19 : decode cX10_damp 19 = .ok (.getfield 7, 3) := by decide +kernel
theorem dX10_damp_22 : decode cX10_damp 22 = .ok (.iconst 3, 1) := by decide +kernel
theorem dX10_damp_23 : decode cX10_damp 23 = .ok (.iaload, 1) := by decide +kernel
theorem dX10_damp_24 : decode cX10_damp 24 = .ok (.istore_n 2, 1) := by decide +kernel
theorem dX10_damp_25 : decode cX10_damp 25 = .ok (.aload_n 0, 1) := by decide +kernel
theorem dX10_damp_26 : decode cX10_damp 26 = .ok (.getfield 7, 3) := by decide +kernel
theorem dX10_damp_29 : decode cX10_damp 29 = .ok (.iconst 3, 1) := by decide +kernel
theorem dX10_damp_30 : decode cX10_damp 30 = .ok (.iload_n 1, 1) := by decide +kernel
theorem dX10_damp_31 : decode cX10_damp 31 = .ok (.iastore, 1) := by decide +kernel
theorem dX10_damp_32 : decode cX10_damp 32 = .ok (.iload_n 2, 1) := by decide +kernel
theorem dX10_damp_33 : decode cX10_damp 33 = .ok (.ireturn, 1) := by decide +kernel
theorem dX10_dry_0 : decode cX10_dry 0 = .ok (.iload_n 1, 1) := by decide +kernel
theorem dX10_dry_1 : decode cX10_dry 1 = .ok (.iconst 0, 1) := by decide +kernel
theorem dX10_dry_2 : decode cX10_dry 2 = .ok (.sipush 4095, 3) := by decide +kernel
theorem dX10_dry_5 : decode cX10_dry 5 = .ok (.invokestatic 50, 3) := by decide +kernel
theorem dX10_dry_8 : decode cX10_dry 8 = .ok (.ifCond .ne 10, 3) := by decide +kernel
theorem dX10_dry_11 : decode cX10_dry 11 = .ok (.aload_n 0, 1) := by decide +kernel
theorem dX10_dry_12 : decode cX10_dry 12 = .ok (.bipush (-2), 2) := by decide +kernel
theorem dX10_dry_14 : decode cX10_dry 14 = .ok (.invokevirtual 54, 3) := by decide +kernel
theorem dX10_dry_17 : decode cX10_dry 17 = .ok (.ireturn, 1) := by decide +kernel
theorem dX10_dry_18 : decode cX10_dry 18 = .ok (.aload_n 0, 1) := by decide +kernel
theorem dX10_dry_19 : decode cX10_dry 19 = .ok (.getfield 7, 3) := by decide +kernel
theorem dX10_dry_22 : decode cX10_dry 22 = .ok (.iconst 4, 1) := by decide +kernel
theorem dX10_dry_23 : decode cX10_dry 23 = .ok (.iaload, 1) := by decide +kernel
theorem dX10_dry_24 : decode cX10_dry 24 = .ok (.istore_n 2, 1) := by decide +kernel
theorem dX10_dry_25 : decode cX10_dry 25 = .ok (.aload_n 0, 1) := by decide +kernel
theorem dX10_dry_26 : decode cX10_dry 26 = .ok (.getfield 7, 3) := by decide +kernel
theorem dX10_dry_29 : decode cX10_dry 29 = .ok (.iconst 4, 1) := by decide +kernel
theorem dX10_dry_30 : decode cX10_dry 30 = .ok (.iload_n 1, 1) := by decide +kernel
theorem dX10_dry_31 : decode cX10_dry 31 = .ok (.iastore, 1) := by decide +kernel
theorem dX10_dry_32 : decode cX10_dry 32 = .ok (.iload_n 2, 1) := by decide +kernel
theorem dX10_dry_33 : decode cX10_dry 33 = .ok (.ireturn, 1) := by decide +kernel
theorem dX10_addPair_0 : decode cX10_addPair 0 = .ok (.aload_n 0, 1) := by decide +kernel
theorem dX10_addPair_1 : decode cX10_addPair 1 = .ok (.iconst 0, 1) := by decide +kernel
theorem dX10_addPair_2 : decode cX10_addPair 2 = .ok (.iaload, 1) := by decide +kernel
theorem dX10_addPair_3 : decode cX10_addPair 3 = .ok (.istore_n 3, 1) := by decide +kernel
theorem dX10_addPair_4 : decode cX10_addPair 4 = .ok (.aload_n 0, 1) := by decide +kernel
theorem dX10_addPair_5 : decode cX10_addPair 5 = .ok (.bipush 7, 2) := by decide +kernel
theorem dX10_addPair_7 : decode cX10_addPair 7 = .ok (.iload_n 3, 1) := by decide +kernel
theorem dX10_addPair_8 : decode cX10_addPair 8 = .ok (.iadd, 1) := by decide +kernel
theorem dX10_addPair_9 : decode cX10_addPair 9 = .ok (.iload_n 1, 1) := by decide +kernel
theorem dX10_addPair_10 : decode cX10_addPair 10 = .ok (.iastore, 1) := by decide +kernel
theorem dX10_addPair_11 : decode cX10_addPair 11 = .ok (.aload_n 0, 1) := by decide +kernel
theorem dX10_addPair_12 : decode cX10_addPair 12 = .ok (.bipush 13, 2) := by decide +kernel
theorem dX10_addPair_14 : decode cX10_addPair 14 = .ok (.iload_n 3, 1) := by decide +kernel
theorem dX10_addPair_15 : decode cX10_addPair 15 = .ok (.iadd, 1) := by decide +kernel
theorem dX10_addPair_16 : decode cX10_addPair 16 = .ok (.iload_n 2, 1) := by decide +kernel
theorem dX10_addPair_17 : decode cX10_addPair 17 = .ok (.iastore, 1) := by decide +kernel
theorem dX10_addPair_18 : decode cX10_addPair 18 = .ok (.aload_n 0, 1) := by decide +kernel
theorem dX10_addPair_19 : decode cX10_addPair 19 = .ok (.bipush 19, 2) := by decide +kernel
theorem dX10_addPair_21 : decode cX10_addPair 21 = .ok (.iload_n 3, 1) := by decide +kernel
theorem dX10_addPair_22 : decode cX10_addPair 22 = .ok (.iadd, 1) := by decide +kernel
theorem dX10_addPair_23 : decode cX10_addPair 23 = .ok (.aload_n 0, 1) := by decide +kernel
theorem dX10_addPair_24 : decode cX10_addPair 24 = .ok (.iconst 2, 1) := by decide +kernel
theorem dX10_addPair_25 : decode cX10_addPair 25 = .ok (.iaload, 1) := by decide +kernel
theorem dX10_addPair_26 : decode cX10_addPair 26 = .ok (.iastore, 1) := by decide +kernel
theorem dX10_addPair_27 : decode cX10_addPair 27 = .ok (.aload_n 0, 1) := by decide +kernel
theorem dX10_addPair_28 : decode cX10_addPair 28 = .ok (.bipush 25, 2) := by decide +kernel
theorem dX10_addPair_30 : decode cX10_addPair 30 = .ok (.iload_n 3, 1) := by decide +kernel
theorem dX10_addPair_31 : decode cX10_addPair 31 = .ok (.iadd, 1) := by decide +kernel
theorem dX10_addPair_32 : decode cX10_addPair 32 = .ok (.iconst (-1), 1) := by decide +kernel
theorem dX10_addPair_33 : decode cX10_addPair 33 = .ok (.iastore, 1) := by decide +kernel
theorem dX10_addPair_34 : decode cX10_addPair 34 = .ok (.aload_n 0, 1) := by decide +kernel
theorem dX10_addPair_35 : decode cX10_addPair 35 = .ok (.iconst 0, 1) := by decide +kernel
theorem dX10_addPair_36 : decode cX10_addPair 36 = .ok (.dup2, 1) := by decide +kernel
theorem dX10_addPair_37 : decode cX10_addPair 37 = .ok (.iaload, 1) := by decide +kernel
theorem dX10_addPair_38 : decode cX10_addPair 38 = .ok (.iconst 1, 1) := by decide +kernel
theorem dX10_addPair_39 : decode cX10_addPair 39 = .ok (.iadd, 1) := by decide +kernel
theorem dX10_addPair_40 : decode cX10_addPair 40 = .ok (.iastore, 1) := by decide +kernel
theorem dX10_addPair_41 : decode cX10_addPair 41 = .ok (.aload_n 0, 1) := by decide +kernel
theorem dX10_addPair_42 : decode cX10_addPair 42 = .ok (.bipush 6, 2) := by decide +kernel
theorem dX10_addPair_44 : decode cX10_addPair 44 = .ok (.iconst 0, 1) := by decide +kernel
theorem dX10_addPair_45 : decode cX10_addPair 45 = .ok (.iastore, 1) := by decide +kernel
theorem dX10_addPair_46 : decode cX10_addPair 46 = .ok (.iload_n 3, 1) := by decide +kernel
theorem dX10_addPair_47 : decode cX10_addPair 47 = .ok (.ireturn, 1) := by decide +kernel
theorem dX10_addKin_0 : decode cX10_addKin 0 = .ok (.aload_n 0, 1) := by decide +kernel
theorem dX10_addKin_1 : decode cX10_addKin 1 = .ok (.iconst 1, 1) := by decide +kernel
theorem dX10_addKin_2 : decode cX10_addKin 2 = .ok (.iaload, 1) := by decide +kernel
theorem dX10_addKin_3 : decode cX10_addKin 3 = .ok (.istore_n 2, 1) := by decide +kernel
theorem dX10_addKin_4 : decode cX10_addKin 4 = .ok (.aload_n 0, 1) := by decide +kernel
theorem dX10_addKin_5 : decode cX10_addKin 5 = .ok (.bipush 31, 2) := by decide +kernel
theorem dX10_addKin_7 : decode cX10_addKin 7 = .ok (.iload_n 2, 1) := by decide +kernel
theorem dX10_addKin_8 : decode cX10_addKin 8 = .ok (.iadd, 1) := by decide +kernel
theorem dX10_addKin_9 : decode cX10_addKin 9 = .ok (.iload_n 1, 1) := by decide +kernel
theorem dX10_addKin_10 : decode cX10_addKin 10 = .ok (.iastore, 1) := by decide +kernel
theorem dX10_addKin_11 : decode cX10_addKin 11 = .ok (.aload_n 0, 1) := by decide +kernel
theorem dX10_addKin_12 : decode cX10_addKin 12 = .ok (.iconst 1, 1) := by decide +kernel
theorem dX10_addKin_13 : decode cX10_addKin 13 = .ok (.dup2, 1) := by decide +kernel
theorem dX10_addKin_14 : decode cX10_addKin 14 = .ok (.iaload, 1) := by decide +kernel
theorem dX10_addKin_15 : decode cX10_addKin 15 = .ok (.iconst 1, 1) := by decide +kernel
theorem dX10_addKin_16 : decode cX10_addKin 16 = .ok (.iadd, 1) := by decide +kernel
theorem dX10_addKin_17 : decode cX10_addKin 17 = .ok (.iastore, 1) := by decide +kernel
theorem dX10_addKin_18 : decode cX10_addKin 18 = .ok (.iload_n 2, 1) := by decide +kernel
theorem dX10_addKin_19 : decode cX10_addKin 19 = .ok (.ireturn, 1) := by decide +kernel
theorem dX10_pair_0 : decode cX10_pair 0 = .ok (.iload_n 1, 1) := by decide +kernel
theorem dX10_pair_1 : decode cX10_pair 1 = .ok (.iconst 0, 1) := by decide +kernel
theorem dX10_pair_2 : decode cX10_pair 2 = .ok (.iconst 5, 1) := by decide +kernel
theorem dX10_pair_3 : decode cX10_pair 3 = .ok (.invokestatic 50, 3) := by decide +kernel
theorem dX10_pair_6 : decode cX10_pair 6 = .ok (.ifCond .eq 13, 3) := by decide +kernel
theorem dX10_pair_9 : decode cX10_pair 9 = .ok (.iload_n 2, 1) := by decide +kernel
theorem dX10_pair_10 : decode cX10_pair 10 = .ok (.iconst 0, 1) := by decide +kernel
theorem dX10_pair_11 : decode cX10_pair 11 = .ok (.bipush 60, 2) := by decide +kernel
theorem dX10_pair_13 : decode cX10_pair 13 = .ok (.invokestatic 50, 3) := by decide +kernel
theorem dX10_pair_16 : decode cX10_pair 16 = .ok (.ifCond .ne 10, 3) := by decide +kernel
theorem dX10_pair_19 : decode cX10_pair 19 = .ok (.aload_n 0, 1) := by decide +kernel
theorem dX10_pair_20 : decode cX10_pair 20 = .ok (.bipush (-2), 2) := by decide +kernel
theorem dX10_pair_22 : decode cX10_pair 22 = .ok (.invokevirtual 54, 3) := by decide +kernel
theorem dX10_pair_25 : decode cX10_pair 25 = .ok (.ireturn, 1) := by decide +kernel
theorem dX10_pair_26 : decode cX10_pair 26 = .ok (.aload_n 0, 1) := by decide +kernel
theorem dX10_pair_27 : decode cX10_pair 27 = .ok (.getfield 7, 3) := by decide +kernel
theorem dX10_pair_30 : decode cX10_pair 30 = .ok (.iconst 0, 1) := by decide +kernel
theorem dX10_pair_31 : decode cX10_pair 31 = .ok (.iaload, 1) := by decide +kernel
theorem dX10_pair_32 : decode cX10_pair 32 = .ok (.bipush 6, 2) := by decide +kernel
theorem dX10_pair_34 : decode cX10_pair 34 = .ok (.if_icmp .ne 12, 3) := by decide +kernel
theorem dX10_pair_37 : decode cX10_pair 37 = .ok (.aload_n 0, 1) := by decide +kernel
theorem dX10_pair_38 : decode cX10_pair 38 = .ok (.bipush (-4), 2) := by decide +kernel
theorem dX10_pair_40 : decode cX10_pair 40 = .ok (.invokevirtual 54, 3) := by decide +kernel
theorem dX10_pair_43 : decode cX10_pair 43 = .ok (.goto 12, 3) := by decide +kernel
theorem dX10_pair_46 : decode cX10_pair 46 = .ok (.aload_n 0, 1) := by decide +kernel
theorem dX10_pair_47 : decode cX10_pair 47 = .ok (.getfield 7, 3) := by decide +kernel
theorem dX10_pair_50 : decode cX10_pair 50 = .ok (.iload_n 1, 1) := by decide +kernel
theorem dX10_pair_51 : decode cX10_pair 51 = .ok (.iload_n 2, 1) := by decide +kernel
theorem dX10_pair_52 : decode cX10_pair 52 = .ok (.invokestatic 58, 3) := by decide +kernel
theorem dX10_pair_55 : decode cX10_pair 55 = .ok (.ireturn, 1) := by decide +kernel
theorem dX10_kin_0 : decode cX10_kin 0 = .ok (.iload_n 1, 1) := by decide +kernel
theorem dX10_kin_1 : decode cX10_kin 1 = .ok (.iconst 1, 1) := by decide +kernel
theorem dX10_kin_2 : decode cX10_kin 2 = .ok (.bipush 20, 2) := by decide +kernel
theorem dX10_kin_4 : decode cX10_kin 4 = .ok (.invokestatic 50, 3) := by decide +kernel
theorem dX10_kin_7 : decode cX10_kin 7 = .ok (.ifCond .ne 10, 3) := by decide +kernel
theorem dX10_kin_10 : decode cX10_kin 10 = .ok (.aload_n 0, 1) := by decide +kernel
theorem dX10_kin_11 : decode cX10_kin 11 = .ok (.bipush (-2), 2) := by decide +kernel
theorem dX10_kin_13 : decode cX10_kin 13 = .ok (.invokevirtual 54, 3) := by decide +kernel
theorem dX10_kin_16 : decode cX10_kin 16 = .ok (.ireturn, 1) := by decide +kernel
theorem dX10_kin_17 : decode cX10_kin 17 = .ok (.aload_n 0, 1) := by decide +kernel
theorem dX10_kin_18 : decode cX10_kin 18 = .ok (.getfield 7, 3) := by decide +kernel
theorem dX10_kin_21 : decode cX10_kin 21 = .ok (.iconst 1, 1) := by decide +kernel
theorem dX10_kin_22 : decode cX10_kin 22 = .ok (.iaload, 1) := by decide +kernel
theorem dX10_kin_23 : decode cX10_kin 23 = .ok (.bipush 8, 2) := by decide +kernel
theorem dX10_kin_25 : decode cX10_kin 25 = .ok (.if_icmp .ne 12, 3) := by decide +kernel
theorem dX10_kin_28 : decode cX10_kin 28 = .ok (.aload_n 0, 1) := by decide +kernel
theorem dX10_kin_29 : decode cX10_kin 29 = .ok (.bipush (-4), 2) := by decide +kernel
theorem dX10_kin_31 : decode cX10_kin 31 = .ok (.invokevirtual 54, 3) := by decide +kernel
theorem dX10_kin_34 : decode cX10_kin 34 = .ok (.goto 11, 3) := by decide +kernel
theorem dX10_kin_37 : decode cX10_kin 37 = .ok (.aload_n 0, 1) := by decide +kernel
theorem dX10_kin_38 : decode cX10_kin 38 = .ok (.getfield 7, 3) := by decide +kernel
theorem dX10_kin_41 : decode cX10_kin 41 = .ok (.iload_n 1, 1) := by decide +kernel
theorem dX10_kin_42 : decode cX10_kin 42 = .ok (.invokestatic 62, 3) := by decide +kernel
theorem dX10_kin_45 : decode cX10_kin 45 = .ok (.ireturn, 1) := by decide +kernel
theorem dX10_type_0 : decode cX10_type 0 = .ok (.iload_n 1, 1) := by decide +kernel
theorem dX10_type_1 : decode cX10_type 1 = .ok (.iconst 0, 1) := by decide +kernel
theorem dX10_type_2 : decode cX10_type 2 = .ok (.bipush 127, 2) := by decide +kernel
theorem dX10_type_4 : decode cX10_type 4 = .ok (.invokestatic 50, 3) := by decide +kernel
theorem dX10_type_7 : decode cX10_type 7 = .ok (.ifCond .ne 10, 3) := by decide +kernel
theorem dX10_type_10 : decode cX10_type 10 = .ok (.aload_n 0, 1) := by decide +kernel
theorem dX10_type_11 : decode cX10_type 11 = .ok (.bipush (-2), 2) := by decide +kernel
theorem dX10_type_13 : decode cX10_type 13 = .ok (.invokevirtual 54, 3) := by decide +kernel
theorem dX10_type_16 : decode cX10_type 16 = .ok (.ireturn, 1) := by decide +kernel
theorem dX10_type_17 : decode cX10_type 17 = .ok (.aload_n 0, 1) := by decide +kernel
theorem dX10_type_18 : decode cX10_type 18 = .ok (.getfield 66, 3) := by decide +kernel
theorem dX10_type_21 : decode cX10_type 21 = .ok (.sipush 150, 3) := by decide +kernel
theorem dX10_type_24 : decode cX10_type 24 = .ok (.if_icmp .ne 10, 3) := by decide +kernel
theorem dX10_type_27 : decode cX10_type 27 = .ok (.aload_n 0, 1) := by decide +kernel
theorem dX10_type_28 : decode cX10_type 28 = .ok (.bipush (-4), 2) := by decide +kernel
theorem dX10_type_30 : decode cX10_type 30 = .ok (.invokevirtual 54, 3) := by decide +kernel
theorem dX10_type_33 : decode cX10_type 33 = .ok (.ireturn, 1) := by decide +kernel
theorem dX10_type_34 : decode cX10_type 34 = .ok (.aload_n 0, 1) := by decide +kernel
theorem dX10_type_35 : decode cX10_type 35 = .ok (.getfield 23, 3) := by decide +kernel
theorem dX10_type_38 : decode cX10_type 38 = .ok (.aload_n 0, 1) := by decide +kernel
theorem dX10_type_39 : decode cX10_type 39 = .ok (.getfield 66, 3) := by decide +kernel
theorem dX10_type_42 : decode cX10_type 42 = .ok (.iload_n 1, 1) := by decide +kernel
theorem dX10_type_43 : decode cX10_type 43 = .ok (.iastore, 1) := by decide +kernel
theorem dX10_type_44 : decode cX10_type 44 = .ok (.aload_n 0, 1) := by decide +kernel
theorem dX10_type_45 : decode cX10_type 45 = .ok (.dup, 1) := by decide +kernel
theorem dX10_type_46 : decode cX10_type 46 = .ok (.getfield 66, 3) := by decide +kernel
theorem dX10_type_49 : decode cX10_type 49 = .ok (.iconst 1, 1) := by decide +kernel
theorem dX10_type_50 : decode cX10_type 50 = .ok (.iadd, 1) := by decide +kernel
theorem dX10_type_51 : decode cX10_type 51 = .ok (.putfield 66, 3) := by decide +kernel
theorem dX10_type_54 : decode cX10_type 54 = .ok (.aload_n 0, 1) := by decide +kernel
theorem dX10_type_55 : decode cX10_type 55 = .ok (.getfield 66, 3) := by decide +kernel
theorem dX10_type_58 : decode cX10_type 58 = .ok (.ireturn, 1) := by decide +kernel
theorem dX10_clear_0 : decode cX10_clear 0 = .ok (.aload_n 0, 1) := by decide +kernel
theorem dX10_clear_1 : decode cX10_clear 1 = .ok (.getfield 66, 3) := by decide +kernel
theorem dX10_clear_4 : decode cX10_clear 4 = .ok (.istore_n 1, 1) := by decide +kernel
theorem dX10_clear_5 : decode cX10_clear 5 = .ok (.aload_n 0, 1) := by decide +kernel
theorem dX10_clear_6 : decode cX10_clear 6 = .ok (.iconst 0, 1) := by decide +kernel
theorem dX10_clear_7 : decode cX10_clear 7 = .ok (.putfield 66, 3) := by decide +kernel
theorem dX10_clear_10 : decode cX10_clear 10 = .ok (.iload_n 1, 1) := by decide +kernel
theorem dX10_clear_11 : decode cX10_clear 11 = .ok (.ireturn, 1) := by decide +kernel
theorem dX10_letterAt_0 : decode cX10_letterAt 0 = .ok (.iload_n 1, 1) := by decide +kernel
theorem dX10_letterAt_1 : decode cX10_letterAt 1 = .ok (.aload_n 0, 1) := by decide +kernel
theorem dX10_letterAt_2 : decode cX10_letterAt 2 = .ok (.getfield 66, 3) := by decide +kernel
theorem dX10_letterAt_5 : decode cX10_letterAt 5 = .ok (.if_icmp .ge 12, 3) := by decide +kernel
theorem dX10_letterAt_8 : decode cX10_letterAt 8 = .ok (.aload_n 0, 1) := by decide +kernel
theorem dX10_letterAt_9 : decode cX10_letterAt 9 = .ok (.getfield 23, 3) := by decide +kernel
theorem dX10_letterAt_12 : decode cX10_letterAt 12 = .ok (.iload_n 1, 1) := by decide +kernel
theorem dX10_letterAt_13 : decode cX10_letterAt 13 = .ok (.iaload, 1) := by decide +kernel
theorem dX10_letterAt_14 : decode cX10_letterAt 14 = .ok (.goto 4, 3) := by decide +kernel
theorem dX10_letterAt_17 : decode cX10_letterAt 17 = .ok (.iconst (-1), 1) := by decide +kernel
theorem dX10_letterAt_18 : decode cX10_letterAt 18 = .ok (.ireturn, 1) := by decide +kernel
theorem dX10_nextToken_0 : decode cX10_nextToken 0 = .ok (.aload_n 0, 1) := by decide +kernel
theorem dX10_nextToken_1 : decode cX10_nextToken 1 = .ok (.aload_n 0, 1) := by decide +kernel
theorem dX10_nextToken_2 : decode cX10_nextToken 2 = .ok (.getfield 70, 3) := by decide +kernel
theorem dX10_nextToken_5 : decode cX10_nextToken 5 = .ok (.invokevirtual 73, 3) := by decide +kernel
theorem dX10_nextToken_8 : decode cX10_nextToken 8 = .ok (.bipush 32, 2) := by decide +kernel
theorem dX10_nextToken_10 : decode cX10_nextToken 10 = .ok (.if_icmp .ne 16, 3) := by decide +kernel
theorem dX10_nextToken_13 : decode cX10_nextToken 13 = .ok (.aload_n 0, 1) := by decide +kernel
theorem dX10_nextToken_14 : decode cX10_nextToken 14 = .ok (.dup, 1) := by decide +kernel
theorem dX10_nextToken_15 : decode cX10_nextToken 15 = .ok (.getfield 70, 3) := by decide +kernel
theorem dX10_nextToken_18 : decode cX10_nextToken 18 = .ok (.iconst 1, 1) := by decide +kernel
theorem dX10_nextToken_19 : decode cX10_nextToken 19 = .ok (.iadd, 1) := by decide +kernel
theorem dX10_nextToken_20 : decode cX10_nextToken 20 = .ok (.putfield 70, 3) := by decide +kernel
theorem dX10_nextToken_23 : decode cX10_nextToken 23 = .ok (.goto (-23), 3) := by decide +kernel
theorem dX10_nextToken_26 : decode cX10_nextToken 26 = .ok (.aload_n 0, 1) := by decide +kernel
theorem dX10_nextToken_27 : decode cX10_nextToken 27 = .ok (.aload_n 0, 1) := by decide +kernel
theorem dX10_nextToken_28 : decode cX10_nextToken 28 = .ok (.getfield 70, 3) := by decide +kernel
theorem dX10_nextToken_31 : decode cX10_nextToken 31 = .ok (.putfield 76, 3) := by decide +kernel
theorem dX10_nextToken_34 : decode cX10_nextToken 34 = .ok (.aload_n 0, 1) := by decide +kernel
theorem dX10_nextToken_35 : decode cX10_nextToken 35 = .ok (.aload_n 0, 1) := by decide +kernel
theorem dX10_nextToken_36 : decode cX10_nextToken 36 = .ok (.getfield 70, 3) := by decide +kernel
theorem dX10_nextToken_39 : decode cX10_nextToken 39 = .ok (.invokevirtual 73, 3) := by decide +kernel
theorem dX10_nextToken_42 : decode cX10_nextToken 42 = .ok (.istore_n 1, 1) := by decide +kernel
theorem dX10_nextToken_43 : decode cX10_nextToken 43 = .ok (.iload_n 1, 1) := by decide +kernel
theorem dX10_nextToken_44 : decode cX10_nextToken 44 = .ok (.ifCond .ge 11, 3) := by decide +kernel
theorem dX10_nextToken_47 : decode cX10_nextToken 47 = .ok (.aload_n 0, 1) := by decide +kernel
theorem dX10_nextToken_48 : decode cX10_nextToken 48 = .ok (.iconst 4, 1) := by decide +kernel
theorem dX10_nextToken_49 : decode cX10_nextToken 49 = .ok (.putfield 79, 3) := by decide +kernel
theorem dX10_nextToken_52 : decode cX10_nextToken 52 = .ok (.goto 244, 3) := by decide +kernel
theorem dX10_nextToken_55 : decode cX10_nextToken 55 = .ok (.iload_n 1, 1) := by decide +kernel
theorem dX10_nextToken_56 : decode cX10_nextToken 56 = .ok (.bipush 97, 2) := by decide +kernel
theorem dX10_nextToken_58 : decode cX10_nextToken 58 = .ok (.bipush 122, 2) := by decide +kernel
theorem dX10_nextToken_60 : decode cX10_nextToken 60 = .ok (.invokestatic 50, 3) := by decide +kernel
theorem dX10_nextToken_63 : decode cX10_nextToken 63 = .ok (.ifCond .eq 93, 3) := by decide +kernel
theorem dX10_nextToken_66 : decode cX10_nextToken 66 = .ok (.aload_n 0, 1) := by decide +kernel
theorem dX10_nextToken_67 : decode cX10_nextToken 67 = .ok (.lconst 0, 1) := by decide +kernel
theorem dX10_nextToken_68 : decode cX10_nextToken 68 = .ok (.putfield 82, 3) := by decide +kernel
theorem dX10_nextToken_71 : decode cX10_nextToken 71 = .ok (.aload_n 0, 1) := by decide +kernel
theorem dX10_nextToken_72 : decode cX10_nextToken 72 = .ok (.aload_n 0, 1) := by decide +kernel
theorem dX10_nextToken_73 : decode cX10_nextToken 73 = .ok (.getfield 70, 3) := by decide +kernel
theorem dX10_nextToken_76 : decode cX10_nextToken 76 = .ok (.invokevirtual 73, 3) := by decide +kernel
theorem dX10_nextToken_79 : decode cX10_nextToken 79 = .ok (.bipush 97, 2) := by decide +kernel
theorem dX10_nextToken_81 : decode cX10_nextToken 81 = .ok (.bipush 122, 2) := by decide +kernel
theorem dX10_nextToken_83 : decode cX10_nextToken 83 = .ok (.invokestatic 50, 3) := by decide +kernel
theorem dX10_nextToken_86 : decode cX10_nextToken 86 = .ok (.ifCond .eq 62, 3) := by decide +kernel
theorem dX10_nextToken_89 : decode cX10_nextToken 89 = .ok (.aload_n 0, 1) := by decide +kernel
theorem dX10_nextToken_90 : decode cX10_nextToken 90 = .ok (.aload_n 0, 1) := by decide +kernel
theorem dX10_nextToken_91 : decode cX10_nextToken 91 = .ok (.getfield 70, 3) := by decide +kernel
theorem dX10_nextToken_94 : decode cX10_nextToken 94 = .ok (.aload_n 0, 1) := by decide +kernel
theorem dX10_nextToken_95 : decode cX10_nextToken 95 = .ok (.getfield 76, 3) := by decide +kernel
theorem dX10_nextToken_98 : decode cX10_nextToken 98 = .ok (.isub, 1) := by decide +kernel
theorem dX10_nextToken_99 : decode cX10_nextToken 99 = .ok (.bipush 7, 2) := by decide +kernel
theorem dX10_nextToken_101 : decode cX10_nextToken 101 = .ok (.if_icmp .ge 28, 3) := by decide +kernel
theorem dX10_nextToken_104 : decode cX10_nextToken 104 = .ok (.aload_n 0, 1) := by decide +kernel
theorem dX10_nextToken_105 : decode cX10_nextToken 105 = .ok (.getfield 82, 3) := by decide +kernel
theorem dX10_nextToken_108 : decode cX10_nextToken 108 = .ok (.ldc2_w 85, 3) := by decide +kernel
theorem dX10_nextToken_111 : decode cX10_nextToken 111 = .ok (.lmul, 1) := by decide +kernel
theorem dX10_nextToken_112 : decode cX10_nextToken 112 = .ok (.aload_n 0, 1) := by decide +kernel
theorem dX10_nextToken_113 : decode cX10_nextToken 113 = .ok (.aload_n 0, 1) := by decide +kernel
theorem dX10_nextToken_114 : decode cX10_nextToken 114 = .ok (.getfield 70, 3) := by decide +kernel
theorem dX10_nextToken_117 : decode cX10_nextToken 117 = .ok (.invokevirtual 73, 3) := by decide +kernel
theorem dX10_nextToken_120 : decode cX10_nextToken 120 = .ok (.i2l, 1) := by decide +kernel
theorem dX10_nextToken_121 : decode cX10_nextToken 121 = .ok (.ladd, 1) := by decide +kernel
theorem dX10_nextToken_122 : decode cX10_nextToken 122 = .ok (.ldc2_w 87, 3) := by decide +kernel
theorem dX10_nextToken_125 : decode cX10_nextToken 125 = .ok (.lsub, 1) := by decide +kernel
theorem dX10_nextToken_126 : decode cX10_nextToken 126 = .ok (.goto 6, 3) := by decide +kernel
theorem dX10_nextToken_129 : decode cX10_nextToken 129 = .ok (.ldc2_w 89, 3) := by decide +kernel
theorem dX10_nextToken_132 : decode cX10_nextToken 132 = .ok (.putfield 82, 3) := by decide +kernel
theorem dX10_nextToken_135 : decode cX10_nextToken 135 = .ok (.aload_n 0, 1) := by decide +kernel
theorem dX10_nextToken_136 : decode cX10_nextToken 136 = .ok (.dup, 1) := by decide +kernel
theorem dX10_nextToken_137 : decode cX10_nextToken 137 = .ok (.getfield 70, 3) := by decide +kernel
theorem dX10_nextToken_140 : decode cX10_nextToken 140 = .ok (.iconst 1, 1) := by decide +kernel
theorem dX10_nextToken_141 : decode cX10_nextToken 141 = .ok (.iadd, 1) := by decide +kernel
theorem dX10_nextToken_142 : decode cX10_nextToken 142 = .ok (.putfield 70, 3) := by decide +kernel
theorem dX10_nextToken_145 : decode cX10_nextToken 145 = .ok (.goto (-74), 3) := by decide +kernel
theorem dX10_nextToken_148 : decode cX10_nextToken 148 = .ok (.aload_n 0, 1) := by decide +kernel
theorem dX10_nextToken_149 : decode cX10_nextToken 149 = .ok (.iconst 1, 1) := by decide +kernel
theorem dX10_nextToken_150 : decode cX10_nextToken 150 = .ok (.putfield 79, 3) := by decide +kernel
theorem dX10_nextToken_153 : decode cX10_nextToken 153 = .ok (.goto 143, 3) := by decide +kernel
theorem dX10_nextToken_156 : decode cX10_nextToken 156 = .ok (.iload_n 1, 1) := by decide +kernel
theorem dX10_nextToken_157 : decode cX10_nextToken 157 = .ok (.bipush 48, 2) := by decide +kernel
theorem dX10_nextToken_159 : decode cX10_nextToken 159 = .ok (.bipush 57, 2) := by decide +kernel
theorem dX10_nextToken_161 : decode cX10_nextToken 161 = .ok (.invokestatic 50, 3) := by decide +kernel
theorem dX10_nextToken_164 : decode cX10_nextToken 164 = .ok (.ifCond .eq 107, 3) := by decide +kernel
theorem dX10_nextToken_167 : decode cX10_nextToken 167 = .ok (.aload_n 0, 1) := by decide +kernel
theorem dX10_nextToken_168 : decode cX10_nextToken 168 = .ok (.iconst 0, 1) := by decide +kernel
theorem dX10_nextToken_169 : decode cX10_nextToken 169 = .ok (.putfield 91, 3) := by decide +kernel
theorem dX10_nextToken_172 : decode cX10_nextToken 172 = .ok (.aload_n 0, 1) := by decide +kernel
theorem dX10_nextToken_173 : decode cX10_nextToken 173 = .ok (.aload_n 0, 1) := by decide +kernel
theorem dX10_nextToken_174 : decode cX10_nextToken 174 = .ok (.getfield 70, 3) := by decide +kernel
theorem dX10_nextToken_177 : decode cX10_nextToken 177 = .ok (.invokevirtual 73, 3) := by decide +kernel
theorem dX10_nextToken_180 : decode cX10_nextToken 180 = .ok (.bipush 48, 2) := by decide +kernel
theorem dX10_nextToken_182 : decode cX10_nextToken 182 = .ok (.bipush 57, 2) := by decide +kernel
theorem dX10_nextToken_184 : decode cX10_nextToken 184 = .ok (.invokestatic 50, 3) := by decide +kernel
theorem dX10_nextToken_187 : decode cX10_nextToken 187 = .ok (.ifCond .eq 59, 3) := by decide +kernel
theorem dX10_nextToken_190 : decode cX10_nextToken 190 = .ok (.aload_n 0, 1) := by decide +kernel
theorem dX10_nextToken_191 : decode cX10_nextToken 191 = .ok (.aload_n 0, 1) := by decide +kernel
theorem dX10_nextToken_192 : decode cX10_nextToken 192 = .ok (.getfield 70, 3) := by decide +kernel
theorem dX10_nextToken_195 : decode cX10_nextToken 195 = .ok (.aload_n 0, 1) := by decide +kernel
theorem dX10_nextToken_196 : decode cX10_nextToken 196 = .ok (.getfield 76, 3) := by decide +kernel
theorem dX10_nextToken_199 : decode cX10_nextToken 199 = .ok (.isub, 1) := by decide +kernel
theorem dX10_nextToken_200 : decode cX10_nextToken 200 = .ok (.iconst 2, 1) := by decide +kernel
theorem dX10_nextToken_201 : decode cX10_nextToken 201 = .ok (.if_icmp .ge 25, 3) := by decide +kernel
theorem dX10_nextToken_204 : decode cX10_nextToken 204 = .ok (.bipush 10, 2) := by decide +kernel
theorem dX10_nextToken_206 : decode cX10_nextToken 206 = .ok (.aload_n 0, 1) := by decide +kernel
theorem dX10_nextToken_207 : decode cX10_nextToken 207 = .ok (.getfield 91, 3) := by decide +kernel
theorem dX10_nextToken_210 : decode cX10_nextToken 210 = .ok (.imul, 1) := by decide +kernel
theorem dX10_nextToken_211 : decode cX10_nextToken 211 = .ok (.aload_n 0, 1) := by decide +kernel
theorem dX10_nextToken_212 : decode cX10_nextToken 212 = .ok (.aload_n 0, 1) := by decide +kernel
theorem dX10_nextToken_213 : decode cX10_nextToken 213 = .ok (.getfield 70, 3) := by decide +kernel
theorem dX10_nextToken_216 : decode cX10_nextToken 216 = .ok (.invokevirtual 73, 3) := by decide +kernel
theorem dX10_nextToken_219 : decode cX10_nextToken 219 = .ok (.iadd, 1) := by decide +kernel
theorem dX10_nextToken_220 : decode cX10_nextToken 220 = .ok (.bipush 48, 2) := by decide +kernel
theorem dX10_nextToken_222 : decode cX10_nextToken 222 = .ok (.isub, 1) := by decide +kernel
theorem dX10_nextToken_223 : decode cX10_nextToken 223 = .ok (.goto 7, 3) := by decide +kernel
theorem dX10_nextToken_226 : decode cX10_nextToken 226 = .ok (.aload_n 0, 1) := by decide +kernel
theorem dX10_nextToken_227 : decode cX10_nextToken 227 = .ok (.getfield 91, 3) := by decide +kernel
theorem dX10_nextToken_230 : decode cX10_nextToken 230 = .ok (.putfield 91, 3) := by decide +kernel
theorem dX10_nextToken_233 : decode cX10_nextToken 233 = .ok (.aload_n 0, 1) := by decide +kernel
theorem dX10_nextToken_234 : decode cX10_nextToken 234 = .ok (.dup, 1) := by decide +kernel
theorem dX10_nextToken_235 : decode cX10_nextToken 235 = .ok (.getfield 70, 3) := by decide +kernel
theorem dX10_nextToken_238 : decode cX10_nextToken 238 = .ok (.iconst 1, 1) := by decide +kernel
theorem dX10_nextToken_239 : decode cX10_nextToken 239 = .ok (.iadd, 1) := by decide +kernel
theorem dX10_nextToken_240 : decode cX10_nextToken 240 = .ok (.putfield 70, 3) := by decide +kernel
theorem dX10_nextToken_243 : decode cX10_nextToken 243 = .ok (.goto (-71), 3) := by decide +kernel
theorem dX10_nextToken_246 : decode cX10_nextToken 246 = .ok (.aload_n 0, 1) := by decide +kernel
theorem dX10_nextToken_247 : decode cX10_nextToken 247 = .ok (.aload_n 0, 1) := by decide +kernel
theorem dX10_nextToken_248 : decode cX10_nextToken 248 = .ok (.getfield 70, 3) := by decide +kernel
theorem dX10_nextToken_251 : decode cX10_nextToken 251 = .ok (.aload_n 0, 1) := by decide +kernel
theorem dX10_nextToken_252 : decode cX10_nextToken 252 = .ok (.getfield 76, 3) := by decide +kernel
theorem dX10_nextToken_255 : decode cX10_nextToken 255 = .ok (.isub, 1) := by decide +kernel
theorem dX10_nextToken_256 : decode cX10_nextToken 256 = .ok (.iconst 2, 1) := by decide +kernel
theorem dX10_nextToken_257 : decode cX10_nextToken 257 = .ok (.if_icmp .le 7, 3) := by decide +kernel
theorem dX10_nextToken_260 : decode cX10_nextToken 260 = .ok (.iconst 5, 1) := by decide +kernel
theorem dX10_nextToken_261 : decode cX10_nextToken 261 = .ok (.goto 4, 3) := by decide +kernel
theorem dX10_nextToken_264 : decode cX10_nextToken 264 = .ok (.iconst 2, 1) := by decide +kernel
theorem dX10_nextToken_265 : decode cX10_nextToken 265 = .ok (.putfield 79, 3) := by decide +kernel
theorem dX10_nextToken_268 : decode cX10_nextToken 268 = .ok (.goto 28, 3) := by decide +kernel
theorem dX10_nextToken_271 : decode cX10_nextToken 271 = .ok (.aload_n 0, 1) := by decide +kernel
theorem dX10_nextToken_272 : decode cX10_nextToken 272 = .ok (.iload_n 1, 1) := by decide +kernel
theorem dX10_nextToken_273 : decode cX10_nextToken 273 = .ok (.bipush 59, 2) := by decide +kernel
theorem dX10_nextToken_275 : decode cX10_nextToken 275 = .ok (.if_icmp .ne 7, 3) := by decide +kernel
theorem dX10_nextToken_278 : decode cX10_nextToken 278 = .ok (.iconst 3, 1) := by decide +kernel
theorem dX10_nextToken_279 : decode cX10_nextToken 279 = .ok (.goto 4, 3) := by decide +kernel
theorem dX10_nextToken_282 : decode cX10_nextToken 282 = .ok (.iconst 5, 1) := by decide +kernel
theorem dX10_nextToken_283 : decode cX10_nextToken 283 = .ok (.putfield 79, 3) := by decide +kernel
theorem dX10_nextToken_286 : decode cX10_nextToken 286 = .ok (.aload_n 0, 1) := by decide +kernel
theorem dX10_nextToken_287 : decode cX10_nextToken 287 = .ok (.dup, 1) := by decide +kernel
theorem dX10_nextToken_288 : decode cX10_nextToken 288 = .ok (.getfield 70, 3) := by decide +kernel
theorem dX10_nextToken_291 : decode cX10_nextToken 291 = .ok (.iconst 1, 1) := by decide +kernel
theorem dX10_nextToken_292 : decode cX10_nextToken 292 = .ok (.iadd, 1) := by decide +kernel
theorem dX10_nextToken_293 : decode cX10_nextToken 293 = .ok (.putfield 70, 3) := by decide +kernel
theorem dX10_nextToken_296 : decode cX10_nextToken 296 = .ok (.return_, 1) := by decide +kernel
theorem dX10_wordOf_0 : decode cX10_wordOf 0 = .ok (.lconst 0, 1) := by decide +kernel
theorem dX10_wordOf_1 : decode cX10_wordOf 1 = .ok (.lstore 6, 2) := by decide +kernel
theorem dX10_wordOf_3 : decode cX10_wordOf 3 = .ok (.iload_n 0, 1) := by decide +kernel
theorem dX10_wordOf_4 : decode cX10_wordOf 4 = .ok (.ifCond .le 15, 3) := by decide +kernel
theorem dX10_wordOf_7 : decode cX10_wordOf 7 = .ok (.lload 6, 2) := by decide +kernel
theorem dX10_wordOf_9 : decode cX10_wordOf 9 = .ok (.ldc2_w 85, 3) := by decide +kernel
theorem dX10_wordOf_12 : decode cX10_wordOf 12 = .ok (.lmul, 1) := by decide +kernel
theorem dX10_wordOf_13 : decode cX10_wordOf 13 = .ok (.iload_n 0, 1) := by decide +kernel
theorem dX10_wordOf_14 : decode cX10_wordOf 14 = .ok (.i2l, 1) := by decide +kernel
theorem dX10_wordOf_15 : decode cX10_wordOf 15 = .ok (.ladd, 1) := by decide +kernel
theorem dX10_wordOf_16 : decode cX10_wordOf 16 = .ok (.goto 5, 3) := by decide +kernel
theorem dX10_wordOf_19 : decode cX10_wordOf 19 = .ok (.lload 6, 2) := by decide +kernel
theorem dX10_wordOf_21 : decode cX10_wordOf 21 = .ok (.lstore 6, 2) := by decide +kernel
theorem dX10_wordOf_23 : decode cX10_wordOf 23 = .ok (.iload_n 1, 1) := by decide +kernel
theorem dX10_wordOf_24 : decode cX10_wordOf 24 = .ok (.ifCond .le 15, 3) := by decide +kernel
theorem dX10_wordOf_27 : decode cX10_wordOf 27 = .ok (.lload 6, 2) := by decide +kernel
theorem dX10_wordOf_29 : decode cX10_wordOf 29 = .ok (.ldc2_w 85, 3) := by decide +kernel
theorem dX10_wordOf_32 : decode cX10_wordOf 32 = .ok (.lmul, 1) := by decide +kernel
theorem dX10_wordOf_33 : decode cX10_wordOf 33 = .ok (.iload_n 1, 1) := by decide +kernel
theorem dX10_wordOf_34 : decode cX10_wordOf 34 = .ok (.i2l, 1) := by decide +kernel
theorem dX10_wordOf_35 : decode cX10_wordOf 35 = .ok (.ladd, 1) := by decide +kernel
theorem dX10_wordOf_36 : decode cX10_wordOf 36 = .ok (.goto 5, 3) := by decide +kernel
theorem dX10_wordOf_39 : decode cX10_wordOf 39 = .ok (.lload 6, 2) := by decide +kernel
theorem dX10_wordOf_41 : decode cX10_wordOf 41 = .ok (.lstore 6, 2) := by decide +kernel
theorem dX10_wordOf_43 : decode cX10_wordOf 43 = .ok (.iload_n 2, 1) := by decide +kernel
theorem dX10_wordOf_44 : decode cX10_wordOf 44 = .ok (.ifCond .le 15, 3) := by decide +kernel
theorem dX10_wordOf_47 : decode cX10_wordOf 47 = .ok (.lload 6, 2) := by decide +kernel
theorem dX10_wordOf_49 : decode cX10_wordOf 49 = .ok (.ldc2_w 85, 3) := by decide +kernel
theorem dX10_wordOf_52 : decode cX10_wordOf 52 = .ok (.lmul, 1) := by decide +kernel
theorem dX10_wordOf_53 : decode cX10_wordOf 53 = .ok (.iload_n 2, 1) := by decide +kernel
theorem dX10_wordOf_54 : decode cX10_wordOf 54 = .ok (.i2l, 1) := by decide +kernel
theorem dX10_wordOf_55 : decode cX10_wordOf 55 = .ok (.ladd, 1) := by decide +kernel
theorem dX10_wordOf_56 : decode cX10_wordOf 56 = .ok (.goto 5, 3) := by decide +kernel
theorem dX10_wordOf_59 : decode cX10_wordOf 59 = .ok (.lload 6, 2) := by decide +kernel
theorem dX10_wordOf_61 : decode cX10_wordOf 61 = .ok (.lstore 6, 2) := by decide +kernel
theorem dX10_wordOf_63 : decode cX10_wordOf 63 = .ok (.iload_n 3, 1) := by decide +kernel
theorem dX10_wordOf_64 : decode cX10_wordOf 64 = .ok (.ifCond .le 15, 3) := by decide +kernel
theorem dX10_wordOf_67 : decode cX10_wordOf 67 = .ok (.lload 6, 2) := by decide +kernel
theorem dX10_wordOf_69 : decode cX10_wordOf 69 = .ok (.ldc2_w 85, 3) := by decide +kernel
theorem dX10_wordOf_72 : decode cX10_wordOf 72 = .ok (.lmul, 1) := by decide +kernel
theorem dX10_wordOf_73 : decode cX10_wordOf 73 = .ok (.iload_n 3, 1) := by decide +kernel
theorem dX10_wordOf_74 : decode cX10_wordOf 74 = .ok (.i2l, 1) := by decide +kernel
theorem dX10_wordOf_75 : decode cX10_wordOf 75 = .ok (.ladd, 1) := by decide +kernel
theorem dX10_wordOf_76 : decode cX10_wordOf 76 = .ok (.goto 5, 3) := by decide +kernel
theorem dX10_wordOf_79 : decode cX10_wordOf 79 = .ok (.lload 6, 2) := by decide +kernel
theorem dX10_wordOf_81 : decode cX10_wordOf 81 = .ok (.lstore 6, 2) := by decide +kernel
theorem dX10_wordOf_83 : decode cX10_wordOf 83 = .ok (.iload 4, 2) := by decide +kernel
theorem dX10_wordOf_85 : decode cX10_wordOf 85 = .ok (.ifCond .le 16, 3) := by decide +kernel
theorem dX10_wordOf_88 : decode cX10_wordOf 88 = .ok (.lload 6, 2) := by decide +kernel
theorem dX10_wordOf_90 : decode cX10_wordOf 90 = .ok (.ldc2_w 85, 3) := by decide +kernel
theorem dX10_wordOf_93 : decode cX10_wordOf 93 = .ok (.lmul, 1) := by decide +kernel
theorem dX10_wordOf_94 : decode cX10_wordOf 94 = .ok (.iload 4, 2) := by decide +kernel
theorem dX10_wordOf_96 : decode cX10_wordOf 96 = .ok (.i2l, 1) := by decide +kernel
theorem dX10_wordOf_97 : decode cX10_wordOf 97 = .ok (.ladd, 1) := by decide +kernel
theorem dX10_wordOf_98 : decode cX10_wordOf 98 = .ok (.goto 5, 3) := by decide +kernel
theorem dX10_wordOf_101 : decode cX10_wordOf 101 = .ok (.lload 6, 2) := by decide +kernel
theorem dX10_wordOf_103 : decode cX10_wordOf 103 = .ok (.lstore 6, 2) := by decide +kernel
theorem dX10_wordOf_105 : decode cX10_wordOf 105 = .ok (.iload 5, 2) := by decide +kernel
theorem dX10_wordOf_107 : decode cX10_wordOf 107 = .ok (.ifCond .le 16, 3) := by decide +kernel
theorem dX10_wordOf_110 : decode cX10_wordOf 110 = .ok (.lload 6, 2) := by decide +kernel
theorem dX10_wordOf_112 : decode cX10_wordOf 112 = .ok (.ldc2_w 85, 3) := by decide +kernel
theorem dX10_wordOf_115 : decode cX10_wordOf 115 = .ok (.lmul, 1) := by decide +kernel
theorem dX10_wordOf_116 : decode cX10_wordOf 116 = .ok (.iload 5, 2) := by decide +kernel
theorem dX10_wordOf_118 : decode cX10_wordOf 118 = .ok (.i2l, 1) := by decide +kernel
theorem dX10_wordOf_119 : decode cX10_wordOf 119 = .ok (.ladd, 1) := by decide +kernel
theorem dX10_wordOf_120 : decode cX10_wordOf 120 = .ok (.goto 5, 3) := by decide +kernel
theorem dX10_wordOf_123 : decode cX10_wordOf 123 = .ok (.lload 6, 2) := by decide +kernel
theorem dX10_wordOf_125 : decode cX10_wordOf 125 = .ok (.lreturn, 1) := by decide +kernel
theorem dX10_isNumber_0 : decode cX10_isNumber 0 = .ok (.aload_n 0, 1) := by decide +kernel
theorem dX10_isNumber_1 : decode cX10_isNumber 1 = .ok (.getfield 79, 3) := by decide +kernel
theorem dX10_isNumber_4 : decode cX10_isNumber 4 = .ok (.iconst 2, 1) := by decide +kernel
theorem dX10_isNumber_5 : decode cX10_isNumber 5 = .ok (.if_icmp .ne 19, 3) := by decide +kernel
theorem dX10_isNumber_8 : decode cX10_isNumber 8 = .ok (.aload_n 0, 1) := by decide +kernel
theorem dX10_isNumber_9 : decode cX10_isNumber 9 = .ok (.getfield 91, 3) := by decide +kernel
theorem dX10_isNumber_12 : decode cX10_isNumber 12 = .ok (.iload_n 1, 1) := by decide +kernel
theorem dX10_isNumber_13 : decode cX10_isNumber 13 = .ok (.iload_n 2, 1) := by decide +kernel
theorem dX10_isNumber_14 : decode cX10_isNumber 14 = .ok (.invokestatic 50, 3) := by decide +kernel
theorem dX10_isNumber_17 : decode cX10_isNumber 17 = .ok (.ifCond .eq 7, 3) := by decide +kernel
theorem dX10_isNumber_20 : decode cX10_isNumber 20 = .ok (.iconst 1, 1) := by decide +kernel
theorem dX10_isNumber_21 : decode cX10_isNumber 21 = .ok (.goto 4, 3) := by decide +kernel
theorem dX10_isNumber_24 : decode cX10_isNumber 24 = .ok (.iconst 0, 1) := by decide +kernel
theorem dX10_isNumber_25 : decode cX10_isNumber 25 = .ok (.ireturn, 1) := by decide +kernel
theorem dX10_isEnd_0 : decode cX10_isEnd 0 = .ok (.aload_n 0, 1) := by decide +kernel
theorem dX10_isEnd_1 : decode cX10_isEnd 1 = .ok (.invokevirtual 94, 3) := by decide +kernel
theorem dX10_isEnd_4 : decode cX10_isEnd 4 = .ok (.aload_n 0, 1) := by decide +kernel
theorem dX10_isEnd_5 : decode cX10_isEnd 5 = .ok (.getfield 79, 3) := by decide +kernel
theorem dX10_isEnd_8 : decode cX10_isEnd 8 = .ok (.iconst 3, 1) := by decide +kernel
theorem dX10_isEnd_9 : decode cX10_isEnd 9 = .ok (.if_icmp .ne 7, 3) := by decide +kernel
theorem dX10_isEnd_12 : decode cX10_isEnd 12 = .ok (.iconst 1, 1) := by decide +kernel
theorem dX10_isEnd_13 : decode cX10_isEnd 13 = .ok (.goto 4, 3) := by decide +kernel
theorem dX10_isEnd_16 : decode cX10_isEnd 16 = .ok (.iconst 0, 1) := by decide +kernel
theorem dX10_isEnd_17 : decode cX10_isEnd 17 = .ok (.ireturn, 1) := by decide +kernel
theorem dX10_yearsTold_0 : decode cX10_yearsTold 0 = .ok (.iconst 0, 1) := by decide +kernel
theorem dX10_yearsTold_1 : decode cX10_yearsTold 1 = .ok (.istore_n 1, 1) := by decide +kernel
theorem dX10_yearsTold_2 : decode cX10_yearsTold 2 = .ok (.aload_n 0, 1) := by decide +kernel
theorem dX10_yearsTold_3 : decode cX10_yearsTold 3 = .ok (.invokevirtual 94, 3) := by decide +kernel
theorem dX10_yearsTold_6 : decode cX10_yearsTold 6 = .ok (.aload_n 0, 1) := by decide +kernel
theorem dX10_yearsTold_7 : decode cX10_yearsTold 7 = .ok (.getfield 79, 3) := by decide +kernel
theorem dX10_yearsTold_10 : decode cX10_yearsTold 10 = .ok (.iconst 3, 1) := by decide +kernel
theorem dX10_yearsTold_11 : decode cX10_yearsTold 11 = .ok (.if_icmp .eq 31, 3) := by decide +kernel
theorem dX10_yearsTold_14 : decode cX10_yearsTold 14 = .ok (.aload_n 0, 1) := by decide +kernel
theorem dX10_yearsTold_15 : decode cX10_yearsTold 15 = .ok (.iconst 0, 1) := by decide +kernel
theorem dX10_yearsTold_16 : decode cX10_yearsTold 16 = .ok (.bipush 11, 2) := by decide +kernel
theorem dX10_yearsTold_18 : decode cX10_yearsTold 18 = .ok (.invokevirtual 97, 3) := by decide +kernel
theorem dX10_yearsTold_21 : decode cX10_yearsTold 21 = .ok (.ifCond .ne 5, 3) := by decide +kernel
theorem dX10_yearsTold_24 : decode cX10_yearsTold 24 = .ok (.iconst (-1), 1) := by decide +kernel
theorem dX10_yearsTold_25 : decode cX10_yearsTold 25 = .ok (.ireturn, 1) := by decide +kernel
theorem dX10_yearsTold_26 : decode cX10_yearsTold 26 = .ok (.iload_n 1, 1) := by decide +kernel
theorem dX10_yearsTold_27 : decode cX10_yearsTold 27 = .ok (.iconst 1, 1) := by decide +kernel
theorem dX10_yearsTold_28 : decode cX10_yearsTold 28 = .ok (.aload_n 0, 1) := by decide +kernel
theorem dX10_yearsTold_29 : decode cX10_yearsTold 29 = .ok (.getfield 91, 3) := by decide +kernel
theorem dX10_yearsTold_32 : decode cX10_yearsTold 32 = .ok (.ishl, 1) := by decide +kernel
theorem dX10_yearsTold_33 : decode cX10_yearsTold 33 = .ok (.ior, 1) := by decide +kernel
theorem dX10_yearsTold_34 : decode cX10_yearsTold 34 = .ok (.istore_n 1, 1) := by decide +kernel
theorem dX10_yearsTold_35 : decode cX10_yearsTold 35 = .ok (.aload_n 0, 1) := by decide +kernel
theorem dX10_yearsTold_36 : decode cX10_yearsTold 36 = .ok (.invokevirtual 94, 3) := by decide +kernel
theorem dX10_yearsTold_39 : decode cX10_yearsTold 39 = .ok (.goto (-33), 3) := by decide +kernel
theorem dX10_yearsTold_42 : decode cX10_yearsTold 42 = .ok (.iload_n 1, 1) := by decide +kernel
theorem dX10_yearsTold_43 : decode cX10_yearsTold 43 = .ok (.ireturn, 1) := by decide +kernel
theorem dX10_isItem_0 : decode cX10_isItem 0 = .ok (.aload_n 0, 1) := by decide +kernel
theorem dX10_isItem_1 : decode cX10_isItem 1 = .ok (.getfield 79, 3) := by decide +kernel
theorem dX10_isItem_4 : decode cX10_isItem 4 = .ok (.iconst 1, 1) := by decide +kernel
theorem dX10_isItem_5 : decode cX10_isItem 5 = .ok (.if_icmp .eq 5, 3) := by decide +kernel
theorem dX10_isItem_8 : decode cX10_isItem 8 = .ok (.iconst 0, 1) := by decide +kernel
theorem dX10_isItem_9 : decode cX10_isItem 9 = .ok (.ireturn, 1) := by decide +kernel
theorem dX10_isItem_10 : decode cX10_isItem 10 = .ok (.aload_n 0, 1) := by decide +kernel
theorem dX10_isItem_11 : decode cX10_isItem 11 = .ok (.getfield 101, 3) := by decide +kernel
theorem dX10_isItem_14 : decode cX10_isItem 14 = .ok (.ifCond .ne 7, 3) := by decide +kernel
theorem dX10_isItem_17 : decode cX10_isItem 17 = .ok (.iconst 1, 1) := by decide +kernel
theorem dX10_isItem_18 : decode cX10_isItem 18 = .ok (.goto 4, 3) := by decide +kernel
theorem dX10_isItem_21 : decode cX10_isItem 21 = .ok (.iconst 0, 1) := by decide +kernel
theorem dX10_isItem_22 : decode cX10_isItem 22 = .ok (.istore_n 1, 1) := by decide +kernel
theorem dX10_isItem_23 : decode cX10_isItem 23 = .ok (.aload_n 0, 1) := by decide +kernel
theorem dX10_isItem_24 : decode cX10_isItem 24 = .ok (.getfield 82, 3) := by decide +kernel
theorem dX10_isItem_27 : decode cX10_isItem 27 = .ok (.bipush 22, 2) := by decide +kernel
theorem dX10_isItem_29 : decode cX10_isItem 29 = .ok (.iconst 1, 1) := by decide +kernel
theorem dX10_isItem_30 : decode cX10_isItem 30 = .ok (.bipush 12, 2) := by decide +kernel
theorem dX10_isItem_32 : decode cX10_isItem 32 = .ok (.bipush 12, 2) := by decide +kernel
theorem dX10_isItem_34 : decode cX10_isItem 34 = .ok (.iconst 5, 1) := by decide +kernel
theorem dX10_isItem_35 : decode cX10_isItem 35 = .ok (.bipush 25, 2) := by decide +kernel
theorem dX10_isItem_37 : decode cX10_isItem 37 = .ok (.invokestatic 104, 3) := by decide +kernel
theorem dX10_isItem_40 : decode cX10_isItem 40 = .ok (.lcmp, 1) := by decide +kernel
theorem dX10_isItem_41 : decode cX10_isItem 41 = .ok (.ifCond .ne 20, 3) := by decide +kernel
theorem dX10_isItem_44 : decode cX10_isItem 44 = .ok (.iload_n 1, 1) := by decide +kernel
theorem dX10_isItem_45 : decode cX10_isItem 45 = .ok (.ifCond .eq 14, 3) := by decide +kernel
theorem dX10_isItem_48 : decode cX10_isItem 48 = .ok (.aload_n 0, 1) := by decide +kernel
theorem dX10_isItem_49 : decode cX10_isItem 49 = .ok (.invokevirtual 108, 3) := by decide +kernel
theorem dX10_isItem_52 : decode cX10_isItem 52 = .ok (.ifCond .eq 7, 3) := by decide +kernel
theorem dX10_isItem_55 : decode cX10_isItem 55 = .ok (.iconst 1, 1) := by decide +kernel
theorem dX10_isItem_56 : decode cX10_isItem 56 = .ok (.goto 4, 3) := by decide +kernel
theorem dX10_isItem_59 : decode cX10_isItem 59 = .ok (.iconst 0, 1) := by decide +kernel
theorem dX10_isItem_60 : decode cX10_isItem 60 = .ok (.ireturn, 1) := by decide +kernel
theorem dX10_isItem_61 : decode cX10_isItem 61 = .ok (.iload_n 1, 1) := by decide +kernel
theorem dX10_isItem_62 : decode cX10_isItem 62 = .ok (.ifCond .eq 5, 3) := by decide +kernel
theorem dX10_isItem_65 : decode cX10_isItem 65 = .ok (.iconst 0, 1) := by decide +kernel
theorem dX10_isItem_66 : decode cX10_isItem 66 = .ok (.ireturn, 1) := by decide +kernel
theorem dX10_isItem_67 : decode cX10_isItem 67 = .ok (.aload_n 0, 1) := by decide +kernel
theorem dX10_isItem_68 : decode cX10_isItem 68 = .ok (.getfield 82, 3) := by decide +kernel
theorem dX10_isItem_71 : decode cX10_isItem 71 = .ok (.iconst 4, 1) := by decide +kernel
theorem dX10_isItem_72 : decode cX10_isItem 72 = .ok (.iconst 1, 1) := by decide +kernel
theorem dX10_isItem_73 : decode cX10_isItem 73 = .ok (.bipush 13, 2) := by decide +kernel
theorem dX10_isItem_75 : decode cX10_isItem 75 = .ok (.bipush 16, 2) := by decide +kernel
theorem dX10_isItem_77 : decode cX10_isItem 77 = .ok (.iconst 0, 1) := by decide +kernel
theorem dX10_isItem_78 : decode cX10_isItem 78 = .ok (.iconst 0, 1) := by decide +kernel
theorem dX10_isItem_79 : decode cX10_isItem 79 = .ok (.invokestatic 104, 3) := by decide +kernel
theorem dX10_isItem_82 : decode cX10_isItem 82 = .ok (.lcmp, 1) := by decide +kernel
theorem dX10_isItem_83 : decode cX10_isItem 83 = .ok (.ifCond .ne 7, 3) := by decide +kernel
theorem dX10_isItem_86 : decode cX10_isItem 86 = .ok (.iconst 1, 1) := by decide +kernel
theorem dX10_isItem_87 : decode cX10_isItem 87 = .ok (.goto 4, 3) := by decide +kernel
theorem dX10_isItem_90 : decode cX10_isItem 90 = .ok (.iconst 0, 1) := by decide +kernel
theorem dX10_isItem_91 : decode cX10_isItem 91 = .ok (.istore_n 2, 1) := by decide +kernel
theorem dX10_isItem_92 : decode cX10_isItem 92 = .ok (.iload_n 2, 1) := by decide +kernel
theorem dX10_isItem_93 : decode cX10_isItem 93 = .ok (.ifCond .ne 22, 3) := by decide +kernel
theorem dX10_isItem_96 : decode cX10_isItem 96 = .ok (.aload_n 0, 1) := by decide +kernel
theorem dX10_isItem_97 : decode cX10_isItem 97 = .ok (.getfield 82, 3) := by decide +kernel
theorem dX10_isItem_100 : decode cX10_isItem 100 = .ok (.iconst 4, 1) := by decide +kernel
theorem dX10_isItem_101 : decode cX10_isItem 101 = .ok (.bipush 18, 2) := by decide +kernel
theorem dX10_isItem_103 : decode cX10_isItem 103 = .ok (.bipush 25, 2) := by decide +kernel
theorem dX10_isItem_105 : decode cX10_isItem 105 = .ok (.iconst 0, 1) := by decide +kernel
theorem dX10_isItem_106 : decode cX10_isItem 106 = .ok (.iconst 0, 1) := by decide +kernel
theorem dX10_isItem_107 : decode cX10_isItem 107 = .ok (.iconst 0, 1) := by decide +kernel
theorem dX10_isItem_108 : decode cX10_isItem 108 = .ok (.invokestatic 104, 3) := by decide +kernel
theorem dX10_isItem_111 : decode cX10_isItem 111 = .ok (.lcmp, 1) := by decide +kernel
theorem dX10_isItem_112 : decode cX10_isItem 112 = .ok (.ifCond .ne 46, 3) := by decide +kernel
theorem dX10_isItem_115 : decode cX10_isItem 115 = .ok (.aload_n 0, 1) := by decide +kernel
theorem dX10_isItem_116 : decode cX10_isItem 116 = .ok (.invokevirtual 112, 3) := by decide +kernel
theorem dX10_isItem_119 : decode cX10_isItem 119 = .ok (.istore_n 3, 1) := by decide +kernel
theorem dX10_isItem_120 : decode cX10_isItem 120 = .ok (.iload_n 3, 1) := by decide +kernel
theorem dX10_isItem_121 : decode cX10_isItem 121 = .ok (.ifCond .ge 5, 3) := by decide +kernel
theorem dX10_isItem_124 : decode cX10_isItem 124 = .ok (.iconst 0, 1) := by decide +kernel
theorem dX10_isItem_125 : decode cX10_isItem 125 = .ok (.ireturn, 1) := by decide +kernel
theorem dX10_isItem_126 : decode cX10_isItem 126 = .ok (.aload_n 0, 1) := by decide +kernel
theorem dX10_isItem_127 : decode cX10_isItem 127 = .ok (.getfield 13, 3) := by decide +kernel
theorem dX10_isItem_130 : decode cX10_isItem 130 = .ok (.iload_n 2, 1) := by decide +kernel
theorem dX10_isItem_131 : decode cX10_isItem 131 = .ok (.ifCond .eq 7, 3) := by decide +kernel
theorem dX10_isItem_134 : decode cX10_isItem 134 = .ok (.iconst 3, 1) := by decide +kernel
theorem dX10_isItem_135 : decode cX10_isItem 135 = .ok (.goto 4, 3) := by decide +kernel
theorem dX10_isItem_138 : decode cX10_isItem 138 = .ok (.iconst 4, 1) := by decide +kernel
theorem dX10_isItem_139 : decode cX10_isItem 139 = .ok (.aload_n 0, 1) := by decide +kernel
theorem dX10_isItem_140 : decode cX10_isItem 140 = .ok (.getfield 13, 3) := by decide +kernel
theorem dX10_isItem_143 : decode cX10_isItem 143 = .ok (.iload_n 2, 1) := by decide +kernel
theorem dX10_isItem_144 : decode cX10_isItem 144 = .ok (.ifCond .eq 7, 3) := by decide +kernel
theorem dX10_isItem_147 : decode cX10_isItem 147 = .ok (.iconst 3, 1) := by decide +kernel
theorem dX10_isItem_148 : decode cX10_isItem 148 = .ok (.goto 4, 3) := by decide +kernel
theorem dX10_isItem_151 : decode cX10_isItem 151 = .ok (.iconst 4, 1) := by decide +kernel
theorem dX10_isItem_152 : decode cX10_isItem 152 = .ok (.iaload, 1) := by decide +kernel
theorem dX10_isItem_153 : decode cX10_isItem 153 = .ok (.iload_n 3, 1) := by decide +kernel
theorem dX10_isItem_154 : decode cX10_isItem 154 = .ok (.ior, 1) := by decide +kernel
theorem dX10_isItem_155 : decode cX10_isItem 155 = .ok (.iastore, 1) := by decide +kernel
theorem dX10_isItem_156 : decode cX10_isItem 156 = .ok (.iconst 1, 1) := by decide +kernel
theorem dX10_isItem_157 : decode cX10_isItem 157 = .ok (.ireturn, 1) := by decide +kernel
theorem dX10_isItem_158 : decode cX10_isItem 158 = .ok (.aload_n 0, 1) := by decide +kernel
theorem dX10_isItem_159 : decode cX10_isItem 159 = .ok (.getfield 82, 3) := by decide +kernel
theorem dX10_isItem_162 : decode cX10_isItem 162 = .ok (.bipush 16, 2) := by decide +kernel
theorem dX10_isItem_164 : decode cX10_isItem 164 = .ok (.iconst 1, 1) := by decide +kernel
theorem dX10_isItem_165 : decode cX10_isItem 165 = .ok (.bipush 9, 2) := by decide +kernel
theorem dX10_isItem_167 : decode cX10_isItem 167 = .ok (.bipush 18, 2) := by decide +kernel
theorem dX10_isItem_169 : decode cX10_isItem 169 = .ok (.iconst 0, 1) := by decide +kernel
theorem dX10_isItem_170 : decode cX10_isItem 170 = .ok (.iconst 0, 1) := by decide +kernel
theorem dX10_isItem_171 : decode cX10_isItem 171 = .ok (.invokestatic 104, 3) := by decide +kernel
theorem dX10_isItem_174 : decode cX10_isItem 174 = .ok (.lcmp, 1) := by decide +kernel
theorem dX10_isItem_175 : decode cX10_isItem 175 = .ok (.ifCond .ne 70, 3) := by decide +kernel
theorem dX10_isItem_178 : decode cX10_isItem 178 = .ok (.aload_n 0, 1) := by decide +kernel
theorem dX10_isItem_179 : decode cX10_isItem 179 = .ok (.getfield 13, 3) := by decide +kernel
theorem dX10_isItem_182 : decode cX10_isItem 182 = .ok (.iconst 0, 1) := by decide +kernel
theorem dX10_isItem_183 : decode cX10_isItem 183 = .ok (.iaload, 1) := by decide +kernel
theorem dX10_isItem_184 : decode cX10_isItem 184 = .ok (.bipush 6, 2) := by decide +kernel
theorem dX10_isItem_186 : decode cX10_isItem 186 = .ok (.if_icmp .ne 5, 3) := by decide +kernel
theorem dX10_isItem_189 : decode cX10_isItem 189 = .ok (.iconst 0, 1) := by decide +kernel
theorem dX10_isItem_190 : decode cX10_isItem 190 = .ok (.ireturn, 1) := by decide +kernel
theorem dX10_isItem_191 : decode cX10_isItem 191 = .ok (.aload_n 0, 1) := by decide +kernel
theorem dX10_isItem_192 : decode cX10_isItem 192 = .ok (.invokevirtual 94, 3) := by decide +kernel
theorem dX10_isItem_195 : decode cX10_isItem 195 = .ok (.aload_n 0, 1) := by decide +kernel
theorem dX10_isItem_196 : decode cX10_isItem 196 = .ok (.iconst 0, 1) := by decide +kernel
theorem dX10_isItem_197 : decode cX10_isItem 197 = .ok (.iconst 5, 1) := by decide +kernel
theorem dX10_isItem_198 : decode cX10_isItem 198 = .ok (.invokevirtual 97, 3) := by decide +kernel
theorem dX10_isItem_201 : decode cX10_isItem 201 = .ok (.ifCond .ne 5, 3) := by decide +kernel
theorem dX10_isItem_204 : decode cX10_isItem 204 = .ok (.iconst 0, 1) := by decide +kernel
theorem dX10_isItem_205 : decode cX10_isItem 205 = .ok (.ireturn, 1) := by decide +kernel
theorem dX10_isItem_206 : decode cX10_isItem 206 = .ok (.aload_n 0, 1) := by decide +kernel
theorem dX10_isItem_207 : decode cX10_isItem 207 = .ok (.getfield 91, 3) := by decide +kernel
theorem dX10_isItem_210 : decode cX10_isItem 210 = .ok (.istore_n 3, 1) := by decide +kernel
theorem dX10_isItem_211 : decode cX10_isItem 211 = .ok (.aload_n 0, 1) := by decide +kernel
theorem dX10_isItem_212 : decode cX10_isItem 212 = .ok (.invokevirtual 94, 3) := by decide +kernel
theorem dX10_isItem_215 : decode cX10_isItem 215 = .ok (.aload_n 0, 1) := by decide +kernel
theorem dX10_isItem_216 : decode cX10_isItem 216 = .ok (.iconst 0, 1) := by decide +kernel
theorem dX10_isItem_217 : decode cX10_isItem 217 = .ok (.bipush 60, 2) := by decide +kernel
theorem dX10_isItem_219 : decode cX10_isItem 219 = .ok (.invokevirtual 97, 3) := by decide +kernel
theorem dX10_isItem_222 : decode cX10_isItem 222 = .ok (.ifCond .ne 5, 3) := by decide +kernel
theorem dX10_isItem_225 : decode cX10_isItem 225 = .ok (.iconst 0, 1) := by decide +kernel
theorem dX10_isItem_226 : decode cX10_isItem 226 = .ok (.ireturn, 1) := by decide +kernel
theorem dX10_isItem_227 : decode cX10_isItem 227 = .ok (.aload_n 0, 1) := by decide +kernel
theorem dX10_isItem_228 : decode cX10_isItem 228 = .ok (.getfield 13, 3) := by decide +kernel
theorem dX10_isItem_231 : decode cX10_isItem 231 = .ok (.iload_n 3, 1) := by decide +kernel
theorem dX10_isItem_232 : decode cX10_isItem 232 = .ok (.aload_n 0, 1) := by decide +kernel
theorem dX10_isItem_233 : decode cX10_isItem 233 = .ok (.getfield 91, 3) := by decide +kernel
theorem dX10_isItem_236 : decode cX10_isItem 236 = .ok (.invokestatic 58, 3) := by decide +kernel
theorem dX10_isItem_239 : decode cX10_isItem 239 = .ok (.pop, 1) := by decide +kernel
theorem dX10_isItem_240 : decode cX10_isItem 240 = .ok (.aload_n 0, 1) := by decide +kernel
theorem dX10_isItem_241 : decode cX10_isItem 241 = .ok (.invokevirtual 108, 3) := by decide +kernel
theorem dX10_isItem_244 : decode cX10_isItem 244 = .ok (.ireturn, 1) := by decide +kernel
theorem dX10_isItem_245 : decode cX10_isItem 245 = .ok (.aload_n 0, 1) := by decide +kernel
theorem dX10_isItem_246 : decode cX10_isItem 246 = .ok (.getfield 82, 3) := by decide +kernel
theorem dX10_isItem_249 : decode cX10_isItem 249 = .ok (.bipush 11, 2) := by decide +kernel
theorem dX10_isItem_251 : decode cX10_isItem 251 = .ok (.bipush 9, 2) := by decide +kernel
theorem dX10_isItem_253 : decode cX10_isItem 253 = .ok (.bipush 14, 2) := by decide +kernel
theorem dX10_isItem_255 : decode cX10_isItem 255 = .ok (.iconst 0, 1) := by decide +kernel
theorem dX10_isItem_256 : decode cX10_isItem 256 = .ok (.iconst 0, 1) := by decide +kernel
theorem dX10_isItem_257 : decode cX10_isItem 257 = .ok (.iconst 0, 1) := by decide +kernel
theorem dX10_isItem_258 : decode cX10_isItem 258 = .ok (.invokestatic 104, 3) := by decide +kernel
theorem dX10_isItem_261 : decode cX10_isItem 261 = .ok (.lcmp, 1) := by decide +kernel
theorem dX10_isItem_262 : decode cX10_isItem 262 = .ok (.ifCond .ne 14, 3) := by decide +kernel
theorem dX10_isItem_265 : decode cX10_isItem 265 = .ok (.aload_n 0, 1) := by decide +kernel
theorem dX10_isItem_266 : decode cX10_isItem 266 = .ok (.getfield 13, 3) := by decide +kernel
theorem dX10_isItem_269 : decode cX10_isItem 269 = .ok (.iconst 1, 1) := by decide +kernel
theorem dX10_isItem_270 : decode cX10_isItem 270 = .ok (.iaload, 1) := by decide +kernel
theorem dX10_isItem_271 : decode cX10_isItem 271 = .ok (.bipush 8, 2) := by decide +kernel
theorem dX10_isItem_273 : decode cX10_isItem 273 = .ok (.if_icmp .ne 5, 3) := by decide +kernel
theorem dX10_isItem_276 : decode cX10_isItem 276 = .ok (.iconst 0, 1) := by decide +kernel
theorem dX10_isItem_277 : decode cX10_isItem 277 = .ok (.ireturn, 1) := by decide +kernel
theorem dX10_isItem_278 : decode cX10_isItem 278 = .ok (.aload_n 0, 1) := by decide +kernel
theorem dX10_isItem_279 : decode cX10_isItem 279 = .ok (.invokevirtual 94, 3) := by decide +kernel
theorem dX10_isItem_282 : decode cX10_isItem 282 = .ok (.aload_n 0, 1) := by decide +kernel
theorem dX10_isItem_283 : decode cX10_isItem 283 = .ok (.iconst 1, 1) := by decide +kernel
theorem dX10_isItem_284 : decode cX10_isItem 284 = .ok (.bipush 20, 2) := by decide +kernel
theorem dX10_isItem_286 : decode cX10_isItem 286 = .ok (.invokevirtual 97, 3) := by decide +kernel
theorem dX10_isItem_289 : decode cX10_isItem 289 = .ok (.ifCond .ne 5, 3) := by decide +kernel
theorem dX10_isItem_292 : decode cX10_isItem 292 = .ok (.iconst 0, 1) := by decide +kernel
theorem dX10_isItem_293 : decode cX10_isItem 293 = .ok (.ireturn, 1) := by decide +kernel
theorem dX10_isItem_294 : decode cX10_isItem 294 = .ok (.aload_n 0, 1) := by decide +kernel
theorem dX10_isItem_295 : decode cX10_isItem 295 = .ok (.getfield 13, 3) := by decide +kernel
theorem dX10_isItem_298 : decode cX10_isItem 298 = .ok (.aload_n 0, 1) := by decide +kernel
theorem dX10_isItem_299 : decode cX10_isItem 299 = .ok (.getfield 91, 3) := by decide +kernel
theorem dX10_isItem_302 : decode cX10_isItem 302 = .ok (.invokestatic 62, 3) := by decide +kernel
theorem dX10_isItem_305 : decode cX10_isItem 305 = .ok (.pop, 1) := by decide +kernel
theorem dX10_isItem_306 : decode cX10_isItem 306 = .ok (.aload_n 0, 1) := by decide +kernel
theorem dX10_isItem_307 : decode cX10_isItem 307 = .ok (.invokevirtual 108, 3) := by decide +kernel
theorem dX10_isItem_310 : decode cX10_isItem 310 = .ok (.ireturn, 1) := by decide +kernel
theorem dX10_read_0 : decode cX10_read 0 = .ok (.aload_n 0, 1) := by decide +kernel
theorem dX10_read_1 : decode cX10_read 1 = .ok (.getfield 13, 3) := by decide +kernel
theorem dX10_read_4 : decode cX10_read 4 = .ok (.invokestatic 46, 3) := by decide +kernel
theorem dX10_read_7 : decode cX10_read 7 = .ok (.aload_n 0, 1) := by decide +kernel
theorem dX10_read_8 : decode cX10_read 8 = .ok (.iconst 0, 1) := by decide +kernel
theorem dX10_read_9 : decode cX10_read 9 = .ok (.putfield 70, 3) := by decide +kernel
theorem dX10_read_12 : decode cX10_read 12 = .ok (.aload_n 0, 1) := by decide +kernel
theorem dX10_read_13 : decode cX10_read 13 = .ok (.iconst 0, 1) := by decide +kernel
theorem dX10_read_14 : decode cX10_read 14 = .ok (.putfield 101, 3) := by decide +kernel
theorem dX10_read_17 : decode cX10_read 17 = .ok (.aload_n 0, 1) := by decide +kernel
theorem dX10_read_18 : decode cX10_read 18 = .ok (.invokevirtual 94, 3) := by decide +kernel
theorem dX10_read_21 : decode cX10_read 21 = .ok (.aload_n 0, 1) := by decide +kernel
theorem dX10_read_22 : decode cX10_read 22 = .ok (.getfield 79, 3) := by decide +kernel
theorem dX10_read_25 : decode cX10_read 25 = .ok (.iconst 4, 1) := by decide +kernel
theorem dX10_read_26 : decode cX10_read 26 = .ok (.if_icmp .ne 10, 3) := by decide +kernel
theorem dX10_read_29 : decode cX10_read 29 = .ok (.aload_n 0, 1) := by decide +kernel
theorem dX10_read_30 : decode cX10_read 30 = .ok (.getfield 101, 3) := by decide +kernel
theorem dX10_read_33 : decode cX10_read 33 = .ok (.ifCond .ne 35, 3) := by decide +kernel
theorem dX10_read_36 : decode cX10_read 36 = .ok (.aload_n 0, 1) := by decide +kernel
theorem dX10_read_37 : decode cX10_read 37 = .ok (.invokevirtual 116, 3) := by decide +kernel
theorem dX10_read_40 : decode cX10_read 40 = .ok (.ifCond .ne 11, 3) := by decide +kernel
theorem dX10_read_43 : decode cX10_read 43 = .ok (.bipush (-10), 2) := by decide +kernel
theorem dX10_read_45 : decode cX10_read 45 = .ok (.aload_n 0, 1) := by decide +kernel
theorem dX10_read_46 : decode cX10_read 46 = .ok (.getfield 76, 3) := by decide +kernel
theorem dX10_read_49 : decode cX10_read 49 = .ok (.isub, 1) := by decide +kernel
theorem dX10_read_50 : decode cX10_read 50 = .ok (.ireturn, 1) := by decide +kernel
theorem dX10_read_51 : decode cX10_read 51 = .ok (.aload_n 0, 1) := by decide +kernel
theorem dX10_read_52 : decode cX10_read 52 = .ok (.dup, 1) := by decide +kernel
theorem dX10_read_53 : decode cX10_read 53 = .ok (.getfield 101, 3) := by decide +kernel
theorem dX10_read_56 : decode cX10_read 56 = .ok (.iconst 1, 1) := by decide +kernel
theorem dX10_read_57 : decode cX10_read 57 = .ok (.iadd, 1) := by decide +kernel
theorem dX10_read_58 : decode cX10_read 58 = .ok (.putfield 101, 3) := by decide +kernel
theorem dX10_read_61 : decode cX10_read 61 = .ok (.aload_n 0, 1) := by decide +kernel
theorem dX10_read_62 : decode cX10_read 62 = .ok (.invokevirtual 94, 3) := by decide +kernel
theorem dX10_read_65 : decode cX10_read 65 = .ok (.goto (-44), 3) := by decide +kernel
theorem dX10_read_68 : decode cX10_read 68 = .ok (.aload_n 0, 1) := by decide +kernel
theorem dX10_read_69 : decode cX10_read 69 = .ok (.getfield 13, 3) := by decide +kernel
theorem dX10_read_72 : decode cX10_read 72 = .ok (.iconst 0, 1) := by decide +kernel
theorem dX10_read_73 : decode cX10_read 73 = .ok (.aload_n 0, 1) := by decide +kernel
theorem dX10_read_74 : decode cX10_read 74 = .ok (.getfield 7, 3) := by decide +kernel
theorem dX10_read_77 : decode cX10_read 77 = .ok (.iconst 0, 1) := by decide +kernel
theorem dX10_read_78 : decode cX10_read 78 = .ok (.invokestatic 119, 3) := by decide +kernel
theorem dX10_read_81 : decode cX10_read 81 = .ok (.aload_n 0, 1) := by decide +kernel
theorem dX10_read_82 : decode cX10_read 82 = .ok (.getfield 101, 3) := by decide +kernel
theorem dX10_read_85 : decode cX10_read 85 = .ok (.ireturn, 1) := by decide +kernel
theorem dX10_copy_0 : decode cX10_copy 0 = .ok (.iconst 0, 1) := by decide +kernel
theorem dX10_copy_1 : decode cX10_copy 1 = .ok (.istore 4, 2) := by decide +kernel
theorem dX10_copy_3 : decode cX10_copy 3 = .ok (.iload 4, 2) := by decide +kernel
theorem dX10_copy_5 : decode cX10_copy 5 = .ok (.sipush 167, 3) := by decide +kernel
theorem dX10_copy_8 : decode cX10_copy 8 = .ok (.if_icmp .ge 21, 3) := by decide +kernel
theorem dX10_copy_11 : decode cX10_copy 11 = .ok (.aload_n 2, 1) := by decide +kernel
theorem dX10_copy_12 : decode cX10_copy 12 = .ok (.iload_n 3, 1) := by decide +kernel
theorem dX10_copy_13 : decode cX10_copy 13 = .ok (.iload 4, 2) := by decide +kernel
theorem dX10_copy_15 : decode cX10_copy 15 = .ok (.iadd, 1) := by decide +kernel
theorem dX10_copy_16 : decode cX10_copy 16 = .ok (.aload_n 0, 1) := by decide +kernel
theorem dX10_copy_17 : decode cX10_copy 17 = .ok (.iload_n 1, 1) := by decide +kernel
theorem dX10_copy_18 : decode cX10_copy 18 = .ok (.iload 4, 2) := by decide +kernel
theorem dX10_copy_20 : decode cX10_copy 20 = .ok (.iadd, 1) := by decide +kernel
theorem dX10_copy_21 : decode cX10_copy 21 = .ok (.iaload, 1) := by decide +kernel
theorem dX10_copy_22 : decode cX10_copy 22 = .ok (.iastore, 1) := by decide +kernel
theorem dX10_copy_23 : decode cX10_copy 23 = .ok (.iinc 4 1, 3) := by decide +kernel
theorem dX10_copy_26 : decode cX10_copy 26 = .ok (.goto (-23), 3) := by decide +kernel
theorem dX10_copy_29 : decode cX10_copy 29 = .ok (.return_, 1) := by decide +kernel
theorem dX10_goes_0 : decode cX10_goes 0 = .ok (.iload_n 3, 1) := by decide +kernel
theorem dX10_goes_1 : decode cX10_goes 1 = .ok (.iload_n 2, 1) := by decide +kernel
theorem dX10_goes_2 : decode cX10_goes 2 = .ok (.bipush 12, 2) := by decide +kernel
theorem dX10_goes_4 : decode cX10_goes 4 = .ok (.irem, 1) := by decide +kernel
theorem dX10_goes_5 : decode cX10_goes 5 = .ok (.invokestatic 123, 3) := by decide +kernel
theorem dX10_goes_8 : decode cX10_goes 8 = .ok (.ifCond .eq 7, 3) := by decide +kernel
theorem dX10_goes_11 : decode cX10_goes 11 = .ok (.iconst 2, 1) := by decide +kernel
theorem dX10_goes_12 : decode cX10_goes 12 = .ok (.goto 4, 3) := by decide +kernel
theorem dX10_goes_15 : decode cX10_goes 15 = .ok (.iconst 1, 1) := by decide +kernel
theorem dX10_goes_16 : decode cX10_goes 16 = .ok (.istore 4, 2) := by decide +kernel
theorem dX10_goes_18 : decode cX10_goes 18 = .ok (.iload_n 2, 1) := by decide +kernel
theorem dX10_goes_19 : decode cX10_goes 19 = .ok (.iconst 5, 1) := by decide +kernel
theorem dX10_goes_20 : decode cX10_goes 20 = .ok (.irem, 1) := by decide +kernel
theorem dX10_goes_21 : decode cX10_goes 21 = .ok (.iconst 4, 1) := by decide +kernel
theorem dX10_goes_22 : decode cX10_goes 22 = .ok (.if_icmp .ne 7, 3) := by decide +kernel
theorem dX10_goes_25 : decode cX10_goes 25 = .ok (.iconst 2, 1) := by decide +kernel
theorem dX10_goes_26 : decode cX10_goes 26 = .ok (.goto 4, 3) := by decide +kernel
theorem dX10_goes_29 : decode cX10_goes 29 = .ok (.iconst 0, 1) := by decide +kernel
theorem dX10_goes_30 : decode cX10_goes 30 = .ok (.istore 5, 2) := by decide +kernel
theorem dX10_goes_32 : decode cX10_goes 32 = .ok (.iload_n 2, 1) := by decide +kernel
theorem dX10_goes_33 : decode cX10_goes 33 = .ok (.iconst 2, 1) := by decide +kernel
theorem dX10_goes_34 : decode cX10_goes 34 = .ok (.irem, 1) := by decide +kernel
theorem dX10_goes_35 : decode cX10_goes 35 = .ok (.ifCond .ne 8, 3) := by decide +kernel
theorem dX10_goes_38 : decode cX10_goes 38 = .ok (.iload 4, 2) := by decide +kernel
theorem dX10_goes_40 : decode cX10_goes 40 = .ok (.goto 4, 3) := by decide +kernel
theorem dX10_goes_43 : decode cX10_goes 43 = .ok (.iconst 0, 1) := by decide +kernel
theorem dX10_goes_44 : decode cX10_goes 44 = .ok (.istore 6, 2) := by decide +kernel
theorem dX10_goes_46 : decode cX10_goes 46 = .ok (.iload_n 1, 1) := by decide +kernel
theorem dX10_goes_47 : decode cX10_goes 47 = .ok (.tableswitch 107 1 5 #[33, 36, 42, 68, 87], 33) := by decide +kernel
theorem dX10_goes_80 : decode cX10_goes 80 = .ok (.iload 6, 2) := by decide +kernel
theorem dX10_goes_82 : decode cX10_goes 82 = .ok (.ireturn, 1) := by decide +kernel
theorem dX10_goes_83 : decode cX10_goes 83 = .ok (.iload 4, 2) := by decide +kernel
theorem dX10_goes_85 : decode cX10_goes 85 = .ok (.iload 5, 2) := by decide +kernel
theorem dX10_goes_87 : decode cX10_goes 87 = .ok (.iadd, 1) := by decide +kernel
theorem dX10_goes_88 : decode cX10_goes 88 = .ok (.ireturn, 1) := by decide +kernel
theorem dX10_goes_89 : decode cX10_goes 89 = .ok (.aload_n 0, 1) := by decide +kernel
theorem dX10_goes_90 : decode cX10_goes 90 = .ok (.getfield 7, 3) := by decide +kernel
theorem dX10_goes_93 : decode cX10_goes 93 = .ok (.iconst 3, 1) := by decide +kernel
theorem dX10_goes_94 : decode cX10_goes 94 = .ok (.iaload, 1) := by decide +kernel
theorem dX10_goes_95 : decode cX10_goes 95 = .ok (.iload_n 2, 1) := by decide +kernel
theorem dX10_goes_96 : decode cX10_goes 96 = .ok (.bipush 12, 2) := by decide +kernel
theorem dX10_goes_98 : decode cX10_goes 98 = .ok (.irem, 1) := by decide +kernel
theorem dX10_goes_99 : decode cX10_goes 99 = .ok (.invokestatic 123, 3) := by decide +kernel
theorem dX10_goes_102 : decode cX10_goes 102 = .ok (.ifCond .eq 10, 3) := by decide +kernel
theorem dX10_goes_105 : decode cX10_goes 105 = .ok (.iconst 2, 1) := by decide +kernel
theorem dX10_goes_106 : decode cX10_goes 106 = .ok (.iload 4, 2) := by decide +kernel
theorem dX10_goes_108 : decode cX10_goes 108 = .ok (.imul, 1) := by decide +kernel
theorem dX10_goes_109 : decode cX10_goes 109 = .ok (.goto 5, 3) := by decide +kernel
theorem dX10_goes_112 : decode cX10_goes 112 = .ok (.iload 4, 2) := by decide +kernel
theorem dX10_goes_114 : decode cX10_goes 114 = .ok (.ireturn, 1) := by decide +kernel
theorem dX10_goes_115 : decode cX10_goes 115 = .ok (.iload 4, 2) := by decide +kernel
theorem dX10_goes_117 : decode cX10_goes 117 = .ok (.iload 5, 2) := by decide +kernel
theorem dX10_goes_119 : decode cX10_goes 119 = .ok (.iadd, 1) := by decide +kernel
theorem dX10_goes_120 : decode cX10_goes 120 = .ok (.iload_n 2, 1) := by decide +kernel
theorem dX10_goes_121 : decode cX10_goes 121 = .ok (.iconst 3, 1) := by decide +kernel
theorem dX10_goes_122 : decode cX10_goes 122 = .ok (.irem, 1) := by decide +kernel
theorem dX10_goes_123 : decode cX10_goes 123 = .ok (.iconst 2, 1) := by decide +kernel
theorem dX10_goes_124 : decode cX10_goes 124 = .ok (.if_icmp .ne 7, 3) := by decide +kernel
theorem dX10_goes_127 : decode cX10_goes 127 = .ok (.iconst 1, 1) := by decide +kernel
theorem dX10_goes_128 : decode cX10_goes 128 = .ok (.goto 4, 3) := by decide +kernel
theorem dX10_goes_131 : decode cX10_goes 131 = .ok (.iconst 0, 1) := by decide +kernel
theorem dX10_goes_132 : decode cX10_goes 132 = .ok (.iadd, 1) := by decide +kernel
theorem dX10_goes_133 : decode cX10_goes 133 = .ok (.ireturn, 1) := by decide +kernel
theorem dX10_goes_134 : decode cX10_goes 134 = .ok (.iload 5, 2) := by decide +kernel
theorem dX10_goes_136 : decode cX10_goes 136 = .ok (.ifCond .gt 8, 3) := by decide +kernel
theorem dX10_goes_139 : decode cX10_goes 139 = .ok (.iload 6, 2) := by decide +kernel
theorem dX10_goes_141 : decode cX10_goes 141 = .ok (.ifCond .ne 8, 3) := by decide +kernel
theorem dX10_goes_144 : decode cX10_goes 144 = .ok (.iload 6, 2) := by decide +kernel
theorem dX10_goes_146 : decode cX10_goes 146 = .ok (.goto 7, 3) := by decide +kernel
theorem dX10_goes_149 : decode cX10_goes 149 = .ok (.iload 6, 2) := by decide +kernel
theorem dX10_goes_151 : decode cX10_goes 151 = .ok (.iconst 1, 1) := by decide +kernel
theorem dX10_goes_152 : decode cX10_goes 152 = .ok (.isub, 1) := by decide +kernel
theorem dX10_goes_153 : decode cX10_goes 153 = .ok (.ireturn, 1) := by decide +kernel
theorem dX10_goes_154 : decode cX10_goes 154 = .ok (.iload 4, 2) := by decide +kernel
theorem dX10_goes_156 : decode cX10_goes 156 = .ok (.ireturn, 1) := by decide +kernel
theorem dX10_leftOf_0 : decode cX10_leftOf 0 = .ok (.iload_n 2, 1) := by decide +kernel
theorem dX10_leftOf_1 : decode cX10_leftOf 1 = .ok (.istore 5, 2) := by decide +kernel
theorem dX10_leftOf_3 : decode cX10_leftOf 3 = .ok (.iconst 0, 1) := by decide +kernel
theorem dX10_leftOf_4 : decode cX10_leftOf 4 = .ok (.istore 6, 2) := by decide +kernel
theorem dX10_leftOf_6 : decode cX10_leftOf 6 = .ok (.iload 6, 2) := by decide +kernel
theorem dX10_leftOf_8 : decode cX10_leftOf 8 = .ok (.iload_n 3, 1) := by decide +kernel
theorem dX10_leftOf_9 : decode cX10_leftOf 9 = .ok (.if_icmp .ge 45, 3) := by decide +kernel
theorem dX10_leftOf_12 : decode cX10_leftOf 12 = .ok (.aload_n 0, 1) := by decide +kernel
theorem dX10_leftOf_13 : decode cX10_leftOf 13 = .ok (.iload_n 1, 1) := by decide +kernel
theorem dX10_leftOf_14 : decode cX10_leftOf 14 = .ok (.aload_n 0, 1) := by decide +kernel
theorem dX10_leftOf_15 : decode cX10_leftOf 15 = .ok (.getfield 7, 3) := by decide +kernel
theorem dX10_leftOf_18 : decode cX10_leftOf 18 = .ok (.iconst 2, 1) := by decide +kernel
theorem dX10_leftOf_19 : decode cX10_leftOf 19 = .ok (.iaload, 1) := by decide +kernel
theorem dX10_leftOf_20 : decode cX10_leftOf 20 = .ok (.iload 6, 2) := by decide +kernel
theorem dX10_leftOf_22 : decode cX10_leftOf 22 = .ok (.iadd, 1) := by decide +kernel
theorem dX10_leftOf_23 : decode cX10_leftOf 23 = .ok (.iload 4, 2) := by decide +kernel
theorem dX10_leftOf_25 : decode cX10_leftOf 25 = .ok (.invokevirtual 126, 3) := by decide +kernel
theorem dX10_leftOf_28 : decode cX10_leftOf 28 = .ok (.istore 7, 2) := by decide +kernel
theorem dX10_leftOf_30 : decode cX10_leftOf 30 = .ok (.iload 5, 2) := by decide +kernel
theorem dX10_leftOf_32 : decode cX10_leftOf 32 = .ok (.iload 7, 2) := by decide +kernel
theorem dX10_leftOf_34 : decode cX10_leftOf 34 = .ok (.if_icmp .le 11, 3) := by decide +kernel
theorem dX10_leftOf_37 : decode cX10_leftOf 37 = .ok (.iload 5, 2) := by decide +kernel
theorem dX10_leftOf_39 : decode cX10_leftOf 39 = .ok (.iload 7, 2) := by decide +kernel
theorem dX10_leftOf_41 : decode cX10_leftOf 41 = .ok (.isub, 1) := by decide +kernel
theorem dX10_leftOf_42 : decode cX10_leftOf 42 = .ok (.goto 4, 3) := by decide +kernel
theorem dX10_leftOf_45 : decode cX10_leftOf 45 = .ok (.iconst 0, 1) := by decide +kernel
theorem dX10_leftOf_46 : decode cX10_leftOf 46 = .ok (.istore 5, 2) := by decide +kernel
theorem dX10_leftOf_48 : decode cX10_leftOf 48 = .ok (.iinc 6 1, 3) := by decide +kernel
theorem dX10_leftOf_51 : decode cX10_leftOf 51 = .ok (.goto (-45), 3) := by decide +kernel
theorem dX10_leftOf_54 : decode cX10_leftOf 54 = .ok (.iload 5, 2) := by decide +kernel
theorem dX10_leftOf_56 : decode cX10_leftOf 56 = .ok (.ireturn, 1) := by decide +kernel
theorem dX10_leftBy_0 : decode cX10_leftBy 0 = .ok (.aload_n 0, 1) := by decide +kernel
theorem dX10_leftBy_1 : decode cX10_leftBy 1 = .ok (.aload_n 0, 1) := by decide +kernel
theorem dX10_leftBy_2 : decode cX10_leftBy 2 = .ok (.getfield 7, 3) := by decide +kernel
theorem dX10_leftBy_5 : decode cX10_leftBy 5 = .ok (.bipush 7, 2) := by decide +kernel
theorem dX10_leftBy_7 : decode cX10_leftBy 7 = .ok (.iload_n 1, 1) := by decide +kernel
theorem dX10_leftBy_8 : decode cX10_leftBy 8 = .ok (.iadd, 1) := by decide +kernel
theorem dX10_leftBy_9 : decode cX10_leftBy 9 = .ok (.iaload, 1) := by decide +kernel
theorem dX10_leftBy_10 : decode cX10_leftBy 10 = .ok (.aload_n 0, 1) := by decide +kernel
theorem dX10_leftBy_11 : decode cX10_leftBy 11 = .ok (.getfield 7, 3) := by decide +kernel
theorem dX10_leftBy_14 : decode cX10_leftBy 14 = .ok (.bipush 13, 2) := by decide +kernel
theorem dX10_leftBy_16 : decode cX10_leftBy 16 = .ok (.iload_n 1, 1) := by decide +kernel
theorem dX10_leftBy_17 : decode cX10_leftBy 17 = .ok (.iadd, 1) := by decide +kernel
theorem dX10_leftBy_18 : decode cX10_leftBy 18 = .ok (.iaload, 1) := by decide +kernel
theorem dX10_leftBy_19 : decode cX10_leftBy 19 = .ok (.iload_n 2, 1) := by decide +kernel
theorem dX10_leftBy_20 : decode cX10_leftBy 20 = .ok (.aload_n 0, 1) := by decide +kernel
theorem dX10_leftBy_21 : decode cX10_leftBy 21 = .ok (.getfield 7, 3) := by decide +kernel
theorem dX10_leftBy_24 : decode cX10_leftBy 24 = .ok (.iconst 4, 1) := by decide +kernel
theorem dX10_leftBy_25 : decode cX10_leftBy 25 = .ok (.iaload, 1) := by decide +kernel
theorem dX10_leftBy_26 : decode cX10_leftBy 26 = .ok (.invokevirtual 130, 3) := by decide +kernel
theorem dX10_leftBy_29 : decode cX10_leftBy 29 = .ok (.ireturn, 1) := by decide +kernel
theorem dX10_note_0 : decode cX10_note 0 = .ok (.aload_n 0, 1) := by decide +kernel
theorem dX10_note_1 : decode cX10_note 1 = .ok (.getfield 7, 3) := by decide +kernel
theorem dX10_note_4 : decode cX10_note 4 = .ok (.bipush 6, 2) := by decide +kernel
theorem dX10_note_6 : decode cX10_note 6 = .ok (.iaload, 1) := by decide +kernel
theorem dX10_note_7 : decode cX10_note 7 = .ok (.bipush 8, 2) := by decide +kernel
theorem dX10_note_9 : decode cX10_note 9 = .ok (.if_icmp .ne 45, 3) := by decide +kernel
theorem dX10_note_12 : decode cX10_note 12 = .ok (.bipush 63, 2) := by decide +kernel
theorem dX10_note_14 : decode cX10_note 14 = .ok (.istore_n 1, 1) := by decide +kernel
theorem dX10_note_15 : decode cX10_note 15 = .ok (.iload_n 1, 1) := by decide +kernel
theorem dX10_note_16 : decode cX10_note 16 = .ok (.sipush 154, 3) := by decide +kernel
theorem dX10_note_19 : decode cX10_note 19 = .ok (.if_icmp .ge 24, 3) := by decide +kernel
theorem dX10_note_22 : decode cX10_note 22 = .ok (.aload_n 0, 1) := by decide +kernel
theorem dX10_note_23 : decode cX10_note 23 = .ok (.getfield 7, 3) := by decide +kernel
theorem dX10_note_26 : decode cX10_note 26 = .ok (.iload_n 1, 1) := by decide +kernel
theorem dX10_note_27 : decode cX10_note 27 = .ok (.aload_n 0, 1) := by decide +kernel
theorem dX10_note_28 : decode cX10_note 28 = .ok (.getfield 7, 3) := by decide +kernel
theorem dX10_note_31 : decode cX10_note 31 = .ok (.iload_n 1, 1) := by decide +kernel
theorem dX10_note_32 : decode cX10_note 32 = .ok (.bipush 13, 2) := by decide +kernel
theorem dX10_note_34 : decode cX10_note 34 = .ok (.iadd, 1) := by decide +kernel
theorem dX10_note_35 : decode cX10_note 35 = .ok (.iaload, 1) := by decide +kernel
theorem dX10_note_36 : decode cX10_note 36 = .ok (.iastore, 1) := by decide +kernel
theorem dX10_note_37 : decode cX10_note 37 = .ok (.iinc 1 1, 3) := by decide +kernel
theorem dX10_note_40 : decode cX10_note 40 = .ok (.goto (-25), 3) := by decide +kernel
theorem dX10_note_43 : decode cX10_note 43 = .ok (.aload_n 0, 1) := by decide +kernel
theorem dX10_note_44 : decode cX10_note 44 = .ok (.getfield 7, 3) := by decide +kernel
theorem dX10_note_47 : decode cX10_note 47 = .ok (.bipush 6, 2) := by decide +kernel
theorem dX10_note_49 : decode cX10_note 49 = .ok (.dup2, 1) := by decide +kernel
theorem dX10_note_50 : decode cX10_note 50 = .ok (.iaload, 1) := by decide +kernel
theorem dX10_note_51 : decode cX10_note 51 = .ok (.iconst 1, 1) := by decide +kernel
theorem dX10_note_52 : decode cX10_note 52 = .ok (.isub, 1) := by decide +kernel
theorem dX10_note_53 : decode cX10_note 53 = .ok (.iastore, 1) := by decide +kernel
theorem dX10_note_54 : decode cX10_note 54 = .ok (.bipush 63, 2) := by decide +kernel
theorem dX10_note_56 : decode cX10_note 56 = .ok (.bipush 13, 2) := by decide +kernel
theorem dX10_note_58 : decode cX10_note 58 = .ok (.aload_n 0, 1) := by decide +kernel
theorem dX10_note_59 : decode cX10_note 59 = .ok (.getfield 7, 3) := by decide +kernel
theorem dX10_note_62 : decode cX10_note 62 = .ok (.bipush 6, 2) := by decide +kernel
theorem dX10_note_64 : decode cX10_note 64 = .ok (.iaload, 1) := by decide +kernel
theorem dX10_note_65 : decode cX10_note 65 = .ok (.imul, 1) := by decide +kernel
theorem dX10_note_66 : decode cX10_note 66 = .ok (.iadd, 1) := by decide +kernel
theorem dX10_note_67 : decode cX10_note 67 = .ok (.istore_n 1, 1) := by decide +kernel
theorem dX10_note_68 : decode cX10_note 68 = .ok (.aload_n 0, 1) := by decide +kernel
theorem dX10_note_69 : decode cX10_note 69 = .ok (.getfield 7, 3) := by decide +kernel
theorem dX10_note_72 : decode cX10_note 72 = .ok (.iload_n 1, 1) := by decide +kernel
theorem dX10_note_73 : decode cX10_note 73 = .ok (.aload_n 0, 1) := by decide +kernel
theorem dX10_note_74 : decode cX10_note 74 = .ok (.getfield 7, 3) := by decide +kernel
theorem dX10_note_77 : decode cX10_note 77 = .ok (.iconst 2, 1) := by decide +kernel
theorem dX10_note_78 : decode cX10_note 78 = .ok (.iaload, 1) := by decide +kernel
theorem dX10_note_79 : decode cX10_note 79 = .ok (.iastore, 1) := by decide +kernel
theorem dX10_note_80 : decode cX10_note 80 = .ok (.iconst 0, 1) := by decide +kernel
theorem dX10_note_81 : decode cX10_note 81 = .ok (.istore_n 2, 1) := by decide +kernel
theorem dX10_note_82 : decode cX10_note 82 = .ok (.iload_n 2, 1) := by decide +kernel
theorem dX10_note_83 : decode cX10_note 83 = .ok (.bipush 6, 2) := by decide +kernel
theorem dX10_note_85 : decode cX10_note 85 = .ok (.if_icmp .ge 48, 3) := by decide +kernel
theorem dX10_note_88 : decode cX10_note 88 = .ok (.aload_n 0, 1) := by decide +kernel
theorem dX10_note_89 : decode cX10_note 89 = .ok (.getfield 7, 3) := by decide +kernel
theorem dX10_note_92 : decode cX10_note 92 = .ok (.iload_n 1, 1) := by decide +kernel
theorem dX10_note_93 : decode cX10_note 93 = .ok (.iconst 1, 1) := by decide +kernel
theorem dX10_note_94 : decode cX10_note 94 = .ok (.iadd, 1) := by decide +kernel
theorem dX10_note_95 : decode cX10_note 95 = .ok (.iload_n 2, 1) := by decide +kernel
theorem dX10_note_96 : decode cX10_note 96 = .ok (.iadd, 1) := by decide +kernel
theorem dX10_note_97 : decode cX10_note 97 = .ok (.aload_n 0, 1) := by decide +kernel
theorem dX10_note_98 : decode cX10_note 98 = .ok (.getfield 7, 3) := by decide +kernel
theorem dX10_note_101 : decode cX10_note 101 = .ok (.bipush 13, 2) := by decide +kernel
theorem dX10_note_103 : decode cX10_note 103 = .ok (.iload_n 2, 1) := by decide +kernel
theorem dX10_note_104 : decode cX10_note 104 = .ok (.iadd, 1) := by decide +kernel
theorem dX10_note_105 : decode cX10_note 105 = .ok (.iaload, 1) := by decide +kernel
theorem dX10_note_106 : decode cX10_note 106 = .ok (.iastore, 1) := by decide +kernel
theorem dX10_note_107 : decode cX10_note 107 = .ok (.aload_n 0, 1) := by decide +kernel
theorem dX10_note_108 : decode cX10_note 108 = .ok (.getfield 7, 3) := by decide +kernel
theorem dX10_note_111 : decode cX10_note 111 = .ok (.iload_n 1, 1) := by decide +kernel
theorem dX10_note_112 : decode cX10_note 112 = .ok (.bipush 7, 2) := by decide +kernel
theorem dX10_note_114 : decode cX10_note 114 = .ok (.iadd, 1) := by decide +kernel
theorem dX10_note_115 : decode cX10_note 115 = .ok (.iload_n 2, 1) := by decide +kernel
theorem dX10_note_116 : decode cX10_note 116 = .ok (.iadd, 1) := by decide +kernel
theorem dX10_note_117 : decode cX10_note 117 = .ok (.aload_n 0, 1) := by decide +kernel
theorem dX10_note_118 : decode cX10_note 118 = .ok (.getfield 7, 3) := by decide +kernel
theorem dX10_note_121 : decode cX10_note 121 = .ok (.bipush 25, 2) := by decide +kernel
theorem dX10_note_123 : decode cX10_note 123 = .ok (.iload_n 2, 1) := by decide +kernel
theorem dX10_note_124 : decode cX10_note 124 = .ok (.iadd, 1) := by decide +kernel
theorem dX10_note_125 : decode cX10_note 125 = .ok (.iaload, 1) := by decide +kernel
theorem dX10_note_126 : decode cX10_note 126 = .ok (.iastore, 1) := by decide +kernel
theorem dX10_note_127 : decode cX10_note 127 = .ok (.iinc 2 1, 3) := by decide +kernel
theorem dX10_note_130 : decode cX10_note 130 = .ok (.goto (-48), 3) := by decide +kernel
theorem dX10_note_133 : decode cX10_note 133 = .ok (.aload_n 0, 1) := by decide +kernel
theorem dX10_note_134 : decode cX10_note 134 = .ok (.getfield 7, 3) := by decide +kernel
theorem dX10_note_137 : decode cX10_note 137 = .ok (.bipush 6, 2) := by decide +kernel
theorem dX10_note_139 : decode cX10_note 139 = .ok (.dup2, 1) := by decide +kernel
theorem dX10_note_140 : decode cX10_note 140 = .ok (.iaload, 1) := by decide +kernel
theorem dX10_note_141 : decode cX10_note 141 = .ok (.iconst 1, 1) := by decide +kernel
theorem dX10_note_142 : decode cX10_note 142 = .ok (.iadd, 1) := by decide +kernel
theorem dX10_note_143 : decode cX10_note 143 = .ok (.iastore, 1) := by decide +kernel
theorem dX10_note_144 : decode cX10_note 144 = .ok (.return_, 1) := by decide +kernel
theorem dX10_year_0 : decode cX10_year 0 = .ok (.iload_n 1, 1) := by decide +kernel
theorem dX10_year_1 : decode cX10_year 1 = .ok (.iconst 1, 1) := by decide +kernel
theorem dX10_year_2 : decode cX10_year 2 = .ok (.bipush 60, 2) := by decide +kernel
theorem dX10_year_4 : decode cX10_year 4 = .ok (.invokestatic 50, 3) := by decide +kernel
theorem dX10_year_7 : decode cX10_year 7 = .ok (.ifCond .ne 10, 3) := by decide +kernel
theorem dX10_year_10 : decode cX10_year 10 = .ok (.aload_n 0, 1) := by decide +kernel
theorem dX10_year_11 : decode cX10_year 11 = .ok (.bipush (-2), 2) := by decide +kernel
theorem dX10_year_13 : decode cX10_year 13 = .ok (.invokevirtual 54, 3) := by decide +kernel
theorem dX10_year_16 : decode cX10_year 16 = .ok (.ireturn, 1) := by decide +kernel
theorem dX10_year_17 : decode cX10_year 17 = .ok (.iconst 0, 1) := by decide +kernel
theorem dX10_year_18 : decode cX10_year 18 = .ok (.istore_n 2, 1) := by decide +kernel
theorem dX10_year_19 : decode cX10_year 19 = .ok (.iconst 0, 1) := by decide +kernel
theorem dX10_year_20 : decode cX10_year 20 = .ok (.istore_n 3, 1) := by decide +kernel
theorem dX10_year_21 : decode cX10_year 21 = .ok (.iload_n 3, 1) := by decide +kernel
theorem dX10_year_22 : decode cX10_year 22 = .ok (.iload_n 1, 1) := by decide +kernel
theorem dX10_year_23 : decode cX10_year 23 = .ok (.if_icmp .ge 113, 3) := by decide +kernel
theorem dX10_year_26 : decode cX10_year 26 = .ok (.aload_n 0, 1) := by decide +kernel
theorem dX10_year_27 : decode cX10_year 27 = .ok (.invokevirtual 134, 3) := by decide +kernel
theorem dX10_year_30 : decode cX10_year 30 = .ok (.iconst 0, 1) := by decide +kernel
theorem dX10_year_31 : decode cX10_year 31 = .ok (.istore 4, 2) := by decide +kernel
theorem dX10_year_33 : decode cX10_year 33 = .ok (.iload 4, 2) := by decide +kernel
theorem dX10_year_35 : decode cX10_year 35 = .ok (.aload_n 0, 1) := by decide +kernel
theorem dX10_year_36 : decode cX10_year 36 = .ok (.getfield 7, 3) := by decide +kernel
theorem dX10_year_39 : decode cX10_year 39 = .ok (.iconst 0, 1) := by decide +kernel
theorem dX10_year_40 : decode cX10_year 40 = .ok (.iaload, 1) := by decide +kernel
theorem dX10_year_41 : decode cX10_year 41 = .ok (.if_icmp .ge 79, 3) := by decide +kernel
theorem dX10_year_44 : decode cX10_year 44 = .ok (.aload_n 0, 1) := by decide +kernel
theorem dX10_year_45 : decode cX10_year 45 = .ok (.getfield 7, 3) := by decide +kernel
theorem dX10_year_48 : decode cX10_year 48 = .ok (.bipush 13, 2) := by decide +kernel
theorem dX10_year_50 : decode cX10_year 50 = .ok (.iload 4, 2) := by decide +kernel
theorem dX10_year_52 : decode cX10_year 52 = .ok (.iadd, 1) := by decide +kernel
theorem dX10_year_53 : decode cX10_year 53 = .ok (.iaload, 1) := by decide +kernel
theorem dX10_year_54 : decode cX10_year 54 = .ok (.istore 5, 2) := by decide +kernel
theorem dX10_year_56 : decode cX10_year 56 = .ok (.aload_n 0, 1) := by decide +kernel
theorem dX10_year_57 : decode cX10_year 57 = .ok (.getfield 7, 3) := by decide +kernel
theorem dX10_year_60 : decode cX10_year 60 = .ok (.bipush 13, 2) := by decide +kernel
theorem dX10_year_62 : decode cX10_year 62 = .ok (.iload 4, 2) := by decide +kernel
theorem dX10_year_64 : decode cX10_year 64 = .ok (.iadd, 1) := by decide +kernel
theorem dX10_year_65 : decode cX10_year 65 = .ok (.aload_n 0, 1) := by decide +kernel
theorem dX10_year_66 : decode cX10_year 66 = .ok (.iload 4, 2) := by decide +kernel
theorem dX10_year_68 : decode cX10_year 68 = .ok (.iconst 1, 1) := by decide +kernel
theorem dX10_year_69 : decode cX10_year 69 = .ok (.invokevirtual 137, 3) := by decide +kernel
theorem dX10_year_72 : decode cX10_year 72 = .ok (.iastore, 1) := by decide +kernel
theorem dX10_year_73 : decode cX10_year 73 = .ok (.iload 5, 2) := by decide +kernel
theorem dX10_year_75 : decode cX10_year 75 = .ok (.ifCond .le 39, 3) := by decide +kernel
theorem dX10_year_78 : decode cX10_year 78 = .ok (.aload_n 0, 1) := by decide +kernel
theorem dX10_year_79 : decode cX10_year 79 = .ok (.getfield 7, 3) := by decide +kernel
theorem dX10_year_82 : decode cX10_year 82 = .ok (.bipush 13, 2) := by decide +kernel
theorem dX10_year_84 : decode cX10_year 84 = .ok (.iload 4, 2) := by decide +kernel
theorem dX10_year_86 : decode cX10_year 86 = .ok (.iadd, 1) := by decide +kernel
theorem dX10_year_87 : decode cX10_year 87 = .ok (.iaload, 1) := by decide +kernel
theorem dX10_year_88 : decode cX10_year 88 = .ok (.ifCond .ne 26, 3) := by decide +kernel
theorem dX10_year_91 : decode cX10_year 91 = .ok (.aload_n 0, 1) := by decide +kernel
theorem dX10_year_92 : decode cX10_year 92 = .ok (.getfield 7, 3) := by decide +kernel
theorem dX10_year_95 : decode cX10_year 95 = .ok (.bipush 25, 2) := by decide +kernel
theorem dX10_year_97 : decode cX10_year 97 = .ok (.iload 4, 2) := by decide +kernel
theorem dX10_year_99 : decode cX10_year 99 = .ok (.iadd, 1) := by decide +kernel
theorem dX10_year_100 : decode cX10_year 100 = .ok (.aload_n 0, 1) := by decide +kernel
theorem dX10_year_101 : decode cX10_year 101 = .ok (.getfield 7, 3) := by decide +kernel
theorem dX10_year_104 : decode cX10_year 104 = .ok (.iconst 2, 1) := by decide +kernel
theorem dX10_year_105 : decode cX10_year 105 = .ok (.iaload, 1) := by decide +kernel
theorem dX10_year_106 : decode cX10_year 106 = .ok (.iastore, 1) := by decide +kernel
theorem dX10_year_107 : decode cX10_year 107 = .ok (.iload_n 2, 1) := by decide +kernel
theorem dX10_year_108 : decode cX10_year 108 = .ok (.iconst 1, 1) := by decide +kernel
theorem dX10_year_109 : decode cX10_year 109 = .ok (.iload 4, 2) := by decide +kernel
theorem dX10_year_111 : decode cX10_year 111 = .ok (.ishl, 1) := by decide +kernel
theorem dX10_year_112 : decode cX10_year 112 = .ok (.ior, 1) := by decide +kernel
theorem dX10_year_113 : decode cX10_year 113 = .ok (.istore_n 2, 1) := by decide +kernel
theorem dX10_year_114 : decode cX10_year 114 = .ok (.iinc 4 1, 3) := by decide +kernel
theorem dX10_year_117 : decode cX10_year 117 = .ok (.goto (-84), 3) := by decide +kernel
theorem dX10_year_120 : decode cX10_year 120 = .ok (.aload_n 0, 1) := by decide +kernel
theorem dX10_year_121 : decode cX10_year 121 = .ok (.getfield 7, 3) := by decide +kernel
theorem dX10_year_124 : decode cX10_year 124 = .ok (.iconst 2, 1) := by decide +kernel
theorem dX10_year_125 : decode cX10_year 125 = .ok (.dup2, 1) := by decide +kernel
theorem dX10_year_126 : decode cX10_year 126 = .ok (.iaload, 1) := by decide +kernel
theorem dX10_year_127 : decode cX10_year 127 = .ok (.iconst 1, 1) := by decide +kernel
theorem dX10_year_128 : decode cX10_year 128 = .ok (.iadd, 1) := by decide +kernel
theorem dX10_year_129 : decode cX10_year 129 = .ok (.iastore, 1) := by decide +kernel
theorem dX10_year_130 : decode cX10_year 130 = .ok (.iinc 3 1, 3) := by decide +kernel
theorem dX10_year_133 : decode cX10_year 133 = .ok (.goto (-112), 3) := by decide +kernel
theorem dX10_year_136 : decode cX10_year 136 = .ok (.iload_n 2, 1) := by decide +kernel
theorem dX10_year_137 : decode cX10_year 137 = .ok (.ireturn, 1) := by decide +kernel
theorem dX10_give_0 : decode cX10_give 0 = .ok (.aload_n 0, 1) := by decide +kernel
theorem dX10_give_1 : decode cX10_give 1 = .ok (.iload_n 1, 1) := by decide +kernel
theorem dX10_give_2 : decode cX10_give 2 = .ok (.invokevirtual 141, 3) := by decide +kernel
theorem dX10_give_5 : decode cX10_give 5 = .ok (.ifCond .eq 14, 3) := by decide +kernel
theorem dX10_give_8 : decode cX10_give 8 = .ok (.iload_n 2, 1) := by decide +kernel
theorem dX10_give_9 : decode cX10_give 9 = .ok (.bipush (-60), 2) := by decide +kernel
theorem dX10_give_11 : decode cX10_give 11 = .ok (.bipush 60, 2) := by decide +kernel
theorem dX10_give_13 : decode cX10_give 13 = .ok (.invokestatic 50, 3) := by decide +kernel
theorem dX10_give_16 : decode cX10_give 16 = .ok (.ifCond .ne 10, 3) := by decide +kernel
theorem dX10_give_19 : decode cX10_give 19 = .ok (.aload_n 0, 1) := by decide +kernel
theorem dX10_give_20 : decode cX10_give 20 = .ok (.bipush (-10), 2) := by decide +kernel
theorem dX10_give_22 : decode cX10_give 22 = .ok (.invokevirtual 54, 3) := by decide +kernel
theorem dX10_give_25 : decode cX10_give 25 = .ok (.ireturn, 1) := by decide +kernel
theorem dX10_give_26 : decode cX10_give 26 = .ok (.aload_n 0, 1) := by decide +kernel
theorem dX10_give_27 : decode cX10_give 27 = .ok (.getfield 7, 3) := by decide +kernel
theorem dX10_give_30 : decode cX10_give 30 = .ok (.bipush 13, 2) := by decide +kernel
theorem dX10_give_32 : decode cX10_give 32 = .ok (.iload_n 1, 1) := by decide +kernel
theorem dX10_give_33 : decode cX10_give 33 = .ok (.iadd, 1) := by decide +kernel
theorem dX10_give_34 : decode cX10_give 34 = .ok (.iaload, 1) := by decide +kernel
theorem dX10_give_35 : decode cX10_give 35 = .ok (.iload_n 2, 1) := by decide +kernel
theorem dX10_give_36 : decode cX10_give 36 = .ok (.iadd, 1) := by decide +kernel
theorem dX10_give_37 : decode cX10_give 37 = .ok (.istore_n 3, 1) := by decide +kernel
theorem dX10_give_38 : decode cX10_give 38 = .ok (.aload_n 0, 1) := by decide +kernel
theorem dX10_give_39 : decode cX10_give 39 = .ok (.getfield 7, 3) := by decide +kernel
theorem dX10_give_42 : decode cX10_give 42 = .ok (.bipush 13, 2) := by decide +kernel
theorem dX10_give_44 : decode cX10_give 44 = .ok (.iload_n 1, 1) := by decide +kernel
theorem dX10_give_45 : decode cX10_give 45 = .ok (.iadd, 1) := by decide +kernel
theorem dX10_give_46 : decode cX10_give 46 = .ok (.iaload, 1) := by decide +kernel
theorem dX10_give_47 : decode cX10_give 47 = .ok (.ifCond .eq 14, 3) := by decide +kernel
theorem dX10_give_50 : decode cX10_give 50 = .ok (.iload_n 3, 1) := by decide +kernel
theorem dX10_give_51 : decode cX10_give 51 = .ok (.iconst 1, 1) := by decide +kernel
theorem dX10_give_52 : decode cX10_give 52 = .ok (.if_icmp .lt 9, 3) := by decide +kernel
theorem dX10_give_55 : decode cX10_give 55 = .ok (.iload_n 3, 1) := by decide +kernel
theorem dX10_give_56 : decode cX10_give 56 = .ok (.bipush 60, 2) := by decide +kernel
theorem dX10_give_58 : decode cX10_give 58 = .ok (.if_icmp .le 10, 3) := by decide +kernel
theorem dX10_give_61 : decode cX10_give 61 = .ok (.aload_n 0, 1) := by decide +kernel
theorem dX10_give_62 : decode cX10_give 62 = .ok (.bipush (-3), 2) := by decide +kernel
theorem dX10_give_64 : decode cX10_give 64 = .ok (.invokevirtual 54, 3) := by decide +kernel
theorem dX10_give_67 : decode cX10_give 67 = .ok (.ireturn, 1) := by decide +kernel
theorem dX10_give_68 : decode cX10_give 68 = .ok (.aload_n 0, 1) := by decide +kernel
theorem dX10_give_69 : decode cX10_give 69 = .ok (.invokevirtual 134, 3) := by decide +kernel
theorem dX10_give_72 : decode cX10_give 72 = .ok (.aload_n 0, 1) := by decide +kernel
theorem dX10_give_73 : decode cX10_give 73 = .ok (.getfield 7, 3) := by decide +kernel
theorem dX10_give_76 : decode cX10_give 76 = .ok (.bipush 13, 2) := by decide +kernel
theorem dX10_give_78 : decode cX10_give 78 = .ok (.iload_n 1, 1) := by decide +kernel
theorem dX10_give_79 : decode cX10_give 79 = .ok (.iadd, 1) := by decide +kernel
theorem dX10_give_80 : decode cX10_give 80 = .ok (.iload_n 3, 1) := by decide +kernel
theorem dX10_give_81 : decode cX10_give 81 = .ok (.iastore, 1) := by decide +kernel
theorem dX10_give_82 : decode cX10_give 82 = .ok (.iload_n 3, 1) := by decide +kernel
theorem dX10_give_83 : decode cX10_give 83 = .ok (.ireturn, 1) := by decide +kernel
theorem dX10_undo_0 : decode cX10_undo 0 = .ok (.aload_n 0, 1) := by decide +kernel
theorem dX10_undo_1 : decode cX10_undo 1 = .ok (.getfield 7, 3) := by decide +kernel
theorem dX10_undo_4 : decode cX10_undo 4 = .ok (.bipush 6, 2) := by decide +kernel
theorem dX10_undo_6 : decode cX10_undo 6 = .ok (.iaload, 1) := by decide +kernel
theorem dX10_undo_7 : decode cX10_undo 7 = .ok (.ifCond .ne 10, 3) := by decide +kernel
theorem dX10_undo_10 : decode cX10_undo 10 = .ok (.aload_n 0, 1) := by decide +kernel
theorem dX10_undo_11 : decode cX10_undo 11 = .ok (.bipush (-3), 2) := by decide +kernel
theorem dX10_undo_13 : decode cX10_undo 13 = .ok (.invokevirtual 54, 3) := by decide +kernel
theorem dX10_undo_16 : decode cX10_undo 16 = .ok (.ireturn, 1) := by decide +kernel
theorem dX10_undo_17 : decode cX10_undo 17 = .ok (.aload_n 0, 1) := by decide +kernel
theorem dX10_undo_18 : decode cX10_undo 18 = .ok (.getfield 7, 3) := by decide +kernel
theorem dX10_undo_21 : decode cX10_undo 21 = .ok (.bipush 6, 2) := by decide +kernel
theorem dX10_undo_23 : decode cX10_undo 23 = .ok (.dup2, 1) := by decide +kernel
theorem dX10_undo_24 : decode cX10_undo 24 = .ok (.iaload, 1) := by decide +kernel
theorem dX10_undo_25 : decode cX10_undo 25 = .ok (.iconst 1, 1) := by decide +kernel
theorem dX10_undo_26 : decode cX10_undo 26 = .ok (.isub, 1) := by decide +kernel
theorem dX10_undo_27 : decode cX10_undo 27 = .ok (.iastore, 1) := by decide +kernel
theorem dX10_undo_28 : decode cX10_undo 28 = .ok (.bipush 63, 2) := by decide +kernel
theorem dX10_undo_30 : decode cX10_undo 30 = .ok (.bipush 13, 2) := by decide +kernel
theorem dX10_undo_32 : decode cX10_undo 32 = .ok (.aload_n 0, 1) := by decide +kernel
theorem dX10_undo_33 : decode cX10_undo 33 = .ok (.getfield 7, 3) := by decide +kernel
theorem dX10_undo_36 : decode cX10_undo 36 = .ok (.bipush 6, 2) := by decide +kernel
theorem dX10_undo_38 : decode cX10_undo 38 = .ok (.iaload, 1) := by decide +kernel
theorem dX10_undo_39 : decode cX10_undo 39 = .ok (.imul, 1) := by decide +kernel
theorem dX10_undo_40 : decode cX10_undo 40 = .ok (.iadd, 1) := by decide +kernel
theorem dX10_undo_41 : decode cX10_undo 41 = .ok (.istore_n 1, 1) := by decide +kernel
theorem dX10_undo_42 : decode cX10_undo 42 = .ok (.aload_n 0, 1) := by decide +kernel
theorem dX10_undo_43 : decode cX10_undo 43 = .ok (.getfield 7, 3) := by decide +kernel
theorem dX10_undo_46 : decode cX10_undo 46 = .ok (.iconst 2, 1) := by decide +kernel
theorem dX10_undo_47 : decode cX10_undo 47 = .ok (.aload_n 0, 1) := by decide +kernel
theorem dX10_undo_48 : decode cX10_undo 48 = .ok (.getfield 7, 3) := by decide +kernel
theorem dX10_undo_51 : decode cX10_undo 51 = .ok (.iload_n 1, 1) := by decide +kernel
theorem dX10_undo_52 : decode cX10_undo 52 = .ok (.iaload, 1) := by decide +kernel
theorem dX10_undo_53 : decode cX10_undo 53 = .ok (.iastore, 1) := by decide +kernel
theorem dX10_undo_54 : decode cX10_undo 54 = .ok (.iconst 0, 1) := by decide +kernel
theorem dX10_undo_55 : decode cX10_undo 55 = .ok (.istore_n 2, 1) := by decide +kernel
theorem dX10_undo_56 : decode cX10_undo 56 = .ok (.iload_n 2, 1) := by decide +kernel
theorem dX10_undo_57 : decode cX10_undo 57 = .ok (.bipush 6, 2) := by decide +kernel
theorem dX10_undo_59 : decode cX10_undo 59 = .ok (.if_icmp .ge 48, 3) := by decide +kernel
theorem dX10_undo_62 : decode cX10_undo 62 = .ok (.aload_n 0, 1) := by decide +kernel
theorem dX10_undo_63 : decode cX10_undo 63 = .ok (.getfield 7, 3) := by decide +kernel
theorem dX10_undo_66 : decode cX10_undo 66 = .ok (.bipush 13, 2) := by decide +kernel
theorem dX10_undo_68 : decode cX10_undo 68 = .ok (.iload_n 2, 1) := by decide +kernel
theorem dX10_undo_69 : decode cX10_undo 69 = .ok (.iadd, 1) := by decide +kernel
theorem dX10_undo_70 : decode cX10_undo 70 = .ok (.aload_n 0, 1) := by decide +kernel
theorem dX10_undo_71 : decode cX10_undo 71 = .ok (.getfield 7, 3) := by decide +kernel
theorem dX10_undo_74 : decode cX10_undo 74 = .ok (.iload_n 1, 1) := by decide +kernel
theorem dX10_undo_75 : decode cX10_undo 75 = .ok (.iconst 1, 1) := by decide +kernel
theorem dX10_undo_76 : decode cX10_undo 76 = .ok (.iadd, 1) := by decide +kernel
theorem dX10_undo_77 : decode cX10_undo 77 = .ok (.iload_n 2, 1) := by decide +kernel
theorem dX10_undo_78 : decode cX10_undo 78 = .ok (.iadd, 1) := by decide +kernel
theorem dX10_undo_79 : decode cX10_undo 79 = .ok (.iaload, 1) := by decide +kernel
theorem dX10_undo_80 : decode cX10_undo 80 = .ok (.iastore, 1) := by decide +kernel
theorem dX10_undo_81 : decode cX10_undo 81 = .ok (.aload_n 0, 1) := by decide +kernel
theorem dX10_undo_82 : decode cX10_undo 82 = .ok (.getfield 7, 3) := by decide +kernel
theorem dX10_undo_85 : decode cX10_undo 85 = .ok (.bipush 25, 2) := by decide +kernel
theorem dX10_undo_87 : decode cX10_undo 87 = .ok (.iload_n 2, 1) := by decide +kernel
theorem dX10_undo_88 : decode cX10_undo 88 = .ok (.iadd, 1) := by decide +kernel
theorem dX10_undo_89 : decode cX10_undo 89 = .ok (.aload_n 0, 1) := by decide +kernel
theorem dX10_undo_90 : decode cX10_undo 90 = .ok (.getfield 7, 3) := by decide +kernel
theorem dX10_undo_93 : decode cX10_undo 93 = .ok (.iload_n 1, 1) := by decide +kernel
theorem dX10_undo_94 : decode cX10_undo 94 = .ok (.bipush 7, 2) := by decide +kernel
theorem dX10_undo_96 : decode cX10_undo 96 = .ok (.iadd, 1) := by decide +kernel
theorem dX10_undo_97 : decode cX10_undo 97 = .ok (.iload_n 2, 1) := by decide +kernel
theorem dX10_undo_98 : decode cX10_undo 98 = .ok (.iadd, 1) := by decide +kernel
theorem dX10_undo_99 : decode cX10_undo 99 = .ok (.iaload, 1) := by decide +kernel
theorem dX10_undo_100 : decode cX10_undo 100 = .ok (.iastore, 1) := by decide +kernel
theorem dX10_undo_101 : decode cX10_undo 101 = .ok (.iinc 2 1, 3) := by decide +kernel
theorem dX10_undo_104 : decode cX10_undo 104 = .ok (.goto (-48), 3) := by decide +kernel
theorem dX10_undo_107 : decode cX10_undo 107 = .ok (.aload_n 0, 1) := by decide +kernel
theorem dX10_undo_108 : decode cX10_undo 108 = .ok (.getfield 7, 3) := by decide +kernel
theorem dX10_undo_111 : decode cX10_undo 111 = .ok (.iconst 2, 1) := by decide +kernel
theorem dX10_undo_112 : decode cX10_undo 112 = .ok (.iaload, 1) := by decide +kernel
theorem dX10_undo_113 : decode cX10_undo 113 = .ok (.ireturn, 1) := by decide +kernel
theorem dX10_of_0 : decode cX10_of 0 = .ok (.aload_n 0, 1) := by decide +kernel
theorem dX10_of_1 : decode cX10_of 1 = .ok (.iload_n 1, 1) := by decide +kernel
theorem dX10_of_2 : decode cX10_of 2 = .ok (.invokevirtual 141, 3) := by decide +kernel
theorem dX10_of_5 : decode cX10_of 5 = .ok (.ifCond .eq 12, 3) := by decide +kernel
theorem dX10_of_8 : decode cX10_of 8 = .ok (.iload_n 2, 1) := by decide +kernel
theorem dX10_of_9 : decode cX10_of 9 = .ok (.iconst 0, 1) := by decide +kernel
theorem dX10_of_10 : decode cX10_of 10 = .ok (.iconst 4, 1) := by decide +kernel
theorem dX10_of_11 : decode cX10_of 11 = .ok (.invokestatic 50, 3) := by decide +kernel
theorem dX10_of_14 : decode cX10_of 14 = .ok (.ifCond .ne 10, 3) := by decide +kernel
theorem dX10_of_17 : decode cX10_of 17 = .ok (.aload_n 0, 1) := by decide +kernel
theorem dX10_of_18 : decode cX10_of 18 = .ok (.bipush (-10), 2) := by decide +kernel
theorem dX10_of_20 : decode cX10_of 20 = .ok (.invokevirtual 54, 3) := by decide +kernel
theorem dX10_of_23 : decode cX10_of 23 = .ok (.ireturn, 1) := by decide +kernel
theorem dX10_of_24 : decode cX10_of 24 = .ok (.iload_n 2, 1) := by decide +kernel
theorem dX10_of_25 : decode cX10_of 25 = .ok (.iconst 4, 1) := by decide +kernel
theorem dX10_of_26 : decode cX10_of 26 = .ok (.if_icmp .ge 20, 3) := by decide +kernel
theorem dX10_of_29 : decode cX10_of 29 = .ok (.aload_n 0, 1) := by decide +kernel
theorem dX10_of_30 : decode cX10_of 30 = .ok (.getfield 7, 3) := by decide +kernel
theorem dX10_of_33 : decode cX10_of 33 = .ok (.bipush 7, 2) := by decide +kernel
theorem dX10_of_35 : decode cX10_of 35 = .ok (.bipush 6, 2) := by decide +kernel
theorem dX10_of_37 : decode cX10_of 37 = .ok (.iload_n 2, 1) := by decide +kernel
theorem dX10_of_38 : decode cX10_of 38 = .ok (.imul, 1) := by decide +kernel
theorem dX10_of_39 : decode cX10_of 39 = .ok (.iadd, 1) := by decide +kernel
theorem dX10_of_40 : decode cX10_of 40 = .ok (.iload_n 1, 1) := by decide +kernel
theorem dX10_of_41 : decode cX10_of 41 = .ok (.iadd, 1) := by decide +kernel
theorem dX10_of_42 : decode cX10_of 42 = .ok (.iaload, 1) := by decide +kernel
theorem dX10_of_43 : decode cX10_of 43 = .ok (.goto 28, 3) := by decide +kernel
theorem dX10_of_46 : decode cX10_of 46 = .ok (.aload_n 0, 1) := by decide +kernel
theorem dX10_of_47 : decode cX10_of 47 = .ok (.aload_n 0, 1) := by decide +kernel
theorem dX10_of_48 : decode cX10_of 48 = .ok (.getfield 7, 3) := by decide +kernel
theorem dX10_of_51 : decode cX10_of 51 = .ok (.bipush 7, 2) := by decide +kernel
theorem dX10_of_53 : decode cX10_of 53 = .ok (.iload_n 1, 1) := by decide +kernel
theorem dX10_of_54 : decode cX10_of 54 = .ok (.iadd, 1) := by decide +kernel
theorem dX10_of_55 : decode cX10_of 55 = .ok (.iaload, 1) := by decide +kernel
theorem dX10_of_56 : decode cX10_of 56 = .ok (.aload_n 0, 1) := by decide +kernel
theorem dX10_of_57 : decode cX10_of 57 = .ok (.getfield 7, 3) := by decide +kernel
theorem dX10_of_60 : decode cX10_of 60 = .ok (.iconst 2, 1) := by decide +kernel
theorem dX10_of_61 : decode cX10_of 61 = .ok (.iaload, 1) := by decide +kernel
theorem dX10_of_62 : decode cX10_of 62 = .ok (.aload_n 0, 1) := by decide +kernel
theorem dX10_of_63 : decode cX10_of 63 = .ok (.getfield 7, 3) := by decide +kernel
theorem dX10_of_66 : decode cX10_of 66 = .ok (.iconst 4, 1) := by decide +kernel
theorem dX10_of_67 : decode cX10_of 67 = .ok (.iaload, 1) := by decide +kernel
theorem dX10_of_68 : decode cX10_of 68 = .ok (.invokevirtual 126, 3) := by decide +kernel
theorem dX10_of_71 : decode cX10_of 71 = .ok (.ireturn, 1) := by decide +kernel
theorem dX10_left_0 : decode cX10_left 0 = .ok (.aload_n 0, 1) := by decide +kernel
theorem dX10_left_1 : decode cX10_left 1 = .ok (.iload_n 1, 1) := by decide +kernel
theorem dX10_left_2 : decode cX10_left 2 = .ok (.invokevirtual 141, 3) := by decide +kernel
theorem dX10_left_5 : decode cX10_left 5 = .ok (.ifCond .eq 22, 3) := by decide +kernel
theorem dX10_left_8 : decode cX10_left 8 = .ok (.iload_n 2, 1) := by decide +kernel
theorem dX10_left_9 : decode cX10_left 9 = .ok (.iconst 0, 1) := by decide +kernel
theorem dX10_left_10 : decode cX10_left 10 = .ok (.bipush 99, 2) := by decide +kernel
theorem dX10_left_12 : decode cX10_left 12 = .ok (.invokestatic 50, 3) := by decide +kernel
theorem dX10_left_15 : decode cX10_left 15 = .ok (.ifCond .eq 12, 3) := by decide +kernel
theorem dX10_left_18 : decode cX10_left 18 = .ok (.aload_n 0, 1) := by decide +kernel
theorem dX10_left_19 : decode cX10_left 19 = .ok (.iload_n 1, 1) := by decide +kernel
theorem dX10_left_20 : decode cX10_left 20 = .ok (.iload_n 2, 1) := by decide +kernel
theorem dX10_left_21 : decode cX10_left 21 = .ok (.invokevirtual 137, 3) := by decide +kernel
theorem dX10_left_24 : decode cX10_left 24 = .ok (.goto 9, 3) := by decide +kernel
theorem dX10_left_27 : decode cX10_left 27 = .ok (.aload_n 0, 1) := by decide +kernel
theorem dX10_left_28 : decode cX10_left 28 = .ok (.bipush (-2), 2) := by decide +kernel
theorem dX10_left_30 : decode cX10_left 30 = .ok (.invokevirtual 54, 3) := by decide +kernel
theorem dX10_left_33 : decode cX10_left 33 = .ok (.ireturn, 1) := by decide +kernel
theorem dX10_endOf_0 : decode cX10_endOf 0 = .ok (.aload_n 0, 1) := by decide +kernel
theorem dX10_endOf_1 : decode cX10_endOf 1 = .ok (.getfield 7, 3) := by decide +kernel
theorem dX10_endOf_4 : decode cX10_endOf 4 = .ok (.bipush 13, 2) := by decide +kernel
theorem dX10_endOf_6 : decode cX10_endOf 6 = .ok (.iload_n 1, 1) := by decide +kernel
theorem dX10_endOf_7 : decode cX10_endOf 7 = .ok (.iadd, 1) := by decide +kernel
theorem dX10_endOf_8 : decode cX10_endOf 8 = .ok (.iaload, 1) := by decide +kernel
theorem dX10_endOf_9 : decode cX10_endOf 9 = .ok (.ifCond .ne 5, 3) := by decide +kernel
theorem dX10_endOf_12 : decode cX10_endOf 12 = .ok (.iconst (-1), 1) := by decide +kernel
theorem dX10_endOf_13 : decode cX10_endOf 13 = .ok (.ireturn, 1) := by decide +kernel
theorem dX10_endOf_14 : decode cX10_endOf 14 = .ok (.iconst 1, 1) := by decide +kernel
theorem dX10_endOf_15 : decode cX10_endOf 15 = .ok (.istore_n 2, 1) := by decide +kernel
theorem dX10_endOf_16 : decode cX10_endOf 16 = .ok (.iload_n 2, 1) := by decide +kernel
theorem dX10_endOf_17 : decode cX10_endOf 17 = .ok (.bipush 100, 2) := by decide +kernel
theorem dX10_endOf_19 : decode cX10_endOf 19 = .ok (.if_icmp .ge 29, 3) := by decide +kernel
theorem dX10_endOf_22 : decode cX10_endOf 22 = .ok (.aload_n 0, 1) := by decide +kernel
theorem dX10_endOf_23 : decode cX10_endOf 23 = .ok (.iload_n 1, 1) := by decide +kernel
theorem dX10_endOf_24 : decode cX10_endOf 24 = .ok (.iload_n 2, 1) := by decide +kernel
theorem dX10_endOf_25 : decode cX10_endOf 25 = .ok (.invokevirtual 137, 3) := by decide +kernel
theorem dX10_endOf_28 : decode cX10_endOf 28 = .ok (.ifCond .ne 14, 3) := by decide +kernel
theorem dX10_endOf_31 : decode cX10_endOf 31 = .ok (.aload_n 0, 1) := by decide +kernel
theorem dX10_endOf_32 : decode cX10_endOf 32 = .ok (.getfield 7, 3) := by decide +kernel
theorem dX10_endOf_35 : decode cX10_endOf 35 = .ok (.iconst 2, 1) := by decide +kernel
theorem dX10_endOf_36 : decode cX10_endOf 36 = .ok (.iaload, 1) := by decide +kernel
theorem dX10_endOf_37 : decode cX10_endOf 37 = .ok (.iload_n 2, 1) := by decide +kernel
theorem dX10_endOf_38 : decode cX10_endOf 38 = .ok (.iadd, 1) := by decide +kernel
theorem dX10_endOf_39 : decode cX10_endOf 39 = .ok (.iconst 1, 1) := by decide +kernel
theorem dX10_endOf_40 : decode cX10_endOf 40 = .ok (.isub, 1) := by decide +kernel
theorem dX10_endOf_41 : decode cX10_endOf 41 = .ok (.ireturn, 1) := by decide +kernel
theorem dX10_endOf_42 : decode cX10_endOf 42 = .ok (.iinc 2 1, 3) := by decide +kernel
theorem dX10_endOf_45 : decode cX10_endOf 45 = .ok (.goto (-29), 3) := by decide +kernel
theorem dX10_endOf_48 : decode cX10_endOf 48 = .ok (.iconst (-1), 1) := by decide +kernel
theorem dX10_endOf_49 : decode cX10_endOf 49 = .ok (.ireturn, 1) := by decide +kernel
theorem dX10_till_0 : decode cX10_till 0 = .ok (.aload_n 0, 1) := by decide +kernel
theorem dX10_till_1 : decode cX10_till 1 = .ok (.iload_n 1, 1) := by decide +kernel
theorem dX10_till_2 : decode cX10_till 2 = .ok (.invokevirtual 141, 3) := by decide +kernel
theorem dX10_till_5 : decode cX10_till 5 = .ok (.ifCond .ne 10, 3) := by decide +kernel
theorem dX10_till_8 : decode cX10_till 8 = .ok (.aload_n 0, 1) := by decide +kernel
theorem dX10_till_9 : decode cX10_till 9 = .ok (.bipush (-2), 2) := by decide +kernel
theorem dX10_till_11 : decode cX10_till 11 = .ok (.invokevirtual 54, 3) := by decide +kernel
theorem dX10_till_14 : decode cX10_till 14 = .ok (.ireturn, 1) := by decide +kernel
theorem dX10_till_15 : decode cX10_till 15 = .ok (.aload_n 0, 1) := by decide +kernel
theorem dX10_till_16 : decode cX10_till 16 = .ok (.getfield 7, 3) := by decide +kernel
theorem dX10_till_19 : decode cX10_till 19 = .ok (.bipush 13, 2) := by decide +kernel
theorem dX10_till_21 : decode cX10_till 21 = .ok (.iload_n 1, 1) := by decide +kernel
theorem dX10_till_22 : decode cX10_till 22 = .ok (.iadd, 1) := by decide +kernel
theorem dX10_till_23 : decode cX10_till 23 = .ok (.iaload, 1) := by decide +kernel
theorem dX10_till_24 : decode cX10_till 24 = .ok (.ifCond .ne 15, 3) := by decide +kernel
theorem dX10_till_27 : decode cX10_till 27 = .ok (.aload_n 0, 1) := by decide +kernel
theorem dX10_till_28 : decode cX10_till 28 = .ok (.getfield 7, 3) := by decide +kernel
theorem dX10_till_31 : decode cX10_till 31 = .ok (.bipush 25, 2) := by decide +kernel
theorem dX10_till_33 : decode cX10_till 33 = .ok (.iload_n 1, 1) := by decide +kernel
theorem dX10_till_34 : decode cX10_till 34 = .ok (.iadd, 1) := by decide +kernel
theorem dX10_till_35 : decode cX10_till 35 = .ok (.iaload, 1) := by decide +kernel
theorem dX10_till_36 : decode cX10_till 36 = .ok (.goto 8, 3) := by decide +kernel
theorem dX10_till_39 : decode cX10_till 39 = .ok (.aload_n 0, 1) := by decide +kernel
theorem dX10_till_40 : decode cX10_till 40 = .ok (.iload_n 1, 1) := by decide +kernel
theorem dX10_till_41 : decode cX10_till 41 = .ok (.invokevirtual 145, 3) := by decide +kernel
theorem dX10_till_44 : decode cX10_till 44 = .ok (.ireturn, 1) := by decide +kernel
theorem dX10_together_0 : decode cX10_together 0 = .ok (.iload_n 1, 1) := by decide +kernel
theorem dX10_together_1 : decode cX10_together 1 = .ok (.iconst 0, 1) := by decide +kernel
theorem dX10_together_2 : decode cX10_together 2 = .ok (.iconst 1, 1) := by decide +kernel
theorem dX10_together_3 : decode cX10_together 3 = .ok (.invokestatic 50, 3) := by decide +kernel
theorem dX10_together_6 : decode cX10_together 6 = .ok (.ifCond .ne 10, 3) := by decide +kernel
theorem dX10_together_9 : decode cX10_together 9 = .ok (.aload_n 0, 1) := by decide +kernel
theorem dX10_together_10 : decode cX10_together 10 = .ok (.bipush (-2), 2) := by decide +kernel
theorem dX10_together_12 : decode cX10_together 12 = .ok (.invokevirtual 54, 3) := by decide +kernel
theorem dX10_together_15 : decode cX10_together 15 = .ok (.ireturn, 1) := by decide +kernel
theorem dX10_together_16 : decode cX10_together 16 = .ok (.iconst (-1), 1) := by decide +kernel
theorem dX10_together_17 : decode cX10_together 17 = .ok (.istore_n 2, 1) := by decide +kernel
theorem dX10_together_18 : decode cX10_together 18 = .ok (.iconst (-1), 1) := by decide +kernel
theorem dX10_together_19 : decode cX10_together 19 = .ok (.istore_n 3, 1) := by decide +kernel
theorem dX10_together_20 : decode cX10_together 20 = .ok (.iconst 1, 1) := by decide +kernel
theorem dX10_together_21 : decode cX10_together 21 = .ok (.istore 4, 2) := by decide +kernel
theorem dX10_together_23 : decode cX10_together 23 = .ok (.iconst 0, 1) := by decide +kernel
theorem dX10_together_24 : decode cX10_together 24 = .ok (.istore 5, 2) := by decide +kernel
theorem dX10_together_26 : decode cX10_together 26 = .ok (.iload 5, 2) := by decide +kernel
theorem dX10_together_28 : decode cX10_together 28 = .ok (.aload_n 0, 1) := by decide +kernel
theorem dX10_together_29 : decode cX10_together 29 = .ok (.getfield 7, 3) := by decide +kernel
theorem dX10_together_32 : decode cX10_together 32 = .ok (.iconst 0, 1) := by decide +kernel
theorem dX10_together_33 : decode cX10_together 33 = .ok (.iaload, 1) := by decide +kernel
theorem dX10_together_34 : decode cX10_together 34 = .ok (.if_icmp .ge 120, 3) := by decide +kernel
theorem dX10_together_37 : decode cX10_together 37 = .ok (.aload_n 0, 1) := by decide +kernel
theorem dX10_together_38 : decode cX10_together 38 = .ok (.iload 5, 2) := by decide +kernel
theorem dX10_together_40 : decode cX10_together 40 = .ok (.invokevirtual 145, 3) := by decide +kernel
theorem dX10_together_43 : decode cX10_together 43 = .ok (.istore 6, 2) := by decide +kernel
theorem dX10_together_45 : decode cX10_together 45 = .ok (.iconst 0, 1) := by decide +kernel
theorem dX10_together_46 : decode cX10_together 46 = .ok (.istore 7, 2) := by decide +kernel
theorem dX10_together_48 : decode cX10_together 48 = .ok (.iconst 0, 1) := by decide +kernel
theorem dX10_together_49 : decode cX10_together 49 = .ok (.istore 8, 2) := by decide +kernel
theorem dX10_together_51 : decode cX10_together 51 = .ok (.iconst 0, 1) := by decide +kernel
theorem dX10_together_52 : decode cX10_together 52 = .ok (.istore 9, 2) := by decide +kernel
theorem dX10_together_54 : decode cX10_together 54 = .ok (.iload 9, 2) := by decide +kernel
theorem dX10_together_56 : decode cX10_together 56 = .ok (.aload_n 0, 1) := by decide +kernel
theorem dX10_together_57 : decode cX10_together 57 = .ok (.getfield 7, 3) := by decide +kernel
theorem dX10_together_60 : decode cX10_together 60 = .ok (.iconst 0, 1) := by decide +kernel
theorem dX10_together_61 : decode cX10_together 61 = .ok (.iaload, 1) := by decide +kernel
theorem dX10_together_62 : decode cX10_together 62 = .ok (.if_icmp .ge 32, 3) := by decide +kernel
theorem dX10_together_65 : decode cX10_together 65 = .ok (.aload_n 0, 1) := by decide +kernel
theorem dX10_together_66 : decode cX10_together 66 = .ok (.iload 9, 2) := by decide +kernel
theorem dX10_together_68 : decode cX10_together 68 = .ok (.invokevirtual 145, 3) := by decide +kernel
theorem dX10_together_71 : decode cX10_together 71 = .ok (.iload 6, 2) := by decide +kernel
theorem dX10_together_73 : decode cX10_together 73 = .ok (.if_icmp .ne 15, 3) := by decide +kernel
theorem dX10_together_76 : decode cX10_together 76 = .ok (.iload 7, 2) := by decide +kernel
theorem dX10_together_78 : decode cX10_together 78 = .ok (.iconst 1, 1) := by decide +kernel
theorem dX10_together_79 : decode cX10_together 79 = .ok (.iload 9, 2) := by decide +kernel
theorem dX10_together_81 : decode cX10_together 81 = .ok (.ishl, 1) := by decide +kernel
theorem dX10_together_82 : decode cX10_together 82 = .ok (.ior, 1) := by decide +kernel
theorem dX10_together_83 : decode cX10_together 83 = .ok (.istore 7, 2) := by decide +kernel
theorem dX10_together_85 : decode cX10_together 85 = .ok (.iinc 8 1, 3) := by decide +kernel
theorem dX10_together_88 : decode cX10_together 88 = .ok (.iinc 9 1, 3) := by decide +kernel
theorem dX10_together_91 : decode cX10_together 91 = .ok (.goto (-37), 3) := by decide +kernel
theorem dX10_together_94 : decode cX10_together 94 = .ok (.iload 8, 2) := by decide +kernel
theorem dX10_together_96 : decode cX10_together 96 = .ok (.iload 4, 2) := by decide +kernel
theorem dX10_together_98 : decode cX10_together 98 = .ok (.if_icmp .gt 16, 3) := by decide +kernel
theorem dX10_together_101 : decode cX10_together 101 = .ok (.iload 8, 2) := by decide +kernel
theorem dX10_together_103 : decode cX10_together 103 = .ok (.iload 4, 2) := by decide +kernel
theorem dX10_together_105 : decode cX10_together 105 = .ok (.if_icmp .ne 13, 3) := by decide +kernel
theorem dX10_together_108 : decode cX10_together 108 = .ok (.iload 6, 2) := by decide +kernel
theorem dX10_together_110 : decode cX10_together 110 = .ok (.iload_n 2, 1) := by decide +kernel
theorem dX10_together_111 : decode cX10_together 111 = .ok (.if_icmp .ge 7, 3) := by decide +kernel
theorem dX10_together_114 : decode cX10_together 114 = .ok (.iconst 1, 1) := by decide +kernel
theorem dX10_together_115 : decode cX10_together 115 = .ok (.goto 4, 3) := by decide +kernel
theorem dX10_together_118 : decode cX10_together 118 = .ok (.iconst 0, 1) := by decide +kernel
theorem dX10_together_119 : decode cX10_together 119 = .ok (.istore 9, 2) := by decide +kernel
theorem dX10_together_121 : decode cX10_together 121 = .ok (.iload 6, 2) := by decide +kernel
theorem dX10_together_123 : decode cX10_together 123 = .ok (.iconst (-1), 1) := by decide +kernel
theorem dX10_together_124 : decode cX10_together 124 = .ok (.if_icmp .eq 24, 3) := by decide +kernel
theorem dX10_together_127 : decode cX10_together 127 = .ok (.iload 8, 2) := by decide +kernel
theorem dX10_together_129 : decode cX10_together 129 = .ok (.iconst 1, 1) := by decide +kernel
theorem dX10_together_130 : decode cX10_together 130 = .ok (.if_icmp .le 18, 3) := by decide +kernel
theorem dX10_together_133 : decode cX10_together 133 = .ok (.iload 9, 2) := by decide +kernel
theorem dX10_together_135 : decode cX10_together 135 = .ok (.ifCond .eq 13, 3) := by decide +kernel
theorem dX10_together_138 : decode cX10_together 138 = .ok (.iload 6, 2) := by decide +kernel
theorem dX10_together_140 : decode cX10_together 140 = .ok (.istore_n 2, 1) := by decide +kernel
theorem dX10_together_141 : decode cX10_together 141 = .ok (.iload 7, 2) := by decide +kernel
theorem dX10_together_143 : decode cX10_together 143 = .ok (.istore_n 3, 1) := by decide +kernel
theorem dX10_together_144 : decode cX10_together 144 = .ok (.iload 8, 2) := by decide +kernel
theorem dX10_together_146 : decode cX10_together 146 = .ok (.istore 4, 2) := by decide +kernel
theorem dX10_together_148 : decode cX10_together 148 = .ok (.iinc 5 1, 3) := by decide +kernel
theorem dX10_together_151 : decode cX10_together 151 = .ok (.goto (-125), 3) := by decide +kernel
theorem dX10_together_154 : decode cX10_together 154 = .ok (.iload_n 1, 1) := by decide +kernel
theorem dX10_together_155 : decode cX10_together 155 = .ok (.ifCond .ne 7, 3) := by decide +kernel
theorem dX10_together_158 : decode cX10_together 158 = .ok (.iload_n 2, 1) := by decide +kernel
theorem dX10_together_159 : decode cX10_together 159 = .ok (.goto 4, 3) := by decide +kernel
theorem dX10_together_162 : decode cX10_together 162 = .ok (.iload_n 3, 1) := by decide +kernel
theorem dX10_together_163 : decode cX10_together 163 = .ok (.ireturn, 1) := by decide +kernel
theorem dX10_layGifts_0 : decode cX10_layGifts 0 = .ok (.iconst 1, 1) := by decide +kernel
theorem dX10_layGifts_1 : decode cX10_layGifts 1 = .ok (.istore 4, 2) := by decide +kernel
theorem dX10_layGifts_3 : decode cX10_layGifts 3 = .ok (.iconst 0, 1) := by decide +kernel
theorem dX10_layGifts_4 : decode cX10_layGifts 4 = .ok (.istore 5, 2) := by decide +kernel
theorem dX10_layGifts_6 : decode cX10_layGifts 6 = .ok (.iload 5, 2) := by decide +kernel
theorem dX10_layGifts_8 : decode cX10_layGifts 8 = .ok (.aload_n 0, 1) := by decide +kernel
theorem dX10_layGifts_9 : decode cX10_layGifts 9 = .ok (.getfield 7, 3) := by decide +kernel
theorem dX10_layGifts_12 : decode cX10_layGifts 12 = .ok (.iconst 1, 1) := by decide +kernel
theorem dX10_layGifts_13 : decode cX10_layGifts 13 = .ok (.iaload, 1) := by decide +kernel
theorem dX10_layGifts_14 : decode cX10_layGifts 14 = .ok (.if_icmp .ge 15, 3) := by decide +kernel
theorem dX10_layGifts_17 : decode cX10_layGifts 17 = .ok (.iload 4, 2) := by decide +kernel
theorem dX10_layGifts_19 : decode cX10_layGifts 19 = .ok (.iconst 3, 1) := by decide +kernel
theorem dX10_layGifts_20 : decode cX10_layGifts 20 = .ok (.imul, 1) := by decide +kernel
theorem dX10_layGifts_21 : decode cX10_layGifts 21 = .ok (.istore 4, 2) := by decide +kernel
theorem dX10_layGifts_23 : decode cX10_layGifts 23 = .ok (.iinc 5 1, 3) := by decide +kernel
theorem dX10_layGifts_26 : decode cX10_layGifts 26 = .ok (.goto (-20), 3) := by decide +kernel
theorem dX10_layGifts_29 : decode cX10_layGifts 29 = .ok (.aload_n 0, 1) := by decide +kernel
theorem dX10_layGifts_30 : decode cX10_layGifts 30 = .ok (.iconst (-1), 1) := by decide +kernel
theorem dX10_layGifts_31 : decode cX10_layGifts 31 = .ok (.putfield 148, 3) := by decide +kernel
theorem dX10_layGifts_34 : decode cX10_layGifts 34 = .ok (.iconst 0, 1) := by decide +kernel
theorem dX10_layGifts_35 : decode cX10_layGifts 35 = .ok (.istore 5, 2) := by decide +kernel
theorem dX10_layGifts_37 : decode cX10_layGifts 37 = .ok (.iload 5, 2) := by decide +kernel
theorem dX10_layGifts_39 : decode cX10_layGifts 39 = .ok (.iload 4, 2) := by decide +kernel
theorem dX10_layGifts_41 : decode cX10_layGifts 41 = .ok (.if_icmp .ge 270, 3) := by decide +kernel
theorem dX10_layGifts_44 : decode cX10_layGifts 44 = .ok (.iload 4, 2) := by decide +kernel
theorem dX10_layGifts_46 : decode cX10_layGifts 46 = .ok (.istore 6, 2) := by decide +kernel
theorem dX10_layGifts_48 : decode cX10_layGifts 48 = .ok (.iconst 0, 1) := by decide +kernel
theorem dX10_layGifts_49 : decode cX10_layGifts 49 = .ok (.istore 7, 2) := by decide +kernel
theorem dX10_layGifts_51 : decode cX10_layGifts 51 = .ok (.iconst 0, 1) := by decide +kernel
theorem dX10_layGifts_52 : decode cX10_layGifts 52 = .ok (.istore 8, 2) := by decide +kernel
theorem dX10_layGifts_54 : decode cX10_layGifts 54 = .ok (.iconst 0, 1) := by decide +kernel
theorem dX10_layGifts_55 : decode cX10_layGifts 55 = .ok (.istore 9, 2) := by decide +kernel
theorem dX10_layGifts_57 : decode cX10_layGifts 57 = .ok (.iconst 0, 1) := by decide +kernel
theorem dX10_layGifts_58 : decode cX10_layGifts 58 = .ok (.istore 10, 2) := by decide +kernel
theorem dX10_layGifts_60 : decode cX10_layGifts 60 = .ok (.iconst 0, 1) := by decide +kernel
theorem dX10_layGifts_61 : decode cX10_layGifts 61 = .ok (.istore 11, 2) := by decide +kernel
theorem dX10_layGifts_63 : decode cX10_layGifts 63 = .ok (.iload 11, 2) := by decide +kernel
theorem dX10_layGifts_65 : decode cX10_layGifts 65 = .ok (.aload_n 0, 1) := by decide +kernel
theorem dX10_layGifts_66 : decode cX10_layGifts 66 = .ok (.getfield 7, 3) := by decide +kernel
theorem dX10_layGifts_69 : decode cX10_layGifts 69 = .ok (.iconst 1, 1) := by decide +kernel
theorem dX10_layGifts_70 : decode cX10_layGifts 70 = .ok (.iaload, 1) := by decide +kernel
theorem dX10_layGifts_71 : decode cX10_layGifts 71 = .ok (.if_icmp .ge 112, 3) := by decide +kernel
theorem dX10_layGifts_74 : decode cX10_layGifts 74 = .ok (.iload 6, 2) := by decide +kernel
theorem dX10_layGifts_76 : decode cX10_layGifts 76 = .ok (.iconst 3, 1) := by decide +kernel
theorem dX10_layGifts_77 : decode cX10_layGifts 77 = .ok (.idiv, 1) := by decide +kernel
theorem dX10_layGifts_78 : decode cX10_layGifts 78 = .ok (.istore 6, 2) := by decide +kernel
theorem dX10_layGifts_80 : decode cX10_layGifts 80 = .ok (.iload 5, 2) := by decide +kernel
theorem dX10_layGifts_82 : decode cX10_layGifts 82 = .ok (.iload 6, 2) := by decide +kernel
theorem dX10_layGifts_84 : decode cX10_layGifts 84 = .ok (.idiv, 1) := by decide +kernel
theorem dX10_layGifts_85 : decode cX10_layGifts 85 = .ok (.iconst 3, 1) := by decide +kernel
theorem dX10_layGifts_86 : decode cX10_layGifts 86 = .ok (.irem, 1) := by decide +kernel
theorem dX10_layGifts_87 : decode cX10_layGifts 87 = .ok (.istore 12, 2) := by decide +kernel
theorem dX10_layGifts_89 : decode cX10_layGifts 89 = .ok (.iload 7, 2) := by decide +kernel
theorem dX10_layGifts_91 : decode cX10_layGifts 91 = .ok (.iload 12, 2) := by decide +kernel
theorem dX10_layGifts_93 : decode cX10_layGifts 93 = .ok (.iconst 1, 1) := by decide +kernel
theorem dX10_layGifts_94 : decode cX10_layGifts 94 = .ok (.if_icmp .ne 16, 3) := by decide +kernel
theorem dX10_layGifts_97 : decode cX10_layGifts 97 = .ok (.aload_n 0, 1) := by decide +kernel
theorem dX10_layGifts_98 : decode cX10_layGifts 98 = .ok (.getfield 7, 3) := by decide +kernel
theorem dX10_layGifts_101 : decode cX10_layGifts 101 = .ok (.bipush 31, 2) := by decide +kernel
theorem dX10_layGifts_103 : decode cX10_layGifts 103 = .ok (.iload 11, 2) := by decide +kernel
theorem dX10_layGifts_105 : decode cX10_layGifts 105 = .ok (.iadd, 1) := by decide +kernel
theorem dX10_layGifts_106 : decode cX10_layGifts 106 = .ok (.iaload, 1) := by decide +kernel
theorem dX10_layGifts_107 : decode cX10_layGifts 107 = .ok (.goto 4, 3) := by decide +kernel
theorem dX10_layGifts_110 : decode cX10_layGifts 110 = .ok (.iconst 0, 1) := by decide +kernel
theorem dX10_layGifts_111 : decode cX10_layGifts 111 = .ok (.iadd, 1) := by decide +kernel
theorem dX10_layGifts_112 : decode cX10_layGifts 112 = .ok (.istore 7, 2) := by decide +kernel
theorem dX10_layGifts_114 : decode cX10_layGifts 114 = .ok (.iload 8, 2) := by decide +kernel
theorem dX10_layGifts_116 : decode cX10_layGifts 116 = .ok (.iload 12, 2) := by decide +kernel
theorem dX10_layGifts_118 : decode cX10_layGifts 118 = .ok (.iconst 2, 1) := by decide +kernel
theorem dX10_layGifts_119 : decode cX10_layGifts 119 = .ok (.if_icmp .ne 16, 3) := by decide +kernel
theorem dX10_layGifts_122 : decode cX10_layGifts 122 = .ok (.aload_n 0, 1) := by decide +kernel
theorem dX10_layGifts_123 : decode cX10_layGifts 123 = .ok (.getfield 7, 3) := by decide +kernel
theorem dX10_layGifts_126 : decode cX10_layGifts 126 = .ok (.bipush 31, 2) := by decide +kernel
theorem dX10_layGifts_128 : decode cX10_layGifts 128 = .ok (.iload 11, 2) := by decide +kernel
theorem dX10_layGifts_130 : decode cX10_layGifts 130 = .ok (.iadd, 1) := by decide +kernel
theorem dX10_layGifts_131 : decode cX10_layGifts 131 = .ok (.iaload, 1) := by decide +kernel
theorem dX10_layGifts_132 : decode cX10_layGifts 132 = .ok (.goto 4, 3) := by decide +kernel
theorem dX10_layGifts_135 : decode cX10_layGifts 135 = .ok (.iconst 0, 1) := by decide +kernel
theorem dX10_layGifts_136 : decode cX10_layGifts 136 = .ok (.iadd, 1) := by decide +kernel
theorem dX10_layGifts_137 : decode cX10_layGifts 137 = .ok (.istore 8, 2) := by decide +kernel
theorem dX10_layGifts_139 : decode cX10_layGifts 139 = .ok (.iload 9, 2) := by decide +kernel
theorem dX10_layGifts_141 : decode cX10_layGifts 141 = .ok (.iload 12, 2) := by decide +kernel
theorem dX10_layGifts_143 : decode cX10_layGifts 143 = .ok (.iconst 1, 1) := by decide +kernel
theorem dX10_layGifts_144 : decode cX10_layGifts 144 = .ok (.if_icmp .ne 10, 3) := by decide +kernel
theorem dX10_layGifts_147 : decode cX10_layGifts 147 = .ok (.iconst 1, 1) := by decide +kernel
theorem dX10_layGifts_148 : decode cX10_layGifts 148 = .ok (.iload 11, 2) := by decide +kernel
theorem dX10_layGifts_150 : decode cX10_layGifts 150 = .ok (.ishl, 1) := by decide +kernel
theorem dX10_layGifts_151 : decode cX10_layGifts 151 = .ok (.goto 4, 3) := by decide +kernel
theorem dX10_layGifts_154 : decode cX10_layGifts 154 = .ok (.iconst 0, 1) := by decide +kernel
theorem dX10_layGifts_155 : decode cX10_layGifts 155 = .ok (.ior, 1) := by decide +kernel
theorem dX10_layGifts_156 : decode cX10_layGifts 156 = .ok (.istore 9, 2) := by decide +kernel
theorem dX10_layGifts_158 : decode cX10_layGifts 158 = .ok (.iload 10, 2) := by decide +kernel
theorem dX10_layGifts_160 : decode cX10_layGifts 160 = .ok (.iload 12, 2) := by decide +kernel
theorem dX10_layGifts_162 : decode cX10_layGifts 162 = .ok (.iconst 2, 1) := by decide +kernel
theorem dX10_layGifts_163 : decode cX10_layGifts 163 = .ok (.if_icmp .ne 10, 3) := by decide +kernel
theorem dX10_layGifts_166 : decode cX10_layGifts 166 = .ok (.iconst 1, 1) := by decide +kernel
theorem dX10_layGifts_167 : decode cX10_layGifts 167 = .ok (.iload 11, 2) := by decide +kernel
theorem dX10_layGifts_169 : decode cX10_layGifts 169 = .ok (.ishl, 1) := by decide +kernel
theorem dX10_layGifts_170 : decode cX10_layGifts 170 = .ok (.goto 4, 3) := by decide +kernel
theorem dX10_layGifts_173 : decode cX10_layGifts 173 = .ok (.iconst 0, 1) := by decide +kernel
theorem dX10_layGifts_174 : decode cX10_layGifts 174 = .ok (.ior, 1) := by decide +kernel
theorem dX10_layGifts_175 : decode cX10_layGifts 175 = .ok (.istore 10, 2) := by decide +kernel
theorem dX10_layGifts_177 : decode cX10_layGifts 177 = .ok (.iinc 11 1, 3) := by decide +kernel
theorem dX10_layGifts_180 : decode cX10_layGifts 180 = .ok (.goto (-117), 3) := by decide +kernel
theorem dX10_layGifts_183 : decode cX10_layGifts 183 = .ok (.aload_n 0, 1) := by decide +kernel
theorem dX10_layGifts_184 : decode cX10_layGifts 184 = .ok (.getfield 148, 3) := by decide +kernel
theorem dX10_layGifts_187 : decode cX10_layGifts 187 = .ok (.ifCond .lt 15, 3) := by decide +kernel
theorem dX10_layGifts_190 : decode cX10_layGifts 190 = .ok (.iload 7, 2) := by decide +kernel
theorem dX10_layGifts_192 : decode cX10_layGifts 192 = .ok (.iload 8, 2) := by decide +kernel
theorem dX10_layGifts_194 : decode cX10_layGifts 194 = .ok (.iadd, 1) := by decide +kernel
theorem dX10_layGifts_195 : decode cX10_layGifts 195 = .ok (.aload_n 0, 1) := by decide +kernel
theorem dX10_layGifts_196 : decode cX10_layGifts 196 = .ok (.getfield 148, 3) := by decide +kernel
theorem dX10_layGifts_199 : decode cX10_layGifts 199 = .ok (.if_icmp .ge 7, 3) := by decide +kernel
theorem dX10_layGifts_202 : decode cX10_layGifts 202 = .ok (.iconst 1, 1) := by decide +kernel
theorem dX10_layGifts_203 : decode cX10_layGifts 203 = .ok (.goto 4, 3) := by decide +kernel
theorem dX10_layGifts_206 : decode cX10_layGifts 206 = .ok (.iconst 0, 1) := by decide +kernel
theorem dX10_layGifts_207 : decode cX10_layGifts 207 = .ok (.istore 11, 2) := by decide +kernel
theorem dX10_layGifts_209 : decode cX10_layGifts 209 = .ok (.iload 11, 2) := by decide +kernel
theorem dX10_layGifts_211 : decode cX10_layGifts 211 = .ok (.ifCond .eq 94, 3) := by decide +kernel
theorem dX10_layGifts_214 : decode cX10_layGifts 214 = .ok (.aload_n 0, 1) := by decide +kernel
theorem dX10_layGifts_215 : decode cX10_layGifts 215 = .ok (.aload_n 0, 1) := by decide +kernel
theorem dX10_layGifts_216 : decode cX10_layGifts 216 = .ok (.getfield 7, 3) := by decide +kernel
theorem dX10_layGifts_219 : decode cX10_layGifts 219 = .ok (.bipush 7, 2) := by decide +kernel
theorem dX10_layGifts_221 : decode cX10_layGifts 221 = .ok (.iload_n 1, 1) := by decide +kernel
theorem dX10_layGifts_222 : decode cX10_layGifts 222 = .ok (.iadd, 1) := by decide +kernel
theorem dX10_layGifts_223 : decode cX10_layGifts 223 = .ok (.iaload, 1) := by decide +kernel
theorem dX10_layGifts_224 : decode cX10_layGifts 224 = .ok (.aload_n 0, 1) := by decide +kernel
theorem dX10_layGifts_225 : decode cX10_layGifts 225 = .ok (.getfield 7, 3) := by decide +kernel
theorem dX10_layGifts_228 : decode cX10_layGifts 228 = .ok (.bipush 13, 2) := by decide +kernel
theorem dX10_layGifts_230 : decode cX10_layGifts 230 = .ok (.iload_n 1, 1) := by decide +kernel
theorem dX10_layGifts_231 : decode cX10_layGifts 231 = .ok (.iadd, 1) := by decide +kernel
theorem dX10_layGifts_232 : decode cX10_layGifts 232 = .ok (.iaload, 1) := by decide +kernel
theorem dX10_layGifts_233 : decode cX10_layGifts 233 = .ok (.iload 7, 2) := by decide +kernel
theorem dX10_layGifts_235 : decode cX10_layGifts 235 = .ok (.iadd, 1) := by decide +kernel
theorem dX10_layGifts_236 : decode cX10_layGifts 236 = .ok (.iload_n 3, 1) := by decide +kernel
theorem dX10_layGifts_237 : decode cX10_layGifts 237 = .ok (.aload_n 0, 1) := by decide +kernel
theorem dX10_layGifts_238 : decode cX10_layGifts 238 = .ok (.getfield 7, 3) := by decide +kernel
theorem dX10_layGifts_241 : decode cX10_layGifts 241 = .ok (.iconst 4, 1) := by decide +kernel
theorem dX10_layGifts_242 : decode cX10_layGifts 242 = .ok (.iaload, 1) := by decide +kernel
theorem dX10_layGifts_243 : decode cX10_layGifts 243 = .ok (.invokevirtual 130, 3) := by decide +kernel
theorem dX10_layGifts_246 : decode cX10_layGifts 246 = .ok (.ifCond .le 59, 3) := by decide +kernel
theorem dX10_layGifts_249 : decode cX10_layGifts 249 = .ok (.aload_n 0, 1) := by decide +kernel
theorem dX10_layGifts_250 : decode cX10_layGifts 250 = .ok (.aload_n 0, 1) := by decide +kernel
theorem dX10_layGifts_251 : decode cX10_layGifts 251 = .ok (.getfield 7, 3) := by decide +kernel
theorem dX10_layGifts_254 : decode cX10_layGifts 254 = .ok (.bipush 7, 2) := by decide +kernel
theorem dX10_layGifts_256 : decode cX10_layGifts 256 = .ok (.iload_n 2, 1) := by decide +kernel
theorem dX10_layGifts_257 : decode cX10_layGifts 257 = .ok (.iadd, 1) := by decide +kernel
theorem dX10_layGifts_258 : decode cX10_layGifts 258 = .ok (.iaload, 1) := by decide +kernel
theorem dX10_layGifts_259 : decode cX10_layGifts 259 = .ok (.aload_n 0, 1) := by decide +kernel
theorem dX10_layGifts_260 : decode cX10_layGifts 260 = .ok (.getfield 7, 3) := by decide +kernel
theorem dX10_layGifts_263 : decode cX10_layGifts 263 = .ok (.bipush 13, 2) := by decide +kernel
theorem dX10_layGifts_265 : decode cX10_layGifts 265 = .ok (.iload_n 2, 1) := by decide +kernel
theorem dX10_layGifts_266 : decode cX10_layGifts 266 = .ok (.iadd, 1) := by decide +kernel
theorem dX10_layGifts_267 : decode cX10_layGifts 267 = .ok (.iaload, 1) := by decide +kernel
theorem dX10_layGifts_268 : decode cX10_layGifts 268 = .ok (.iload 8, 2) := by decide +kernel
theorem dX10_layGifts_270 : decode cX10_layGifts 270 = .ok (.iadd, 1) := by decide +kernel
theorem dX10_layGifts_271 : decode cX10_layGifts 271 = .ok (.iload_n 3, 1) := by decide +kernel
theorem dX10_layGifts_272 : decode cX10_layGifts 272 = .ok (.aload_n 0, 1) := by decide +kernel
theorem dX10_layGifts_273 : decode cX10_layGifts 273 = .ok (.getfield 7, 3) := by decide +kernel
theorem dX10_layGifts_276 : decode cX10_layGifts 276 = .ok (.iconst 4, 1) := by decide +kernel
theorem dX10_layGifts_277 : decode cX10_layGifts 277 = .ok (.iaload, 1) := by decide +kernel
theorem dX10_layGifts_278 : decode cX10_layGifts 278 = .ok (.invokevirtual 130, 3) := by decide +kernel
theorem dX10_layGifts_281 : decode cX10_layGifts 281 = .ok (.ifCond .le 24, 3) := by decide +kernel
theorem dX10_layGifts_284 : decode cX10_layGifts 284 = .ok (.aload_n 0, 1) := by decide +kernel
theorem dX10_layGifts_285 : decode cX10_layGifts 285 = .ok (.iload 7, 2) := by decide +kernel
theorem dX10_layGifts_287 : decode cX10_layGifts 287 = .ok (.iload 8, 2) := by decide +kernel
theorem dX10_layGifts_289 : decode cX10_layGifts 289 = .ok (.iadd, 1) := by decide +kernel
theorem dX10_layGifts_290 : decode cX10_layGifts 290 = .ok (.putfield 148, 3) := by decide +kernel
theorem dX10_layGifts_293 : decode cX10_layGifts 293 = .ok (.aload_n 0, 1) := by decide +kernel
theorem dX10_layGifts_294 : decode cX10_layGifts 294 = .ok (.iload 9, 2) := by decide +kernel
theorem dX10_layGifts_296 : decode cX10_layGifts 296 = .ok (.putfield 151, 3) := by decide +kernel
theorem dX10_layGifts_299 : decode cX10_layGifts 299 = .ok (.aload_n 0, 1) := by decide +kernel
theorem dX10_layGifts_300 : decode cX10_layGifts 300 = .ok (.iload 10, 2) := by decide +kernel
theorem dX10_layGifts_302 : decode cX10_layGifts 302 = .ok (.putfield 154, 3) := by decide +kernel
theorem dX10_layGifts_305 : decode cX10_layGifts 305 = .ok (.iinc 5 1, 3) := by decide +kernel
theorem dX10_layGifts_308 : decode cX10_layGifts 308 = .ok (.goto (-271), 3) := by decide +kernel
theorem dX10_layGifts_311 : decode cX10_layGifts 311 = .ok (.return_, 1) := by decide +kernel
theorem dX10_gifts_0 : decode cX10_gifts 0 = .ok (.aload_n 0, 1) := by decide +kernel
theorem dX10_gifts_1 : decode cX10_gifts 1 = .ok (.iload_n 1, 1) := by decide +kernel
theorem dX10_gifts_2 : decode cX10_gifts 2 = .ok (.invokevirtual 141, 3) := by decide +kernel
theorem dX10_gifts_5 : decode cX10_gifts 5 = .ok (.ifCond .eq 36, 3) := by decide +kernel
theorem dX10_gifts_8 : decode cX10_gifts 8 = .ok (.aload_n 0, 1) := by decide +kernel
theorem dX10_gifts_9 : decode cX10_gifts 9 = .ok (.iload_n 2, 1) := by decide +kernel
theorem dX10_gifts_10 : decode cX10_gifts 10 = .ok (.invokevirtual 141, 3) := by decide +kernel
theorem dX10_gifts_13 : decode cX10_gifts 13 = .ok (.ifCond .eq 28, 3) := by decide +kernel
theorem dX10_gifts_16 : decode cX10_gifts 16 = .ok (.iload_n 1, 1) := by decide +kernel
theorem dX10_gifts_17 : decode cX10_gifts 17 = .ok (.iload_n 2, 1) := by decide +kernel
theorem dX10_gifts_18 : decode cX10_gifts 18 = .ok (.if_icmp .eq 23, 3) := by decide +kernel
theorem dX10_gifts_21 : decode cX10_gifts 21 = .ok (.iload_n 3, 1) := by decide +kernel
theorem dX10_gifts_22 : decode cX10_gifts 22 = .ok (.iconst 1, 1) := by decide +kernel
theorem dX10_gifts_23 : decode cX10_gifts 23 = .ok (.bipush 60, 2) := by decide +kernel
theorem dX10_gifts_25 : decode cX10_gifts 25 = .ok (.invokestatic 50, 3) := by decide +kernel
theorem dX10_gifts_28 : decode cX10_gifts 28 = .ok (.ifCond .eq 13, 3) := by decide +kernel
theorem dX10_gifts_31 : decode cX10_gifts 31 = .ok (.iload 4, 2) := by decide +kernel
theorem dX10_gifts_33 : decode cX10_gifts 33 = .ok (.iconst 0, 1) := by decide +kernel
theorem dX10_gifts_34 : decode cX10_gifts 34 = .ok (.iconst 2, 1) := by decide +kernel
theorem dX10_gifts_35 : decode cX10_gifts 35 = .ok (.invokestatic 50, 3) := by decide +kernel
theorem dX10_gifts_38 : decode cX10_gifts 38 = .ok (.ifCond .ne 10, 3) := by decide +kernel
theorem dX10_gifts_41 : decode cX10_gifts 41 = .ok (.aload_n 0, 1) := by decide +kernel
theorem dX10_gifts_42 : decode cX10_gifts 42 = .ok (.bipush (-2), 2) := by decide +kernel
theorem dX10_gifts_44 : decode cX10_gifts 44 = .ok (.invokevirtual 54, 3) := by decide +kernel
theorem dX10_gifts_47 : decode cX10_gifts 47 = .ok (.ireturn, 1) := by decide +kernel
theorem dX10_gifts_48 : decode cX10_gifts 48 = .ok (.aload_n 0, 1) := by decide +kernel
theorem dX10_gifts_49 : decode cX10_gifts 49 = .ok (.iload_n 1, 1) := by decide +kernel
theorem dX10_gifts_50 : decode cX10_gifts 50 = .ok (.iload_n 2, 1) := by decide +kernel
theorem dX10_gifts_51 : decode cX10_gifts 51 = .ok (.iload_n 3, 1) := by decide +kernel
theorem dX10_gifts_52 : decode cX10_gifts 52 = .ok (.invokevirtual 157, 3) := by decide +kernel
theorem dX10_gifts_55 : decode cX10_gifts 55 = .ok (.aload_n 0, 1) := by decide +kernel
theorem dX10_gifts_56 : decode cX10_gifts 56 = .ok (.getfield 148, 3) := by decide +kernel
theorem dX10_gifts_59 : decode cX10_gifts 59 = .ok (.ifCond .ge 7, 3) := by decide +kernel
theorem dX10_gifts_62 : decode cX10_gifts 62 = .ok (.iconst (-1), 1) := by decide +kernel
theorem dX10_gifts_63 : decode cX10_gifts 63 = .ok (.goto 32, 3) := by decide +kernel
theorem dX10_gifts_66 : decode cX10_gifts 66 = .ok (.iload 4, 2) := by decide +kernel
theorem dX10_gifts_68 : decode cX10_gifts 68 = .ok (.ifCond .ne 10, 3) := by decide +kernel
theorem dX10_gifts_71 : decode cX10_gifts 71 = .ok (.aload_n 0, 1) := by decide +kernel
theorem dX10_gifts_72 : decode cX10_gifts 72 = .ok (.getfield 148, 3) := by decide +kernel
theorem dX10_gifts_75 : decode cX10_gifts 75 = .ok (.goto 20, 3) := by decide +kernel
theorem dX10_gifts_78 : decode cX10_gifts 78 = .ok (.iload 4, 2) := by decide +kernel
theorem dX10_gifts_80 : decode cX10_gifts 80 = .ok (.iconst 1, 1) := by decide +kernel
theorem dX10_gifts_81 : decode cX10_gifts 81 = .ok (.if_icmp .ne 10, 3) := by decide +kernel
theorem dX10_gifts_84 : decode cX10_gifts 84 = .ok (.aload_n 0, 1) := by decide +kernel
theorem dX10_gifts_85 : decode cX10_gifts 85 = .ok (.getfield 151, 3) := by decide +kernel
theorem dX10_gifts_88 : decode cX10_gifts 88 = .ok (.goto 7, 3) := by decide +kernel
theorem dX10_gifts_91 : decode cX10_gifts 91 = .ok (.aload_n 0, 1) := by decide +kernel
theorem dX10_gifts_92 : decode cX10_gifts 92 = .ok (.getfield 154, 3) := by decide +kernel
theorem dX10_gifts_95 : decode cX10_gifts 95 = .ok (.ireturn, 1) := by decide +kernel
theorem dX10_drought_0 : decode cX10_drought 0 = .ok (.iload_n 1, 1) := by decide +kernel
theorem dX10_drought_1 : decode cX10_drought 1 = .ok (.iconst 0, 1) := by decide +kernel
theorem dX10_drought_2 : decode cX10_drought 2 = .ok (.bipush 60, 2) := by decide +kernel
theorem dX10_drought_4 : decode cX10_drought 4 = .ok (.invokestatic 50, 3) := by decide +kernel
theorem dX10_drought_7 : decode cX10_drought 7 = .ok (.ifCond .ne 10, 3) := by decide +kernel
theorem dX10_drought_10 : decode cX10_drought 10 = .ok (.aload_n 0, 1) := by decide +kernel
theorem dX10_drought_11 : decode cX10_drought 11 = .ok (.bipush (-2), 2) := by decide +kernel
theorem dX10_drought_13 : decode cX10_drought 13 = .ok (.invokevirtual 54, 3) := by decide +kernel
theorem dX10_drought_16 : decode cX10_drought 16 = .ok (.ireturn, 1) := by decide +kernel
theorem dX10_drought_17 : decode cX10_drought 17 = .ok (.iconst (-1), 1) := by decide +kernel
theorem dX10_drought_18 : decode cX10_drought 18 = .ok (.istore_n 2, 1) := by decide +kernel
theorem dX10_drought_19 : decode cX10_drought 19 = .ok (.iconst 0, 1) := by decide +kernel
theorem dX10_drought_20 : decode cX10_drought 20 = .ok (.istore_n 3, 1) := by decide +kernel
theorem dX10_drought_21 : decode cX10_drought 21 = .ok (.iconst 0, 1) := by decide +kernel
theorem dX10_drought_22 : decode cX10_drought 22 = .ok (.istore 4, 2) := by decide +kernel
theorem dX10_drought_24 : decode cX10_drought 24 = .ok (.iload 4, 2) := by decide +kernel
theorem dX10_drought_26 : decode cX10_drought 26 = .ok (.bipush 12, 2) := by decide +kernel
theorem dX10_drought_28 : decode cX10_drought 28 = .ok (.if_icmp .ge 103, 3) := by decide +kernel
theorem dX10_drought_31 : decode cX10_drought 31 = .ok (.iconst 0, 1) := by decide +kernel
theorem dX10_drought_32 : decode cX10_drought 32 = .ok (.istore 5, 2) := by decide +kernel
theorem dX10_drought_34 : decode cX10_drought 34 = .ok (.iconst 0, 1) := by decide +kernel
theorem dX10_drought_35 : decode cX10_drought 35 = .ok (.istore 6, 2) := by decide +kernel
theorem dX10_drought_37 : decode cX10_drought 37 = .ok (.iload 6, 2) := by decide +kernel
theorem dX10_drought_39 : decode cX10_drought 39 = .ok (.aload_n 0, 1) := by decide +kernel
theorem dX10_drought_40 : decode cX10_drought 40 = .ok (.getfield 7, 3) := by decide +kernel
theorem dX10_drought_43 : decode cX10_drought 43 = .ok (.iconst 0, 1) := by decide +kernel
theorem dX10_drought_44 : decode cX10_drought 44 = .ok (.iaload, 1) := by decide +kernel
theorem dX10_drought_45 : decode cX10_drought 45 = .ok (.if_icmp .ge 50, 3) := by decide +kernel
theorem dX10_drought_48 : decode cX10_drought 48 = .ok (.iload 5, 2) := by decide +kernel
theorem dX10_drought_50 : decode cX10_drought 50 = .ok (.aload_n 0, 1) := by decide +kernel
theorem dX10_drought_51 : decode cX10_drought 51 = .ok (.aload_n 0, 1) := by decide +kernel
theorem dX10_drought_52 : decode cX10_drought 52 = .ok (.getfield 7, 3) := by decide +kernel
theorem dX10_drought_55 : decode cX10_drought 55 = .ok (.bipush 7, 2) := by decide +kernel
theorem dX10_drought_57 : decode cX10_drought 57 = .ok (.iload 6, 2) := by decide +kernel
theorem dX10_drought_59 : decode cX10_drought 59 = .ok (.iadd, 1) := by decide +kernel
theorem dX10_drought_60 : decode cX10_drought 60 = .ok (.iaload, 1) := by decide +kernel
theorem dX10_drought_61 : decode cX10_drought 61 = .ok (.aload_n 0, 1) := by decide +kernel
theorem dX10_drought_62 : decode cX10_drought 62 = .ok (.getfield 7, 3) := by decide +kernel
theorem dX10_drought_65 : decode cX10_drought 65 = .ok (.bipush 13, 2) := by decide +kernel
theorem dX10_drought_67 : decode cX10_drought 67 = .ok (.iload 6, 2) := by decide +kernel
theorem dX10_drought_69 : decode cX10_drought 69 = .ok (.iadd, 1) := by decide +kernel
theorem dX10_drought_70 : decode cX10_drought 70 = .ok (.iaload, 1) := by decide +kernel
theorem dX10_drought_71 : decode cX10_drought 71 = .ok (.iload_n 1, 1) := by decide +kernel
theorem dX10_drought_72 : decode cX10_drought 72 = .ok (.aload_n 0, 1) := by decide +kernel
theorem dX10_drought_73 : decode cX10_drought 73 = .ok (.getfield 7, 3) := by decide +kernel
theorem dX10_drought_76 : decode cX10_drought 76 = .ok (.iconst 4, 1) := by decide +kernel
theorem dX10_drought_77 : decode cX10_drought 77 = .ok (.iaload, 1) := by decide +kernel
theorem dX10_drought_78 : decode cX10_drought 78 = .ok (.iconst 1, 1) := by decide +kernel
theorem dX10_drought_79 : decode cX10_drought 79 = .ok (.iload 4, 2) := by decide +kernel
theorem dX10_drought_81 : decode cX10_drought 81 = .ok (.ishl, 1) := by decide +kernel
theorem dX10_drought_82 : decode cX10_drought 82 = .ok (.ior, 1) := by decide +kernel
theorem dX10_drought_83 : decode cX10_drought 83 = .ok (.invokevirtual 130, 3) := by decide +kernel
theorem dX10_drought_86 : decode cX10_drought 86 = .ok (.iadd, 1) := by decide +kernel
theorem dX10_drought_87 : decode cX10_drought 87 = .ok (.istore 5, 2) := by decide +kernel
theorem dX10_drought_89 : decode cX10_drought 89 = .ok (.iinc 6 1, 3) := by decide +kernel
theorem dX10_drought_92 : decode cX10_drought 92 = .ok (.goto (-55), 3) := by decide +kernel
theorem dX10_drought_95 : decode cX10_drought 95 = .ok (.aload_n 0, 1) := by decide +kernel
theorem dX10_drought_96 : decode cX10_drought 96 = .ok (.getfield 7, 3) := by decide +kernel
theorem dX10_drought_99 : decode cX10_drought 99 = .ok (.iconst 4, 1) := by decide +kernel
theorem dX10_drought_100 : decode cX10_drought 100 = .ok (.iaload, 1) := by decide +kernel
theorem dX10_drought_101 : decode cX10_drought 101 = .ok (.iload 4, 2) := by decide +kernel
theorem dX10_drought_103 : decode cX10_drought 103 = .ok (.invokestatic 123, 3) := by decide +kernel
theorem dX10_drought_106 : decode cX10_drought 106 = .ok (.ifCond .ne 19, 3) := by decide +kernel
theorem dX10_drought_109 : decode cX10_drought 109 = .ok (.iload_n 2, 1) := by decide +kernel
theorem dX10_drought_110 : decode cX10_drought 110 = .ok (.ifCond .lt 9, 3) := by decide +kernel
theorem dX10_drought_113 : decode cX10_drought 113 = .ok (.iload 5, 2) := by decide +kernel
theorem dX10_drought_115 : decode cX10_drought 115 = .ok (.iload_n 3, 1) := by decide +kernel
theorem dX10_drought_116 : decode cX10_drought 116 = .ok (.if_icmp .ge 9, 3) := by decide +kernel
theorem dX10_drought_119 : decode cX10_drought 119 = .ok (.iload 4, 2) := by decide +kernel
theorem dX10_drought_121 : decode cX10_drought 121 = .ok (.istore_n 2, 1) := by decide +kernel
theorem dX10_drought_122 : decode cX10_drought 122 = .ok (.iload 5, 2) := by decide +kernel
theorem dX10_drought_124 : decode cX10_drought 124 = .ok (.istore_n 3, 1) := by decide +kernel
theorem dX10_drought_125 : decode cX10_drought 125 = .ok (.iinc 4 1, 3) := by decide +kernel
theorem dX10_drought_128 : decode cX10_drought 128 = .ok (.goto (-104), 3) := by decide +kernel
theorem dX10_drought_131 : decode cX10_drought 131 = .ok (.iload_n 2, 1) := by decide +kernel
theorem dX10_drought_132 : decode cX10_drought 132 = .ok (.ireturn, 1) := by decide +kernel
theorem dX10_counted_0 : decode cX10_counted 0 = .ok (.aload_n 0, 1) := by decide +kernel
theorem dX10_counted_1 : decode cX10_counted 1 = .ok (.iload_n 1, 1) := by decide +kernel
theorem dX10_counted_2 : decode cX10_counted 2 = .ok (.invokevirtual 141, 3) := by decide +kernel
theorem dX10_counted_5 : decode cX10_counted 5 = .ok (.ifCond .eq 23, 3) := by decide +kernel
theorem dX10_counted_8 : decode cX10_counted 8 = .ok (.iload_n 2, 1) := by decide +kernel
theorem dX10_counted_9 : decode cX10_counted 9 = .ok (.iconst 0, 1) := by decide +kernel
theorem dX10_counted_10 : decode cX10_counted 10 = .ok (.bipush 60, 2) := by decide +kernel
theorem dX10_counted_12 : decode cX10_counted 12 = .ok (.invokestatic 50, 3) := by decide +kernel
theorem dX10_counted_15 : decode cX10_counted 15 = .ok (.ifCond .eq 13, 3) := by decide +kernel
theorem dX10_counted_18 : decode cX10_counted 18 = .ok (.iload_n 3, 1) := by decide +kernel
theorem dX10_counted_19 : decode cX10_counted 19 = .ok (.iconst 0, 1) := by decide +kernel
theorem dX10_counted_20 : decode cX10_counted 20 = .ok (.bipush 60, 2) := by decide +kernel
theorem dX10_counted_22 : decode cX10_counted 22 = .ok (.invokestatic 50, 3) := by decide +kernel
theorem dX10_counted_25 : decode cX10_counted 25 = .ok (.ifCond .ne 10, 3) := by decide +kernel
theorem dX10_counted_28 : decode cX10_counted 28 = .ok (.aload_n 0, 1) := by decide +kernel
theorem dX10_counted_29 : decode cX10_counted 29 = .ok (.bipush (-2), 2) := by decide +kernel
theorem dX10_counted_31 : decode cX10_counted 31 = .ok (.invokevirtual 54, 3) := by decide +kernel
theorem dX10_counted_34 : decode cX10_counted 34 = .ok (.ireturn, 1) := by decide +kernel
theorem dX10_counted_35 : decode cX10_counted 35 = .ok (.aload_n 0, 1) := by decide +kernel
theorem dX10_counted_36 : decode cX10_counted 36 = .ok (.getfield 7, 3) := by decide +kernel
theorem dX10_counted_39 : decode cX10_counted 39 = .ok (.iconst 5, 1) := by decide +kernel
theorem dX10_counted_40 : decode cX10_counted 40 = .ok (.iaload, 1) := by decide +kernel
theorem dX10_counted_41 : decode cX10_counted 41 = .ok (.bipush 8, 2) := by decide +kernel
theorem dX10_counted_43 : decode cX10_counted 43 = .ok (.if_icmp .ne 10, 3) := by decide +kernel
theorem dX10_counted_46 : decode cX10_counted 46 = .ok (.aload_n 0, 1) := by decide +kernel
theorem dX10_counted_47 : decode cX10_counted 47 = .ok (.bipush (-4), 2) := by decide +kernel
theorem dX10_counted_49 : decode cX10_counted 49 = .ok (.invokevirtual 54, 3) := by decide +kernel
theorem dX10_counted_52 : decode cX10_counted 52 = .ok (.ireturn, 1) := by decide +kernel
theorem dX10_counted_53 : decode cX10_counted 53 = .ok (.bipush 39, 2) := by decide +kernel
theorem dX10_counted_55 : decode cX10_counted 55 = .ok (.iconst 3, 1) := by decide +kernel
theorem dX10_counted_56 : decode cX10_counted 56 = .ok (.aload_n 0, 1) := by decide +kernel
theorem dX10_counted_57 : decode cX10_counted 57 = .ok (.getfield 7, 3) := by decide +kernel
theorem dX10_counted_60 : decode cX10_counted 60 = .ok (.iconst 5, 1) := by decide +kernel
theorem dX10_counted_61 : decode cX10_counted 61 = .ok (.iaload, 1) := by decide +kernel
theorem dX10_counted_62 : decode cX10_counted 62 = .ok (.imul, 1) := by decide +kernel
theorem dX10_counted_63 : decode cX10_counted 63 = .ok (.iadd, 1) := by decide +kernel
theorem dX10_counted_64 : decode cX10_counted 64 = .ok (.istore 4, 2) := by decide +kernel
theorem dX10_counted_66 : decode cX10_counted 66 = .ok (.aload_n 0, 1) := by decide +kernel
theorem dX10_counted_67 : decode cX10_counted 67 = .ok (.getfield 7, 3) := by decide +kernel
theorem dX10_counted_70 : decode cX10_counted 70 = .ok (.iload 4, 2) := by decide +kernel
theorem dX10_counted_72 : decode cX10_counted 72 = .ok (.iload_n 1, 1) := by decide +kernel
theorem dX10_counted_73 : decode cX10_counted 73 = .ok (.iastore, 1) := by decide +kernel
theorem dX10_counted_74 : decode cX10_counted 74 = .ok (.aload_n 0, 1) := by decide +kernel
theorem dX10_counted_75 : decode cX10_counted 75 = .ok (.getfield 7, 3) := by decide +kernel
theorem dX10_counted_78 : decode cX10_counted 78 = .ok (.iload 4, 2) := by decide +kernel
theorem dX10_counted_80 : decode cX10_counted 80 = .ok (.iconst 1, 1) := by decide +kernel
theorem dX10_counted_81 : decode cX10_counted 81 = .ok (.iadd, 1) := by decide +kernel
theorem dX10_counted_82 : decode cX10_counted 82 = .ok (.iload_n 2, 1) := by decide +kernel
theorem dX10_counted_83 : decode cX10_counted 83 = .ok (.iastore, 1) := by decide +kernel
theorem dX10_counted_84 : decode cX10_counted 84 = .ok (.aload_n 0, 1) := by decide +kernel
theorem dX10_counted_85 : decode cX10_counted 85 = .ok (.getfield 7, 3) := by decide +kernel
theorem dX10_counted_88 : decode cX10_counted 88 = .ok (.iload 4, 2) := by decide +kernel
theorem dX10_counted_90 : decode cX10_counted 90 = .ok (.iconst 2, 1) := by decide +kernel
theorem dX10_counted_91 : decode cX10_counted 91 = .ok (.iadd, 1) := by decide +kernel
theorem dX10_counted_92 : decode cX10_counted 92 = .ok (.iload_n 3, 1) := by decide +kernel
theorem dX10_counted_93 : decode cX10_counted 93 = .ok (.iastore, 1) := by decide +kernel
theorem dX10_counted_94 : decode cX10_counted 94 = .ok (.aload_n 0, 1) := by decide +kernel
theorem dX10_counted_95 : decode cX10_counted 95 = .ok (.getfield 7, 3) := by decide +kernel
theorem dX10_counted_98 : decode cX10_counted 98 = .ok (.iconst 5, 1) := by decide +kernel
theorem dX10_counted_99 : decode cX10_counted 99 = .ok (.dup2, 1) := by decide +kernel
theorem dX10_counted_100 : decode cX10_counted 100 = .ok (.iaload, 1) := by decide +kernel
theorem dX10_counted_101 : decode cX10_counted 101 = .ok (.iconst 1, 1) := by decide +kernel
theorem dX10_counted_102 : decode cX10_counted 102 = .ok (.iadd, 1) := by decide +kernel
theorem dX10_counted_103 : decode cX10_counted 103 = .ok (.iastore, 1) := by decide +kernel
theorem dX10_counted_104 : decode cX10_counted 104 = .ok (.aload_n 0, 1) := by decide +kernel
theorem dX10_counted_105 : decode cX10_counted 105 = .ok (.getfield 7, 3) := by decide +kernel
theorem dX10_counted_108 : decode cX10_counted 108 = .ok (.iconst 5, 1) := by decide +kernel
theorem dX10_counted_109 : decode cX10_counted 109 = .ok (.iaload, 1) := by decide +kernel
theorem dX10_counted_110 : decode cX10_counted 110 = .ok (.ireturn, 1) := by decide +kernel
theorem dX10_forget_0 : decode cX10_forget 0 = .ok (.aload_n 0, 1) := by decide +kernel
theorem dX10_forget_1 : decode cX10_forget 1 = .ok (.getfield 7, 3) := by decide +kernel
theorem dX10_forget_4 : decode cX10_forget 4 = .ok (.iconst 5, 1) := by decide +kernel
theorem dX10_forget_5 : decode cX10_forget 5 = .ok (.iaload, 1) := by decide +kernel
theorem dX10_forget_6 : decode cX10_forget 6 = .ok (.istore_n 1, 1) := by decide +kernel
theorem dX10_forget_7 : decode cX10_forget 7 = .ok (.aload_n 0, 1) := by decide +kernel
theorem dX10_forget_8 : decode cX10_forget 8 = .ok (.getfield 7, 3) := by decide +kernel
theorem dX10_forget_11 : decode cX10_forget 11 = .ok (.iconst 5, 1) := by decide +kernel
theorem dX10_forget_12 : decode cX10_forget 12 = .ok (.iconst 0, 1) := by decide +kernel
theorem dX10_forget_13 : decode cX10_forget 13 = .ok (.iastore, 1) := by decide +kernel
theorem dX10_forget_14 : decode cX10_forget 14 = .ok (.iload_n 1, 1) := by decide +kernel
theorem dX10_forget_15 : decode cX10_forget 15 = .ok (.ireturn, 1) := by decide +kernel
theorem dX10_kindsOf_0 : decode cX10_kindsOf 0 = .ok (.iconst 0, 1) := by decide +kernel
theorem dX10_kindsOf_1 : decode cX10_kindsOf 1 = .ok (.istore_n 2, 1) := by decide +kernel
theorem dX10_kindsOf_2 : decode cX10_kindsOf 2 = .ok (.iconst 0, 1) := by decide +kernel
theorem dX10_kindsOf_3 : decode cX10_kindsOf 3 = .ok (.istore_n 3, 1) := by decide +kernel
theorem dX10_kindsOf_4 : decode cX10_kindsOf 4 = .ok (.iload_n 3, 1) := by decide +kernel
theorem dX10_kindsOf_5 : decode cX10_kindsOf 5 = .ok (.bipush 6, 2) := by decide +kernel
theorem dX10_kindsOf_7 : decode cX10_kindsOf 7 = .ok (.if_icmp .ge 120, 3) := by decide +kernel
theorem dX10_kindsOf_10 : decode cX10_kindsOf 10 = .ok (.iconst 1, 1) := by decide +kernel
theorem dX10_kindsOf_11 : decode cX10_kindsOf 11 = .ok (.istore 4, 2) := by decide +kernel
theorem dX10_kindsOf_13 : decode cX10_kindsOf 13 = .ok (.iconst 0, 1) := by decide +kernel
theorem dX10_kindsOf_14 : decode cX10_kindsOf 14 = .ok (.istore 5, 2) := by decide +kernel
theorem dX10_kindsOf_16 : decode cX10_kindsOf 16 = .ok (.iload 5, 2) := by decide +kernel
theorem dX10_kindsOf_18 : decode cX10_kindsOf 18 = .ok (.aload_n 0, 1) := by decide +kernel
theorem dX10_kindsOf_19 : decode cX10_kindsOf 19 = .ok (.getfield 7, 3) := by decide +kernel
theorem dX10_kindsOf_22 : decode cX10_kindsOf 22 = .ok (.iconst 5, 1) := by decide +kernel
theorem dX10_kindsOf_23 : decode cX10_kindsOf 23 = .ok (.iaload, 1) := by decide +kernel
theorem dX10_kindsOf_24 : decode cX10_kindsOf 24 = .ok (.if_icmp .ge 82, 3) := by decide +kernel
theorem dX10_kindsOf_27 : decode cX10_kindsOf 27 = .ok (.bipush 39, 2) := by decide +kernel
theorem dX10_kindsOf_29 : decode cX10_kindsOf 29 = .ok (.iconst 3, 1) := by decide +kernel
theorem dX10_kindsOf_30 : decode cX10_kindsOf 30 = .ok (.iload 5, 2) := by decide +kernel
theorem dX10_kindsOf_32 : decode cX10_kindsOf 32 = .ok (.imul, 1) := by decide +kernel
theorem dX10_kindsOf_33 : decode cX10_kindsOf 33 = .ok (.iadd, 1) := by decide +kernel
theorem dX10_kindsOf_34 : decode cX10_kindsOf 34 = .ok (.istore 6, 2) := by decide +kernel
theorem dX10_kindsOf_36 : decode cX10_kindsOf 36 = .ok (.iload 4, 2) := by decide +kernel
theorem dX10_kindsOf_38 : decode cX10_kindsOf 38 = .ok (.ifCond .eq 59, 3) := by decide +kernel
theorem dX10_kindsOf_41 : decode cX10_kindsOf 41 = .ok (.aload_n 0, 1) := by decide +kernel
theorem dX10_kindsOf_42 : decode cX10_kindsOf 42 = .ok (.getfield 7, 3) := by decide +kernel
theorem dX10_kindsOf_45 : decode cX10_kindsOf 45 = .ok (.iload 6, 2) := by decide +kernel
theorem dX10_kindsOf_47 : decode cX10_kindsOf 47 = .ok (.iaload, 1) := by decide +kernel
theorem dX10_kindsOf_48 : decode cX10_kindsOf 48 = .ok (.iload_n 1, 1) := by decide +kernel
theorem dX10_kindsOf_49 : decode cX10_kindsOf 49 = .ok (.if_icmp .ne 44, 3) := by decide +kernel
theorem dX10_kindsOf_52 : decode cX10_kindsOf 52 = .ok (.aload_n 0, 1) := by decide +kernel
theorem dX10_kindsOf_53 : decode cX10_kindsOf 53 = .ok (.iload_n 3, 1) := by decide +kernel
theorem dX10_kindsOf_54 : decode cX10_kindsOf 54 = .ok (.aload_n 0, 1) := by decide +kernel
theorem dX10_kindsOf_55 : decode cX10_kindsOf 55 = .ok (.getfield 7, 3) := by decide +kernel
theorem dX10_kindsOf_58 : decode cX10_kindsOf 58 = .ok (.bipush 13, 2) := by decide +kernel
theorem dX10_kindsOf_60 : decode cX10_kindsOf 60 = .ok (.iload_n 1, 1) := by decide +kernel
theorem dX10_kindsOf_61 : decode cX10_kindsOf 61 = .ok (.iadd, 1) := by decide +kernel
theorem dX10_kindsOf_62 : decode cX10_kindsOf 62 = .ok (.iaload, 1) := by decide +kernel
theorem dX10_kindsOf_63 : decode cX10_kindsOf 63 = .ok (.aload_n 0, 1) := by decide +kernel
theorem dX10_kindsOf_64 : decode cX10_kindsOf 64 = .ok (.getfield 7, 3) := by decide +kernel
theorem dX10_kindsOf_67 : decode cX10_kindsOf 67 = .ok (.iload 6, 2) := by decide +kernel
theorem dX10_kindsOf_69 : decode cX10_kindsOf 69 = .ok (.iconst 1, 1) := by decide +kernel
theorem dX10_kindsOf_70 : decode cX10_kindsOf 70 = .ok (.iadd, 1) := by decide +kernel
theorem dX10_kindsOf_71 : decode cX10_kindsOf 71 = .ok (.iaload, 1) := by decide +kernel
theorem dX10_kindsOf_72 : decode cX10_kindsOf 72 = .ok (.aload_n 0, 1) := by decide +kernel
theorem dX10_kindsOf_73 : decode cX10_kindsOf 73 = .ok (.getfield 7, 3) := by decide +kernel
theorem dX10_kindsOf_76 : decode cX10_kindsOf 76 = .ok (.iconst 4, 1) := by decide +kernel
theorem dX10_kindsOf_77 : decode cX10_kindsOf 77 = .ok (.iaload, 1) := by decide +kernel
theorem dX10_kindsOf_78 : decode cX10_kindsOf 78 = .ok (.invokevirtual 130, 3) := by decide +kernel
theorem dX10_kindsOf_81 : decode cX10_kindsOf 81 = .ok (.aload_n 0, 1) := by decide +kernel
theorem dX10_kindsOf_82 : decode cX10_kindsOf 82 = .ok (.getfield 7, 3) := by decide +kernel
theorem dX10_kindsOf_85 : decode cX10_kindsOf 85 = .ok (.iload 6, 2) := by decide +kernel
theorem dX10_kindsOf_87 : decode cX10_kindsOf 87 = .ok (.iconst 2, 1) := by decide +kernel
theorem dX10_kindsOf_88 : decode cX10_kindsOf 88 = .ok (.iadd, 1) := by decide +kernel
theorem dX10_kindsOf_89 : decode cX10_kindsOf 89 = .ok (.iaload, 1) := by decide +kernel
theorem dX10_kindsOf_90 : decode cX10_kindsOf 90 = .ok (.if_icmp .ne 7, 3) := by decide +kernel
theorem dX10_kindsOf_93 : decode cX10_kindsOf 93 = .ok (.iconst 1, 1) := by decide +kernel
theorem dX10_kindsOf_94 : decode cX10_kindsOf 94 = .ok (.goto 4, 3) := by decide +kernel
theorem dX10_kindsOf_97 : decode cX10_kindsOf 97 = .ok (.iconst 0, 1) := by decide +kernel
theorem dX10_kindsOf_98 : decode cX10_kindsOf 98 = .ok (.istore 4, 2) := by decide +kernel
theorem dX10_kindsOf_100 : decode cX10_kindsOf 100 = .ok (.iinc 5 1, 3) := by decide +kernel
theorem dX10_kindsOf_103 : decode cX10_kindsOf 103 = .ok (.goto (-87), 3) := by decide +kernel
theorem dX10_kindsOf_106 : decode cX10_kindsOf 106 = .ok (.iload_n 2, 1) := by decide +kernel
theorem dX10_kindsOf_107 : decode cX10_kindsOf 107 = .ok (.iload 4, 2) := by decide +kernel
theorem dX10_kindsOf_109 : decode cX10_kindsOf 109 = .ok (.ifCond .eq 9, 3) := by decide +kernel
theorem dX10_kindsOf_112 : decode cX10_kindsOf 112 = .ok (.iconst 1, 1) := by decide +kernel
theorem dX10_kindsOf_113 : decode cX10_kindsOf 113 = .ok (.iload_n 3, 1) := by decide +kernel
theorem dX10_kindsOf_114 : decode cX10_kindsOf 114 = .ok (.ishl, 1) := by decide +kernel
theorem dX10_kindsOf_115 : decode cX10_kindsOf 115 = .ok (.goto 4, 3) := by decide +kernel
theorem dX10_kindsOf_118 : decode cX10_kindsOf 118 = .ok (.iconst 0, 1) := by decide +kernel
theorem dX10_kindsOf_119 : decode cX10_kindsOf 119 = .ok (.ior, 1) := by decide +kernel
theorem dX10_kindsOf_120 : decode cX10_kindsOf 120 = .ok (.istore_n 2, 1) := by decide +kernel
theorem dX10_kindsOf_121 : decode cX10_kindsOf 121 = .ok (.iinc 3 1, 3) := by decide +kernel
theorem dX10_kindsOf_124 : decode cX10_kindsOf 124 = .ok (.goto (-120), 3) := by decide +kernel
theorem dX10_kindsOf_127 : decode cX10_kindsOf 127 = .ok (.iload_n 2, 1) := by decide +kernel
theorem dX10_kindsOf_128 : decode cX10_kindsOf 128 = .ok (.ireturn, 1) := by decide +kernel
theorem dX10_is_0 : decode cX10_is 0 = .ok (.aload_n 0, 1) := by decide +kernel
theorem dX10_is_1 : decode cX10_is 1 = .ok (.iload_n 1, 1) := by decide +kernel
theorem dX10_is_2 : decode cX10_is 2 = .ok (.invokevirtual 141, 3) := by decide +kernel
theorem dX10_is_5 : decode cX10_is 5 = .ok (.ifCond .eq 11, 3) := by decide +kernel
theorem dX10_is_8 : decode cX10_is 8 = .ok (.aload_n 0, 1) := by decide +kernel
theorem dX10_is_9 : decode cX10_is 9 = .ok (.iload_n 1, 1) := by decide +kernel
theorem dX10_is_10 : decode cX10_is 10 = .ok (.invokevirtual 161, 3) := by decide +kernel
theorem dX10_is_13 : decode cX10_is 13 = .ok (.goto 9, 3) := by decide +kernel
theorem dX10_is_16 : decode cX10_is 16 = .ok (.aload_n 0, 1) := by decide +kernel
theorem dX10_is_17 : decode cX10_is 17 = .ok (.bipush (-2), 2) := by decide +kernel
theorem dX10_is_19 : decode cX10_is 19 = .ok (.invokevirtual 54, 3) := by decide +kernel
theorem dX10_is_22 : decode cX10_is 22 = .ok (.ireturn, 1) := by decide +kernel
theorem dX10_next_0 : decode cX10_next 0 = .ok (.aload_n 0, 1) := by decide +kernel
theorem dX10_next_1 : decode cX10_next 1 = .ok (.iload_n 1, 1) := by decide +kernel
theorem dX10_next_2 : decode cX10_next 2 = .ok (.invokevirtual 141, 3) := by decide +kernel
theorem dX10_next_5 : decode cX10_next 5 = .ok (.ifCond .ne 10, 3) := by decide +kernel
theorem dX10_next_8 : decode cX10_next 8 = .ok (.aload_n 0, 1) := by decide +kernel
theorem dX10_next_9 : decode cX10_next 9 = .ok (.bipush (-2), 2) := by decide +kernel
theorem dX10_next_11 : decode cX10_next 11 = .ok (.invokevirtual 54, 3) := by decide +kernel
theorem dX10_next_14 : decode cX10_next 14 = .ok (.ireturn, 1) := by decide +kernel
theorem dX10_next_15 : decode cX10_next 15 = .ok (.aload_n 0, 1) := by decide +kernel
theorem dX10_next_16 : decode cX10_next 16 = .ok (.iload_n 1, 1) := by decide +kernel
theorem dX10_next_17 : decode cX10_next 17 = .ok (.invokevirtual 161, 3) := by decide +kernel
theorem dX10_next_20 : decode cX10_next 20 = .ok (.istore_n 2, 1) := by decide +kernel
theorem dX10_next_21 : decode cX10_next 21 = .ok (.iconst (-1), 1) := by decide +kernel
theorem dX10_next_22 : decode cX10_next 22 = .ok (.istore_n 3, 1) := by decide +kernel
theorem dX10_next_23 : decode cX10_next 23 = .ok (.bipush 9, 2) := by decide +kernel
theorem dX10_next_25 : decode cX10_next 25 = .ok (.istore 4, 2) := by decide +kernel
theorem dX10_next_27 : decode cX10_next 27 = .ok (.iconst 0, 1) := by decide +kernel
theorem dX10_next_28 : decode cX10_next 28 = .ok (.istore 5, 2) := by decide +kernel
theorem dX10_next_30 : decode cX10_next 30 = .ok (.iload 5, 2) := by decide +kernel
theorem dX10_next_32 : decode cX10_next 32 = .ok (.bipush 60, 2) := by decide +kernel
theorem dX10_next_34 : decode cX10_next 34 = .ok (.if_icmp .gt 178, 3) := by decide +kernel
theorem dX10_next_37 : decode cX10_next 37 = .ok (.iload_n 2, 1) := by decide +kernel
theorem dX10_next_38 : decode cX10_next 38 = .ok (.ifCond .eq 174, 3) := by decide +kernel
theorem dX10_next_41 : decode cX10_next 41 = .ok (.iconst 0, 1) := by decide +kernel
theorem dX10_next_42 : decode cX10_next 42 = .ok (.istore 6, 2) := by decide +kernel
theorem dX10_next_44 : decode cX10_next 44 = .ok (.iconst 0, 1) := by decide +kernel
theorem dX10_next_45 : decode cX10_next 45 = .ok (.istore 7, 2) := by decide +kernel
theorem dX10_next_47 : decode cX10_next 47 = .ok (.iload 7, 2) := by decide +kernel
theorem dX10_next_49 : decode cX10_next 49 = .ok (.bipush 6, 2) := by decide +kernel
theorem dX10_next_51 : decode cX10_next 51 = .ok (.if_icmp .ge 125, 3) := by decide +kernel
theorem dX10_next_54 : decode cX10_next 54 = .ok (.iconst 0, 1) := by decide +kernel
theorem dX10_next_55 : decode cX10_next 55 = .ok (.istore 8, 2) := by decide +kernel
theorem dX10_next_57 : decode cX10_next 57 = .ok (.aload_n 0, 1) := by decide +kernel
theorem dX10_next_58 : decode cX10_next 58 = .ok (.iload 7, 2) := by decide +kernel
theorem dX10_next_60 : decode cX10_next 60 = .ok (.aload_n 0, 1) := by decide +kernel
theorem dX10_next_61 : decode cX10_next 61 = .ok (.getfield 7, 3) := by decide +kernel
theorem dX10_next_64 : decode cX10_next 64 = .ok (.bipush 13, 2) := by decide +kernel
theorem dX10_next_66 : decode cX10_next 66 = .ok (.iload_n 1, 1) := by decide +kernel
theorem dX10_next_67 : decode cX10_next 67 = .ok (.iadd, 1) := by decide +kernel
theorem dX10_next_68 : decode cX10_next 68 = .ok (.iaload, 1) := by decide +kernel
theorem dX10_next_69 : decode cX10_next 69 = .ok (.iload 5, 2) := by decide +kernel
theorem dX10_next_71 : decode cX10_next 71 = .ok (.aload_n 0, 1) := by decide +kernel
theorem dX10_next_72 : decode cX10_next 72 = .ok (.getfield 7, 3) := by decide +kernel
theorem dX10_next_75 : decode cX10_next 75 = .ok (.iconst 4, 1) := by decide +kernel
theorem dX10_next_76 : decode cX10_next 76 = .ok (.iaload, 1) := by decide +kernel
theorem dX10_next_77 : decode cX10_next 77 = .ok (.invokevirtual 130, 3) := by decide +kernel
theorem dX10_next_80 : decode cX10_next 80 = .ok (.istore 9, 2) := by decide +kernel
theorem dX10_next_82 : decode cX10_next 82 = .ok (.iconst 0, 1) := by decide +kernel
theorem dX10_next_83 : decode cX10_next 83 = .ok (.istore 10, 2) := by decide +kernel
theorem dX10_next_85 : decode cX10_next 85 = .ok (.iload 10, 2) := by decide +kernel
theorem dX10_next_87 : decode cX10_next 87 = .ok (.bipush 6, 2) := by decide +kernel
theorem dX10_next_89 : decode cX10_next 89 = .ok (.if_icmp .ge 65, 3) := by decide +kernel
theorem dX10_next_92 : decode cX10_next 92 = .ok (.iload 8, 2) := by decide +kernel
theorem dX10_next_94 : decode cX10_next 94 = .ok (.iload_n 2, 1) := by decide +kernel
theorem dX10_next_95 : decode cX10_next 95 = .ok (.iload 7, 2) := by decide +kernel
theorem dX10_next_97 : decode cX10_next 97 = .ok (.invokestatic 123, 3) := by decide +kernel
theorem dX10_next_100 : decode cX10_next 100 = .ok (.ifCond .eq 44, 3) := by decide +kernel
theorem dX10_next_103 : decode cX10_next 103 = .ok (.iload_n 2, 1) := by decide +kernel
theorem dX10_next_104 : decode cX10_next 104 = .ok (.iload 10, 2) := by decide +kernel
theorem dX10_next_106 : decode cX10_next 106 = .ok (.invokestatic 123, 3) := by decide +kernel
theorem dX10_next_109 : decode cX10_next 109 = .ok (.ifCond .eq 35, 3) := by decide +kernel
theorem dX10_next_112 : decode cX10_next 112 = .ok (.aload_n 0, 1) := by decide +kernel
theorem dX10_next_113 : decode cX10_next 113 = .ok (.iload 10, 2) := by decide +kernel
theorem dX10_next_115 : decode cX10_next 115 = .ok (.aload_n 0, 1) := by decide +kernel
theorem dX10_next_116 : decode cX10_next 116 = .ok (.getfield 7, 3) := by decide +kernel
theorem dX10_next_119 : decode cX10_next 119 = .ok (.bipush 13, 2) := by decide +kernel
theorem dX10_next_121 : decode cX10_next 121 = .ok (.iload_n 1, 1) := by decide +kernel
theorem dX10_next_122 : decode cX10_next 122 = .ok (.iadd, 1) := by decide +kernel
theorem dX10_next_123 : decode cX10_next 123 = .ok (.iaload, 1) := by decide +kernel
theorem dX10_next_124 : decode cX10_next 124 = .ok (.iload 5, 2) := by decide +kernel
theorem dX10_next_126 : decode cX10_next 126 = .ok (.aload_n 0, 1) := by decide +kernel
theorem dX10_next_127 : decode cX10_next 127 = .ok (.getfield 7, 3) := by decide +kernel
theorem dX10_next_130 : decode cX10_next 130 = .ok (.iconst 4, 1) := by decide +kernel
theorem dX10_next_131 : decode cX10_next 131 = .ok (.iaload, 1) := by decide +kernel
theorem dX10_next_132 : decode cX10_next 132 = .ok (.invokevirtual 130, 3) := by decide +kernel
theorem dX10_next_135 : decode cX10_next 135 = .ok (.iload 9, 2) := by decide +kernel
theorem dX10_next_137 : decode cX10_next 137 = .ok (.if_icmp .ne 7, 3) := by decide +kernel
theorem dX10_next_140 : decode cX10_next 140 = .ok (.iconst 1, 1) := by decide +kernel
theorem dX10_next_141 : decode cX10_next 141 = .ok (.goto 4, 3) := by decide +kernel
theorem dX10_next_144 : decode cX10_next 144 = .ok (.iconst 0, 1) := by decide +kernel
theorem dX10_next_145 : decode cX10_next 145 = .ok (.iadd, 1) := by decide +kernel
theorem dX10_next_146 : decode cX10_next 146 = .ok (.istore 8, 2) := by decide +kernel
theorem dX10_next_148 : decode cX10_next 148 = .ok (.iinc 10 1, 3) := by decide +kernel
theorem dX10_next_151 : decode cX10_next 151 = .ok (.goto (-66), 3) := by decide +kernel
theorem dX10_next_154 : decode cX10_next 154 = .ok (.iload 8, 2) := by decide +kernel
theorem dX10_next_156 : decode cX10_next 156 = .ok (.iload 6, 2) := by decide +kernel
theorem dX10_next_158 : decode cX10_next 158 = .ok (.if_icmp .le 8, 3) := by decide +kernel
theorem dX10_next_161 : decode cX10_next 161 = .ok (.iload 8, 2) := by decide +kernel
theorem dX10_next_163 : decode cX10_next 163 = .ok (.goto 5, 3) := by decide +kernel
theorem dX10_next_166 : decode cX10_next 166 = .ok (.iload 6, 2) := by decide +kernel
theorem dX10_next_168 : decode cX10_next 168 = .ok (.istore 6, 2) := by decide +kernel
theorem dX10_next_170 : decode cX10_next 170 = .ok (.iinc 7 1, 3) := by decide +kernel
theorem dX10_next_173 : decode cX10_next 173 = .ok (.goto (-126), 3) := by decide +kernel
theorem dX10_next_176 : decode cX10_next 176 = .ok (.iload 6, 2) := by decide +kernel
theorem dX10_next_178 : decode cX10_next 178 = .ok (.iload 4, 2) := by decide +kernel
theorem dX10_next_180 : decode cX10_next 180 = .ok (.if_icmp .ge 8, 3) := by decide +kernel
theorem dX10_next_183 : decode cX10_next 183 = .ok (.iload 5, 2) := by decide +kernel
theorem dX10_next_185 : decode cX10_next 185 = .ok (.goto 4, 3) := by decide +kernel
theorem dX10_next_188 : decode cX10_next 188 = .ok (.iload_n 3, 1) := by decide +kernel
theorem dX10_next_189 : decode cX10_next 189 = .ok (.istore_n 3, 1) := by decide +kernel
theorem dX10_next_190 : decode cX10_next 190 = .ok (.iload 6, 2) := by decide +kernel
theorem dX10_next_192 : decode cX10_next 192 = .ok (.iload 4, 2) := by decide +kernel
theorem dX10_next_194 : decode cX10_next 194 = .ok (.if_icmp .ge 8, 3) := by decide +kernel
theorem dX10_next_197 : decode cX10_next 197 = .ok (.iload 6, 2) := by decide +kernel
theorem dX10_next_199 : decode cX10_next 199 = .ok (.goto 5, 3) := by decide +kernel
theorem dX10_next_202 : decode cX10_next 202 = .ok (.iload 4, 2) := by decide +kernel
theorem dX10_next_204 : decode cX10_next 204 = .ok (.istore 4, 2) := by decide +kernel
theorem dX10_next_206 : decode cX10_next 206 = .ok (.iinc 5 1, 3) := by decide +kernel
theorem dX10_next_209 : decode cX10_next 209 = .ok (.goto (-179), 3) := by decide +kernel
theorem dX10_next_212 : decode cX10_next 212 = .ok (.iload_n 3, 1) := by decide +kernel
theorem dX10_next_213 : decode cX10_next 213 = .ok (.ireturn, 1) := by decide +kernel
theorem dX10_isSo_0 : decode cX10_isSo 0 = .ok (.iconst 1, 1) := by decide +kernel
theorem dX10_isSo_1 : decode cX10_isSo 1 = .ok (.istore_n 2, 1) := by decide +kernel
theorem dX10_isSo_2 : decode cX10_isSo 2 = .ok (.iconst 0, 1) := by decide +kernel
theorem dX10_isSo_3 : decode cX10_isSo 3 = .ok (.istore_n 3, 1) := by decide +kernel
theorem dX10_isSo_4 : decode cX10_isSo 4 = .ok (.iload_n 3, 1) := by decide +kernel
theorem dX10_isSo_5 : decode cX10_isSo 5 = .ok (.aload_n 0, 1) := by decide +kernel
theorem dX10_isSo_6 : decode cX10_isSo 6 = .ok (.getfield 7, 3) := by decide +kernel
theorem dX10_isSo_9 : decode cX10_isSo 9 = .ok (.iconst 5, 1) := by decide +kernel
theorem dX10_isSo_10 : decode cX10_isSo 10 = .ok (.iaload, 1) := by decide +kernel
theorem dX10_isSo_11 : decode cX10_isSo 11 = .ok (.if_icmp .ge 160, 3) := by decide +kernel
theorem dX10_isSo_14 : decode cX10_isSo 14 = .ok (.bipush 39, 2) := by decide +kernel
theorem dX10_isSo_16 : decode cX10_isSo 16 = .ok (.iconst 3, 1) := by decide +kernel
theorem dX10_isSo_17 : decode cX10_isSo 17 = .ok (.iload_n 3, 1) := by decide +kernel
theorem dX10_isSo_18 : decode cX10_isSo 18 = .ok (.imul, 1) := by decide +kernel
theorem dX10_isSo_19 : decode cX10_isSo 19 = .ok (.iadd, 1) := by decide +kernel
theorem dX10_isSo_20 : decode cX10_isSo 20 = .ok (.istore 4, 2) := by decide +kernel
theorem dX10_isSo_22 : decode cX10_isSo 22 = .ok (.aload_n 0, 1) := by decide +kernel
theorem dX10_isSo_23 : decode cX10_isSo 23 = .ok (.getfield 7, 3) := by decide +kernel
theorem dX10_isSo_26 : decode cX10_isSo 26 = .ok (.iload 4, 2) := by decide +kernel
theorem dX10_isSo_28 : decode cX10_isSo 28 = .ok (.iaload, 1) := by decide +kernel
theorem dX10_isSo_29 : decode cX10_isSo 29 = .ok (.istore 5, 2) := by decide +kernel
theorem dX10_isSo_31 : decode cX10_isSo 31 = .ok (.aload_n 0, 1) := by decide +kernel
theorem dX10_isSo_32 : decode cX10_isSo 32 = .ok (.getfield 33, 3) := by decide +kernel
theorem dX10_isSo_35 : decode cX10_isSo 35 = .ok (.iload 5, 2) := by decide +kernel
theorem dX10_isSo_37 : decode cX10_isSo 37 = .ok (.iaload, 1) := by decide +kernel
theorem dX10_isSo_38 : decode cX10_isSo 38 = .ok (.istore 6, 2) := by decide +kernel
theorem dX10_isSo_40 : decode cX10_isSo 40 = .ok (.iconst 0, 1) := by decide +kernel
theorem dX10_isSo_41 : decode cX10_isSo 41 = .ok (.istore 7, 2) := by decide +kernel
theorem dX10_isSo_43 : decode cX10_isSo 43 = .ok (.iload 7, 2) := by decide +kernel
theorem dX10_isSo_45 : decode cX10_isSo 45 = .ok (.aload_n 0, 1) := by decide +kernel
theorem dX10_isSo_46 : decode cX10_isSo 46 = .ok (.getfield 7, 3) := by decide +kernel
theorem dX10_isSo_49 : decode cX10_isSo 49 = .ok (.iload 4, 2) := by decide +kernel
theorem dX10_isSo_51 : decode cX10_isSo 51 = .ok (.iconst 1, 1) := by decide +kernel
theorem dX10_isSo_52 : decode cX10_isSo 52 = .ok (.iadd, 1) := by decide +kernel
theorem dX10_isSo_53 : decode cX10_isSo 53 = .ok (.iaload, 1) := by decide +kernel
theorem dX10_isSo_54 : decode cX10_isSo 54 = .ok (.if_icmp .ge 87, 3) := by decide +kernel
theorem dX10_isSo_57 : decode cX10_isSo 57 = .ok (.iload 5, 2) := by decide +kernel
theorem dX10_isSo_59 : decode cX10_isSo 59 = .ok (.iload_n 1, 1) := by decide +kernel
theorem dX10_isSo_60 : decode cX10_isSo 60 = .ok (.if_icmp .ne 22, 3) := by decide +kernel
theorem dX10_isSo_63 : decode cX10_isSo 63 = .ok (.iload 6, 2) := by decide +kernel
theorem dX10_isSo_65 : decode cX10_isSo 65 = .ok (.ifCond .le 17, 3) := by decide +kernel
theorem dX10_isSo_68 : decode cX10_isSo 68 = .ok (.iload 6, 2) := by decide +kernel
theorem dX10_isSo_70 : decode cX10_isSo 70 = .ok (.bipush 60, 2) := by decide +kernel
theorem dX10_isSo_72 : decode cX10_isSo 72 = .ok (.if_icmp .ge 10, 3) := by decide +kernel
theorem dX10_isSo_75 : decode cX10_isSo 75 = .ok (.iload 6, 2) := by decide +kernel
theorem dX10_isSo_77 : decode cX10_isSo 77 = .ok (.iconst 1, 1) := by decide +kernel
theorem dX10_isSo_78 : decode cX10_isSo 78 = .ok (.iadd, 1) := by decide +kernel
theorem dX10_isSo_79 : decode cX10_isSo 79 = .ok (.goto 5, 3) := by decide +kernel
theorem dX10_isSo_82 : decode cX10_isSo 82 = .ok (.iload 6, 2) := by decide +kernel
theorem dX10_isSo_84 : decode cX10_isSo 84 = .ok (.istore 6, 2) := by decide +kernel
theorem dX10_isSo_86 : decode cX10_isSo 86 = .ok (.aload_n 0, 1) := by decide +kernel
theorem dX10_isSo_87 : decode cX10_isSo 87 = .ok (.aload_n 0, 1) := by decide +kernel
theorem dX10_isSo_88 : decode cX10_isSo 88 = .ok (.getfield 7, 3) := by decide +kernel
theorem dX10_isSo_91 : decode cX10_isSo 91 = .ok (.bipush 7, 2) := by decide +kernel
theorem dX10_isSo_93 : decode cX10_isSo 93 = .ok (.iload 5, 2) := by decide +kernel
theorem dX10_isSo_95 : decode cX10_isSo 95 = .ok (.iadd, 1) := by decide +kernel
theorem dX10_isSo_96 : decode cX10_isSo 96 = .ok (.iaload, 1) := by decide +kernel
theorem dX10_isSo_97 : decode cX10_isSo 97 = .ok (.aload_n 0, 1) := by decide +kernel
theorem dX10_isSo_98 : decode cX10_isSo 98 = .ok (.getfield 7, 3) := by decide +kernel
theorem dX10_isSo_101 : decode cX10_isSo 101 = .ok (.iconst 2, 1) := by decide +kernel
theorem dX10_isSo_102 : decode cX10_isSo 102 = .ok (.iaload, 1) := by decide +kernel
theorem dX10_isSo_103 : decode cX10_isSo 103 = .ok (.iload 7, 2) := by decide +kernel
theorem dX10_isSo_105 : decode cX10_isSo 105 = .ok (.iadd, 1) := by decide +kernel
theorem dX10_isSo_106 : decode cX10_isSo 106 = .ok (.aload_n 0, 1) := by decide +kernel
theorem dX10_isSo_107 : decode cX10_isSo 107 = .ok (.getfield 7, 3) := by decide +kernel
theorem dX10_isSo_110 : decode cX10_isSo 110 = .ok (.iconst 4, 1) := by decide +kernel
theorem dX10_isSo_111 : decode cX10_isSo 111 = .ok (.iaload, 1) := by decide +kernel
theorem dX10_isSo_112 : decode cX10_isSo 112 = .ok (.invokevirtual 126, 3) := by decide +kernel
theorem dX10_isSo_115 : decode cX10_isSo 115 = .ok (.istore 8, 2) := by decide +kernel
theorem dX10_isSo_117 : decode cX10_isSo 117 = .ok (.iload 6, 2) := by decide +kernel
theorem dX10_isSo_119 : decode cX10_isSo 119 = .ok (.iload 8, 2) := by decide +kernel
theorem dX10_isSo_121 : decode cX10_isSo 121 = .ok (.if_icmp .le 11, 3) := by decide +kernel
theorem dX10_isSo_124 : decode cX10_isSo 124 = .ok (.iload 6, 2) := by decide +kernel
theorem dX10_isSo_126 : decode cX10_isSo 126 = .ok (.iload 8, 2) := by decide +kernel
theorem dX10_isSo_128 : decode cX10_isSo 128 = .ok (.isub, 1) := by decide +kernel
theorem dX10_isSo_129 : decode cX10_isSo 129 = .ok (.goto 4, 3) := by decide +kernel
theorem dX10_isSo_132 : decode cX10_isSo 132 = .ok (.iconst 0, 1) := by decide +kernel
theorem dX10_isSo_133 : decode cX10_isSo 133 = .ok (.istore 6, 2) := by decide +kernel
theorem dX10_isSo_135 : decode cX10_isSo 135 = .ok (.iinc 7 1, 3) := by decide +kernel
theorem dX10_isSo_138 : decode cX10_isSo 138 = .ok (.goto (-95), 3) := by decide +kernel
theorem dX10_isSo_141 : decode cX10_isSo 141 = .ok (.iload_n 2, 1) := by decide +kernel
theorem dX10_isSo_142 : decode cX10_isSo 142 = .ok (.ifCond .eq 21, 3) := by decide +kernel
theorem dX10_isSo_145 : decode cX10_isSo 145 = .ok (.iload 6, 2) := by decide +kernel
theorem dX10_isSo_147 : decode cX10_isSo 147 = .ok (.aload_n 0, 1) := by decide +kernel
theorem dX10_isSo_148 : decode cX10_isSo 148 = .ok (.getfield 7, 3) := by decide +kernel
theorem dX10_isSo_151 : decode cX10_isSo 151 = .ok (.iload 4, 2) := by decide +kernel
theorem dX10_isSo_153 : decode cX10_isSo 153 = .ok (.iconst 2, 1) := by decide +kernel
theorem dX10_isSo_154 : decode cX10_isSo 154 = .ok (.iadd, 1) := by decide +kernel
theorem dX10_isSo_155 : decode cX10_isSo 155 = .ok (.iaload, 1) := by decide +kernel
theorem dX10_isSo_156 : decode cX10_isSo 156 = .ok (.if_icmp .ne 7, 3) := by decide +kernel
theorem dX10_isSo_159 : decode cX10_isSo 159 = .ok (.iconst 1, 1) := by decide +kernel
theorem dX10_isSo_160 : decode cX10_isSo 160 = .ok (.goto 4, 3) := by decide +kernel
theorem dX10_isSo_163 : decode cX10_isSo 163 = .ok (.iconst 0, 1) := by decide +kernel
theorem dX10_isSo_164 : decode cX10_isSo 164 = .ok (.istore_n 2, 1) := by decide +kernel
theorem dX10_isSo_165 : decode cX10_isSo 165 = .ok (.iinc 3 1, 3) := by decide +kernel
theorem dX10_isSo_168 : decode cX10_isSo 168 = .ok (.goto (-164), 3) := by decide +kernel
theorem dX10_isSo_171 : decode cX10_isSo 171 = .ok (.iload_n 2, 1) := by decide +kernel
theorem dX10_isSo_172 : decode cX10_isSo 172 = .ok (.ireturn, 1) := by decide +kernel
theorem dX10_layLoaves_0 : decode cX10_layLoaves 0 = .ok (.iconst 0, 1) := by decide +kernel
theorem dX10_layLoaves_1 : decode cX10_layLoaves 1 = .ok (.istore_n 1, 1) := by decide +kernel
theorem dX10_layLoaves_2 : decode cX10_layLoaves 2 = .ok (.iload_n 1, 1) := by decide +kernel
theorem dX10_layLoaves_3 : decode cX10_layLoaves 3 = .ok (.bipush 6, 2) := by decide +kernel
theorem dX10_layLoaves_5 : decode cX10_layLoaves 5 = .ok (.if_icmp .ge 24, 3) := by decide +kernel
theorem dX10_layLoaves_8 : decode cX10_layLoaves 8 = .ok (.aload_n 0, 1) := by decide +kernel
theorem dX10_layLoaves_9 : decode cX10_layLoaves 9 = .ok (.getfield 33, 3) := by decide +kernel
theorem dX10_layLoaves_12 : decode cX10_layLoaves 12 = .ok (.iload_n 1, 1) := by decide +kernel
theorem dX10_layLoaves_13 : decode cX10_layLoaves 13 = .ok (.aload_n 0, 1) := by decide +kernel
theorem dX10_layLoaves_14 : decode cX10_layLoaves 14 = .ok (.getfield 7, 3) := by decide +kernel
theorem dX10_layLoaves_17 : decode cX10_layLoaves 17 = .ok (.bipush 13, 2) := by decide +kernel
theorem dX10_layLoaves_19 : decode cX10_layLoaves 19 = .ok (.iload_n 1, 1) := by decide +kernel
theorem dX10_layLoaves_20 : decode cX10_layLoaves 20 = .ok (.iadd, 1) := by decide +kernel
theorem dX10_layLoaves_21 : decode cX10_layLoaves 21 = .ok (.iaload, 1) := by decide +kernel
theorem dX10_layLoaves_22 : decode cX10_layLoaves 22 = .ok (.iastore, 1) := by decide +kernel
theorem dX10_layLoaves_23 : decode cX10_layLoaves 23 = .ok (.iinc 1 1, 3) := by decide +kernel
theorem dX10_layLoaves_26 : decode cX10_layLoaves 26 = .ok (.goto (-24), 3) := by decide +kernel
theorem dX10_layLoaves_29 : decode cX10_layLoaves 29 = .ok (.return_, 1) := by decide +kernel
theorem dX10_swapped_0 : decode cX10_swapped 0 = .ok (.iload_n 1, 1) := by decide +kernel
theorem dX10_swapped_1 : decode cX10_swapped 1 = .ok (.iconst (-1), 1) := by decide +kernel
theorem dX10_swapped_2 : decode cX10_swapped 2 = .ok (.if_icmp .ge 10, 3) := by decide +kernel
theorem dX10_swapped_5 : decode cX10_swapped 5 = .ok (.aload_n 0, 1) := by decide +kernel
theorem dX10_swapped_6 : decode cX10_swapped 6 = .ok (.bipush (-10), 2) := by decide +kernel
theorem dX10_swapped_8 : decode cX10_swapped 8 = .ok (.invokevirtual 54, 3) := by decide +kernel
theorem dX10_swapped_11 : decode cX10_swapped 11 = .ok (.ireturn, 1) := by decide +kernel
theorem dX10_swapped_12 : decode cX10_swapped 12 = .ok (.iconst 0, 1) := by decide +kernel
theorem dX10_swapped_13 : decode cX10_swapped 13 = .ok (.istore_n 2, 1) := by decide +kernel
theorem dX10_swapped_14 : decode cX10_swapped 14 = .ok (.iconst 0, 1) := by decide +kernel
theorem dX10_swapped_15 : decode cX10_swapped 15 = .ok (.istore_n 3, 1) := by decide +kernel
theorem dX10_swapped_16 : decode cX10_swapped 16 = .ok (.iload_n 3, 1) := by decide +kernel
theorem dX10_swapped_17 : decode cX10_swapped 17 = .ok (.aload_n 0, 1) := by decide +kernel
theorem dX10_swapped_18 : decode cX10_swapped 18 = .ok (.getfield 7, 3) := by decide +kernel
theorem dX10_swapped_21 : decode cX10_swapped 21 = .ok (.iconst 0, 1) := by decide +kernel
theorem dX10_swapped_22 : decode cX10_swapped 22 = .ok (.iaload, 1) := by decide +kernel
theorem dX10_swapped_23 : decode cX10_swapped 23 = .ok (.if_icmp .ge 91, 3) := by decide +kernel
theorem dX10_swapped_26 : decode cX10_swapped 26 = .ok (.iload_n 3, 1) := by decide +kernel
theorem dX10_swapped_27 : decode cX10_swapped 27 = .ok (.iconst 1, 1) := by decide +kernel
theorem dX10_swapped_28 : decode cX10_swapped 28 = .ok (.iadd, 1) := by decide +kernel
theorem dX10_swapped_29 : decode cX10_swapped 29 = .ok (.istore 4, 2) := by decide +kernel
theorem dX10_swapped_31 : decode cX10_swapped 31 = .ok (.iload 4, 2) := by decide +kernel
theorem dX10_swapped_33 : decode cX10_swapped 33 = .ok (.aload_n 0, 1) := by decide +kernel
theorem dX10_swapped_34 : decode cX10_swapped 34 = .ok (.getfield 7, 3) := by decide +kernel
theorem dX10_swapped_37 : decode cX10_swapped 37 = .ok (.iconst 0, 1) := by decide +kernel
theorem dX10_swapped_38 : decode cX10_swapped 38 = .ok (.iaload, 1) := by decide +kernel
theorem dX10_swapped_39 : decode cX10_swapped 39 = .ok (.if_icmp .ge 69, 3) := by decide +kernel
theorem dX10_swapped_42 : decode cX10_swapped 42 = .ok (.aload_n 0, 1) := by decide +kernel
theorem dX10_swapped_43 : decode cX10_swapped 43 = .ok (.invokevirtual 164, 3) := by decide +kernel
theorem dX10_swapped_46 : decode cX10_swapped 46 = .ok (.aload_n 0, 1) := by decide +kernel
theorem dX10_swapped_47 : decode cX10_swapped 47 = .ok (.getfield 33, 3) := by decide +kernel
theorem dX10_swapped_50 : decode cX10_swapped 50 = .ok (.iload_n 3, 1) := by decide +kernel
theorem dX10_swapped_51 : decode cX10_swapped 51 = .ok (.aload_n 0, 1) := by decide +kernel
theorem dX10_swapped_52 : decode cX10_swapped 52 = .ok (.getfield 7, 3) := by decide +kernel
theorem dX10_swapped_55 : decode cX10_swapped 55 = .ok (.bipush 13, 2) := by decide +kernel
theorem dX10_swapped_57 : decode cX10_swapped 57 = .ok (.iload 4, 2) := by decide +kernel
theorem dX10_swapped_59 : decode cX10_swapped 59 = .ok (.iadd, 1) := by decide +kernel
theorem dX10_swapped_60 : decode cX10_swapped 60 = .ok (.iaload, 1) := by decide +kernel
theorem dX10_swapped_61 : decode cX10_swapped 61 = .ok (.iastore, 1) := by decide +kernel
theorem dX10_swapped_62 : decode cX10_swapped 62 = .ok (.aload_n 0, 1) := by decide +kernel
theorem dX10_swapped_63 : decode cX10_swapped 63 = .ok (.getfield 33, 3) := by decide +kernel
theorem dX10_swapped_66 : decode cX10_swapped 66 = .ok (.iload 4, 2) := by decide +kernel
theorem dX10_swapped_68 : decode cX10_swapped 68 = .ok (.aload_n 0, 1) := by decide +kernel
theorem dX10_swapped_69 : decode cX10_swapped 69 = .ok (.getfield 7, 3) := by decide +kernel
theorem dX10_swapped_72 : decode cX10_swapped 72 = .ok (.bipush 13, 2) := by decide +kernel
theorem dX10_swapped_74 : decode cX10_swapped 74 = .ok (.iload_n 3, 1) := by decide +kernel
theorem dX10_swapped_75 : decode cX10_swapped 75 = .ok (.iadd, 1) := by decide +kernel
theorem dX10_swapped_76 : decode cX10_swapped 76 = .ok (.iaload, 1) := by decide +kernel
theorem dX10_swapped_77 : decode cX10_swapped 77 = .ok (.iastore, 1) := by decide +kernel
theorem dX10_swapped_78 : decode cX10_swapped 78 = .ok (.aload_n 0, 1) := by decide +kernel
theorem dX10_swapped_79 : decode cX10_swapped 79 = .ok (.iconst (-1), 1) := by decide +kernel
theorem dX10_swapped_80 : decode cX10_swapped 80 = .ok (.invokevirtual 167, 3) := by decide +kernel
theorem dX10_swapped_83 : decode cX10_swapped 83 = .ok (.ifCond .eq 19, 3) := by decide +kernel
theorem dX10_swapped_86 : decode cX10_swapped 86 = .ok (.aload_n 0, 1) := by decide +kernel
theorem dX10_swapped_87 : decode cX10_swapped 87 = .ok (.getfield 36, 3) := by decide +kernel
theorem dX10_swapped_90 : decode cX10_swapped 90 = .ok (.iload_n 2, 1) := by decide +kernel
theorem dX10_swapped_91 : decode cX10_swapped 91 = .ok (.bipush 10, 2) := by decide +kernel
theorem dX10_swapped_93 : decode cX10_swapped 93 = .ok (.iload_n 3, 1) := by decide +kernel
theorem dX10_swapped_94 : decode cX10_swapped 94 = .ok (.imul, 1) := by decide +kernel
theorem dX10_swapped_95 : decode cX10_swapped 95 = .ok (.iload 4, 2) := by decide +kernel
theorem dX10_swapped_97 : decode cX10_swapped 97 = .ok (.iadd, 1) := by decide +kernel
theorem dX10_swapped_98 : decode cX10_swapped 98 = .ok (.iastore, 1) := by decide +kernel
theorem dX10_swapped_99 : decode cX10_swapped 99 = .ok (.iinc 2 1, 3) := by decide +kernel
theorem dX10_swapped_102 : decode cX10_swapped 102 = .ok (.iinc 4 1, 3) := by decide +kernel
theorem dX10_swapped_105 : decode cX10_swapped 105 = .ok (.goto (-74), 3) := by decide +kernel
theorem dX10_swapped_108 : decode cX10_swapped 108 = .ok (.iinc 3 1, 3) := by decide +kernel
theorem dX10_swapped_111 : decode cX10_swapped 111 = .ok (.goto (-95), 3) := by decide +kernel
theorem dX10_swapped_114 : decode cX10_swapped 114 = .ok (.iload_n 1, 1) := by decide +kernel
theorem dX10_swapped_115 : decode cX10_swapped 115 = .ok (.iconst (-1), 1) := by decide +kernel
theorem dX10_swapped_116 : decode cX10_swapped 116 = .ok (.if_icmp .ne 7, 3) := by decide +kernel
theorem dX10_swapped_119 : decode cX10_swapped 119 = .ok (.iload_n 2, 1) := by decide +kernel
theorem dX10_swapped_120 : decode cX10_swapped 120 = .ok (.goto 19, 3) := by decide +kernel
theorem dX10_swapped_123 : decode cX10_swapped 123 = .ok (.iload_n 1, 1) := by decide +kernel
theorem dX10_swapped_124 : decode cX10_swapped 124 = .ok (.iload_n 2, 1) := by decide +kernel
theorem dX10_swapped_125 : decode cX10_swapped 125 = .ok (.if_icmp .ge 12, 3) := by decide +kernel
theorem dX10_swapped_128 : decode cX10_swapped 128 = .ok (.aload_n 0, 1) := by decide +kernel
theorem dX10_swapped_129 : decode cX10_swapped 129 = .ok (.getfield 36, 3) := by decide +kernel
theorem dX10_swapped_132 : decode cX10_swapped 132 = .ok (.iload_n 1, 1) := by decide +kernel
theorem dX10_swapped_133 : decode cX10_swapped 133 = .ok (.iaload, 1) := by decide +kernel
theorem dX10_swapped_134 : decode cX10_swapped 134 = .ok (.goto 5, 3) := by decide +kernel
theorem dX10_swapped_137 : decode cX10_swapped 137 = .ok (.bipush (-5), 2) := by decide +kernel
theorem dX10_swapped_139 : decode cX10_swapped 139 = .ok (.ireturn, 1) := by decide +kernel
theorem dX10_back_0 : decode cX10_back 0 = .ok (.iconst 0, 1) := by decide +kernel
theorem dX10_back_1 : decode cX10_back 1 = .ok (.istore_n 1, 1) := by decide +kernel
theorem dX10_back_2 : decode cX10_back 2 = .ok (.aload_n 0, 1) := by decide +kernel
theorem dX10_back_3 : decode cX10_back 3 = .ok (.invokevirtual 164, 3) := by decide +kernel
theorem dX10_back_6 : decode cX10_back 6 = .ok (.iconst 0, 1) := by decide +kernel
theorem dX10_back_7 : decode cX10_back 7 = .ok (.istore_n 2, 1) := by decide +kernel
theorem dX10_back_8 : decode cX10_back 8 = .ok (.iload_n 2, 1) := by decide +kernel
theorem dX10_back_9 : decode cX10_back 9 = .ok (.aload_n 0, 1) := by decide +kernel
theorem dX10_back_10 : decode cX10_back 10 = .ok (.getfield 7, 3) := by decide +kernel
theorem dX10_back_13 : decode cX10_back 13 = .ok (.iconst 0, 1) := by decide +kernel
theorem dX10_back_14 : decode cX10_back 14 = .ok (.iaload, 1) := by decide +kernel
theorem dX10_back_15 : decode cX10_back 15 = .ok (.if_icmp .ge 27, 3) := by decide +kernel
theorem dX10_back_18 : decode cX10_back 18 = .ok (.iload_n 1, 1) := by decide +kernel
theorem dX10_back_19 : decode cX10_back 19 = .ok (.aload_n 0, 1) := by decide +kernel
theorem dX10_back_20 : decode cX10_back 20 = .ok (.iload_n 2, 1) := by decide +kernel
theorem dX10_back_21 : decode cX10_back 21 = .ok (.invokevirtual 167, 3) := by decide +kernel
theorem dX10_back_24 : decode cX10_back 24 = .ok (.ifCond .eq 9, 3) := by decide +kernel
theorem dX10_back_27 : decode cX10_back 27 = .ok (.iconst 1, 1) := by decide +kernel
theorem dX10_back_28 : decode cX10_back 28 = .ok (.iload_n 2, 1) := by decide +kernel
theorem dX10_back_29 : decode cX10_back 29 = .ok (.ishl, 1) := by decide +kernel
theorem dX10_back_30 : decode cX10_back 30 = .ok (.goto 4, 3) := by decide +kernel
theorem dX10_back_33 : decode cX10_back 33 = .ok (.iconst 0, 1) := by decide +kernel
theorem dX10_back_34 : decode cX10_back 34 = .ok (.ior, 1) := by decide +kernel
theorem dX10_back_35 : decode cX10_back 35 = .ok (.istore_n 1, 1) := by decide +kernel
theorem dX10_back_36 : decode cX10_back 36 = .ok (.iinc 2 1, 3) := by decide +kernel
theorem dX10_back_39 : decode cX10_back 39 = .ok (.goto (-31), 3) := by decide +kernel
theorem dX10_back_42 : decode cX10_back 42 = .ok (.iload_n 1, 1) := by decide +kernel
theorem dX10_back_43 : decode cX10_back 43 = .ok (.ireturn, 1) := by decide +kernel
theorem dX10_crusts_0 : decode cX10_crusts 0 = .ok (.aload_n 0, 1) := by decide +kernel
theorem dX10_crusts_1 : decode cX10_crusts 1 = .ok (.iload_n 1, 1) := by decide +kernel
theorem dX10_crusts_2 : decode cX10_crusts 2 = .ok (.invokevirtual 141, 3) := by decide +kernel
theorem dX10_crusts_5 : decode cX10_crusts 5 = .ok (.ifCond .eq 12, 3) := by decide +kernel
theorem dX10_crusts_8 : decode cX10_crusts 8 = .ok (.iload_n 2, 1) := by decide +kernel
theorem dX10_crusts_9 : decode cX10_crusts 9 = .ok (.iconst 0, 1) := by decide +kernel
theorem dX10_crusts_10 : decode cX10_crusts 10 = .ok (.iconst 1, 1) := by decide +kernel
theorem dX10_crusts_11 : decode cX10_crusts 11 = .ok (.invokestatic 50, 3) := by decide +kernel
theorem dX10_crusts_14 : decode cX10_crusts 14 = .ok (.ifCond .ne 10, 3) := by decide +kernel
theorem dX10_crusts_17 : decode cX10_crusts 17 = .ok (.aload_n 0, 1) := by decide +kernel
theorem dX10_crusts_18 : decode cX10_crusts 18 = .ok (.bipush (-2), 2) := by decide +kernel
theorem dX10_crusts_20 : decode cX10_crusts 20 = .ok (.invokevirtual 54, 3) := by decide +kernel
theorem dX10_crusts_23 : decode cX10_crusts 23 = .ok (.ireturn, 1) := by decide +kernel
theorem dX10_crusts_24 : decode cX10_crusts 24 = .ok (.aload_n 0, 1) := by decide +kernel
theorem dX10_crusts_25 : decode cX10_crusts 25 = .ok (.getfield 7, 3) := by decide +kernel
theorem dX10_crusts_28 : decode cX10_crusts 28 = .ok (.bipush 13, 2) := by decide +kernel
theorem dX10_crusts_30 : decode cX10_crusts 30 = .ok (.iload_n 1, 1) := by decide +kernel
theorem dX10_crusts_31 : decode cX10_crusts 31 = .ok (.iadd, 1) := by decide +kernel
theorem dX10_crusts_32 : decode cX10_crusts 32 = .ok (.iaload, 1) := by decide +kernel
theorem dX10_crusts_33 : decode cX10_crusts 33 = .ok (.istore_n 3, 1) := by decide +kernel
theorem dX10_crusts_34 : decode cX10_crusts 34 = .ok (.iload_n 3, 1) := by decide +kernel
theorem dX10_crusts_35 : decode cX10_crusts 35 = .ok (.iconst 4, 1) := by decide +kernel
theorem dX10_crusts_36 : decode cX10_crusts 36 = .ok (.irem, 1) := by decide +kernel
theorem dX10_crusts_37 : decode cX10_crusts 37 = .ok (.iconst 1, 1) := by decide +kernel
theorem dX10_crusts_38 : decode cX10_crusts 38 = .ok (.if_icmp .eq 7, 3) := by decide +kernel
theorem dX10_crusts_41 : decode cX10_crusts 41 = .ok (.iconst 1, 1) := by decide +kernel
theorem dX10_crusts_42 : decode cX10_crusts 42 = .ok (.goto 4, 3) := by decide +kernel
theorem dX10_crusts_45 : decode cX10_crusts 45 = .ok (.iconst 0, 1) := by decide +kernel
theorem dX10_crusts_46 : decode cX10_crusts 46 = .ok (.istore 4, 2) := by decide +kernel
theorem dX10_crusts_48 : decode cX10_crusts 48 = .ok (.iload_n 2, 1) := by decide +kernel
theorem dX10_crusts_49 : decode cX10_crusts 49 = .ok (.ifCond .ne 16, 3) := by decide +kernel
theorem dX10_crusts_52 : decode cX10_crusts 52 = .ok (.iload 4, 2) := by decide +kernel
theorem dX10_crusts_54 : decode cX10_crusts 54 = .ok (.ifCond .eq 7, 3) := by decide +kernel
theorem dX10_crusts_57 : decode cX10_crusts 57 = .ok (.iconst 1, 1) := by decide +kernel
theorem dX10_crusts_58 : decode cX10_crusts 58 = .ok (.goto 25, 3) := by decide +kernel
theorem dX10_crusts_61 : decode cX10_crusts 61 = .ok (.iconst 0, 1) := by decide +kernel
theorem dX10_crusts_62 : decode cX10_crusts 62 = .ok (.goto 21, 3) := by decide +kernel
theorem dX10_crusts_65 : decode cX10_crusts 65 = .ok (.iload_n 3, 1) := by decide +kernel
theorem dX10_crusts_66 : decode cX10_crusts 66 = .ok (.ifCond .eq 8, 3) := by decide +kernel
theorem dX10_crusts_69 : decode cX10_crusts 69 = .ok (.iload 4, 2) := by decide +kernel
theorem dX10_crusts_71 : decode cX10_crusts 71 = .ok (.ifCond .ne 7, 3) := by decide +kernel
theorem dX10_crusts_74 : decode cX10_crusts 74 = .ok (.iconst 0, 1) := by decide +kernel
theorem dX10_crusts_75 : decode cX10_crusts 75 = .ok (.goto 8, 3) := by decide +kernel
theorem dX10_crusts_78 : decode cX10_crusts 78 = .ok (.iload_n 3, 1) := by decide +kernel
theorem dX10_crusts_79 : decode cX10_crusts 79 = .ok (.iconst 3, 1) := by decide +kernel
theorem dX10_crusts_80 : decode cX10_crusts 80 = .ok (.iadd, 1) := by decide +kernel
theorem dX10_crusts_81 : decode cX10_crusts 81 = .ok (.iconst 4, 1) := by decide +kernel
theorem dX10_crusts_82 : decode cX10_crusts 82 = .ok (.irem, 1) := by decide +kernel
theorem dX10_crusts_83 : decode cX10_crusts 83 = .ok (.ireturn, 1) := by decide +kernel
theorem dX10_tell_0 : decode cX10_tell 0 = .ok (.lload_n 1, 1) := by decide +kernel
theorem dX10_tell_1 : decode cX10_tell 1 = .ok (.lstore 5, 2) := by decide +kernel
theorem dX10_tell_3 : decode cX10_tell 3 = .ok (.lload_n 3, 1) := by decide +kernel
theorem dX10_tell_4 : decode cX10_tell 4 = .ok (.lstore 7, 2) := by decide +kernel
theorem dX10_tell_6 : decode cX10_tell 6 = .ok (.lload 7, 2) := by decide +kernel
theorem dX10_tell_8 : decode cX10_tell 8 = .ok (.lconst 0, 1) := by decide +kernel
theorem dX10_tell_9 : decode cX10_tell 9 = .ok (.lcmp, 1) := by decide +kernel
theorem dX10_tell_10 : decode cX10_tell 10 = .ok (.ifCond .le 21, 3) := by decide +kernel
theorem dX10_tell_13 : decode cX10_tell 13 = .ok (.lload 5, 2) := by decide +kernel
theorem dX10_tell_15 : decode cX10_tell 15 = .ok (.lload 7, 2) := by decide +kernel
theorem dX10_tell_17 : decode cX10_tell 17 = .ok (.lrem, 1) := by decide +kernel
theorem dX10_tell_18 : decode cX10_tell 18 = .ok (.lstore 9, 2) := by decide +kernel
theorem dX10_tell_20 : decode cX10_tell 20 = .ok (.lload 7, 2) := by decide +kernel
theorem dX10_tell_22 : decode cX10_tell 22 = .ok (.lstore 5, 2) := by decide +kernel
theorem dX10_tell_24 : decode cX10_tell 24 = .ok (.lload 9, 2) := by decide +kernel
theorem dX10_tell_26 : decode cX10_tell 26 = .ok (.lstore 7, 2) := by decide +kernel
theorem dX10_tell_28 : decode cX10_tell 28 = .ok (.goto (-22), 3) := by decide +kernel
theorem dX10_tell_31 : decode cX10_tell 31 = .ok (.aload_n 0, 1) := by decide +kernel
theorem dX10_tell_32 : decode cX10_tell 32 = .ok (.lload_n 1, 1) := by decide +kernel
theorem dX10_tell_33 : decode cX10_tell 33 = .ok (.lload 5, 2) := by decide +kernel
theorem dX10_tell_35 : decode cX10_tell 35 = .ok (.ldiv, 1) := by decide +kernel
theorem dX10_tell_36 : decode cX10_tell 36 = .ok (.putfield 170, 3) := by decide +kernel
theorem dX10_tell_39 : decode cX10_tell 39 = .ok (.aload_n 0, 1) := by decide +kernel
theorem dX10_tell_40 : decode cX10_tell 40 = .ok (.lload_n 3, 1) := by decide +kernel
theorem dX10_tell_41 : decode cX10_tell 41 = .ok (.lload 5, 2) := by decide +kernel
theorem dX10_tell_43 : decode cX10_tell 43 = .ok (.ldiv, 1) := by decide +kernel
theorem dX10_tell_44 : decode cX10_tell 44 = .ok (.putfield 26, 3) := by decide +kernel
theorem dX10_tell_47 : decode cX10_tell 47 = .ok (.return_, 1) := by decide +kernel
theorem dX10_mice_0 : decode cX10_mice 0 = .ok (.aload_n 0, 1) := by decide +kernel
theorem dX10_mice_1 : decode cX10_mice 1 = .ok (.iload_n 1, 1) := by decide +kernel
theorem dX10_mice_2 : decode cX10_mice 2 = .ok (.invokevirtual 141, 3) := by decide +kernel
theorem dX10_mice_5 : decode cX10_mice 5 = .ok (.ifCond .eq 23, 3) := by decide +kernel
theorem dX10_mice_8 : decode cX10_mice 8 = .ok (.iload_n 2, 1) := by decide +kernel
theorem dX10_mice_9 : decode cX10_mice 9 = .ok (.iconst 0, 1) := by decide +kernel
theorem dX10_mice_10 : decode cX10_mice 10 = .ok (.bipush 12, 2) := by decide +kernel
theorem dX10_mice_12 : decode cX10_mice 12 = .ok (.invokestatic 50, 3) := by decide +kernel
theorem dX10_mice_15 : decode cX10_mice 15 = .ok (.ifCond .eq 13, 3) := by decide +kernel
theorem dX10_mice_18 : decode cX10_mice 18 = .ok (.iload_n 3, 1) := by decide +kernel
theorem dX10_mice_19 : decode cX10_mice 19 = .ok (.iconst 0, 1) := by decide +kernel
theorem dX10_mice_20 : decode cX10_mice 20 = .ok (.bipush 10, 2) := by decide +kernel
theorem dX10_mice_22 : decode cX10_mice 22 = .ok (.invokestatic 50, 3) := by decide +kernel
theorem dX10_mice_25 : decode cX10_mice 25 = .ok (.ifCond .ne 10, 3) := by decide +kernel
theorem dX10_mice_28 : decode cX10_mice 28 = .ok (.aload_n 0, 1) := by decide +kernel
theorem dX10_mice_29 : decode cX10_mice 29 = .ok (.bipush (-2), 2) := by decide +kernel
theorem dX10_mice_31 : decode cX10_mice 31 = .ok (.invokevirtual 54, 3) := by decide +kernel
theorem dX10_mice_34 : decode cX10_mice 34 = .ok (.ireturn, 1) := by decide +kernel
theorem dX10_mice_35 : decode cX10_mice 35 = .ok (.iconst 0, 1) := by decide +kernel
theorem dX10_mice_36 : decode cX10_mice 36 = .ok (.istore 4, 2) := by decide +kernel
theorem dX10_mice_38 : decode cX10_mice 38 = .ok (.iload 4, 2) := by decide +kernel
theorem dX10_mice_40 : decode cX10_mice 40 = .ok (.bipush 61, 2) := by decide +kernel
theorem dX10_mice_42 : decode cX10_mice 42 = .ok (.if_icmp .ge 35, 3) := by decide +kernel
theorem dX10_mice_45 : decode cX10_mice 45 = .ok (.aload_n 0, 1) := by decide +kernel
theorem dX10_mice_46 : decode cX10_mice 46 = .ok (.getfield 39, 3) := by decide +kernel
theorem dX10_mice_49 : decode cX10_mice 49 = .ok (.iload 4, 2) := by decide +kernel
theorem dX10_mice_51 : decode cX10_mice 51 = .ok (.iload 4, 2) := by decide +kernel
theorem dX10_mice_53 : decode cX10_mice 53 = .ok (.aload_n 0, 1) := by decide +kernel
theorem dX10_mice_54 : decode cX10_mice 54 = .ok (.getfield 7, 3) := by decide +kernel
theorem dX10_mice_57 : decode cX10_mice 57 = .ok (.bipush 13, 2) := by decide +kernel
theorem dX10_mice_59 : decode cX10_mice 59 = .ok (.iload_n 1, 1) := by decide +kernel
theorem dX10_mice_60 : decode cX10_mice 60 = .ok (.iadd, 1) := by decide +kernel
theorem dX10_mice_61 : decode cX10_mice 61 = .ok (.iaload, 1) := by decide +kernel
theorem dX10_mice_62 : decode cX10_mice 62 = .ok (.if_icmp .ne 7, 3) := by decide +kernel
theorem dX10_mice_65 : decode cX10_mice 65 = .ok (.lconst 1, 1) := by decide +kernel
theorem dX10_mice_66 : decode cX10_mice 66 = .ok (.goto 4, 3) := by decide +kernel
theorem dX10_mice_69 : decode cX10_mice 69 = .ok (.lconst 0, 1) := by decide +kernel
theorem dX10_mice_70 : decode cX10_mice 70 = .ok (.lastore, 1) := by decide +kernel
theorem dX10_mice_71 : decode cX10_mice 71 = .ok (.iinc 4 1, 3) := by decide +kernel
theorem dX10_mice_74 : decode cX10_mice 74 = .ok (.goto (-36), 3) := by decide +kernel
theorem dX10_mice_77 : decode cX10_mice 77 = .ok (.lconst 1, 1) := by decide +kernel
theorem dX10_mice_78 : decode cX10_mice 78 = .ok (.lstore 4, 2) := by decide +kernel
theorem dX10_mice_80 : decode cX10_mice 80 = .ok (.iconst 0, 1) := by decide +kernel
theorem dX10_mice_81 : decode cX10_mice 81 = .ok (.istore 6, 2) := by decide +kernel
theorem dX10_mice_83 : decode cX10_mice 83 = .ok (.iload 6, 2) := by decide +kernel
theorem dX10_mice_85 : decode cX10_mice 85 = .ok (.iload_n 2, 1) := by decide +kernel
theorem dX10_mice_86 : decode cX10_mice 86 = .ok (.if_icmp .ge 189, 3) := by decide +kernel
theorem dX10_mice_89 : decode cX10_mice 89 = .ok (.aload_n 0, 1) := by decide +kernel
theorem dX10_mice_90 : decode cX10_mice 90 = .ok (.aload_n 0, 1) := by decide +kernel
theorem dX10_mice_91 : decode cX10_mice 91 = .ok (.getfield 7, 3) := by decide +kernel
theorem dX10_mice_94 : decode cX10_mice 94 = .ok (.bipush 7, 2) := by decide +kernel
theorem dX10_mice_96 : decode cX10_mice 96 = .ok (.iload_n 1, 1) := by decide +kernel
theorem dX10_mice_97 : decode cX10_mice 97 = .ok (.iadd, 1) := by decide +kernel
theorem dX10_mice_98 : decode cX10_mice 98 = .ok (.iaload, 1) := by decide +kernel
theorem dX10_mice_99 : decode cX10_mice 99 = .ok (.aload_n 0, 1) := by decide +kernel
theorem dX10_mice_100 : decode cX10_mice 100 = .ok (.getfield 7, 3) := by decide +kernel
theorem dX10_mice_103 : decode cX10_mice 103 = .ok (.iconst 2, 1) := by decide +kernel
theorem dX10_mice_104 : decode cX10_mice 104 = .ok (.iaload, 1) := by decide +kernel
theorem dX10_mice_105 : decode cX10_mice 105 = .ok (.iload 6, 2) := by decide +kernel
theorem dX10_mice_107 : decode cX10_mice 107 = .ok (.iadd, 1) := by decide +kernel
theorem dX10_mice_108 : decode cX10_mice 108 = .ok (.aload_n 0, 1) := by decide +kernel
theorem dX10_mice_109 : decode cX10_mice 109 = .ok (.getfield 7, 3) := by decide +kernel
theorem dX10_mice_112 : decode cX10_mice 112 = .ok (.iconst 4, 1) := by decide +kernel
theorem dX10_mice_113 : decode cX10_mice 113 = .ok (.iaload, 1) := by decide +kernel
theorem dX10_mice_114 : decode cX10_mice 114 = .ok (.invokevirtual 126, 3) := by decide +kernel
theorem dX10_mice_117 : decode cX10_mice 117 = .ok (.istore 7, 2) := by decide +kernel
theorem dX10_mice_119 : decode cX10_mice 119 = .ok (.iconst 0, 1) := by decide +kernel
theorem dX10_mice_120 : decode cX10_mice 120 = .ok (.istore 8, 2) := by decide +kernel
theorem dX10_mice_122 : decode cX10_mice 122 = .ok (.iload 8, 2) := by decide +kernel
theorem dX10_mice_124 : decode cX10_mice 124 = .ok (.bipush 61, 2) := by decide +kernel
theorem dX10_mice_126 : decode cX10_mice 126 = .ok (.if_icmp .ge 17, 3) := by decide +kernel
theorem dX10_mice_129 : decode cX10_mice 129 = .ok (.aload_n 0, 1) := by decide +kernel
theorem dX10_mice_130 : decode cX10_mice 130 = .ok (.getfield 43, 3) := by decide +kernel
theorem dX10_mice_133 : decode cX10_mice 133 = .ok (.iload 8, 2) := by decide +kernel
theorem dX10_mice_135 : decode cX10_mice 135 = .ok (.lconst 0, 1) := by decide +kernel
theorem dX10_mice_136 : decode cX10_mice 136 = .ok (.lastore, 1) := by decide +kernel
theorem dX10_mice_137 : decode cX10_mice 137 = .ok (.iinc 8 1, 3) := by decide +kernel
theorem dX10_mice_140 : decode cX10_mice 140 = .ok (.goto (-18), 3) := by decide +kernel
theorem dX10_mice_143 : decode cX10_mice 143 = .ok (.iconst 0, 1) := by decide +kernel
theorem dX10_mice_144 : decode cX10_mice 144 = .ok (.istore 8, 2) := by decide +kernel
theorem dX10_mice_146 : decode cX10_mice 146 = .ok (.iload 8, 2) := by decide +kernel
theorem dX10_mice_148 : decode cX10_mice 148 = .ok (.bipush 61, 2) := by decide +kernel
theorem dX10_mice_150 : decode cX10_mice 150 = .ok (.if_icmp .ge 81, 3) := by decide +kernel
theorem dX10_mice_153 : decode cX10_mice 153 = .ok (.iload 8, 2) := by decide +kernel
theorem dX10_mice_155 : decode cX10_mice 155 = .ok (.iload 7, 2) := by decide +kernel
theorem dX10_mice_157 : decode cX10_mice 157 = .ok (.if_icmp .le 11, 3) := by decide +kernel
theorem dX10_mice_160 : decode cX10_mice 160 = .ok (.iload 8, 2) := by decide +kernel
theorem dX10_mice_162 : decode cX10_mice 162 = .ok (.iload 7, 2) := by decide +kernel
theorem dX10_mice_164 : decode cX10_mice 164 = .ok (.isub, 1) := by decide +kernel
theorem dX10_mice_165 : decode cX10_mice 165 = .ok (.goto 4, 3) := by decide +kernel
theorem dX10_mice_168 : decode cX10_mice 168 = .ok (.iconst 0, 1) := by decide +kernel
theorem dX10_mice_169 : decode cX10_mice 169 = .ok (.istore 9, 2) := by decide +kernel
theorem dX10_mice_171 : decode cX10_mice 171 = .ok (.aload_n 0, 1) := by decide +kernel
theorem dX10_mice_172 : decode cX10_mice 172 = .ok (.getfield 43, 3) := by decide +kernel
theorem dX10_mice_175 : decode cX10_mice 175 = .ok (.iload 9, 2) := by decide +kernel
theorem dX10_mice_177 : decode cX10_mice 177 = .ok (.dup2, 1) := by decide +kernel
theorem dX10_mice_178 : decode cX10_mice 178 = .ok (.laload, 1) := by decide +kernel
theorem dX10_mice_179 : decode cX10_mice 179 = .ok (.bipush 10, 2) := by decide +kernel
theorem dX10_mice_181 : decode cX10_mice 181 = .ok (.iload_n 3, 1) := by decide +kernel
theorem dX10_mice_182 : decode cX10_mice 182 = .ok (.isub, 1) := by decide +kernel
theorem dX10_mice_183 : decode cX10_mice 183 = .ok (.i2l, 1) := by decide +kernel
theorem dX10_mice_184 : decode cX10_mice 184 = .ok (.aload_n 0, 1) := by decide +kernel
theorem dX10_mice_185 : decode cX10_mice 185 = .ok (.getfield 39, 3) := by decide +kernel
theorem dX10_mice_188 : decode cX10_mice 188 = .ok (.iload 8, 2) := by decide +kernel
theorem dX10_mice_190 : decode cX10_mice 190 = .ok (.laload, 1) := by decide +kernel
theorem dX10_mice_191 : decode cX10_mice 191 = .ok (.lmul, 1) := by decide +kernel
theorem dX10_mice_192 : decode cX10_mice 192 = .ok (.ladd, 1) := by decide +kernel
theorem dX10_mice_193 : decode cX10_mice 193 = .ok (.lastore, 1) := by decide +kernel
theorem dX10_mice_194 : decode cX10_mice 194 = .ok (.aload_n 0, 1) := by decide +kernel
theorem dX10_mice_195 : decode cX10_mice 195 = .ok (.getfield 43, 3) := by decide +kernel
theorem dX10_mice_198 : decode cX10_mice 198 = .ok (.iload 9, 2) := by decide +kernel
theorem dX10_mice_200 : decode cX10_mice 200 = .ok (.ifCond .le 10, 3) := by decide +kernel
theorem dX10_mice_203 : decode cX10_mice 203 = .ok (.iload 9, 2) := by decide +kernel
theorem dX10_mice_205 : decode cX10_mice 205 = .ok (.iconst 1, 1) := by decide +kernel
theorem dX10_mice_206 : decode cX10_mice 206 = .ok (.isub, 1) := by decide +kernel
theorem dX10_mice_207 : decode cX10_mice 207 = .ok (.goto 4, 3) := by decide +kernel
theorem dX10_mice_210 : decode cX10_mice 210 = .ok (.iconst 0, 1) := by decide +kernel
theorem dX10_mice_211 : decode cX10_mice 211 = .ok (.dup2, 1) := by decide +kernel
theorem dX10_mice_212 : decode cX10_mice 212 = .ok (.laload, 1) := by decide +kernel
theorem dX10_mice_213 : decode cX10_mice 213 = .ok (.iload_n 3, 1) := by decide +kernel
theorem dX10_mice_214 : decode cX10_mice 214 = .ok (.i2l, 1) := by decide +kernel
theorem dX10_mice_215 : decode cX10_mice 215 = .ok (.aload_n 0, 1) := by decide +kernel
theorem dX10_mice_216 : decode cX10_mice 216 = .ok (.getfield 39, 3) := by decide +kernel
theorem dX10_mice_219 : decode cX10_mice 219 = .ok (.iload 8, 2) := by decide +kernel
theorem dX10_mice_221 : decode cX10_mice 221 = .ok (.laload, 1) := by decide +kernel
theorem dX10_mice_222 : decode cX10_mice 222 = .ok (.lmul, 1) := by decide +kernel
theorem dX10_mice_223 : decode cX10_mice 223 = .ok (.ladd, 1) := by decide +kernel
theorem dX10_mice_224 : decode cX10_mice 224 = .ok (.lastore, 1) := by decide +kernel
theorem dX10_mice_225 : decode cX10_mice 225 = .ok (.iinc 8 1, 3) := by decide +kernel
theorem dX10_mice_228 : decode cX10_mice 228 = .ok (.goto (-82), 3) := by decide +kernel
theorem dX10_mice_231 : decode cX10_mice 231 = .ok (.iconst 0, 1) := by decide +kernel
theorem dX10_mice_232 : decode cX10_mice 232 = .ok (.istore 8, 2) := by decide +kernel
theorem dX10_mice_234 : decode cX10_mice 234 = .ok (.iload 8, 2) := by decide +kernel
theorem dX10_mice_236 : decode cX10_mice 236 = .ok (.bipush 61, 2) := by decide +kernel
theorem dX10_mice_238 : decode cX10_mice 238 = .ok (.if_icmp .ge 23, 3) := by decide +kernel
theorem dX10_mice_241 : decode cX10_mice 241 = .ok (.aload_n 0, 1) := by decide +kernel
theorem dX10_mice_242 : decode cX10_mice 242 = .ok (.getfield 39, 3) := by decide +kernel
theorem dX10_mice_245 : decode cX10_mice 245 = .ok (.iload 8, 2) := by decide +kernel
theorem dX10_mice_247 : decode cX10_mice 247 = .ok (.aload_n 0, 1) := by decide +kernel
theorem dX10_mice_248 : decode cX10_mice 248 = .ok (.getfield 43, 3) := by decide +kernel
theorem dX10_mice_251 : decode cX10_mice 251 = .ok (.iload 8, 2) := by decide +kernel
theorem dX10_mice_253 : decode cX10_mice 253 = .ok (.laload, 1) := by decide +kernel
theorem dX10_mice_254 : decode cX10_mice 254 = .ok (.lastore, 1) := by decide +kernel
theorem dX10_mice_255 : decode cX10_mice 255 = .ok (.iinc 8 1, 3) := by decide +kernel
theorem dX10_mice_258 : decode cX10_mice 258 = .ok (.goto (-24), 3) := by decide +kernel
theorem dX10_mice_261 : decode cX10_mice 261 = .ok (.lload 4, 2) := by decide +kernel
theorem dX10_mice_263 : decode cX10_mice 263 = .ok (.ldc2_w 173, 3) := by decide +kernel
theorem dX10_mice_266 : decode cX10_mice 266 = .ok (.lmul, 1) := by decide +kernel
theorem dX10_mice_267 : decode cX10_mice 267 = .ok (.lstore 4, 2) := by decide +kernel
theorem dX10_mice_269 : decode cX10_mice 269 = .ok (.iinc 6 1, 3) := by decide +kernel
theorem dX10_mice_272 : decode cX10_mice 272 = .ok (.goto (-189), 3) := by decide +kernel
theorem dX10_mice_275 : decode cX10_mice 275 = .ok (.aload_n 0, 1) := by decide +kernel
theorem dX10_mice_276 : decode cX10_mice 276 = .ok (.lload 4, 2) := by decide +kernel
theorem dX10_mice_278 : decode cX10_mice 278 = .ok (.aload_n 0, 1) := by decide +kernel
theorem dX10_mice_279 : decode cX10_mice 279 = .ok (.getfield 39, 3) := by decide +kernel
theorem dX10_mice_282 : decode cX10_mice 282 = .ok (.iconst 0, 1) := by decide +kernel
theorem dX10_mice_283 : decode cX10_mice 283 = .ok (.laload, 1) := by decide +kernel
theorem dX10_mice_284 : decode cX10_mice 284 = .ok (.lsub, 1) := by decide +kernel
theorem dX10_mice_285 : decode cX10_mice 285 = .ok (.lload 4, 2) := by decide +kernel
theorem dX10_mice_287 : decode cX10_mice 287 = .ok (.invokevirtual 175, 3) := by decide +kernel
theorem dX10_mice_290 : decode cX10_mice 290 = .ok (.iconst 1, 1) := by decide +kernel
theorem dX10_mice_291 : decode cX10_mice 291 = .ok (.ireturn, 1) := by decide +kernel
theorem dX10_years_0 : decode cX10_years 0 = .ok (.iload_n 1, 1) := by decide +kernel
theorem dX10_years_1 : decode cX10_years 1 = .ok (.iconst 0, 1) := by decide +kernel
theorem dX10_years_2 : decode cX10_years 2 = .ok (.ldc 179, 2) := by decide +kernel
theorem dX10_years_4 : decode cX10_years 4 = .ok (.invokestatic 50, 3) := by decide +kernel
theorem dX10_years_7 : decode cX10_years 7 = .ok (.ifCond .eq 23, 3) := by decide +kernel
theorem dX10_years_10 : decode cX10_years 10 = .ok (.iload_n 2, 1) := by decide +kernel
theorem dX10_years_11 : decode cX10_years 11 = .ok (.iconst 0, 1) := by decide +kernel
theorem dX10_years_12 : decode cX10_years 12 = .ok (.bipush 60, 2) := by decide +kernel
theorem dX10_years_14 : decode cX10_years 14 = .ok (.invokestatic 50, 3) := by decide +kernel
theorem dX10_years_17 : decode cX10_years 17 = .ok (.ifCond .eq 13, 3) := by decide +kernel
theorem dX10_years_20 : decode cX10_years 20 = .ok (.iload_n 3, 1) := by decide +kernel
theorem dX10_years_21 : decode cX10_years 21 = .ok (.iconst 0, 1) := by decide +kernel
theorem dX10_years_22 : decode cX10_years 22 = .ok (.bipush 100, 2) := by decide +kernel
theorem dX10_years_24 : decode cX10_years 24 = .ok (.invokestatic 50, 3) := by decide +kernel
theorem dX10_years_27 : decode cX10_years 27 = .ok (.ifCond .ne 10, 3) := by decide +kernel
theorem dX10_years_30 : decode cX10_years 30 = .ok (.aload_n 0, 1) := by decide +kernel
theorem dX10_years_31 : decode cX10_years 31 = .ok (.bipush (-2), 2) := by decide +kernel
theorem dX10_years_33 : decode cX10_years 33 = .ok (.invokevirtual 54, 3) := by decide +kernel
theorem dX10_years_36 : decode cX10_years 36 = .ok (.ireturn, 1) := by decide +kernel
theorem dX10_years_37 : decode cX10_years 37 = .ok (.aload_n 0, 1) := by decide +kernel
theorem dX10_years_38 : decode cX10_years 38 = .ok (.invokevirtual 164, 3) := by decide +kernel
theorem dX10_years_41 : decode cX10_years 41 = .ok (.iload_n 1, 1) := by decide +kernel
theorem dX10_years_42 : decode cX10_years 42 = .ok (.i2l, 1) := by decide +kernel
theorem dX10_years_43 : decode cX10_years 43 = .ok (.lstore 4, 2) := by decide +kernel
theorem dX10_years_45 : decode cX10_years 45 = .ok (.iconst 0, 1) := by decide +kernel
theorem dX10_years_46 : decode cX10_years 46 = .ok (.istore 6, 2) := by decide +kernel
theorem dX10_years_48 : decode cX10_years 48 = .ok (.iload 6, 2) := by decide +kernel
theorem dX10_years_50 : decode cX10_years 50 = .ok (.iload_n 2, 1) := by decide +kernel
theorem dX10_years_51 : decode cX10_years 51 = .ok (.if_icmp .ge 131, 3) := by decide +kernel
theorem dX10_years_54 : decode cX10_years 54 = .ok (.iconst 0, 1) := by decide +kernel
theorem dX10_years_55 : decode cX10_years 55 = .ok (.istore 7, 2) := by decide +kernel
theorem dX10_years_57 : decode cX10_years 57 = .ok (.iload 7, 2) := by decide +kernel
theorem dX10_years_59 : decode cX10_years 59 = .ok (.aload_n 0, 1) := by decide +kernel
theorem dX10_years_60 : decode cX10_years 60 = .ok (.getfield 7, 3) := by decide +kernel
theorem dX10_years_63 : decode cX10_years 63 = .ok (.iconst 0, 1) := by decide +kernel
theorem dX10_years_64 : decode cX10_years 64 = .ok (.iaload, 1) := by decide +kernel
theorem dX10_years_65 : decode cX10_years 65 = .ok (.if_icmp .ge 111, 3) := by decide +kernel
theorem dX10_years_68 : decode cX10_years 68 = .ok (.lload 4, 2) := by decide +kernel
theorem dX10_years_70 : decode cX10_years 70 = .ok (.ldc2_w 180, 3) := by decide +kernel
theorem dX10_years_73 : decode cX10_years 73 = .ok (.lmul, 1) := by decide +kernel
theorem dX10_years_74 : decode cX10_years 74 = .ok (.ldc2_w 182, 3) := by decide +kernel
theorem dX10_years_77 : decode cX10_years 77 = .ok (.ladd, 1) := by decide +kernel
theorem dX10_years_78 : decode cX10_years 78 = .ok (.ldc2_w 184, 3) := by decide +kernel
theorem dX10_years_81 : decode cX10_years 81 = .ok (.lrem, 1) := by decide +kernel
theorem dX10_years_82 : decode cX10_years 82 = .ok (.lstore 4, 2) := by decide +kernel
theorem dX10_years_84 : decode cX10_years 84 = .ok (.aload_n 0, 1) := by decide +kernel
theorem dX10_years_85 : decode cX10_years 85 = .ok (.aload_n 0, 1) := by decide +kernel
theorem dX10_years_86 : decode cX10_years 86 = .ok (.getfield 7, 3) := by decide +kernel
theorem dX10_years_89 : decode cX10_years 89 = .ok (.bipush 7, 2) := by decide +kernel
theorem dX10_years_91 : decode cX10_years 91 = .ok (.iload 7, 2) := by decide +kernel
theorem dX10_years_93 : decode cX10_years 93 = .ok (.iadd, 1) := by decide +kernel
theorem dX10_years_94 : decode cX10_years 94 = .ok (.iaload, 1) := by decide +kernel
theorem dX10_years_95 : decode cX10_years 95 = .ok (.aload_n 0, 1) := by decide +kernel
theorem dX10_years_96 : decode cX10_years 96 = .ok (.getfield 7, 3) := by decide +kernel
theorem dX10_years_99 : decode cX10_years 99 = .ok (.iconst 2, 1) := by decide +kernel
theorem dX10_years_100 : decode cX10_years 100 = .ok (.iaload, 1) := by decide +kernel
theorem dX10_years_101 : decode cX10_years 101 = .ok (.iload 6, 2) := by decide +kernel
theorem dX10_years_103 : decode cX10_years 103 = .ok (.iadd, 1) := by decide +kernel
theorem dX10_years_104 : decode cX10_years 104 = .ok (.aload_n 0, 1) := by decide +kernel
theorem dX10_years_105 : decode cX10_years 105 = .ok (.getfield 7, 3) := by decide +kernel
theorem dX10_years_108 : decode cX10_years 108 = .ok (.iconst 4, 1) := by decide +kernel
theorem dX10_years_109 : decode cX10_years 109 = .ok (.iaload, 1) := by decide +kernel
theorem dX10_years_110 : decode cX10_years 110 = .ok (.invokevirtual 126, 3) := by decide +kernel
theorem dX10_years_113 : decode cX10_years 113 = .ok (.lload 4, 2) := by decide +kernel
theorem dX10_years_115 : decode cX10_years 115 = .ok (.ldc2_w 186, 3) := by decide +kernel
theorem dX10_years_118 : decode cX10_years 118 = .ok (.ldiv, 1) := by decide +kernel
theorem dX10_years_119 : decode cX10_years 119 = .ok (.ldc2_w 188, 3) := by decide +kernel
theorem dX10_years_122 : decode cX10_years 122 = .ok (.lrem, 1) := by decide +kernel
theorem dX10_years_123 : decode cX10_years 123 = .ok (.iload_n 3, 1) := by decide +kernel
theorem dX10_years_124 : decode cX10_years 124 = .ok (.i2l, 1) := by decide +kernel
theorem dX10_years_125 : decode cX10_years 125 = .ok (.lcmp, 1) := by decide +kernel
theorem dX10_years_126 : decode cX10_years 126 = .ok (.ifCond .ge 7, 3) := by decide +kernel
theorem dX10_years_129 : decode cX10_years 129 = .ok (.iconst 1, 1) := by decide +kernel
theorem dX10_years_130 : decode cX10_years 130 = .ok (.goto 4, 3) := by decide +kernel
theorem dX10_years_133 : decode cX10_years 133 = .ok (.iconst 0, 1) := by decide +kernel
theorem dX10_years_134 : decode cX10_years 134 = .ok (.iadd, 1) := by decide +kernel
theorem dX10_years_135 : decode cX10_years 135 = .ok (.istore 8, 2) := by decide +kernel
theorem dX10_years_137 : decode cX10_years 137 = .ok (.aload_n 0, 1) := by decide +kernel
theorem dX10_years_138 : decode cX10_years 138 = .ok (.getfield 33, 3) := by decide +kernel
theorem dX10_years_141 : decode cX10_years 141 = .ok (.iload 7, 2) := by decide +kernel
theorem dX10_years_143 : decode cX10_years 143 = .ok (.aload_n 0, 1) := by decide +kernel
theorem dX10_years_144 : decode cX10_years 144 = .ok (.getfield 33, 3) := by decide +kernel
theorem dX10_years_147 : decode cX10_years 147 = .ok (.iload 7, 2) := by decide +kernel
theorem dX10_years_149 : decode cX10_years 149 = .ok (.iaload, 1) := by decide +kernel
theorem dX10_years_150 : decode cX10_years 150 = .ok (.iload 8, 2) := by decide +kernel
theorem dX10_years_152 : decode cX10_years 152 = .ok (.if_icmp .le 16, 3) := by decide +kernel
theorem dX10_years_155 : decode cX10_years 155 = .ok (.aload_n 0, 1) := by decide +kernel
theorem dX10_years_156 : decode cX10_years 156 = .ok (.getfield 33, 3) := by decide +kernel
theorem dX10_years_159 : decode cX10_years 159 = .ok (.iload 7, 2) := by decide +kernel
theorem dX10_years_161 : decode cX10_years 161 = .ok (.iaload, 1) := by decide +kernel
theorem dX10_years_162 : decode cX10_years 162 = .ok (.iload 8, 2) := by decide +kernel
theorem dX10_years_164 : decode cX10_years 164 = .ok (.isub, 1) := by decide +kernel
theorem dX10_years_165 : decode cX10_years 165 = .ok (.goto 4, 3) := by decide +kernel
theorem dX10_years_168 : decode cX10_years 168 = .ok (.iconst 0, 1) := by decide +kernel
theorem dX10_years_169 : decode cX10_years 169 = .ok (.iastore, 1) := by decide +kernel
theorem dX10_years_170 : decode cX10_years 170 = .ok (.iinc 7 1, 3) := by decide +kernel
theorem dX10_years_173 : decode cX10_years 173 = .ok (.goto (-116), 3) := by decide +kernel
theorem dX10_years_176 : decode cX10_years 176 = .ok (.iinc 6 1, 3) := by decide +kernel
theorem dX10_years_179 : decode cX10_years 179 = .ok (.goto (-131), 3) := by decide +kernel
theorem dX10_years_182 : decode cX10_years 182 = .ok (.iconst 0, 1) := by decide +kernel
theorem dX10_years_183 : decode cX10_years 183 = .ok (.istore 6, 2) := by decide +kernel
theorem dX10_years_185 : decode cX10_years 185 = .ok (.iconst 0, 1) := by decide +kernel
theorem dX10_years_186 : decode cX10_years 186 = .ok (.istore 7, 2) := by decide +kernel
theorem dX10_years_188 : decode cX10_years 188 = .ok (.iload 7, 2) := by decide +kernel
theorem dX10_years_190 : decode cX10_years 190 = .ok (.aload_n 0, 1) := by decide +kernel
theorem dX10_years_191 : decode cX10_years 191 = .ok (.getfield 7, 3) := by decide +kernel
theorem dX10_years_194 : decode cX10_years 194 = .ok (.iconst 0, 1) := by decide +kernel
theorem dX10_years_195 : decode cX10_years 195 = .ok (.iaload, 1) := by decide +kernel
theorem dX10_years_196 : decode cX10_years 196 = .ok (.if_icmp .ge 21, 3) := by decide +kernel
theorem dX10_years_199 : decode cX10_years 199 = .ok (.iload 6, 2) := by decide +kernel
theorem dX10_years_201 : decode cX10_years 201 = .ok (.aload_n 0, 1) := by decide +kernel
theorem dX10_years_202 : decode cX10_years 202 = .ok (.getfield 33, 3) := by decide +kernel
theorem dX10_years_205 : decode cX10_years 205 = .ok (.iload 7, 2) := by decide +kernel
theorem dX10_years_207 : decode cX10_years 207 = .ok (.iaload, 1) := by decide +kernel
theorem dX10_years_208 : decode cX10_years 208 = .ok (.iadd, 1) := by decide +kernel
theorem dX10_years_209 : decode cX10_years 209 = .ok (.istore 6, 2) := by decide +kernel
theorem dX10_years_211 : decode cX10_years 211 = .ok (.iinc 7 1, 3) := by decide +kernel
theorem dX10_years_214 : decode cX10_years 214 = .ok (.goto (-26), 3) := by decide +kernel
theorem dX10_years_217 : decode cX10_years 217 = .ok (.iload 6, 2) := by decide +kernel
theorem dX10_years_219 : decode cX10_years 219 = .ok (.ireturn, 1) := by decide +kernel
theorem dX10_part_0 : decode cX10_part 0 = .ok (.iload_n 1, 1) := by decide +kernel
theorem dX10_part_1 : decode cX10_part 1 = .ok (.ifCond .ne 10, 3) := by decide +kernel
theorem dX10_part_4 : decode cX10_part 4 = .ok (.aload_n 0, 1) := by decide +kernel
theorem dX10_part_5 : decode cX10_part 5 = .ok (.getfield 170, 3) := by decide +kernel
theorem dX10_part_8 : decode cX10_part 8 = .ok (.goto 22, 3) := by decide +kernel
theorem dX10_part_11 : decode cX10_part 11 = .ok (.iload_n 1, 1) := by decide +kernel
theorem dX10_part_12 : decode cX10_part 12 = .ok (.iconst 1, 1) := by decide +kernel
theorem dX10_part_13 : decode cX10_part 13 = .ok (.if_icmp .ne 10, 3) := by decide +kernel
theorem dX10_part_16 : decode cX10_part 16 = .ok (.aload_n 0, 1) := by decide +kernel
theorem dX10_part_17 : decode cX10_part 17 = .ok (.getfield 26, 3) := by decide +kernel
theorem dX10_part_20 : decode cX10_part 20 = .ok (.goto 10, 3) := by decide +kernel
theorem dX10_part_23 : decode cX10_part 23 = .ok (.aload_n 0, 1) := by decide +kernel
theorem dX10_part_24 : decode cX10_part 24 = .ok (.bipush (-2), 2) := by decide +kernel
theorem dX10_part_26 : decode cX10_part 26 = .ok (.invokevirtual 54, 3) := by decide +kernel
theorem dX10_part_29 : decode cX10_part 29 = .ok (.i2l, 1) := by decide +kernel
theorem dX10_part_30 : decode cX10_part 30 = .ok (.lreturn, 1) := by decide +kernel
theorem dX10_image_0 : decode cX10_image 0 = .ok (.iload_n 1, 1) := by decide +kernel
theorem dX10_image_1 : decode cX10_image 1 = .ok (.iconst 0, 1) := by decide +kernel
theorem dX10_image_2 : decode cX10_image 2 = .ok (.iconst 1, 1) := by decide +kernel
theorem dX10_image_3 : decode cX10_image 3 = .ok (.invokestatic 50, 3) := by decide +kernel
theorem dX10_image_6 : decode cX10_image 6 = .ok (.ifCond .ne 10, 3) := by decide +kernel
theorem dX10_image_9 : decode cX10_image 9 = .ok (.aload_n 0, 1) := by decide +kernel
theorem dX10_image_10 : decode cX10_image 10 = .ok (.bipush (-2), 2) := by decide +kernel
theorem dX10_image_12 : decode cX10_image 12 = .ok (.invokevirtual 54, 3) := by decide +kernel
theorem dX10_image_15 : decode cX10_image 15 = .ok (.ireturn, 1) := by decide +kernel
theorem dX10_image_16 : decode cX10_image 16 = .ok (.aload_n 0, 1) := by decide +kernel
theorem dX10_image_17 : decode cX10_image 17 = .ok (.getfield 7, 3) := by decide +kernel
theorem dX10_image_20 : decode cX10_image 20 = .ok (.iconst 0, 1) := by decide +kernel
theorem dX10_image_21 : decode cX10_image 21 = .ok (.aload_n 0, 1) := by decide +kernel
theorem dX10_image_22 : decode cX10_image 22 = .ok (.getfield 16, 3) := by decide +kernel
theorem dX10_image_25 : decode cX10_image 25 = .ok (.sipush 167, 3) := by decide +kernel
theorem dX10_image_28 : decode cX10_image 28 = .ok (.iload_n 1, 1) := by decide +kernel
theorem dX10_image_29 : decode cX10_image 29 = .ok (.imul, 1) := by decide +kernel
theorem dX10_image_30 : decode cX10_image 30 = .ok (.invokestatic 119, 3) := by decide +kernel
theorem dX10_image_33 : decode cX10_image 33 = .ok (.aload_n 0, 1) := by decide +kernel
theorem dX10_image_34 : decode cX10_image 34 = .ok (.getfield 19, 3) := by decide +kernel
theorem dX10_image_37 : decode cX10_image 37 = .ok (.iload_n 1, 1) := by decide +kernel
theorem dX10_image_38 : decode cX10_image 38 = .ok (.iconst 1, 1) := by decide +kernel
theorem dX10_image_39 : decode cX10_image 39 = .ok (.bastore, 1) := by decide +kernel
theorem dX10_image_40 : decode cX10_image 40 = .ok (.iconst 1, 1) := by decide +kernel
theorem dX10_image_41 : decode cX10_image 41 = .ok (.ireturn, 1) := by decide +kernel
theorem dX10_from_0 : decode cX10_from 0 = .ok (.iload_n 1, 1) := by decide +kernel
theorem dX10_from_1 : decode cX10_from 1 = .ok (.iconst 0, 1) := by decide +kernel
theorem dX10_from_2 : decode cX10_from 2 = .ok (.iconst 1, 1) := by decide +kernel
theorem dX10_from_3 : decode cX10_from 3 = .ok (.invokestatic 50, 3) := by decide +kernel
theorem dX10_from_6 : decode cX10_from 6 = .ok (.ifCond .ne 10, 3) := by decide +kernel
theorem dX10_from_9 : decode cX10_from 9 = .ok (.aload_n 0, 1) := by decide +kernel
theorem dX10_from_10 : decode cX10_from 10 = .ok (.bipush (-2), 2) := by decide +kernel
theorem dX10_from_12 : decode cX10_from 12 = .ok (.invokevirtual 54, 3) := by decide +kernel
theorem dX10_from_15 : decode cX10_from 15 = .ok (.ireturn, 1) := by decide +kernel
theorem dX10_from_16 : decode cX10_from 16 = .ok (.aload_n 0, 1) := by decide +kernel
theorem dX10_from_17 : decode cX10_from 17 = .ok (.getfield 19, 3) := by decide +kernel
theorem dX10_from_20 : decode cX10_from 20 = .ok (.iload_n 1, 1) := by decide +kernel
theorem dX10_from_21 : decode cX10_from 21 = .ok (.baload, 1) := by decide +kernel
theorem dX10_from_22 : decode cX10_from 22 = .ok (.ifCond .ne 10, 3) := by decide +kernel
theorem dX10_from_25 : decode cX10_from 25 = .ok (.aload_n 0, 1) := by decide +kernel
theorem dX10_from_26 : decode cX10_from 26 = .ok (.bipush (-3), 2) := by decide +kernel
theorem dX10_from_28 : decode cX10_from 28 = .ok (.invokevirtual 54, 3) := by decide +kernel
theorem dX10_from_31 : decode cX10_from 31 = .ok (.ireturn, 1) := by decide +kernel
theorem dX10_from_32 : decode cX10_from 32 = .ok (.aload_n 0, 1) := by decide +kernel
theorem dX10_from_33 : decode cX10_from 33 = .ok (.getfield 16, 3) := by decide +kernel
theorem dX10_from_36 : decode cX10_from 36 = .ok (.sipush 167, 3) := by decide +kernel
theorem dX10_from_39 : decode cX10_from 39 = .ok (.iload_n 1, 1) := by decide +kernel
theorem dX10_from_40 : decode cX10_from 40 = .ok (.imul, 1) := by decide +kernel
theorem dX10_from_41 : decode cX10_from 41 = .ok (.aload_n 0, 1) := by decide +kernel
theorem dX10_from_42 : decode cX10_from 42 = .ok (.getfield 7, 3) := by decide +kernel
theorem dX10_from_45 : decode cX10_from 45 = .ok (.iconst 0, 1) := by decide +kernel
theorem dX10_from_46 : decode cX10_from 46 = .ok (.invokestatic 119, 3) := by decide +kernel
theorem dX10_from_49 : decode cX10_from 49 = .ok (.iconst 1, 1) := by decide +kernel
theorem dX10_from_50 : decode cX10_from 50 = .ok (.ireturn, 1) := by decide +kernel
theorem dX10_status_0 : decode cX10_status 0 = .ok (.iload_n 1, 1) := by decide +kernel
theorem dX10_status_1 : decode cX10_status 1 = .ok (.iconst 0, 1) := by decide +kernel
theorem dX10_status_2 : decode cX10_status 2 = .ok (.iconst 2, 1) := by decide +kernel
theorem dX10_status_3 : decode cX10_status 3 = .ok (.invokestatic 50, 3) := by decide +kernel
theorem dX10_status_6 : decode cX10_status 6 = .ok (.ifCond .ne 12, 3) := by decide +kernel
theorem dX10_status_9 : decode cX10_status 9 = .ok (.aload_n 0, 1) := by decide +kernel
theorem dX10_status_10 : decode cX10_status 10 = .ok (.bipush (-2), 2) := by decide +kernel
theorem dX10_status_12 : decode cX10_status 12 = .ok (.invokevirtual 54, 3) := by decide +kernel
theorem dX10_status_15 : decode cX10_status 15 = .ok (.pop, 1) := by decide +kernel
theorem dX10_status_16 : decode cX10_status 16 = .ok (.iconst (-1), 1) := by decide +kernel
theorem dX10_status_17 : decode cX10_status 17 = .ok (.ireturn, 1) := by decide +kernel
theorem dX10_status_18 : decode cX10_status 18 = .ok (.aload_n 0, 1) := by decide +kernel
theorem dX10_status_19 : decode cX10_status 19 = .ok (.getfield 30, 3) := by decide +kernel
theorem dX10_status_22 : decode cX10_status 22 = .ok (.iload_n 1, 1) := by decide +kernel
theorem dX10_status_23 : decode cX10_status 23 = .ok (.iaload, 1) := by decide +kernel
theorem dX10_status_24 : decode cX10_status 24 = .ok (.ireturn, 1) := by decide +kernel
theorem dX10_countOf_0 : decode cX10_countOf 0 = .ok (.iconst 0, 1) := by decide +kernel
theorem dX10_countOf_1 : decode cX10_countOf 1 = .ok (.istore_n 2, 1) := by decide +kernel
theorem dX10_countOf_2 : decode cX10_countOf 2 = .ok (.iconst 0, 1) := by decide +kernel
theorem dX10_countOf_3 : decode cX10_countOf 3 = .ok (.istore_n 3, 1) := by decide +kernel
theorem dX10_countOf_4 : decode cX10_countOf 4 = .ok (.iload_n 3, 1) := by decide +kernel
theorem dX10_countOf_5 : decode cX10_countOf 5 = .ok (.aload_n 0, 1) := by decide +kernel
theorem dX10_countOf_6 : decode cX10_countOf 6 = .ok (.getfield 7, 3) := by decide +kernel
theorem dX10_countOf_9 : decode cX10_countOf 9 = .ok (.iconst 0, 1) := by decide +kernel
theorem dX10_countOf_10 : decode cX10_countOf 10 = .ok (.iaload, 1) := by decide +kernel
theorem dX10_countOf_11 : decode cX10_countOf 11 = .ok (.if_icmp .ge 21, 3) := by decide +kernel
theorem dX10_countOf_14 : decode cX10_countOf 14 = .ok (.iload_n 2, 1) := by decide +kernel
theorem dX10_countOf_15 : decode cX10_countOf 15 = .ok (.aload_n 0, 1) := by decide +kernel
theorem dX10_countOf_16 : decode cX10_countOf 16 = .ok (.getfield 7, 3) := by decide +kernel
theorem dX10_countOf_19 : decode cX10_countOf 19 = .ok (.bipush 13, 2) := by decide +kernel
theorem dX10_countOf_21 : decode cX10_countOf 21 = .ok (.iload_n 3, 1) := by decide +kernel
theorem dX10_countOf_22 : decode cX10_countOf 22 = .ok (.iadd, 1) := by decide +kernel
theorem dX10_countOf_23 : decode cX10_countOf 23 = .ok (.iaload, 1) := by decide +kernel
theorem dX10_countOf_24 : decode cX10_countOf 24 = .ok (.iadd, 1) := by decide +kernel
theorem dX10_countOf_25 : decode cX10_countOf 25 = .ok (.istore_n 2, 1) := by decide +kernel
theorem dX10_countOf_26 : decode cX10_countOf 26 = .ok (.iinc 3 1, 3) := by decide +kernel
theorem dX10_countOf_29 : decode cX10_countOf 29 = .ok (.goto (-25), 3) := by decide +kernel
theorem dX10_countOf_32 : decode cX10_countOf 32 = .ok (.iload_n 1, 1) := by decide +kernel
theorem dX10_countOf_33 : decode cX10_countOf 33 = .ok (.tableswitch 77 0 5 #[39, 46, 53, 60, 62, 69], 39) := by decide +kernel
theorem dX10_countOf_72 : decode cX10_countOf 72 = .ok (.aload_n 0, 1) := by decide +kernel
theorem dX10_countOf_73 : decode cX10_countOf 73 = .ok (.getfield 7, 3) := by decide +kernel
theorem dX10_countOf_76 : decode cX10_countOf 76 = .ok (.iconst 0, 1) := by decide +kernel
theorem dX10_countOf_77 : decode cX10_countOf 77 = .ok (.iaload, 1) := by decide +kernel
theorem dX10_countOf_78 : decode cX10_countOf 78 = .ok (.ireturn, 1) := by decide +kernel
theorem dX10_countOf_79 : decode cX10_countOf 79 = .ok (.aload_n 0, 1) := by decide +kernel
theorem dX10_countOf_80 : decode cX10_countOf 80 = .ok (.getfield 7, 3) := by decide +kernel
theorem dX10_countOf_83 : decode cX10_countOf 83 = .ok (.iconst 1, 1) := by decide +kernel
theorem dX10_countOf_84 : decode cX10_countOf 84 = .ok (.iaload, 1) := by decide +kernel
theorem dX10_countOf_85 : decode cX10_countOf 85 = .ok (.ireturn, 1) := by decide +kernel
theorem dX10_countOf_86 : decode cX10_countOf 86 = .ok (.aload_n 0, 1) := by decide +kernel
theorem dX10_countOf_87 : decode cX10_countOf 87 = .ok (.getfield 7, 3) := by decide +kernel
theorem dX10_countOf_90 : decode cX10_countOf 90 = .ok (.iconst 2, 1) := by decide +kernel
theorem dX10_countOf_91 : decode cX10_countOf 91 = .ok (.iaload, 1) := by decide +kernel
theorem dX10_countOf_92 : decode cX10_countOf 92 = .ok (.ireturn, 1) := by decide +kernel
theorem dX10_countOf_93 : decode cX10_countOf 93 = .ok (.iload_n 2, 1) := by decide +kernel
theorem dX10_countOf_94 : decode cX10_countOf 94 = .ok (.ireturn, 1) := by decide +kernel
theorem dX10_countOf_95 : decode cX10_countOf 95 = .ok (.aload_n 0, 1) := by decide +kernel
theorem dX10_countOf_96 : decode cX10_countOf 96 = .ok (.getfield 7, 3) := by decide +kernel
theorem dX10_countOf_99 : decode cX10_countOf 99 = .ok (.iconst 5, 1) := by decide +kernel
theorem dX10_countOf_100 : decode cX10_countOf 100 = .ok (.iaload, 1) := by decide +kernel
theorem dX10_countOf_101 : decode cX10_countOf 101 = .ok (.ireturn, 1) := by decide +kernel
theorem dX10_countOf_102 : decode cX10_countOf 102 = .ok (.aload_n 0, 1) := by decide +kernel
theorem dX10_countOf_103 : decode cX10_countOf 103 = .ok (.getfield 7, 3) := by decide +kernel
theorem dX10_countOf_106 : decode cX10_countOf 106 = .ok (.bipush 6, 2) := by decide +kernel
theorem dX10_countOf_108 : decode cX10_countOf 108 = .ok (.iaload, 1) := by decide +kernel
theorem dX10_countOf_109 : decode cX10_countOf 109 = .ok (.ireturn, 1) := by decide +kernel
theorem dX10_countOf_110 : decode cX10_countOf 110 = .ok (.aload_n 0, 1) := by decide +kernel
theorem dX10_countOf_111 : decode cX10_countOf 111 = .ok (.getfield 66, 3) := by decide +kernel
theorem dX10_countOf_114 : decode cX10_countOf 114 = .ok (.ireturn, 1) := by decide +kernel
theorem dX10_count_0 : decode cX10_count 0 = .ok (.iload_n 1, 1) := by decide +kernel
theorem dX10_count_1 : decode cX10_count 1 = .ok (.iconst 0, 1) := by decide +kernel
theorem dX10_count_2 : decode cX10_count 2 = .ok (.bipush 6, 2) := by decide +kernel
theorem dX10_count_4 : decode cX10_count 4 = .ok (.invokestatic 50, 3) := by decide +kernel
theorem dX10_count_7 : decode cX10_count 7 = .ok (.ifCond .eq 11, 3) := by decide +kernel
theorem dX10_count_10 : decode cX10_count 10 = .ok (.aload_n 0, 1) := by decide +kernel
theorem dX10_count_11 : decode cX10_count 11 = .ok (.iload_n 1, 1) := by decide +kernel
theorem dX10_count_12 : decode cX10_count 12 = .ok (.invokevirtual 190, 3) := by decide +kernel
theorem dX10_count_15 : decode cX10_count 15 = .ok (.goto 9, 3) := by decide +kernel
theorem dX10_count_18 : decode cX10_count 18 = .ok (.aload_n 0, 1) := by decide +kernel
theorem dX10_count_19 : decode cX10_count 19 = .ok (.bipush (-2), 2) := by decide +kernel
theorem dX10_count_21 : decode cX10_count 21 = .ok (.invokevirtual 54, 3) := by decide +kernel
theorem dX10_count_24 : decode cX10_count 24 = .ok (.ireturn, 1) := by decide +kernel
theorem dX10_add_0 : decode cX10_add 0 = .ok (.aload_n 0, 1) := by decide +kernel
theorem dX10_add_1 : decode cX10_add 1 = .ok (.ldc2_w 193, 3) := by decide +kernel
theorem dX10_add_4 : decode cX10_add 4 = .ok (.aload_n 0, 1) := by decide +kernel
theorem dX10_add_5 : decode cX10_add 5 = .ok (.getfield 195, 3) := by decide +kernel
theorem dX10_add_8 : decode cX10_add 8 = .ok (.lmul, 1) := by decide +kernel
theorem dX10_add_9 : decode cX10_add 9 = .ok (.lload_n 1, 1) := by decide +kernel
theorem dX10_add_10 : decode cX10_add 10 = .ok (.ladd, 1) := by decide +kernel
theorem dX10_add_11 : decode cX10_add 11 = .ok (.putfield 195, 3) := by decide +kernel
theorem dX10_add_14 : decode cX10_add 14 = .ok (.return_, 1) := by decide +kernel
theorem dX10_digest_0 : decode cX10_digest 0 = .ok (.aload_n 0, 1) := by decide +kernel
theorem dX10_digest_1 : decode cX10_digest 1 = .ok (.ldc2_w 198, 3) := by decide +kernel
theorem dX10_digest_4 : decode cX10_digest 4 = .ok (.putfield 195, 3) := by decide +kernel
theorem dX10_digest_7 : decode cX10_digest 7 = .ok (.iconst 0, 1) := by decide +kernel
theorem dX10_digest_8 : decode cX10_digest 8 = .ok (.istore_n 1, 1) := by decide +kernel
theorem dX10_digest_9 : decode cX10_digest 9 = .ok (.iload_n 1, 1) := by decide +kernel
theorem dX10_digest_10 : decode cX10_digest 10 = .ok (.bipush 7, 2) := by decide +kernel
theorem dX10_digest_12 : decode cX10_digest 12 = .ok (.if_icmp .ge 19, 3) := by decide +kernel
theorem dX10_digest_15 : decode cX10_digest 15 = .ok (.aload_n 0, 1) := by decide +kernel
theorem dX10_digest_16 : decode cX10_digest 16 = .ok (.aload_n 0, 1) := by decide +kernel
theorem dX10_digest_17 : decode cX10_digest 17 = .ok (.iload_n 1, 1) := by decide +kernel
theorem dX10_digest_18 : decode cX10_digest 18 = .ok (.invokevirtual 190, 3) := by decide +kernel
theorem dX10_digest_21 : decode cX10_digest 21 = .ok (.i2l, 1) := by decide +kernel
theorem dX10_digest_22 : decode cX10_digest 22 = .ok (.invokevirtual 200, 3) := by decide +kernel
theorem dX10_digest_25 : decode cX10_digest 25 = .ok (.iinc 1 1, 3) := by decide +kernel
theorem dX10_digest_28 : decode cX10_digest 28 = .ok (.goto (-19), 3) := by decide +kernel
theorem dX10_digest_31 : decode cX10_digest 31 = .ok (.aload_n 0, 1) := by decide +kernel
theorem dX10_digest_32 : decode cX10_digest 32 = .ok (.aload_n 0, 1) := by decide +kernel
theorem dX10_digest_33 : decode cX10_digest 33 = .ok (.getfield 7, 3) := by decide +kernel
theorem dX10_digest_36 : decode cX10_digest 36 = .ok (.iconst 3, 1) := by decide +kernel
theorem dX10_digest_37 : decode cX10_digest 37 = .ok (.iaload, 1) := by decide +kernel
theorem dX10_digest_38 : decode cX10_digest 38 = .ok (.i2l, 1) := by decide +kernel
theorem dX10_digest_39 : decode cX10_digest 39 = .ok (.invokevirtual 200, 3) := by decide +kernel
theorem dX10_digest_42 : decode cX10_digest 42 = .ok (.aload_n 0, 1) := by decide +kernel
theorem dX10_digest_43 : decode cX10_digest 43 = .ok (.aload_n 0, 1) := by decide +kernel
theorem dX10_digest_44 : decode cX10_digest 44 = .ok (.getfield 7, 3) := by decide +kernel
theorem dX10_digest_47 : decode cX10_digest 47 = .ok (.iconst 4, 1) := by decide +kernel
theorem dX10_digest_48 : decode cX10_digest 48 = .ok (.iaload, 1) := by decide +kernel
theorem dX10_digest_49 : decode cX10_digest 49 = .ok (.i2l, 1) := by decide +kernel
theorem dX10_digest_50 : decode cX10_digest 50 = .ok (.invokevirtual 200, 3) := by decide +kernel
theorem dX10_digest_53 : decode cX10_digest 53 = .ok (.iconst 0, 1) := by decide +kernel
theorem dX10_digest_54 : decode cX10_digest 54 = .ok (.istore_n 1, 1) := by decide +kernel
theorem dX10_digest_55 : decode cX10_digest 55 = .ok (.iload_n 1, 1) := by decide +kernel
theorem dX10_digest_56 : decode cX10_digest 56 = .ok (.aload_n 0, 1) := by decide +kernel
theorem dX10_digest_57 : decode cX10_digest 57 = .ok (.getfield 7, 3) := by decide +kernel
theorem dX10_digest_60 : decode cX10_digest 60 = .ok (.iconst 0, 1) := by decide +kernel
theorem dX10_digest_61 : decode cX10_digest 61 = .ok (.iaload, 1) := by decide +kernel
theorem dX10_digest_62 : decode cX10_digest 62 = .ok (.if_icmp .ge 41, 3) := by decide +kernel
theorem dX10_digest_65 : decode cX10_digest 65 = .ok (.iconst 0, 1) := by decide +kernel
theorem dX10_digest_66 : decode cX10_digest 66 = .ok (.istore_n 2, 1) := by decide +kernel
theorem dX10_digest_67 : decode cX10_digest 67 = .ok (.iload_n 2, 1) := by decide +kernel
theorem dX10_digest_68 : decode cX10_digest 68 = .ok (.iconst 4, 1) := by decide +kernel
theorem dX10_digest_69 : decode cX10_digest 69 = .ok (.if_icmp .ge 28, 3) := by decide +kernel
theorem dX10_digest_72 : decode cX10_digest 72 = .ok (.aload_n 0, 1) := by decide +kernel
theorem dX10_digest_73 : decode cX10_digest 73 = .ok (.aload_n 0, 1) := by decide +kernel
theorem dX10_digest_74 : decode cX10_digest 74 = .ok (.getfield 7, 3) := by decide +kernel
theorem dX10_digest_77 : decode cX10_digest 77 = .ok (.bipush 7, 2) := by decide +kernel
theorem dX10_digest_79 : decode cX10_digest 79 = .ok (.bipush 6, 2) := by decide +kernel
theorem dX10_digest_81 : decode cX10_digest 81 = .ok (.iload_n 2, 1) := by decide +kernel
theorem dX10_digest_82 : decode cX10_digest 82 = .ok (.imul, 1) := by decide +kernel
theorem dX10_digest_83 : decode cX10_digest 83 = .ok (.iadd, 1) := by decide +kernel
theorem dX10_digest_84 : decode cX10_digest 84 = .ok (.iload_n 1, 1) := by decide +kernel
theorem dX10_digest_85 : decode cX10_digest 85 = .ok (.iadd, 1) := by decide +kernel
theorem dX10_digest_86 : decode cX10_digest 86 = .ok (.iaload, 1) := by decide +kernel
theorem dX10_digest_87 : decode cX10_digest 87 = .ok (.i2l, 1) := by decide +kernel
theorem dX10_digest_88 : decode cX10_digest 88 = .ok (.invokevirtual 200, 3) := by decide +kernel
theorem dX10_digest_91 : decode cX10_digest 91 = .ok (.iinc 2 1, 3) := by decide +kernel
theorem dX10_digest_94 : decode cX10_digest 94 = .ok (.goto (-27), 3) := by decide +kernel
theorem dX10_digest_97 : decode cX10_digest 97 = .ok (.iinc 1 1, 3) := by decide +kernel
theorem dX10_digest_100 : decode cX10_digest 100 = .ok (.goto (-45), 3) := by decide +kernel
theorem dX10_digest_103 : decode cX10_digest 103 = .ok (.iconst 0, 1) := by decide +kernel
theorem dX10_digest_104 : decode cX10_digest 104 = .ok (.istore_n 1, 1) := by decide +kernel
theorem dX10_digest_105 : decode cX10_digest 105 = .ok (.iload_n 1, 1) := by decide +kernel
theorem dX10_digest_106 : decode cX10_digest 106 = .ok (.aload_n 0, 1) := by decide +kernel
theorem dX10_digest_107 : decode cX10_digest 107 = .ok (.getfield 7, 3) := by decide +kernel
theorem dX10_digest_110 : decode cX10_digest 110 = .ok (.iconst 1, 1) := by decide +kernel
theorem dX10_digest_111 : decode cX10_digest 111 = .ok (.iaload, 1) := by decide +kernel
theorem dX10_digest_112 : decode cX10_digest 112 = .ok (.if_icmp .ge 23, 3) := by decide +kernel
theorem dX10_digest_115 : decode cX10_digest 115 = .ok (.aload_n 0, 1) := by decide +kernel
theorem dX10_digest_116 : decode cX10_digest 116 = .ok (.aload_n 0, 1) := by decide +kernel
theorem dX10_digest_117 : decode cX10_digest 117 = .ok (.getfield 7, 3) := by decide +kernel
theorem dX10_digest_120 : decode cX10_digest 120 = .ok (.bipush 31, 2) := by decide +kernel
theorem dX10_digest_122 : decode cX10_digest 122 = .ok (.iload_n 1, 1) := by decide +kernel
theorem dX10_digest_123 : decode cX10_digest 123 = .ok (.iadd, 1) := by decide +kernel
theorem dX10_digest_124 : decode cX10_digest 124 = .ok (.iaload, 1) := by decide +kernel
theorem dX10_digest_125 : decode cX10_digest 125 = .ok (.i2l, 1) := by decide +kernel
theorem dX10_digest_126 : decode cX10_digest 126 = .ok (.invokevirtual 200, 3) := by decide +kernel
theorem dX10_digest_129 : decode cX10_digest 129 = .ok (.iinc 1 1, 3) := by decide +kernel
theorem dX10_digest_132 : decode cX10_digest 132 = .ok (.goto (-27), 3) := by decide +kernel
theorem dX10_digest_135 : decode cX10_digest 135 = .ok (.iconst 0, 1) := by decide +kernel
theorem dX10_digest_136 : decode cX10_digest 136 = .ok (.istore_n 1, 1) := by decide +kernel
theorem dX10_digest_137 : decode cX10_digest 137 = .ok (.iload_n 1, 1) := by decide +kernel
theorem dX10_digest_138 : decode cX10_digest 138 = .ok (.iconst 3, 1) := by decide +kernel
theorem dX10_digest_139 : decode cX10_digest 139 = .ok (.aload_n 0, 1) := by decide +kernel
theorem dX10_digest_140 : decode cX10_digest 140 = .ok (.getfield 7, 3) := by decide +kernel
theorem dX10_digest_143 : decode cX10_digest 143 = .ok (.iconst 5, 1) := by decide +kernel
theorem dX10_digest_144 : decode cX10_digest 144 = .ok (.iaload, 1) := by decide +kernel
theorem dX10_digest_145 : decode cX10_digest 145 = .ok (.imul, 1) := by decide +kernel
theorem dX10_digest_146 : decode cX10_digest 146 = .ok (.if_icmp .ge 23, 3) := by decide +kernel
theorem dX10_digest_149 : decode cX10_digest 149 = .ok (.aload_n 0, 1) := by decide +kernel
theorem dX10_digest_150 : decode cX10_digest 150 = .ok (.aload_n 0, 1) := by decide +kernel
theorem dX10_digest_151 : decode cX10_digest 151 = .ok (.getfield 7, 3) := by decide +kernel
theorem dX10_digest_154 : decode cX10_digest 154 = .ok (.bipush 39, 2) := by decide +kernel
theorem dX10_digest_156 : decode cX10_digest 156 = .ok (.iload_n 1, 1) := by decide +kernel
theorem dX10_digest_157 : decode cX10_digest 157 = .ok (.iadd, 1) := by decide +kernel
theorem dX10_digest_158 : decode cX10_digest 158 = .ok (.iaload, 1) := by decide +kernel
theorem dX10_digest_159 : decode cX10_digest 159 = .ok (.i2l, 1) := by decide +kernel
theorem dX10_digest_160 : decode cX10_digest 160 = .ok (.invokevirtual 200, 3) := by decide +kernel
theorem dX10_digest_163 : decode cX10_digest 163 = .ok (.iinc 1 1, 3) := by decide +kernel
theorem dX10_digest_166 : decode cX10_digest 166 = .ok (.goto (-29), 3) := by decide +kernel
theorem dX10_digest_169 : decode cX10_digest 169 = .ok (.aload_n 0, 1) := by decide +kernel
theorem dX10_digest_170 : decode cX10_digest 170 = .ok (.aload_n 0, 1) := by decide +kernel
theorem dX10_digest_171 : decode cX10_digest 171 = .ok (.getfield 170, 3) := by decide +kernel
theorem dX10_digest_174 : decode cX10_digest 174 = .ok (.invokevirtual 200, 3) := by decide +kernel
theorem dX10_digest_177 : decode cX10_digest 177 = .ok (.aload_n 0, 1) := by decide +kernel
theorem dX10_digest_178 : decode cX10_digest 178 = .ok (.aload_n 0, 1) := by decide +kernel
theorem dX10_digest_179 : decode cX10_digest 179 = .ok (.getfield 26, 3) := by decide +kernel
theorem dX10_digest_182 : decode cX10_digest 182 = .ok (.invokevirtual 200, 3) := by decide +kernel
theorem dX10_digest_185 : decode cX10_digest 185 = .ok (.aload_n 0, 1) := by decide +kernel
theorem dX10_digest_186 : decode cX10_digest 186 = .ok (.getfield 195, 3) := by decide +kernel
theorem dX10_digest_189 : decode cX10_digest 189 = .ok (.lreturn, 1) := by decide +kernel
