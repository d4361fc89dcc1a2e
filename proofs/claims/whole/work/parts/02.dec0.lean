theorem dX0_init_0 : decode cX0_init 0 = .ok (.aload_n 0, 1) := by decide +kernel
theorem dX0_init_1 : decode cX0_init 1 = .ok (.invokespecial 3, 3) := by decide +kernel
theorem dX0_init_4 : decode cX0_init 4 = .ok (.aload_n 0, 1) := by decide +kernel
theorem dX0_init_5 : decode cX0_init 5 = .ok (.bipush 30, 2) := by decide +kernel
theorem dX0_init_7 : decode cX0_init 7 = .ok (.newarray .int, 2) := by decide +kernel
theorem dX0_init_9 : decode cX0_init 9 = .ok (.putfield 9, 3) := by decide +kernel
theorem dX0_init_12 : decode cX0_init 12 = .ok (.aload_n 0, 1) := by decide +kernel
theorem dX0_init_13 : decode cX0_init 13 = .ok (.bipush 30, 2) := by decide +kernel
theorem dX0_init_15 : decode cX0_init 15 = .ok (.newarray .int, 2) := by decide +kernel
theorem dX0_init_17 : decode cX0_init 17 = .ok (.putfield 15, 3) := by decide +kernel
theorem dX0_init_20 : decode cX0_init 20 = .ok (.aload_n 0, 1) := by decide +kernel
theorem dX0_init_21 : decode cX0_init 21 = .ok (.bipush 100, 2) := by decide +kernel
theorem dX0_init_23 : decode cX0_init 23 = .ok (.newarray .int, 2) := by decide +kernel
theorem dX0_init_25 : decode cX0_init 25 = .ok (.putfield 18, 3) := by decide +kernel
theorem dX0_init_28 : decode cX0_init 28 = .ok (.aload_n 0, 1) := by decide +kernel
theorem dX0_init_29 : decode cX0_init 29 = .ok (.bipush 100, 2) := by decide +kernel
theorem dX0_init_31 : decode cX0_init 31 = .ok (.newarray .int, 2) := by decide +kernel
theorem dX0_init_33 : decode cX0_init 33 = .ok (.putfield 21, 3) := by decide +kernel
theorem dX0_init_36 : decode cX0_init 36 = .ok (.iconst 0, 1) := by decide +kernel
theorem dX0_init_37 : decode cX0_init 37 = .ok (.istore_n 1, 1) := by decide +kernel
theorem dX0_init_38 : decode cX0_init 38 = .ok (.iload_n 1, 1) := by decide +kernel
theorem dX0_init_39 : decode cX0_init 39 = .ok (.bipush 30, 2) := by decide +kernel
theorem dX0_init_41 : decode cX0_init 41 = .ok (.if_icmp .ge 17, 3) := by decide +kernel
theorem dX0_init_44 : decode cX0_init 44 = .ok (.aload_n 0, 1) := by decide +kernel
theorem dX0_init_45 : decode cX0_init 45 = .ok (.getfield 9, 3) := by decide +kernel
theorem dX0_init_48 : decode cX0_init 48 = .ok (.iload_n 1, 1) := by decide +kernel
theorem dX0_init_49 : decode cX0_init 49 = .ok (.bipush (-9), 2) := by decide +kernel
theorem dX0_init_51 : decode cX0_init 51 = .ok (.iastore, 1) := by decide +kernel
theorem dX0_init_52 : decode cX0_init 52 = .ok (.iinc 1 1, 3) := by decide +kernel
theorem dX0_init_55 : decode cX0_init 55 = .ok (.goto (-17), 3) := by decide +kernel
theorem dX0_init_58 : decode cX0_init 58 = .ok (.iconst 0, 1) := by decide +kernel
theorem dX0_init_59 : decode cX0_init 59 = .ok (.istore_n 1, 1) := by decide +kernel
theorem dX0_init_60 : decode cX0_init 60 = .ok (.iload_n 1, 1) := by decide +kernel
theorem dX0_init_61 : decode cX0_init 61 = .ok (.bipush 100, 2) := by decide +kernel
theorem dX0_init_63 : decode cX0_init 63 = .ok (.if_icmp .ge 17, 3) := by decide +kernel
theorem dX0_init_66 : decode cX0_init 66 = .ok (.aload_n 0, 1) := by decide +kernel
theorem dX0_init_67 : decode cX0_init 67 = .ok (.getfield 18, 3) := by decide +kernel
theorem dX0_init_70 : decode cX0_init 70 = .ok (.iload_n 1, 1) := by decide +kernel
theorem dX0_init_71 : decode cX0_init 71 = .ok (.bipush (-9), 2) := by decide +kernel
theorem dX0_init_73 : decode cX0_init 73 = .ok (.iastore, 1) := by decide +kernel
theorem dX0_init_74 : decode cX0_init 74 = .ok (.iinc 1 1, 3) := by decide +kernel
theorem dX0_init_77 : decode cX0_init 77 = .ok (.goto (-17), 3) := by decide +kernel
theorem dX0_init_80 : decode cX0_init 80 = .ok (.return_, 1) := by decide +kernel
theorem dX0_codeOf_0 : decode cX0_codeOf 0 = .ok (.iload_n 1, 1) := by decide +kernel
theorem dX0_codeOf_1 : decode cX0_codeOf 1 = .ok (.bipush 30, 2) := by decide +kernel
theorem dX0_codeOf_3 : decode cX0_codeOf 3 = .ok (.invokestatic 24, 3) := by decide +kernel
theorem dX0_codeOf_6 : decode cX0_codeOf 6 = .ok (.ifCond .eq 12, 3) := by decide +kernel
theorem dX0_codeOf_9 : decode cX0_codeOf 9 = .ok (.aload_n 0, 1) := by decide +kernel
theorem dX0_codeOf_10 : decode cX0_codeOf 10 = .ok (.getfield 9, 3) := by decide +kernel
theorem dX0_codeOf_13 : decode cX0_codeOf 13 = .ok (.iload_n 1, 1) := by decide +kernel
theorem dX0_codeOf_14 : decode cX0_codeOf 14 = .ok (.iaload, 1) := by decide +kernel
theorem dX0_codeOf_15 : decode cX0_codeOf 15 = .ok (.goto 5, 3) := by decide +kernel
theorem dX0_codeOf_18 : decode cX0_codeOf 18 = .ok (.bipush (-9), 2) := by decide +kernel
theorem dX0_codeOf_20 : decode cX0_codeOf 20 = .ok (.ireturn, 1) := by decide +kernel
theorem dX0_wordOf_0 : decode cX0_wordOf 0 = .ok (.iload_n 1, 1) := by decide +kernel
theorem dX0_wordOf_1 : decode cX0_wordOf 1 = .ok (.bipush 100, 2) := by decide +kernel
theorem dX0_wordOf_3 : decode cX0_wordOf 3 = .ok (.invokestatic 24, 3) := by decide +kernel
theorem dX0_wordOf_6 : decode cX0_wordOf 6 = .ok (.ifCond .eq 12, 3) := by decide +kernel
theorem dX0_wordOf_9 : decode cX0_wordOf 9 = .ok (.aload_n 0, 1) := by decide +kernel
theorem dX0_wordOf_10 : decode cX0_wordOf 10 = .ok (.getfield 18, 3) := by decide +kernel
theorem dX0_wordOf_13 : decode cX0_wordOf 13 = .ok (.iload_n 1, 1) := by decide +kernel
theorem dX0_wordOf_14 : decode cX0_wordOf 14 = .ok (.iaload, 1) := by decide +kernel
theorem dX0_wordOf_15 : decode cX0_wordOf 15 = .ok (.goto 5, 3) := by decide +kernel
theorem dX0_wordOf_18 : decode cX0_wordOf 18 = .ok (.bipush (-9), 2) := by decide +kernel
theorem dX0_wordOf_20 : decode cX0_wordOf 20 = .ok (.ireturn, 1) := by decide +kernel
theorem dX0_weightOf_0 : decode cX0_weightOf 0 = .ok (.iload_n 1, 1) := by decide +kernel
theorem dX0_weightOf_1 : decode cX0_weightOf 1 = .ok (.bipush 30, 2) := by decide +kernel
theorem dX0_weightOf_3 : decode cX0_weightOf 3 = .ok (.invokestatic 24, 3) := by decide +kernel
theorem dX0_weightOf_6 : decode cX0_weightOf 6 = .ok (.ifCond .eq 12, 3) := by decide +kernel
theorem dX0_weightOf_9 : decode cX0_weightOf 9 = .ok (.aload_n 0, 1) := by decide +kernel
theorem dX0_weightOf_10 : decode cX0_weightOf 10 = .ok (.getfield 15, 3) := by decide +kernel
theorem dX0_weightOf_13 : decode cX0_weightOf 13 = .ok (.iload_n 1, 1) := by decide +kernel
theorem dX0_weightOf_14 : decode cX0_weightOf 14 = .ok (.iaload, 1) := by decide +kernel
theorem dX0_weightOf_15 : decode cX0_weightOf 15 = .ok (.goto 4, 3) := by decide +kernel
theorem dX0_weightOf_18 : decode cX0_weightOf 18 = .ok (.iconst 0, 1) := by decide +kernel
theorem dX0_weightOf_19 : decode cX0_weightOf 19 = .ok (.ireturn, 1) := by decide +kernel
theorem dX0_codeCount_0 : decode cX0_codeCount 0 = .ok (.aload_n 0, 1) := by decide +kernel
theorem dX0_codeCount_1 : decode cX0_codeCount 1 = .ok (.getfield 28, 3) := by decide +kernel
theorem dX0_codeCount_4 : decode cX0_codeCount 4 = .ok (.ireturn, 1) := by decide +kernel
theorem dX0_giveCode_0 : decode cX0_giveCode 0 = .ok (.iload_n 1, 1) := by decide +kernel
theorem dX0_giveCode_1 : decode cX0_giveCode 1 = .ok (.bipush 30, 2) := by decide +kernel
theorem dX0_giveCode_3 : decode cX0_giveCode 3 = .ok (.invokestatic 24, 3) := by decide +kernel
theorem dX0_giveCode_6 : decode cX0_giveCode 6 = .ok (.ifCond .ne 4, 3) := by decide +kernel
theorem dX0_giveCode_9 : decode cX0_giveCode 9 = .ok (.return_, 1) := by decide +kernel
theorem dX0_giveCode_10 : decode cX0_giveCode 10 = .ok (.aload_n 0, 1) := by decide +kernel
theorem dX0_giveCode_11 : decode cX0_giveCode 11 = .ok (.getfield 9, 3) := by decide +kernel
theorem dX0_giveCode_14 : decode cX0_giveCode 14 = .ok (.iload_n 1, 1) := by decide +kernel
theorem dX0_giveCode_15 : decode cX0_giveCode 15 = .ok (.iaload, 1) := by decide +kernel
theorem dX0_giveCode_16 : decode cX0_giveCode 16 = .ok (.istore_n 3, 1) := by decide +kernel
theorem dX0_giveCode_17 : decode cX0_giveCode 17 = .ok (.iload_n 3, 1) := by decide +kernel
theorem dX0_giveCode_18 : decode cX0_giveCode 18 = .ok (.bipush 100, 2) := by decide +kernel
theorem dX0_giveCode_20 : decode cX0_giveCode 20 = .ok (.invokestatic 24, 3) := by decide +kernel
theorem dX0_giveCode_23 : decode cX0_giveCode 23 = .ok (.ifCond .eq 35, 3) := by decide +kernel
theorem dX0_giveCode_26 : decode cX0_giveCode 26 = .ok (.aload_n 0, 1) := by decide +kernel
theorem dX0_giveCode_27 : decode cX0_giveCode 27 = .ok (.getfield 9, 3) := by decide +kernel
theorem dX0_giveCode_30 : decode cX0_giveCode 30 = .ok (.iload_n 1, 1) := by decide +kernel
theorem dX0_giveCode_31 : decode cX0_giveCode 31 = .ok (.bipush (-9), 2) := by decide +kernel
theorem dX0_giveCode_33 : decode cX0_giveCode 33 = .ok (.iastore, 1) := by decide +kernel
theorem dX0_giveCode_34 : decode cX0_giveCode 34 = .ok (.aload_n 0, 1) := by decide +kernel
theorem dX0_giveCode_35 : decode cX0_giveCode 35 = .ok (.getfield 18, 3) := by decide +kernel
theorem dX0_giveCode_38 : decode cX0_giveCode 38 = .ok (.iload_n 3, 1) := by decide +kernel
theorem dX0_giveCode_39 : decode cX0_giveCode 39 = .ok (.bipush (-9), 2) := by decide +kernel
theorem dX0_giveCode_41 : decode cX0_giveCode 41 = .ok (.iastore, 1) := by decide +kernel
theorem dX0_giveCode_42 : decode cX0_giveCode 42 = .ok (.aload_n 0, 1) := by decide +kernel
theorem dX0_giveCode_43 : decode cX0_giveCode 43 = .ok (.dup, 1) := by decide +kernel
theorem dX0_giveCode_44 : decode cX0_giveCode 44 = .ok (.getfield 28, 3) := by decide +kernel
theorem dX0_giveCode_47 : decode cX0_giveCode 47 = .ok (.iconst 1, 1) := by decide +kernel
theorem dX0_giveCode_48 : decode cX0_giveCode 48 = .ok (.isub, 1) := by decide +kernel
theorem dX0_giveCode_49 : decode cX0_giveCode 49 = .ok (.putfield 28, 3) := by decide +kernel
theorem dX0_giveCode_52 : decode cX0_giveCode 52 = .ok (.aload_n 0, 1) := by decide +kernel
theorem dX0_giveCode_53 : decode cX0_giveCode 53 = .ok (.iload_n 3, 1) := by decide +kernel
theorem dX0_giveCode_54 : decode cX0_giveCode 54 = .ok (.iconst (-1), 1) := by decide +kernel
theorem dX0_giveCode_55 : decode cX0_giveCode 55 = .ok (.invokevirtual 32, 3) := by decide +kernel
theorem dX0_giveCode_58 : decode cX0_giveCode 58 = .ok (.iload_n 2, 1) := by decide +kernel
theorem dX0_giveCode_59 : decode cX0_giveCode 59 = .ok (.bipush 100, 2) := by decide +kernel
theorem dX0_giveCode_61 : decode cX0_giveCode 61 = .ok (.invokestatic 24, 3) := by decide +kernel
theorem dX0_giveCode_64 : decode cX0_giveCode 64 = .ok (.ifCond .eq 33, 3) := by decide +kernel
theorem dX0_giveCode_67 : decode cX0_giveCode 67 = .ok (.aload_n 0, 1) := by decide +kernel
theorem dX0_giveCode_68 : decode cX0_giveCode 68 = .ok (.iload_n 2, 1) := by decide +kernel
theorem dX0_giveCode_69 : decode cX0_giveCode 69 = .ok (.iconst 1, 1) := by decide +kernel
theorem dX0_giveCode_70 : decode cX0_giveCode 70 = .ok (.invokevirtual 32, 3) := by decide +kernel
theorem dX0_giveCode_73 : decode cX0_giveCode 73 = .ok (.aload_n 0, 1) := by decide +kernel
theorem dX0_giveCode_74 : decode cX0_giveCode 74 = .ok (.getfield 9, 3) := by decide +kernel
theorem dX0_giveCode_77 : decode cX0_giveCode 77 = .ok (.iload_n 1, 1) := by decide +kernel
theorem dX0_giveCode_78 : decode cX0_giveCode 78 = .ok (.iload_n 2, 1) := by decide +kernel
theorem dX0_giveCode_79 : decode cX0_giveCode 79 = .ok (.iastore, 1) := by decide +kernel
theorem dX0_giveCode_80 : decode cX0_giveCode 80 = .ok (.aload_n 0, 1) := by decide +kernel
theorem dX0_giveCode_81 : decode cX0_giveCode 81 = .ok (.getfield 18, 3) := by decide +kernel
theorem dX0_giveCode_84 : decode cX0_giveCode 84 = .ok (.iload_n 2, 1) := by decide +kernel
theorem dX0_giveCode_85 : decode cX0_giveCode 85 = .ok (.iload_n 1, 1) := by decide +kernel
theorem dX0_giveCode_86 : decode cX0_giveCode 86 = .ok (.iastore, 1) := by decide +kernel
theorem dX0_giveCode_87 : decode cX0_giveCode 87 = .ok (.aload_n 0, 1) := by decide +kernel
theorem dX0_giveCode_88 : decode cX0_giveCode 88 = .ok (.dup, 1) := by decide +kernel
theorem dX0_giveCode_89 : decode cX0_giveCode 89 = .ok (.getfield 28, 3) := by decide +kernel
theorem dX0_giveCode_92 : decode cX0_giveCode 92 = .ok (.iconst 1, 1) := by decide +kernel
theorem dX0_giveCode_93 : decode cX0_giveCode 93 = .ok (.iadd, 1) := by decide +kernel
theorem dX0_giveCode_94 : decode cX0_giveCode 94 = .ok (.putfield 28, 3) := by decide +kernel
theorem dX0_giveCode_97 : decode cX0_giveCode 97 = .ok (.return_, 1) := by decide +kernel
theorem dX0_giveWeight_0 : decode cX0_giveWeight 0 = .ok (.iload_n 1, 1) := by decide +kernel
theorem dX0_giveWeight_1 : decode cX0_giveWeight 1 = .ok (.bipush 30, 2) := by decide +kernel
theorem dX0_giveWeight_3 : decode cX0_giveWeight 3 = .ok (.invokestatic 24, 3) := by decide +kernel
theorem dX0_giveWeight_6 : decode cX0_giveWeight 6 = .ok (.ifCond .eq 10, 3) := by decide +kernel
theorem dX0_giveWeight_9 : decode cX0_giveWeight 9 = .ok (.aload_n 0, 1) := by decide +kernel
theorem dX0_giveWeight_10 : decode cX0_giveWeight 10 = .ok (.getfield 15, 3) := by decide +kernel
theorem dX0_giveWeight_13 : decode cX0_giveWeight 13 = .ok (.iload_n 1, 1) := by decide +kernel
theorem dX0_giveWeight_14 : decode cX0_giveWeight 14 = .ok (.iload_n 2, 1) := by decide +kernel
theorem dX0_giveWeight_15 : decode cX0_giveWeight 15 = .ok (.iastore, 1) := by decide +kernel
theorem dX0_giveWeight_16 : decode cX0_giveWeight 16 = .ok (.return_, 1) := by decide +kernel
theorem dX0_changePairs_0 : decode cX0_changePairs 0 = .ok (.aload_n 0, 1) := by decide +kernel
theorem dX0_changePairs_1 : decode cX0_changePairs 1 = .ok (.getfield 21, 3) := by decide +kernel
theorem dX0_changePairs_4 : decode cX0_changePairs 4 = .ok (.iconst 0, 1) := by decide +kernel
theorem dX0_changePairs_5 : decode cX0_changePairs 5 = .ok (.dup2, 1) := by decide +kernel
theorem dX0_changePairs_6 : decode cX0_changePairs 6 = .ok (.iaload, 1) := by decide +kernel
theorem dX0_changePairs_7 : decode cX0_changePairs 7 = .ok (.iload_n 2, 1) := by decide +kernel
theorem dX0_changePairs_8 : decode cX0_changePairs 8 = .ok (.iadd, 1) := by decide +kernel
theorem dX0_changePairs_9 : decode cX0_changePairs 9 = .ok (.iastore, 1) := by decide +kernel
theorem dX0_changePairs_10 : decode cX0_changePairs 10 = .ok (.iconst 0, 1) := by decide +kernel
theorem dX0_changePairs_11 : decode cX0_changePairs 11 = .ok (.istore_n 3, 1) := by decide +kernel
theorem dX0_changePairs_12 : decode cX0_changePairs 12 = .ok (.iload_n 3, 1) := by decide +kernel
theorem dX0_changePairs_13 : decode cX0_changePairs 13 = .ok (.bipush 30, 2) := by decide +kernel
theorem dX0_changePairs_15 : decode cX0_changePairs 15 = .ok (.if_icmp .ge 64, 3) := by decide +kernel
theorem dX0_changePairs_18 : decode cX0_changePairs 18 = .ok (.aload_n 0, 1) := by decide +kernel
theorem dX0_changePairs_19 : decode cX0_changePairs 19 = .ok (.getfield 9, 3) := by decide +kernel
theorem dX0_changePairs_22 : decode cX0_changePairs 22 = .ok (.iload_n 3, 1) := by decide +kernel
theorem dX0_changePairs_23 : decode cX0_changePairs 23 = .ok (.iaload, 1) := by decide +kernel
theorem dX0_changePairs_24 : decode cX0_changePairs 24 = .ok (.bipush (-9), 2) := by decide +kernel
theorem dX0_changePairs_26 : decode cX0_changePairs 26 = .ok (.if_icmp .eq 47, 3) := by decide +kernel
theorem dX0_changePairs_29 : decode cX0_changePairs 29 = .ok (.aload_n 0, 1) := by decide +kernel
theorem dX0_changePairs_30 : decode cX0_changePairs 30 = .ok (.getfield 21, 3) := by decide +kernel
theorem dX0_changePairs_33 : decode cX0_changePairs 33 = .ok (.iload_n 1, 1) := by decide +kernel
theorem dX0_changePairs_34 : decode cX0_changePairs 34 = .ok (.aload_n 0, 1) := by decide +kernel
theorem dX0_changePairs_35 : decode cX0_changePairs 35 = .ok (.getfield 9, 3) := by decide +kernel
theorem dX0_changePairs_38 : decode cX0_changePairs 38 = .ok (.iload_n 3, 1) := by decide +kernel
theorem dX0_changePairs_39 : decode cX0_changePairs 39 = .ok (.iaload, 1) := by decide +kernel
theorem dX0_changePairs_40 : decode cX0_changePairs 40 = .ok (.isub, 1) := by decide +kernel
theorem dX0_changePairs_41 : decode cX0_changePairs 41 = .ok (.bipush 100, 2) := by decide +kernel
theorem dX0_changePairs_43 : decode cX0_changePairs 43 = .ok (.invokestatic 36, 3) := by decide +kernel
theorem dX0_changePairs_46 : decode cX0_changePairs 46 = .ok (.dup2, 1) := by decide +kernel
theorem dX0_changePairs_47 : decode cX0_changePairs 47 = .ok (.iaload, 1) := by decide +kernel
theorem dX0_changePairs_48 : decode cX0_changePairs 48 = .ok (.iload_n 2, 1) := by decide +kernel
theorem dX0_changePairs_49 : decode cX0_changePairs 49 = .ok (.iadd, 1) := by decide +kernel
theorem dX0_changePairs_50 : decode cX0_changePairs 50 = .ok (.iastore, 1) := by decide +kernel
theorem dX0_changePairs_51 : decode cX0_changePairs 51 = .ok (.aload_n 0, 1) := by decide +kernel
theorem dX0_changePairs_52 : decode cX0_changePairs 52 = .ok (.getfield 21, 3) := by decide +kernel
theorem dX0_changePairs_55 : decode cX0_changePairs 55 = .ok (.aload_n 0, 1) := by decide +kernel
theorem dX0_changePairs_56 : decode cX0_changePairs 56 = .ok (.getfield 9, 3) := by decide +kernel
theorem dX0_changePairs_59 : decode cX0_changePairs 59 = .ok (.iload_n 3, 1) := by decide +kernel
theorem dX0_changePairs_60 : decode cX0_changePairs 60 = .ok (.iaload, 1) := by decide +kernel
theorem dX0_changePairs_61 : decode cX0_changePairs 61 = .ok (.iload_n 1, 1) := by decide +kernel
theorem dX0_changePairs_62 : decode cX0_changePairs 62 = .ok (.isub, 1) := by decide +kernel
theorem dX0_changePairs_63 : decode cX0_changePairs 63 = .ok (.bipush 100, 2) := by decide +kernel
theorem dX0_changePairs_65 : decode cX0_changePairs 65 = .ok (.invokestatic 36, 3) := by decide +kernel
theorem dX0_changePairs_68 : decode cX0_changePairs 68 = .ok (.dup2, 1) := by decide +kernel
theorem dX0_changePairs_69 : decode cX0_changePairs 69 = .ok (.iaload, 1) := by decide +kernel
theorem dX0_changePairs_70 : decode cX0_changePairs 70 = .ok (.iload_n 2, 1) := by decide +kernel
theorem dX0_changePairs_71 : decode cX0_changePairs 71 = .ok (.iadd, 1) := by decide +kernel
theorem dX0_changePairs_72 : decode cX0_changePairs 72 = .ok (.iastore, 1) := by decide +kernel
theorem dX0_changePairs_73 : decode cX0_changePairs 73 = .ok (.iinc 3 1, 3) := by decide +kernel
theorem dX0_changePairs_76 : decode cX0_changePairs 76 = .ok (.goto (-64), 3) := by decide +kernel
theorem dX0_changePairs_79 : decode cX0_changePairs 79 = .ok (.return_, 1) := by decide +kernel
theorem dX0_hasCodesOf_0 : decode cX0_hasCodesOf 0 = .ok (.iconst 0, 1) := by decide +kernel
theorem dX0_hasCodesOf_1 : decode cX0_hasCodesOf 1 = .ok (.istore 4, 2) := by decide +kernel
theorem dX0_hasCodesOf_3 : decode cX0_hasCodesOf 3 = .ok (.iload 4, 2) := by decide +kernel
theorem dX0_hasCodesOf_5 : decode cX0_hasCodesOf 5 = .ok (.iload_n 3, 1) := by decide +kernel
theorem dX0_hasCodesOf_6 : decode cX0_hasCodesOf 6 = .ok (.if_icmp .ge 28, 3) := by decide +kernel
theorem dX0_hasCodesOf_9 : decode cX0_hasCodesOf 9 = .ok (.aload_n 0, 1) := by decide +kernel
theorem dX0_hasCodesOf_10 : decode cX0_hasCodesOf 10 = .ok (.aload_n 1, 1) := by decide +kernel
theorem dX0_hasCodesOf_11 : decode cX0_hasCodesOf 11 = .ok (.iload_n 2, 1) := by decide +kernel
theorem dX0_hasCodesOf_12 : decode cX0_hasCodesOf 12 = .ok (.iload 4, 2) := by decide +kernel
theorem dX0_hasCodesOf_14 : decode cX0_hasCodesOf 14 = .ok (.iadd, 1) := by decide +kernel
theorem dX0_hasCodesOf_15 : decode cX0_hasCodesOf 15 = .ok (.invokevirtual 42, 3) := by decide +kernel
theorem dX0_hasCodesOf_18 : decode cX0_hasCodesOf 18 = .ok (.invokevirtual 48, 3) := by decide +kernel
theorem dX0_hasCodesOf_21 : decode cX0_hasCodesOf 21 = .ok (.bipush (-9), 2) := by decide +kernel
theorem dX0_hasCodesOf_23 : decode cX0_hasCodesOf 23 = .ok (.if_icmp .ne 5, 3) := by decide +kernel
theorem dX0_hasCodesOf_26 : decode cX0_hasCodesOf 26 = .ok (.iconst 0, 1) := by decide +kernel
theorem dX0_hasCodesOf_27 : decode cX0_hasCodesOf 27 = .ok (.ireturn, 1) := by decide +kernel
theorem dX0_hasCodesOf_28 : decode cX0_hasCodesOf 28 = .ok (.iinc 4 1, 3) := by decide +kernel
theorem dX0_hasCodesOf_31 : decode cX0_hasCodesOf 31 = .ok (.goto (-28), 3) := by decide +kernel
theorem dX0_hasCodesOf_34 : decode cX0_hasCodesOf 34 = .ok (.iconst 1, 1) := by decide +kernel
theorem dX0_hasCodesOf_35 : decode cX0_hasCodesOf 35 = .ok (.ireturn, 1) := by decide +kernel
theorem dX0_pairsApart_0 : decode cX0_pairsApart 0 = .ok (.iload_n 1, 1) := by decide +kernel
theorem dX0_pairsApart_1 : decode cX0_pairsApart 1 = .ok (.bipush 100, 2) := by decide +kernel
theorem dX0_pairsApart_3 : decode cX0_pairsApart 3 = .ok (.invokestatic 24, 3) := by decide +kernel
theorem dX0_pairsApart_6 : decode cX0_pairsApart 6 = .ok (.ifCond .eq 12, 3) := by decide +kernel
theorem dX0_pairsApart_9 : decode cX0_pairsApart 9 = .ok (.aload_n 0, 1) := by decide +kernel
theorem dX0_pairsApart_10 : decode cX0_pairsApart 10 = .ok (.getfield 21, 3) := by decide +kernel
theorem dX0_pairsApart_13 : decode cX0_pairsApart 13 = .ok (.iload_n 1, 1) := by decide +kernel
theorem dX0_pairsApart_14 : decode cX0_pairsApart 14 = .ok (.iaload, 1) := by decide +kernel
theorem dX0_pairsApart_15 : decode cX0_pairsApart 15 = .ok (.goto 4, 3) := by decide +kernel
theorem dX0_pairsApart_18 : decode cX0_pairsApart 18 = .ok (.iconst 0, 1) := by decide +kernel
theorem dX0_pairsApart_19 : decode cX0_pairsApart 19 = .ok (.ireturn, 1) := by decide +kernel
theorem dX0_spreadOfCodes_0 : decode cX0_spreadOfCodes 0 = .ok (.iconst 0, 1) := by decide +kernel
theorem dX0_spreadOfCodes_1 : decode cX0_spreadOfCodes 1 = .ok (.istore_n 1, 1) := by decide +kernel
theorem dX0_spreadOfCodes_2 : decode cX0_spreadOfCodes 2 = .ok (.iconst 0, 1) := by decide +kernel
theorem dX0_spreadOfCodes_3 : decode cX0_spreadOfCodes 3 = .ok (.istore_n 2, 1) := by decide +kernel
theorem dX0_spreadOfCodes_4 : decode cX0_spreadOfCodes 4 = .ok (.iload_n 2, 1) := by decide +kernel
theorem dX0_spreadOfCodes_5 : decode cX0_spreadOfCodes 5 = .ok (.bipush 100, 2) := by decide +kernel
theorem dX0_spreadOfCodes_7 : decode cX0_spreadOfCodes 7 = .ok (.if_icmp .ge 21, 3) := by decide +kernel
theorem dX0_spreadOfCodes_10 : decode cX0_spreadOfCodes 10 = .ok (.aload_n 0, 1) := by decide +kernel
theorem dX0_spreadOfCodes_11 : decode cX0_spreadOfCodes 11 = .ok (.getfield 21, 3) := by decide +kernel
theorem dX0_spreadOfCodes_14 : decode cX0_spreadOfCodes 14 = .ok (.iload_n 2, 1) := by decide +kernel
theorem dX0_spreadOfCodes_15 : decode cX0_spreadOfCodes 15 = .ok (.iaload, 1) := by decide +kernel
theorem dX0_spreadOfCodes_16 : decode cX0_spreadOfCodes 16 = .ok (.ifCond .le 6, 3) := by decide +kernel
theorem dX0_spreadOfCodes_19 : decode cX0_spreadOfCodes 19 = .ok (.iinc 1 1, 3) := by decide +kernel
theorem dX0_spreadOfCodes_22 : decode cX0_spreadOfCodes 22 = .ok (.iinc 2 1, 3) := by decide +kernel
theorem dX0_spreadOfCodes_25 : decode cX0_spreadOfCodes 25 = .ok (.goto (-21), 3) := by decide +kernel
theorem dX0_spreadOfCodes_28 : decode cX0_spreadOfCodes 28 = .ok (.iload_n 1, 1) := by decide +kernel
theorem dX0_spreadOfCodes_29 : decode cX0_spreadOfCodes 29 = .ok (.ireturn, 1) := by decide +kernel
theorem dX0_partner_0 : decode cX0_partner 0 = .ok (.aload_n 0, 1) := by decide +kernel
theorem dX0_partner_1 : decode cX0_partner 1 = .ok (.iload_n 1, 1) := by decide +kernel
theorem dX0_partner_2 : decode cX0_partner 2 = .ok (.invokevirtual 48, 3) := by decide +kernel
theorem dX0_partner_5 : decode cX0_partner 5 = .ok (.istore_n 3, 1) := by decide +kernel
theorem dX0_partner_6 : decode cX0_partner 6 = .ok (.iload_n 3, 1) := by decide +kernel
theorem dX0_partner_7 : decode cX0_partner 7 = .ok (.bipush (-9), 2) := by decide +kernel
theorem dX0_partner_9 : decode cX0_partner 9 = .ok (.if_icmp .ne 8, 3) := by decide +kernel
theorem dX0_partner_12 : decode cX0_partner 12 = .ok (.bipush (-9), 2) := by decide +kernel
theorem dX0_partner_14 : decode cX0_partner 14 = .ok (.goto 15, 3) := by decide +kernel
theorem dX0_partner_17 : decode cX0_partner 17 = .ok (.aload_n 0, 1) := by decide +kernel
theorem dX0_partner_18 : decode cX0_partner 18 = .ok (.iload_n 3, 1) := by decide +kernel
theorem dX0_partner_19 : decode cX0_partner 19 = .ok (.iload_n 2, 1) := by decide +kernel
theorem dX0_partner_20 : decode cX0_partner 20 = .ok (.isub, 1) := by decide +kernel
theorem dX0_partner_21 : decode cX0_partner 21 = .ok (.bipush 100, 2) := by decide +kernel
theorem dX0_partner_23 : decode cX0_partner 23 = .ok (.invokestatic 36, 3) := by decide +kernel
theorem dX0_partner_26 : decode cX0_partner 26 = .ok (.invokevirtual 51, 3) := by decide +kernel
theorem dX0_partner_29 : decode cX0_partner 29 = .ok (.ireturn, 1) := by decide +kernel
theorem dX0_likeliest_0 : decode cX0_likeliest 0 = .ok (.bipush (-9), 2) := by decide +kernel
theorem dX0_likeliest_2 : decode cX0_likeliest 2 = .ok (.istore_n 2, 1) := by decide +kernel
theorem dX0_likeliest_3 : decode cX0_likeliest 3 = .ok (.iconst 0, 1) := by decide +kernel
theorem dX0_likeliest_4 : decode cX0_likeliest 4 = .ok (.istore_n 3, 1) := by decide +kernel
theorem dX0_likeliest_5 : decode cX0_likeliest 5 = .ok (.iconst 0, 1) := by decide +kernel
theorem dX0_likeliest_6 : decode cX0_likeliest 6 = .ok (.istore 4, 2) := by decide +kernel
theorem dX0_likeliest_8 : decode cX0_likeliest 8 = .ok (.iload 4, 2) := by decide +kernel
theorem dX0_likeliest_10 : decode cX0_likeliest 10 = .ok (.bipush 30, 2) := by decide +kernel
theorem dX0_likeliest_12 : decode cX0_likeliest 12 = .ok (.if_icmp .ge 60, 3) := by decide +kernel
theorem dX0_likeliest_15 : decode cX0_likeliest 15 = .ok (.aload_n 0, 1) := by decide +kernel
theorem dX0_likeliest_16 : decode cX0_likeliest 16 = .ok (.iload 4, 2) := by decide +kernel
theorem dX0_likeliest_18 : decode cX0_likeliest 18 = .ok (.iload_n 1, 1) := by decide +kernel
theorem dX0_likeliest_19 : decode cX0_likeliest 19 = .ok (.invokevirtual 54, 3) := by decide +kernel
theorem dX0_likeliest_22 : decode cX0_likeliest 22 = .ok (.istore 5, 2) := by decide +kernel
theorem dX0_likeliest_24 : decode cX0_likeliest 24 = .ok (.iload 5, 2) := by decide +kernel
theorem dX0_likeliest_26 : decode cX0_likeliest 26 = .ok (.bipush (-9), 2) := by decide +kernel
theorem dX0_likeliest_28 : decode cX0_likeliest 28 = .ok (.if_icmp .ne 7, 3) := by decide +kernel
theorem dX0_likeliest_31 : decode cX0_likeliest 31 = .ok (.iconst 0, 1) := by decide +kernel
theorem dX0_likeliest_32 : decode cX0_likeliest 32 = .ok (.goto 20, 3) := by decide +kernel
theorem dX0_likeliest_35 : decode cX0_likeliest 35 = .ok (.aload_n 0, 1) := by decide +kernel
theorem dX0_likeliest_36 : decode cX0_likeliest 36 = .ok (.iload 4, 2) := by decide +kernel
theorem dX0_likeliest_38 : decode cX0_likeliest 38 = .ok (.invokevirtual 57, 3) := by decide +kernel
theorem dX0_likeliest_41 : decode cX0_likeliest 41 = .ok (.iconst 1, 1) := by decide +kernel
theorem dX0_likeliest_42 : decode cX0_likeliest 42 = .ok (.iadd, 1) := by decide +kernel
theorem dX0_likeliest_43 : decode cX0_likeliest 43 = .ok (.aload_n 0, 1) := by decide +kernel
theorem dX0_likeliest_44 : decode cX0_likeliest 44 = .ok (.iload 5, 2) := by decide +kernel
theorem dX0_likeliest_46 : decode cX0_likeliest 46 = .ok (.invokevirtual 57, 3) := by decide +kernel
theorem dX0_likeliest_49 : decode cX0_likeliest 49 = .ok (.iconst 1, 1) := by decide +kernel
theorem dX0_likeliest_50 : decode cX0_likeliest 50 = .ok (.iadd, 1) := by decide +kernel
theorem dX0_likeliest_51 : decode cX0_likeliest 51 = .ok (.imul, 1) := by decide +kernel
theorem dX0_likeliest_52 : decode cX0_likeliest 52 = .ok (.istore 6, 2) := by decide +kernel
theorem dX0_likeliest_54 : decode cX0_likeliest 54 = .ok (.iload 6, 2) := by decide +kernel
theorem dX0_likeliest_56 : decode cX0_likeliest 56 = .ok (.iload_n 3, 1) := by decide +kernel
theorem dX0_likeliest_57 : decode cX0_likeliest 57 = .ok (.if_icmp .le 9, 3) := by decide +kernel
theorem dX0_likeliest_60 : decode cX0_likeliest 60 = .ok (.iload 6, 2) := by decide +kernel
theorem dX0_likeliest_62 : decode cX0_likeliest 62 = .ok (.istore_n 3, 1) := by decide +kernel
theorem dX0_likeliest_63 : decode cX0_likeliest 63 = .ok (.iload 4, 2) := by decide +kernel
theorem dX0_likeliest_65 : decode cX0_likeliest 65 = .ok (.istore_n 2, 1) := by decide +kernel
theorem dX0_likeliest_66 : decode cX0_likeliest 66 = .ok (.iinc 4 1, 3) := by decide +kernel
theorem dX0_likeliest_69 : decode cX0_likeliest 69 = .ok (.goto (-61), 3) := by decide +kernel
theorem dX0_likeliest_72 : decode cX0_likeliest 72 = .ok (.iload_n 2, 1) := by decide +kernel
theorem dX0_likeliest_73 : decode cX0_likeliest 73 = .ok (.ireturn, 1) := by decide +kernel
theorem dX0_triplesApart_0 : decode cX0_triplesApart 0 = .ok (.iconst 0, 1) := by decide +kernel
theorem dX0_triplesApart_1 : decode cX0_triplesApart 1 = .ok (.istore_n 3, 1) := by decide +kernel
theorem dX0_triplesApart_2 : decode cX0_triplesApart 2 = .ok (.iconst 0, 1) := by decide +kernel
theorem dX0_triplesApart_3 : decode cX0_triplesApart 3 = .ok (.istore 4, 2) := by decide +kernel
theorem dX0_triplesApart_5 : decode cX0_triplesApart 5 = .ok (.iload 4, 2) := by decide +kernel
theorem dX0_triplesApart_7 : decode cX0_triplesApart 7 = .ok (.bipush 30, 2) := by decide +kernel
theorem dX0_triplesApart_9 : decode cX0_triplesApart 9 = .ok (.if_icmp .ge 36, 3) := by decide +kernel
theorem dX0_triplesApart_12 : decode cX0_triplesApart 12 = .ok (.aload_n 0, 1) := by decide +kernel
theorem dX0_triplesApart_13 : decode cX0_triplesApart 13 = .ok (.iload 4, 2) := by decide +kernel
theorem dX0_triplesApart_15 : decode cX0_triplesApart 15 = .ok (.iload_n 1, 1) := by decide +kernel
theorem dX0_triplesApart_16 : decode cX0_triplesApart 16 = .ok (.invokevirtual 54, 3) := by decide +kernel
theorem dX0_triplesApart_19 : decode cX0_triplesApart 19 = .ok (.bipush (-9), 2) := by decide +kernel
theorem dX0_triplesApart_21 : decode cX0_triplesApart 21 = .ok (.if_icmp .eq 18, 3) := by decide +kernel
theorem dX0_triplesApart_24 : decode cX0_triplesApart 24 = .ok (.aload_n 0, 1) := by decide +kernel
theorem dX0_triplesApart_25 : decode cX0_triplesApart 25 = .ok (.iload 4, 2) := by decide +kernel
theorem dX0_triplesApart_27 : decode cX0_triplesApart 27 = .ok (.iload_n 2, 1) := by decide +kernel
theorem dX0_triplesApart_28 : decode cX0_triplesApart 28 = .ok (.invokevirtual 54, 3) := by decide +kernel
theorem dX0_triplesApart_31 : decode cX0_triplesApart 31 = .ok (.bipush (-9), 2) := by decide +kernel
theorem dX0_triplesApart_33 : decode cX0_triplesApart 33 = .ok (.if_icmp .eq 6, 3) := by decide +kernel
theorem dX0_triplesApart_36 : decode cX0_triplesApart 36 = .ok (.iinc 3 1, 3) := by decide +kernel
theorem dX0_triplesApart_39 : decode cX0_triplesApart 39 = .ok (.iinc 4 1, 3) := by decide +kernel
theorem dX0_triplesApart_42 : decode cX0_triplesApart 42 = .ok (.goto (-37), 3) := by decide +kernel
theorem dX0_triplesApart_45 : decode cX0_triplesApart 45 = .ok (.iload_n 3, 1) := by decide +kernel
theorem dX0_triplesApart_46 : decode cX0_triplesApart 46 = .ok (.ireturn, 1) := by decide +kernel
theorem dX1_init_0 : decode cX1_init 0 = .ok (.aload_n 0, 1) := by decide +kernel
theorem dX1_init_1 : decode cX1_init 1 = .ok (.invokespecial 3, 3) := by decide +kernel
theorem dX1_init_4 : decode cX1_init 4 = .ok (.aload_n 0, 1) := by decide +kernel
theorem dX1_init_5 : decode cX1_init 5 = .ok (.iconst 4, 1) := by decide +kernel
theorem dX1_init_6 : decode cX1_init 6 = .ok (.newarray .int, 2) := by decide +kernel
theorem dX1_init_8 : decode cX1_init 8 = .ok (.dup, 1) := by decide +kernel
theorem dX1_init_9 : decode cX1_init 9 = .ok (.iconst 0, 1) := by decide +kernel
theorem dX1_init_10 : decode cX1_init 10 = .ok (.bipush (-9), 2) := by decide +kernel
theorem dX1_init_12 : decode cX1_init 12 = .ok (.iastore, 1) := by decide +kernel
theorem dX1_init_13 : decode cX1_init 13 = .ok (.dup, 1) := by decide +kernel
theorem dX1_init_14 : decode cX1_init 14 = .ok (.iconst 1, 1) := by decide +kernel
theorem dX1_init_15 : decode cX1_init 15 = .ok (.bipush (-9), 2) := by decide +kernel
theorem dX1_init_17 : decode cX1_init 17 = .ok (.iastore, 1) := by decide +kernel
theorem dX1_init_18 : decode cX1_init 18 = .ok (.dup, 1) := by decide +kernel
theorem dX1_init_19 : decode cX1_init 19 = .ok (.iconst 2, 1) := by decide +kernel
theorem dX1_init_20 : decode cX1_init 20 = .ok (.bipush (-9), 2) := by decide +kernel
theorem dX1_init_22 : decode cX1_init 22 = .ok (.iastore, 1) := by decide +kernel
theorem dX1_init_23 : decode cX1_init 23 = .ok (.dup, 1) := by decide +kernel
theorem dX1_init_24 : decode cX1_init 24 = .ok (.iconst 3, 1) := by decide +kernel
theorem dX1_init_25 : decode cX1_init 25 = .ok (.bipush (-9), 2) := by decide +kernel
theorem dX1_init_27 : decode cX1_init 27 = .ok (.iastore, 1) := by decide +kernel
theorem dX1_init_28 : decode cX1_init 28 = .ok (.putfield 9, 3) := by decide +kernel
theorem dX1_init_31 : decode cX1_init 31 = .ok (.return_, 1) := by decide +kernel
theorem dX1_itemOf_0 : decode cX1_itemOf 0 = .ok (.iconst 0, 1) := by decide +kernel
theorem dX1_itemOf_1 : decode cX1_itemOf 1 = .ok (.istore_n 1, 1) := by decide +kernel
theorem dX1_itemOf_2 : decode cX1_itemOf 2 = .ok (.iload_n 1, 1) := by decide +kernel
theorem dX1_itemOf_3 : decode cX1_itemOf 3 = .ok (.iconst 4, 1) := by decide +kernel
theorem dX1_itemOf_4 : decode cX1_itemOf 4 = .ok (.if_icmp .ge 20, 3) := by decide +kernel
theorem dX1_itemOf_7 : decode cX1_itemOf 7 = .ok (.getstatic 15, 3) := by decide +kernel
theorem dX1_itemOf_10 : decode cX1_itemOf 10 = .ok (.iload_n 1, 1) := by decide +kernel
theorem dX1_itemOf_11 : decode cX1_itemOf 11 = .ok (.iaload, 1) := by decide +kernel
theorem dX1_itemOf_12 : decode cX1_itemOf 12 = .ok (.iload_n 0, 1) := by decide +kernel
theorem dX1_itemOf_13 : decode cX1_itemOf 13 = .ok (.if_icmp .ne 5, 3) := by decide +kernel
theorem dX1_itemOf_16 : decode cX1_itemOf 16 = .ok (.iload_n 1, 1) := by decide +kernel
theorem dX1_itemOf_17 : decode cX1_itemOf 17 = .ok (.ireturn, 1) := by decide +kernel
theorem dX1_itemOf_18 : decode cX1_itemOf 18 = .ok (.iinc 1 1, 3) := by decide +kernel
theorem dX1_itemOf_21 : decode cX1_itemOf 21 = .ok (.goto (-19), 3) := by decide +kernel
theorem dX1_itemOf_24 : decode cX1_itemOf 24 = .ok (.bipush (-9), 2) := by decide +kernel
theorem dX1_itemOf_26 : decode cX1_itemOf 26 = .ok (.ireturn, 1) := by decide +kernel
theorem dX1_hasNumber_0 : decode cX1_hasNumber 0 = .ok (.iload_n 0, 1) := by decide +kernel
theorem dX1_hasNumber_1 : decode cX1_hasNumber 1 = .ok (.iconst 2, 1) := by decide +kernel
theorem dX1_hasNumber_2 : decode cX1_hasNumber 2 = .ok (.if_icmp .eq 7, 3) := by decide +kernel
theorem dX1_hasNumber_5 : decode cX1_hasNumber 5 = .ok (.iconst 1, 1) := by decide +kernel
theorem dX1_hasNumber_6 : decode cX1_hasNumber 6 = .ok (.goto 4, 3) := by decide +kernel
theorem dX1_hasNumber_9 : decode cX1_hasNumber 9 = .ok (.iconst 0, 1) := by decide +kernel
theorem dX1_hasNumber_10 : decode cX1_hasNumber 10 = .ok (.ireturn, 1) := by decide +kernel
theorem dX1_isTold_0 : decode cX1_isTold 0 = .ok (.iload_n 1, 1) := by decide +kernel
theorem dX1_isTold_1 : decode cX1_isTold 1 = .ok (.iconst 4, 1) := by decide +kernel
theorem dX1_isTold_2 : decode cX1_isTold 2 = .ok (.invokestatic 18, 3) := by decide +kernel
theorem dX1_isTold_5 : decode cX1_isTold 5 = .ok (.ifCond .eq 18, 3) := by decide +kernel
theorem dX1_isTold_8 : decode cX1_isTold 8 = .ok (.aload_n 0, 1) := by decide +kernel
theorem dX1_isTold_9 : decode cX1_isTold 9 = .ok (.getfield 9, 3) := by decide +kernel
theorem dX1_isTold_12 : decode cX1_isTold 12 = .ok (.iload_n 1, 1) := by decide +kernel
theorem dX1_isTold_13 : decode cX1_isTold 13 = .ok (.iaload, 1) := by decide +kernel
theorem dX1_isTold_14 : decode cX1_isTold 14 = .ok (.bipush (-9), 2) := by decide +kernel
theorem dX1_isTold_16 : decode cX1_isTold 16 = .ok (.if_icmp .eq 7, 3) := by decide +kernel
theorem dX1_isTold_19 : decode cX1_isTold 19 = .ok (.iconst 1, 1) := by decide +kernel
theorem dX1_isTold_20 : decode cX1_isTold 20 = .ok (.goto 4, 3) := by decide +kernel
theorem dX1_isTold_23 : decode cX1_isTold 23 = .ok (.iconst 0, 1) := by decide +kernel
theorem dX1_isTold_24 : decode cX1_isTold 24 = .ok (.ireturn, 1) := by decide +kernel
theorem dX1_takes_0 : decode cX1_takes 0 = .ok (.iload_n 1, 1) := by decide +kernel
theorem dX1_takes_1 : decode cX1_takes 1 = .ok (.iconst 4, 1) := by decide +kernel
theorem dX1_takes_2 : decode cX1_takes 2 = .ok (.invokestatic 18, 3) := by decide +kernel
theorem dX1_takes_5 : decode cX1_takes 5 = .ok (.ifCond .eq 21, 3) := by decide +kernel
theorem dX1_takes_8 : decode cX1_takes 8 = .ok (.iload_n 2, 1) := by decide +kernel
theorem dX1_takes_9 : decode cX1_takes 9 = .ok (.getstatic 22, 3) := by decide +kernel
theorem dX1_takes_12 : decode cX1_takes 12 = .ok (.iload_n 1, 1) := by decide +kernel
theorem dX1_takes_13 : decode cX1_takes 13 = .ok (.iaload, 1) := by decide +kernel
theorem dX1_takes_14 : decode cX1_takes 14 = .ok (.if_icmp .lt 12, 3) := by decide +kernel
theorem dX1_takes_17 : decode cX1_takes 17 = .ok (.iload_n 2, 1) := by decide +kernel
theorem dX1_takes_18 : decode cX1_takes 18 = .ok (.getstatic 25, 3) := by decide +kernel
theorem dX1_takes_21 : decode cX1_takes 21 = .ok (.iload_n 1, 1) := by decide +kernel
theorem dX1_takes_22 : decode cX1_takes 22 = .ok (.iaload, 1) := by decide +kernel
theorem dX1_takes_23 : decode cX1_takes 23 = .ok (.if_icmp .le 5, 3) := by decide +kernel
theorem dX1_takes_26 : decode cX1_takes 26 = .ok (.iconst 0, 1) := by decide +kernel
theorem dX1_takes_27 : decode cX1_takes 27 = .ok (.ireturn, 1) := by decide +kernel
theorem dX1_takes_28 : decode cX1_takes 28 = .ok (.aload_n 0, 1) := by decide +kernel
theorem dX1_takes_29 : decode cX1_takes 29 = .ok (.getfield 9, 3) := by decide +kernel
theorem dX1_takes_32 : decode cX1_takes 32 = .ok (.iload_n 1, 1) := by decide +kernel
theorem dX1_takes_33 : decode cX1_takes 33 = .ok (.iload_n 2, 1) := by decide +kernel
theorem dX1_takes_34 : decode cX1_takes 34 = .ok (.iastore, 1) := by decide +kernel
theorem dX1_takes_35 : decode cX1_takes 35 = .ok (.iconst 1, 1) := by decide +kernel
theorem dX1_takes_36 : decode cX1_takes 36 = .ok (.ireturn, 1) := by decide +kernel
theorem dX1_beginning_0 : decode cX1_beginning 0 = .ok (.aload_n 0, 1) := by decide +kernel
theorem dX1_beginning_1 : decode cX1_beginning 1 = .ok (.getfield 9, 3) := by decide +kernel
theorem dX1_beginning_4 : decode cX1_beginning 4 = .ok (.iconst 0, 1) := by decide +kernel
theorem dX1_beginning_5 : decode cX1_beginning 5 = .ok (.iaload, 1) := by decide +kernel
theorem dX1_beginning_6 : decode cX1_beginning 6 = .ok (.ireturn, 1) := by decide +kernel
theorem dX1_multiple_0 : decode cX1_multiple 0 = .ok (.aload_n 0, 1) := by decide +kernel
theorem dX1_multiple_1 : decode cX1_multiple 1 = .ok (.getfield 9, 3) := by decide +kernel
theorem dX1_multiple_4 : decode cX1_multiple 4 = .ok (.iconst 1, 1) := by decide +kernel
theorem dX1_multiple_5 : decode cX1_multiple 5 = .ok (.iaload, 1) := by decide +kernel
theorem dX1_multiple_6 : decode cX1_multiple 6 = .ok (.ireturn, 1) := by decide +kernel
theorem dX1_hasCheck_0 : decode cX1_hasCheck 0 = .ok (.aload_n 0, 1) := by decide +kernel
theorem dX1_hasCheck_1 : decode cX1_hasCheck 1 = .ok (.iconst 2, 1) := by decide +kernel
theorem dX1_hasCheck_2 : decode cX1_hasCheck 2 = .ok (.invokevirtual 28, 3) := by decide +kernel
theorem dX1_hasCheck_5 : decode cX1_hasCheck 5 = .ok (.ireturn, 1) := by decide +kernel
theorem dX1_allowsReuse_0 : decode cX1_allowsReuse 0 = .ok (.aload_n 0, 1) := by decide +kernel
theorem dX1_allowsReuse_1 : decode cX1_allowsReuse 1 = .ok (.getfield 9, 3) := by decide +kernel
theorem dX1_allowsReuse_4 : decode cX1_allowsReuse 4 = .ok (.iconst 3, 1) := by decide +kernel
theorem dX1_allowsReuse_5 : decode cX1_allowsReuse 5 = .ok (.iaload, 1) := by decide +kernel
theorem dX1_allowsReuse_6 : decode cX1_allowsReuse 6 = .ok (.iconst 1, 1) := by decide +kernel
theorem dX1_allowsReuse_7 : decode cX1_allowsReuse 7 = .ok (.if_icmp .ne 7, 3) := by decide +kernel
theorem dX1_allowsReuse_10 : decode cX1_allowsReuse 10 = .ok (.iconst 1, 1) := by decide +kernel
theorem dX1_allowsReuse_11 : decode cX1_allowsReuse 11 = .ok (.goto 4, 3) := by decide +kernel
theorem dX1_allowsReuse_14 : decode cX1_allowsReuse 14 = .ok (.iconst 0, 1) := by decide +kernel
theorem dX1_allowsReuse_15 : decode cX1_allowsReuse 15 = .ok (.ireturn, 1) := by decide +kernel
theorem dX1_sizeLaid_0 : decode cX1_sizeLaid 0 = .ok (.aload_n 0, 1) := by decide +kernel
theorem dX1_sizeLaid_1 : decode cX1_sizeLaid 1 = .ok (.iload_n 1, 1) := by decide +kernel
theorem dX1_sizeLaid_2 : decode cX1_sizeLaid 2 = .ok (.invokevirtual 32, 3) := by decide +kernel
theorem dX1_sizeLaid_5 : decode cX1_sizeLaid 5 = .ok (.istore_n 2, 1) := by decide +kernel
theorem dX1_sizeLaid_6 : decode cX1_sizeLaid 6 = .ok (.aload_n 0, 1) := by decide +kernel
theorem dX1_sizeLaid_7 : decode cX1_sizeLaid 7 = .ok (.invokevirtual 36, 3) := by decide +kernel
theorem dX1_sizeLaid_10 : decode cX1_sizeLaid 10 = .ok (.ifCond .eq 9, 3) := by decide +kernel
theorem dX1_sizeLaid_13 : decode cX1_sizeLaid 13 = .ok (.iload_n 2, 1) := by decide +kernel
theorem dX1_sizeLaid_14 : decode cX1_sizeLaid 14 = .ok (.iconst 1, 1) := by decide +kernel
theorem dX1_sizeLaid_15 : decode cX1_sizeLaid 15 = .ok (.iadd, 1) := by decide +kernel
theorem dX1_sizeLaid_16 : decode cX1_sizeLaid 16 = .ok (.goto 4, 3) := by decide +kernel
theorem dX1_sizeLaid_19 : decode cX1_sizeLaid 19 = .ok (.iload_n 2, 1) := by decide +kernel
theorem dX1_sizeLaid_20 : decode cX1_sizeLaid 20 = .ok (.ireturn, 1) := by decide +kernel
theorem dX1_sizeAheadOfCheck_0 : decode cX1_sizeAheadOfCheck 0 = .ok (.aload_n 0, 1) := by decide +kernel
theorem dX1_sizeAheadOfCheck_1 : decode cX1_sizeAheadOfCheck 1 = .ok (.iconst 0, 1) := by decide +kernel
theorem dX1_sizeAheadOfCheck_2 : decode cX1_sizeAheadOfCheck 2 = .ok (.invokevirtual 28, 3) := by decide +kernel
theorem dX1_sizeAheadOfCheck_5 : decode cX1_sizeAheadOfCheck 5 = .ok (.ifCond .eq 9, 3) := by decide +kernel
theorem dX1_sizeAheadOfCheck_8 : decode cX1_sizeAheadOfCheck 8 = .ok (.iload_n 1, 1) := by decide +kernel
theorem dX1_sizeAheadOfCheck_9 : decode cX1_sizeAheadOfCheck 9 = .ok (.iconst 1, 1) := by decide +kernel
theorem dX1_sizeAheadOfCheck_10 : decode cX1_sizeAheadOfCheck 10 = .ok (.iadd, 1) := by decide +kernel
theorem dX1_sizeAheadOfCheck_11 : decode cX1_sizeAheadOfCheck 11 = .ok (.goto 4, 3) := by decide +kernel
theorem dX1_sizeAheadOfCheck_14 : decode cX1_sizeAheadOfCheck 14 = .ok (.iload_n 1, 1) := by decide +kernel
theorem dX1_sizeAheadOfCheck_15 : decode cX1_sizeAheadOfCheck 15 = .ok (.istore_n 2, 1) := by decide +kernel
theorem dX1_sizeAheadOfCheck_16 : decode cX1_sizeAheadOfCheck 16 = .ok (.aload_n 0, 1) := by decide +kernel
theorem dX1_sizeAheadOfCheck_17 : decode cX1_sizeAheadOfCheck 17 = .ok (.invokevirtual 40, 3) := by decide +kernel
theorem dX1_sizeAheadOfCheck_20 : decode cX1_sizeAheadOfCheck 20 = .ok (.istore_n 3, 1) := by decide +kernel
theorem dX1_sizeAheadOfCheck_21 : decode cX1_sizeAheadOfCheck 21 = .ok (.iload_n 3, 1) := by decide +kernel
theorem dX1_sizeAheadOfCheck_22 : decode cX1_sizeAheadOfCheck 22 = .ok (.ifCond .le 9, 3) := by decide +kernel
theorem dX1_sizeAheadOfCheck_25 : decode cX1_sizeAheadOfCheck 25 = .ok (.iload_n 2, 1) := by decide +kernel
theorem dX1_sizeAheadOfCheck_26 : decode cX1_sizeAheadOfCheck 26 = .ok (.iload_n 3, 1) := by decide +kernel
theorem dX1_sizeAheadOfCheck_27 : decode cX1_sizeAheadOfCheck 27 = .ok (.irem, 1) := by decide +kernel
theorem dX1_sizeAheadOfCheck_28 : decode cX1_sizeAheadOfCheck 28 = .ok (.goto 4, 3) := by decide +kernel
theorem dX1_sizeAheadOfCheck_31 : decode cX1_sizeAheadOfCheck 31 = .ok (.iconst 0, 1) := by decide +kernel
theorem dX1_sizeAheadOfCheck_32 : decode cX1_sizeAheadOfCheck 32 = .ok (.istore 4, 2) := by decide +kernel
theorem dX1_sizeAheadOfCheck_34 : decode cX1_sizeAheadOfCheck 34 = .ok (.iload 4, 2) := by decide +kernel
theorem dX1_sizeAheadOfCheck_36 : decode cX1_sizeAheadOfCheck 36 = .ok (.ifCond .ne 7, 3) := by decide +kernel
theorem dX1_sizeAheadOfCheck_39 : decode cX1_sizeAheadOfCheck 39 = .ok (.iload_n 2, 1) := by decide +kernel
theorem dX1_sizeAheadOfCheck_40 : decode cX1_sizeAheadOfCheck 40 = .ok (.goto 9, 3) := by decide +kernel
theorem dX1_sizeAheadOfCheck_43 : decode cX1_sizeAheadOfCheck 43 = .ok (.iload_n 2, 1) := by decide +kernel
theorem dX1_sizeAheadOfCheck_44 : decode cX1_sizeAheadOfCheck 44 = .ok (.iload_n 3, 1) := by decide +kernel
theorem dX1_sizeAheadOfCheck_45 : decode cX1_sizeAheadOfCheck 45 = .ok (.iadd, 1) := by decide +kernel
theorem dX1_sizeAheadOfCheck_46 : decode cX1_sizeAheadOfCheck 46 = .ok (.iload 4, 2) := by decide +kernel
theorem dX1_sizeAheadOfCheck_48 : decode cX1_sizeAheadOfCheck 48 = .ok (.isub, 1) := by decide +kernel
theorem dX1_sizeAheadOfCheck_49 : decode cX1_sizeAheadOfCheck 49 = .ok (.ireturn, 1) := by decide +kernel
theorem dX1_lay_0 : decode cX1_lay 0 = .ok (.iconst 0, 1) := by decide +kernel
theorem dX1_lay_1 : decode cX1_lay 1 = .ok (.istore 6, 2) := by decide +kernel
theorem dX1_lay_3 : decode cX1_lay 3 = .ok (.aload_n 0, 1) := by decide +kernel
theorem dX1_lay_4 : decode cX1_lay 4 = .ok (.iconst 0, 1) := by decide +kernel
theorem dX1_lay_5 : decode cX1_lay 5 = .ok (.invokevirtual 28, 3) := by decide +kernel
theorem dX1_lay_8 : decode cX1_lay 8 = .ok (.ifCond .eq 21, 3) := by decide +kernel
theorem dX1_lay_11 : decode cX1_lay 11 = .ok (.iload 6, 2) := by decide +kernel
theorem dX1_lay_13 : decode cX1_lay 13 = .ok (.aload_n 1, 1) := by decide +kernel
theorem dX1_lay_14 : decode cX1_lay 14 = .ok (.arraylength, 1) := by decide +kernel
theorem dX1_lay_15 : decode cX1_lay 15 = .ok (.if_icmp .ge 14, 3) := by decide +kernel
theorem dX1_lay_18 : decode cX1_lay 18 = .ok (.aload_n 1, 1) := by decide +kernel
theorem dX1_lay_19 : decode cX1_lay 19 = .ok (.iload 6, 2) := by decide +kernel
theorem dX1_lay_21 : decode cX1_lay 21 = .ok (.aload_n 0, 1) := by decide +kernel
theorem dX1_lay_22 : decode cX1_lay 22 = .ok (.invokevirtual 44, 3) := by decide +kernel
theorem dX1_lay_25 : decode cX1_lay 25 = .ok (.iastore, 1) := by decide +kernel
theorem dX1_lay_26 : decode cX1_lay 26 = .ok (.iinc 6 1, 3) := by decide +kernel
theorem dX1_lay_29 : decode cX1_lay 29 = .ok (.iconst 0, 1) := by decide +kernel
theorem dX1_lay_30 : decode cX1_lay 30 = .ok (.istore 7, 2) := by decide +kernel
theorem dX1_lay_32 : decode cX1_lay 32 = .ok (.iload 7, 2) := by decide +kernel
theorem dX1_lay_34 : decode cX1_lay 34 = .ok (.iload 5, 2) := by decide +kernel
theorem dX1_lay_36 : decode cX1_lay 36 = .ok (.if_icmp .ge 36, 3) := by decide +kernel
theorem dX1_lay_39 : decode cX1_lay 39 = .ok (.iload 6, 2) := by decide +kernel
theorem dX1_lay_41 : decode cX1_lay 41 = .ok (.aload_n 1, 1) := by decide +kernel
theorem dX1_lay_42 : decode cX1_lay 42 = .ok (.arraylength, 1) := by decide +kernel
theorem dX1_lay_43 : decode cX1_lay 43 = .ok (.if_icmp .ge 29, 3) := by decide +kernel
theorem dX1_lay_46 : decode cX1_lay 46 = .ok (.aload_n 1, 1) := by decide +kernel
theorem dX1_lay_47 : decode cX1_lay 47 = .ok (.iload 6, 2) := by decide +kernel
theorem dX1_lay_49 : decode cX1_lay 49 = .ok (.aload_n 2, 1) := by decide +kernel
theorem dX1_lay_50 : decode cX1_lay 50 = .ok (.aload_n 3, 1) := by decide +kernel
theorem dX1_lay_51 : decode cX1_lay 51 = .ok (.iload 4, 2) := by decide +kernel
theorem dX1_lay_53 : decode cX1_lay 53 = .ok (.iload 7, 2) := by decide +kernel
theorem dX1_lay_55 : decode cX1_lay 55 = .ok (.iadd, 1) := by decide +kernel
theorem dX1_lay_56 : decode cX1_lay 56 = .ok (.invokevirtual 47, 3) := by decide +kernel
theorem dX1_lay_59 : decode cX1_lay 59 = .ok (.invokevirtual 52, 3) := by decide +kernel
theorem dX1_lay_62 : decode cX1_lay 62 = .ok (.iastore, 1) := by decide +kernel
theorem dX1_lay_63 : decode cX1_lay 63 = .ok (.iinc 6 1, 3) := by decide +kernel
theorem dX1_lay_66 : decode cX1_lay 66 = .ok (.iinc 7 1, 3) := by decide +kernel
theorem dX1_lay_69 : decode cX1_lay 69 = .ok (.goto (-37), 3) := by decide +kernel
theorem dX1_lay_72 : decode cX1_lay 72 = .ok (.aload_n 0, 1) := by decide +kernel
theorem dX1_lay_73 : decode cX1_lay 73 = .ok (.invokevirtual 36, 3) := by decide +kernel
theorem dX1_lay_76 : decode cX1_lay 76 = .ok (.ifCond .eq 18, 3) := by decide +kernel
theorem dX1_lay_79 : decode cX1_lay 79 = .ok (.aload_n 1, 1) := by decide +kernel
theorem dX1_lay_80 : decode cX1_lay 80 = .ok (.arraylength, 1) := by decide +kernel
theorem dX1_lay_81 : decode cX1_lay 81 = .ok (.ifCond .le 13, 3) := by decide +kernel
theorem dX1_lay_84 : decode cX1_lay 84 = .ok (.aload_n 1, 1) := by decide +kernel
theorem dX1_lay_85 : decode cX1_lay 85 = .ok (.aload_n 1, 1) := by decide +kernel
theorem dX1_lay_86 : decode cX1_lay 86 = .ok (.arraylength, 1) := by decide +kernel
theorem dX1_lay_87 : decode cX1_lay 87 = .ok (.iconst 1, 1) := by decide +kernel
theorem dX1_lay_88 : decode cX1_lay 88 = .ok (.isub, 1) := by decide +kernel
theorem dX1_lay_89 : decode cX1_lay 89 = .ok (.aload_n 1, 1) := by decide +kernel
theorem dX1_lay_90 : decode cX1_lay 90 = .ok (.invokestatic 57, 3) := by decide +kernel
theorem dX1_lay_93 : decode cX1_lay 93 = .ok (.iastore, 1) := by decide +kernel
theorem dX1_lay_94 : decode cX1_lay 94 = .ok (.return_, 1) := by decide +kernel
theorem dX1_checkOfAllButLast_0 : decode cX1_checkOfAllButLast 0 = .ok (.iconst 0, 1) := by decide +kernel
theorem dX1_checkOfAllButLast_1 : decode cX1_checkOfAllButLast 1 = .ok (.istore_n 1, 1) := by decide +kernel
theorem dX1_checkOfAllButLast_2 : decode cX1_checkOfAllButLast 2 = .ok (.iconst 0, 1) := by decide +kernel
theorem dX1_checkOfAllButLast_3 : decode cX1_checkOfAllButLast 3 = .ok (.istore_n 2, 1) := by decide +kernel
theorem dX1_checkOfAllButLast_4 : decode cX1_checkOfAllButLast 4 = .ok (.iload_n 2, 1) := by decide +kernel
theorem dX1_checkOfAllButLast_5 : decode cX1_checkOfAllButLast 5 = .ok (.aload_n 0, 1) := by decide +kernel
theorem dX1_checkOfAllButLast_6 : decode cX1_checkOfAllButLast 6 = .ok (.arraylength, 1) := by decide +kernel
theorem dX1_checkOfAllButLast_7 : decode cX1_checkOfAllButLast 7 = .ok (.iconst 1, 1) := by decide +kernel
theorem dX1_checkOfAllButLast_8 : decode cX1_checkOfAllButLast 8 = .ok (.isub, 1) := by decide +kernel
theorem dX1_checkOfAllButLast_9 : decode cX1_checkOfAllButLast 9 = .ok (.if_icmp .ge 19, 3) := by decide +kernel
theorem dX1_checkOfAllButLast_12 : decode cX1_checkOfAllButLast 12 = .ok (.iload_n 1, 1) := by decide +kernel
theorem dX1_checkOfAllButLast_13 : decode cX1_checkOfAllButLast 13 = .ok (.aload_n 0, 1) := by decide +kernel
theorem dX1_checkOfAllButLast_14 : decode cX1_checkOfAllButLast 14 = .ok (.iload_n 2, 1) := by decide +kernel
theorem dX1_checkOfAllButLast_15 : decode cX1_checkOfAllButLast 15 = .ok (.iaload, 1) := by decide +kernel
theorem dX1_checkOfAllButLast_16 : decode cX1_checkOfAllButLast 16 = .ok (.iload_n 2, 1) := by decide +kernel
theorem dX1_checkOfAllButLast_17 : decode cX1_checkOfAllButLast 17 = .ok (.invokestatic 61, 3) := by decide +kernel
theorem dX1_checkOfAllButLast_20 : decode cX1_checkOfAllButLast 20 = .ok (.iadd, 1) := by decide +kernel
theorem dX1_checkOfAllButLast_21 : decode cX1_checkOfAllButLast 21 = .ok (.istore_n 1, 1) := by decide +kernel
theorem dX1_checkOfAllButLast_22 : decode cX1_checkOfAllButLast 22 = .ok (.iinc 2 1, 3) := by decide +kernel
theorem dX1_checkOfAllButLast_25 : decode cX1_checkOfAllButLast 25 = .ok (.goto (-21), 3) := by decide +kernel
theorem dX1_checkOfAllButLast_28 : decode cX1_checkOfAllButLast 28 = .ok (.iload_n 1, 1) := by decide +kernel
theorem dX1_checkOfAllButLast_29 : decode cX1_checkOfAllButLast 29 = .ok (.bipush 100, 2) := by decide +kernel
theorem dX1_checkOfAllButLast_31 : decode cX1_checkOfAllButLast 31 = .ok (.irem, 1) := by decide +kernel
theorem dX1_checkOfAllButLast_32 : decode cX1_checkOfAllButLast 32 = .ok (.ireturn, 1) := by decide +kernel
theorem dX1_inCheck_0 : decode cX1_inCheck 0 = .ok (.iload_n 0, 1) := by decide +kernel
theorem dX1_inCheck_1 : decode cX1_inCheck 1 = .ok (.iload_n 1, 1) := by decide +kernel
theorem dX1_inCheck_2 : decode cX1_inCheck 2 = .ok (.iconst 2, 1) := by decide +kernel
theorem dX1_inCheck_3 : decode cX1_inCheck 3 = .ok (.iadd, 1) := by decide +kernel
theorem dX1_inCheck_4 : decode cX1_inCheck 4 = .ok (.imul, 1) := by decide +kernel
theorem dX1_inCheck_5 : decode cX1_inCheck 5 = .ok (.ireturn, 1) := by decide +kernel
theorem dX2_init_0 : decode cX2_init 0 = .ok (.aload_n 0, 1) := by decide +kernel
theorem dX2_init_1 : decode cX2_init 1 = .ok (.invokespecial 3, 3) := by decide +kernel
theorem dX2_init_4 : decode cX2_init 4 = .ok (.aload_n 0, 1) := by decide +kernel
theorem dX2_init_5 : decode cX2_init 5 = .ok (.new 9, 3) := by decide +kernel
theorem dX2_init_8 : decode cX2_init 8 = .ok (.dup, 1) := by decide +kernel
theorem dX2_init_9 : decode cX2_init 9 = .ok (.invokespecial 11, 3) := by decide +kernel
theorem dX2_init_12 : decode cX2_init 12 = .ok (.putfield 12, 3) := by decide +kernel
theorem dX2_init_15 : decode cX2_init 15 = .ok (.aload_n 0, 1) := by decide +kernel
theorem dX2_init_16 : decode cX2_init 16 = .ok (.aload_n 1, 1) := by decide +kernel
theorem dX2_init_17 : decode cX2_init 17 = .ok (.putfield 18, 3) := by decide +kernel
theorem dX2_init_20 : decode cX2_init 20 = .ok (.aload_n 0, 1) := by decide +kernel
theorem dX2_init_21 : decode cX2_init 21 = .ok (.iload_n 2, 1) := by decide +kernel
theorem dX2_init_22 : decode cX2_init 22 = .ok (.putfield 22, 3) := by decide +kernel
theorem dX2_init_25 : decode cX2_init 25 = .ok (.aload_n 0, 1) := by decide +kernel
theorem dX2_init_26 : decode cX2_init 26 = .ok (.iload_n 3, 1) := by decide +kernel
theorem dX2_init_27 : decode cX2_init 27 = .ok (.putfield 26, 3) := by decide +kernel
theorem dX2_init_30 : decode cX2_init 30 = .ok (.return_, 1) := by decide +kernel
theorem dX2_told_0 : decode cX2_told 0 = .ok (.aload_n 0, 1) := by decide +kernel
theorem dX2_told_1 : decode cX2_told 1 = .ok (.getfield 12, 3) := by decide +kernel
theorem dX2_told_4 : decode cX2_told 4 = .ok (.areturn, 1) := by decide +kernel
theorem dX2_readText_0 : decode cX2_readText 0 = .ok (.aload_n 0, 1) := by decide +kernel
theorem dX2_readText_1 : decode cX2_readText 1 = .ok (.getfield 26, 3) := by decide +kernel
theorem dX2_readText_4 : decode cX2_readText 4 = .ok (.ifCond .ne 5, 3) := by decide +kernel
theorem dX2_readText_7 : decode cX2_readText 7 = .ok (.iconst 0, 1) := by decide +kernel
theorem dX2_readText_8 : decode cX2_readText 8 = .ok (.ireturn, 1) := by decide +kernel
theorem dX2_readText_9 : decode cX2_readText 9 = .ok (.iconst 1, 1) := by decide +kernel
theorem dX2_readText_10 : decode cX2_readText 10 = .ok (.istore_n 1, 1) := by decide +kernel
theorem dX2_readText_11 : decode cX2_readText 11 = .ok (.iload_n 1, 1) := by decide +kernel
theorem dX2_readText_12 : decode cX2_readText 12 = .ok (.iconst 4, 1) := by decide +kernel
theorem dX2_readText_13 : decode cX2_readText 13 = .ok (.if_icmp .gt 69, 3) := by decide +kernel
theorem dX2_readText_16 : decode cX2_readText 16 = .ok (.aload_n 0, 1) := by decide +kernel
theorem dX2_readText_17 : decode cX2_readText 17 = .ok (.invokevirtual 29, 3) := by decide +kernel
theorem dX2_readText_20 : decode cX2_readText 20 = .ok (.ifCond .ne 11, 3) := by decide +kernel
theorem dX2_readText_23 : decode cX2_readText 23 = .ok (.bipush (-100), 2) := by decide +kernel
theorem dX2_readText_25 : decode cX2_readText 25 = .ok (.aload_n 0, 1) := by decide +kernel
theorem dX2_readText_26 : decode cX2_readText 26 = .ok (.getfield 33, 3) := by decide +kernel
theorem dX2_readText_29 : decode cX2_readText 29 = .ok (.isub, 1) := by decide +kernel
theorem dX2_readText_30 : decode cX2_readText 30 = .ok (.ireturn, 1) := by decide +kernel
theorem dX2_readText_31 : decode cX2_readText 31 = .ok (.aload_n 0, 1) := by decide +kernel
theorem dX2_readText_32 : decode cX2_readText 32 = .ok (.getfield 33, 3) := by decide +kernel
theorem dX2_readText_35 : decode cX2_readText 35 = .ok (.aload_n 0, 1) := by decide +kernel
theorem dX2_readText_36 : decode cX2_readText 36 = .ok (.getfield 26, 3) := by decide +kernel
theorem dX2_readText_39 : decode cX2_readText 39 = .ok (.if_icmp .ne 5, 3) := by decide +kernel
theorem dX2_readText_42 : decode cX2_readText 42 = .ok (.iload_n 1, 1) := by decide +kernel
theorem dX2_readText_43 : decode cX2_readText 43 = .ok (.ireturn, 1) := by decide +kernel
theorem dX2_readText_44 : decode cX2_readText 44 = .ok (.aload_n 0, 1) := by decide +kernel
theorem dX2_readText_45 : decode cX2_readText 45 = .ok (.invokevirtual 36, 3) := by decide +kernel
theorem dX2_readText_48 : decode cX2_readText 48 = .ok (.bipush 59, 2) := by decide +kernel
theorem dX2_readText_50 : decode cX2_readText 50 = .ok (.if_icmp .ne 8, 3) := by decide +kernel
theorem dX2_readText_53 : decode cX2_readText 53 = .ok (.iload_n 1, 1) := by decide +kernel
theorem dX2_readText_54 : decode cX2_readText 54 = .ok (.iconst 4, 1) := by decide +kernel
theorem dX2_readText_55 : decode cX2_readText 55 = .ok (.if_icmp .ne 11, 3) := by decide +kernel
theorem dX2_readText_58 : decode cX2_readText 58 = .ok (.bipush (-100), 2) := by decide +kernel
theorem dX2_readText_60 : decode cX2_readText 60 = .ok (.aload_n 0, 1) := by decide +kernel
theorem dX2_readText_61 : decode cX2_readText 61 = .ok (.getfield 33, 3) := by decide +kernel
theorem dX2_readText_64 : decode cX2_readText 64 = .ok (.isub, 1) := by decide +kernel
theorem dX2_readText_65 : decode cX2_readText 65 = .ok (.ireturn, 1) := by decide +kernel
theorem dX2_readText_66 : decode cX2_readText 66 = .ok (.aload_n 0, 1) := by decide +kernel
theorem dX2_readText_67 : decode cX2_readText 67 = .ok (.dup, 1) := by decide +kernel
theorem dX2_readText_68 : decode cX2_readText 68 = .ok (.getfield 33, 3) := by decide +kernel
theorem dX2_readText_71 : decode cX2_readText 71 = .ok (.iconst 1, 1) := by decide +kernel
theorem dX2_readText_72 : decode cX2_readText 72 = .ok (.iadd, 1) := by decide +kernel
theorem dX2_readText_73 : decode cX2_readText 73 = .ok (.putfield 33, 3) := by decide +kernel
theorem dX2_readText_76 : decode cX2_readText 76 = .ok (.iinc 1 1, 3) := by decide +kernel
theorem dX2_readText_79 : decode cX2_readText 79 = .ok (.goto (-68), 3) := by decide +kernel
theorem dX2_readText_82 : decode cX2_readText 82 = .ok (.bipush (-100), 2) := by decide +kernel
theorem dX2_readText_84 : decode cX2_readText 84 = .ok (.aload_n 0, 1) := by decide +kernel
theorem dX2_readText_85 : decode cX2_readText 85 = .ok (.getfield 33, 3) := by decide +kernel
theorem dX2_readText_88 : decode cX2_readText 88 = .ok (.isub, 1) := by decide +kernel
theorem dX2_readText_89 : decode cX2_readText 89 = .ok (.ireturn, 1) := by decide +kernel
theorem dX2_here_0 : decode cX2_here 0 = .ok (.aload_n 0, 1) := by decide +kernel
theorem dX2_here_1 : decode cX2_here 1 = .ok (.getfield 33, 3) := by decide +kernel
theorem dX2_here_4 : decode cX2_here 4 = .ok (.aload_n 0, 1) := by decide +kernel
theorem dX2_here_5 : decode cX2_here 5 = .ok (.getfield 26, 3) := by decide +kernel
theorem dX2_here_8 : decode cX2_here 8 = .ok (.if_icmp .ge 22, 3) := by decide +kernel
theorem dX2_here_11 : decode cX2_here 11 = .ok (.aload_n 0, 1) := by decide +kernel
theorem dX2_here_12 : decode cX2_here 12 = .ok (.getfield 18, 3) := by decide +kernel
theorem dX2_here_15 : decode cX2_here 15 = .ok (.aload_n 0, 1) := by decide +kernel
theorem dX2_here_16 : decode cX2_here 16 = .ok (.getfield 22, 3) := by decide +kernel
theorem dX2_here_19 : decode cX2_here 19 = .ok (.aload_n 0, 1) := by decide +kernel
theorem dX2_here_20 : decode cX2_here 20 = .ok (.getfield 33, 3) := by decide +kernel
theorem dX2_here_23 : decode cX2_here 23 = .ok (.iadd, 1) := by decide +kernel
theorem dX2_here_24 : decode cX2_here 24 = .ok (.invokevirtual 40, 3) := by decide +kernel
theorem dX2_here_27 : decode cX2_here 27 = .ok (.goto 4, 3) := by decide +kernel
theorem dX2_here_30 : decode cX2_here 30 = .ok (.iconst (-1), 1) := by decide +kernel
theorem dX2_here_31 : decode cX2_here 31 = .ok (.ireturn, 1) := by decide +kernel
theorem dX2_readItem_0 : decode cX2_readItem 0 = .ok (.aload_n 0, 1) := by decide +kernel
theorem dX2_readItem_1 : decode cX2_readItem 1 = .ok (.invokevirtual 36, 3) := by decide +kernel
theorem dX2_readItem_4 : decode cX2_readItem 4 = .ok (.invokestatic 46, 3) := by decide +kernel
theorem dX2_readItem_7 : decode cX2_readItem 7 = .ok (.istore_n 1, 1) := by decide +kernel
theorem dX2_readItem_8 : decode cX2_readItem 8 = .ok (.iload_n 1, 1) := by decide +kernel
theorem dX2_readItem_9 : decode cX2_readItem 9 = .ok (.bipush (-9), 2) := by decide +kernel
theorem dX2_readItem_11 : decode cX2_readItem 11 = .ok (.if_icmp .eq 14, 3) := by decide +kernel
theorem dX2_readItem_14 : decode cX2_readItem 14 = .ok (.aload_n 0, 1) := by decide +kernel
theorem dX2_readItem_15 : decode cX2_readItem 15 = .ok (.getfield 12, 3) := by decide +kernel
theorem dX2_readItem_18 : decode cX2_readItem 18 = .ok (.iload_n 1, 1) := by decide +kernel
theorem dX2_readItem_19 : decode cX2_readItem 19 = .ok (.invokevirtual 49, 3) := by decide +kernel
theorem dX2_readItem_22 : decode cX2_readItem 22 = .ok (.ifCond .eq 5, 3) := by decide +kernel
theorem dX2_readItem_25 : decode cX2_readItem 25 = .ok (.iconst 0, 1) := by decide +kernel
theorem dX2_readItem_26 : decode cX2_readItem 26 = .ok (.ireturn, 1) := by decide +kernel
theorem dX2_readItem_27 : decode cX2_readItem 27 = .ok (.aload_n 0, 1) := by decide +kernel
theorem dX2_readItem_28 : decode cX2_readItem 28 = .ok (.dup, 1) := by decide +kernel
theorem dX2_readItem_29 : decode cX2_readItem 29 = .ok (.getfield 33, 3) := by decide +kernel
theorem dX2_readItem_32 : decode cX2_readItem 32 = .ok (.iconst 1, 1) := by decide +kernel
theorem dX2_readItem_33 : decode cX2_readItem 33 = .ok (.iadd, 1) := by decide +kernel
theorem dX2_readItem_34 : decode cX2_readItem 34 = .ok (.putfield 33, 3) := by decide +kernel
theorem dX2_readItem_37 : decode cX2_readItem 37 = .ok (.iload_n 1, 1) := by decide +kernel
theorem dX2_readItem_38 : decode cX2_readItem 38 = .ok (.invokestatic 53, 3) := by decide +kernel
theorem dX2_readItem_41 : decode cX2_readItem 41 = .ok (.ifCond .eq 11, 3) := by decide +kernel
theorem dX2_readItem_44 : decode cX2_readItem 44 = .ok (.aload_n 0, 1) := by decide +kernel
theorem dX2_readItem_45 : decode cX2_readItem 45 = .ok (.iload_n 1, 1) := by decide +kernel
theorem dX2_readItem_46 : decode cX2_readItem 46 = .ok (.invokevirtual 56, 3) := by decide +kernel
theorem dX2_readItem_49 : decode cX2_readItem 49 = .ok (.goto 12, 3) := by decide +kernel
theorem dX2_readItem_52 : decode cX2_readItem 52 = .ok (.aload_n 0, 1) := by decide +kernel
theorem dX2_readItem_53 : decode cX2_readItem 53 = .ok (.getfield 12, 3) := by decide +kernel
theorem dX2_readItem_56 : decode cX2_readItem 56 = .ok (.iload_n 1, 1) := by decide +kernel
theorem dX2_readItem_57 : decode cX2_readItem 57 = .ok (.iconst 1, 1) := by decide +kernel
theorem dX2_readItem_58 : decode cX2_readItem 58 = .ok (.invokevirtual 59, 3) := by decide +kernel
theorem dX2_readItem_61 : decode cX2_readItem 61 = .ok (.ireturn, 1) := by decide +kernel
theorem dX2_readNumber_0 : decode cX2_readNumber 0 = .ok (.aload_n 0, 1) := by decide +kernel
theorem dX2_readNumber_1 : decode cX2_readNumber 1 = .ok (.getfield 33, 3) := by decide +kernel
theorem dX2_readNumber_4 : decode cX2_readNumber 4 = .ok (.istore_n 2, 1) := by decide +kernel
theorem dX2_readNumber_5 : decode cX2_readNumber 5 = .ok (.aload_n 0, 1) := by decide +kernel
theorem dX2_readNumber_6 : decode cX2_readNumber 6 = .ok (.invokevirtual 63, 3) := by decide +kernel
theorem dX2_readNumber_9 : decode cX2_readNumber 9 = .ok (.ifCond .ne 5, 3) := by decide +kernel
theorem dX2_readNumber_12 : decode cX2_readNumber 12 = .ok (.iconst 0, 1) := by decide +kernel
theorem dX2_readNumber_13 : decode cX2_readNumber 13 = .ok (.ireturn, 1) := by decide +kernel
theorem dX2_readNumber_14 : decode cX2_readNumber 14 = .ok (.aload_n 0, 1) := by decide +kernel
theorem dX2_readNumber_15 : decode cX2_readNumber 15 = .ok (.invokevirtual 66, 3) := by decide +kernel
theorem dX2_readNumber_18 : decode cX2_readNumber 18 = .ok (.istore_n 3, 1) := by decide +kernel
theorem dX2_readNumber_19 : decode cX2_readNumber 19 = .ok (.aload_n 0, 1) := by decide +kernel
theorem dX2_readNumber_20 : decode cX2_readNumber 20 = .ok (.invokevirtual 63, 3) := by decide +kernel
theorem dX2_readNumber_23 : decode cX2_readNumber 23 = .ok (.ifCond .eq 13, 3) := by decide +kernel
theorem dX2_readNumber_26 : decode cX2_readNumber 26 = .ok (.iload_n 3, 1) := by decide +kernel
theorem dX2_readNumber_27 : decode cX2_readNumber 27 = .ok (.bipush 10, 2) := by decide +kernel
theorem dX2_readNumber_29 : decode cX2_readNumber 29 = .ok (.imul, 1) := by decide +kernel
theorem dX2_readNumber_30 : decode cX2_readNumber 30 = .ok (.aload_n 0, 1) := by decide +kernel
theorem dX2_readNumber_31 : decode cX2_readNumber 31 = .ok (.invokevirtual 66, 3) := by decide +kernel
theorem dX2_readNumber_34 : decode cX2_readNumber 34 = .ok (.iadd, 1) := by decide +kernel
theorem dX2_readNumber_35 : decode cX2_readNumber 35 = .ok (.istore_n 3, 1) := by decide +kernel
theorem dX2_readNumber_36 : decode cX2_readNumber 36 = .ok (.aload_n 0, 1) := by decide +kernel
theorem dX2_readNumber_37 : decode cX2_readNumber 37 = .ok (.getfield 12, 3) := by decide +kernel
theorem dX2_readNumber_40 : decode cX2_readNumber 40 = .ok (.iload_n 1, 1) := by decide +kernel
theorem dX2_readNumber_41 : decode cX2_readNumber 41 = .ok (.iload_n 3, 1) := by decide +kernel
theorem dX2_readNumber_42 : decode cX2_readNumber 42 = .ok (.invokevirtual 59, 3) := by decide +kernel
theorem dX2_readNumber_45 : decode cX2_readNumber 45 = .ok (.ifCond .eq 5, 3) := by decide +kernel
theorem dX2_readNumber_48 : decode cX2_readNumber 48 = .ok (.iconst 1, 1) := by decide +kernel
theorem dX2_readNumber_49 : decode cX2_readNumber 49 = .ok (.ireturn, 1) := by decide +kernel
theorem dX2_readNumber_50 : decode cX2_readNumber 50 = .ok (.aload_n 0, 1) := by decide +kernel
theorem dX2_readNumber_51 : decode cX2_readNumber 51 = .ok (.iload_n 2, 1) := by decide +kernel
theorem dX2_readNumber_52 : decode cX2_readNumber 52 = .ok (.putfield 33, 3) := by decide +kernel
theorem dX2_readNumber_55 : decode cX2_readNumber 55 = .ok (.iconst 0, 1) := by decide +kernel
theorem dX2_readNumber_56 : decode cX2_readNumber 56 = .ok (.ireturn, 1) := by decide +kernel
theorem dX2_isDigitHere_0 : decode cX2_isDigitHere 0 = .ok (.aload_n 0, 1) := by decide +kernel
theorem dX2_isDigitHere_1 : decode cX2_isDigitHere 1 = .ok (.invokevirtual 36, 3) := by decide +kernel
theorem dX2_isDigitHere_4 : decode cX2_isDigitHere 4 = .ok (.istore_n 1, 1) := by decide +kernel
theorem dX2_isDigitHere_5 : decode cX2_isDigitHere 5 = .ok (.iload_n 1, 1) := by decide +kernel
theorem dX2_isDigitHere_6 : decode cX2_isDigitHere 6 = .ok (.bipush 48, 2) := by decide +kernel
theorem dX2_isDigitHere_8 : decode cX2_isDigitHere 8 = .ok (.if_icmp .lt 13, 3) := by decide +kernel
theorem dX2_isDigitHere_11 : decode cX2_isDigitHere 11 = .ok (.iload_n 1, 1) := by decide +kernel
theorem dX2_isDigitHere_12 : decode cX2_isDigitHere 12 = .ok (.bipush 57, 2) := by decide +kernel
theorem dX2_isDigitHere_14 : decode cX2_isDigitHere 14 = .ok (.if_icmp .gt 7, 3) := by decide +kernel
theorem dX2_isDigitHere_17 : decode cX2_isDigitHere 17 = .ok (.iconst 1, 1) := by decide +kernel
theorem dX2_isDigitHere_18 : decode cX2_isDigitHere 18 = .ok (.goto 4, 3) := by decide +kernel
theorem dX2_isDigitHere_21 : decode cX2_isDigitHere 21 = .ok (.iconst 0, 1) := by decide +kernel
theorem dX2_isDigitHere_22 : decode cX2_isDigitHere 22 = .ok (.ireturn, 1) := by decide +kernel
theorem dX2_readDigit_0 : decode cX2_readDigit 0 = .ok (.aload_n 0, 1) := by decide +kernel
theorem dX2_readDigit_1 : decode cX2_readDigit 1 = .ok (.invokevirtual 36, 3) := by decide +kernel
theorem dX2_readDigit_4 : decode cX2_readDigit 4 = .ok (.bipush 48, 2) := by decide +kernel
theorem dX2_readDigit_6 : decode cX2_readDigit 6 = .ok (.isub, 1) := by decide +kernel
theorem dX2_readDigit_7 : decode cX2_readDigit 7 = .ok (.istore_n 1, 1) := by decide +kernel
theorem dX2_readDigit_8 : decode cX2_readDigit 8 = .ok (.aload_n 0, 1) := by decide +kernel
theorem dX2_readDigit_9 : decode cX2_readDigit 9 = .ok (.dup, 1) := by decide +kernel
theorem dX2_readDigit_10 : decode cX2_readDigit 10 = .ok (.getfield 33, 3) := by decide +kernel
theorem dX2_readDigit_13 : decode cX2_readDigit 13 = .ok (.iconst 1, 1) := by decide +kernel
theorem dX2_readDigit_14 : decode cX2_readDigit 14 = .ok (.iadd, 1) := by decide +kernel
theorem dX2_readDigit_15 : decode cX2_readDigit 15 = .ok (.putfield 33, 3) := by decide +kernel
theorem dX2_readDigit_18 : decode cX2_readDigit 18 = .ok (.iload_n 1, 1) := by decide +kernel
theorem dX2_readDigit_19 : decode cX2_readDigit 19 = .ok (.ireturn, 1) := by decide +kernel
theorem dX3_init_0 : decode cX3_init 0 = .ok (.aload_n 0, 1) := by decide +kernel
theorem dX3_init_1 : decode cX3_init 1 = .ok (.invokespecial 1, 3) := by decide +kernel
theorem dX3_init_4 : decode cX3_init 4 = .ok (.aload_n 0, 1) := by decide +kernel
theorem dX3_init_5 : decode cX3_init 5 = .ok (.iload_n 1, 1) := by decide +kernel
theorem dX3_init_6 : decode cX3_init 6 = .ok (.putfield 7, 3) := by decide +kernel
theorem dX3_init_9 : decode cX3_init 9 = .ok (.aload_n 0, 1) := by decide +kernel
theorem dX3_init_10 : decode cX3_init 10 = .ok (.iload_n 2, 1) := by decide +kernel
theorem dX3_init_11 : decode cX3_init 11 = .ok (.putfield 13, 3) := by decide +kernel
theorem dX3_init_14 : decode cX3_init 14 = .ok (.aload_n 0, 1) := by decide +kernel
theorem dX3_init_15 : decode cX3_init 15 = .ok (.aload_n 3, 1) := by decide +kernel
theorem dX3_init_16 : decode cX3_init 16 = .ok (.putfield 16, 3) := by decide +kernel
theorem dX3_init_19 : decode cX3_init 19 = .ok (.return_, 1) := by decide +kernel
theorem dX3_size_0 : decode cX3_size 0 = .ok (.aload_n 0, 1) := by decide +kernel
theorem dX3_size_1 : decode cX3_size 1 = .ok (.getfield 16, 3) := by decide +kernel
theorem dX3_size_4 : decode cX3_size 4 = .ok (.arraylength, 1) := by decide +kernel
theorem dX3_size_5 : decode cX3_size 5 = .ok (.ireturn, 1) := by decide +kernel
theorem dX3_groupAt_0 : decode cX3_groupAt 0 = .ok (.iload_n 1, 1) := by decide +kernel
theorem dX3_groupAt_1 : decode cX3_groupAt 1 = .ok (.aload_n 0, 1) := by decide +kernel
theorem dX3_groupAt_2 : decode cX3_groupAt 2 = .ok (.getfield 16, 3) := by decide +kernel
theorem dX3_groupAt_5 : decode cX3_groupAt 5 = .ok (.arraylength, 1) := by decide +kernel
theorem dX3_groupAt_6 : decode cX3_groupAt 6 = .ok (.invokestatic 20, 3) := by decide +kernel
theorem dX3_groupAt_9 : decode cX3_groupAt 9 = .ok (.ifCond .eq 12, 3) := by decide +kernel
theorem dX3_groupAt_12 : decode cX3_groupAt 12 = .ok (.aload_n 0, 1) := by decide +kernel
theorem dX3_groupAt_13 : decode cX3_groupAt 13 = .ok (.getfield 16, 3) := by decide +kernel
theorem dX3_groupAt_16 : decode cX3_groupAt 16 = .ok (.iload_n 1, 1) := by decide +kernel
theorem dX3_groupAt_17 : decode cX3_groupAt 17 = .ok (.iaload, 1) := by decide +kernel
theorem dX3_groupAt_18 : decode cX3_groupAt 18 = .ok (.goto 4, 3) := by decide +kernel
theorem dX3_groupAt_21 : decode cX3_groupAt 21 = .ok (.iconst 0, 1) := by decide +kernel
theorem dX3_groupAt_22 : decode cX3_groupAt 22 = .ok (.ireturn, 1) := by decide +kernel
theorem dX4_places_0 : decode cX4_places 0 = .ok (.bipush 8, 2) := by decide +kernel
theorem dX4_places_2 : decode cX4_places 2 = .ok (.aload_n 0, 1) := by decide +kernel
theorem dX4_places_3 : decode cX4_places 3 = .ok (.invokevirtual 11, 3) := by decide +kernel
theorem dX4_places_6 : decode cX4_places 6 = .ok (.aload_n 1, 1) := by decide +kernel
theorem dX4_places_7 : decode cX4_places 7 = .ok (.invokevirtual 11, 3) := by decide +kernel
theorem dX4_places_10 : decode cX4_places 10 = .ok (.invokestatic 17, 3) := by decide +kernel
theorem dX4_places_13 : decode cX4_places 13 = .ok (.invokestatic 17, 3) := by decide +kernel
theorem dX4_places_16 : decode cX4_places 16 = .ok (.ireturn, 1) := by decide +kernel
theorem dX4_apart_0 : decode cX4_apart 0 = .ok (.aload_n 0, 1) := by decide +kernel
theorem dX4_apart_1 : decode cX4_apart 1 = .ok (.iload_n 2, 1) := by decide +kernel
theorem dX4_apart_2 : decode cX4_apart 2 = .ok (.invokevirtual 23, 3) := by decide +kernel
theorem dX4_apart_5 : decode cX4_apart 5 = .ok (.aload_n 1, 1) := by decide +kernel
theorem dX4_apart_6 : decode cX4_apart 6 = .ok (.iload_n 2, 1) := by decide +kernel
theorem dX4_apart_7 : decode cX4_apart 7 = .ok (.invokevirtual 23, 3) := by decide +kernel
theorem dX4_apart_10 : decode cX4_apart 10 = .ok (.isub, 1) := by decide +kernel
theorem dX4_apart_11 : decode cX4_apart 11 = .ok (.bipush 100, 2) := by decide +kernel
theorem dX4_apart_13 : decode cX4_apart 13 = .ok (.invokestatic 27, 3) := by decide +kernel
theorem dX4_apart_16 : decode cX4_apart 16 = .ok (.ireturn, 1) := by decide +kernel
theorem dX4_fitting_0 : decode cX4_fitting 0 = .ok (.aload_n 1, 1) := by decide +kernel
theorem dX4_fitting_1 : decode cX4_fitting 1 = .ok (.aload_n 2, 1) := by decide +kernel
theorem dX4_fitting_2 : decode cX4_fitting 2 = .ok (.invokestatic 30, 3) := by decide +kernel
theorem dX4_fitting_5 : decode cX4_fitting 5 = .ok (.istore_n 3, 1) := by decide +kernel
theorem dX4_fitting_6 : decode cX4_fitting 6 = .ok (.iconst 0, 1) := by decide +kernel
theorem dX4_fitting_7 : decode cX4_fitting 7 = .ok (.istore 4, 2) := by decide +kernel
theorem dX4_fitting_9 : decode cX4_fitting 9 = .ok (.iconst 0, 1) := by decide +kernel
theorem dX4_fitting_10 : decode cX4_fitting 10 = .ok (.istore 5, 2) := by decide +kernel
theorem dX4_fitting_12 : decode cX4_fitting 12 = .ok (.iload 5, 2) := by decide +kernel
theorem dX4_fitting_14 : decode cX4_fitting 14 = .ok (.iload_n 3, 1) := by decide +kernel
theorem dX4_fitting_15 : decode cX4_fitting 15 = .ok (.if_icmp .ge 26, 3) := by decide +kernel
theorem dX4_fitting_18 : decode cX4_fitting 18 = .ok (.aload_n 0, 1) := by decide +kernel
theorem dX4_fitting_19 : decode cX4_fitting 19 = .ok (.aload_n 1, 1) := by decide +kernel
theorem dX4_fitting_20 : decode cX4_fitting 20 = .ok (.aload_n 2, 1) := by decide +kernel
theorem dX4_fitting_21 : decode cX4_fitting 21 = .ok (.iload 5, 2) := by decide +kernel
theorem dX4_fitting_23 : decode cX4_fitting 23 = .ok (.invokestatic 34, 3) := by decide +kernel
theorem dX4_fitting_26 : decode cX4_fitting 26 = .ok (.invokevirtual 38, 3) := by decide +kernel
theorem dX4_fitting_29 : decode cX4_fitting 29 = .ok (.ifCond .le 6, 3) := by decide +kernel
theorem dX4_fitting_32 : decode cX4_fitting 32 = .ok (.iinc 4 1, 3) := by decide +kernel
theorem dX4_fitting_35 : decode cX4_fitting 35 = .ok (.iinc 5 1, 3) := by decide +kernel
theorem dX4_fitting_38 : decode cX4_fitting 38 = .ok (.goto (-26), 3) := by decide +kernel
theorem dX4_fitting_41 : decode cX4_fitting 41 = .ok (.iload 4, 2) := by decide +kernel
theorem dX4_fitting_43 : decode cX4_fitting 43 = .ok (.ireturn, 1) := by decide +kernel
theorem dX4_sure_0 : decode cX4_sure 0 = .ok (.aload_n 1, 1) := by decide +kernel
theorem dX4_sure_1 : decode cX4_sure 1 = .ok (.aload_n 2, 1) := by decide +kernel
theorem dX4_sure_2 : decode cX4_sure 2 = .ok (.invokestatic 30, 3) := by decide +kernel
theorem dX4_sure_5 : decode cX4_sure 5 = .ok (.istore_n 3, 1) := by decide +kernel
theorem dX4_sure_6 : decode cX4_sure 6 = .ok (.iconst 0, 1) := by decide +kernel
theorem dX4_sure_7 : decode cX4_sure 7 = .ok (.istore 4, 2) := by decide +kernel
theorem dX4_sure_9 : decode cX4_sure 9 = .ok (.iconst 0, 1) := by decide +kernel
theorem dX4_sure_10 : decode cX4_sure 10 = .ok (.istore 5, 2) := by decide +kernel
theorem dX4_sure_12 : decode cX4_sure 12 = .ok (.iload 5, 2) := by decide +kernel
theorem dX4_sure_14 : decode cX4_sure 14 = .ok (.iload_n 3, 1) := by decide +kernel
theorem dX4_sure_15 : decode cX4_sure 15 = .ok (.if_icmp .ge 27, 3) := by decide +kernel
theorem dX4_sure_18 : decode cX4_sure 18 = .ok (.aload_n 0, 1) := by decide +kernel
theorem dX4_sure_19 : decode cX4_sure 19 = .ok (.aload_n 1, 1) := by decide +kernel
theorem dX4_sure_20 : decode cX4_sure 20 = .ok (.aload_n 2, 1) := by decide +kernel
theorem dX4_sure_21 : decode cX4_sure 21 = .ok (.iload 5, 2) := by decide +kernel
theorem dX4_sure_23 : decode cX4_sure 23 = .ok (.invokestatic 34, 3) := by decide +kernel
theorem dX4_sure_26 : decode cX4_sure 26 = .ok (.invokevirtual 38, 3) := by decide +kernel
theorem dX4_sure_29 : decode cX4_sure 29 = .ok (.iconst 1, 1) := by decide +kernel
theorem dX4_sure_30 : decode cX4_sure 30 = .ok (.if_icmp .ne 6, 3) := by decide +kernel
theorem dX4_sure_33 : decode cX4_sure 33 = .ok (.iinc 4 1, 3) := by decide +kernel
theorem dX4_sure_36 : decode cX4_sure 36 = .ok (.iinc 5 1, 3) := by decide +kernel
theorem dX4_sure_39 : decode cX4_sure 39 = .ok (.goto (-27), 3) := by decide +kernel
theorem dX4_sure_42 : decode cX4_sure 42 = .ok (.iload 4, 2) := by decide +kernel
theorem dX4_sure_44 : decode cX4_sure 44 = .ok (.ireturn, 1) := by decide +kernel
theorem dX4_shareOf_0 : decode cX4_shareOf 0 = .ok (.aload_n 1, 1) := by decide +kernel
theorem dX4_shareOf_1 : decode cX4_shareOf 1 = .ok (.ifnull 7, 3) := by decide +kernel
theorem dX4_shareOf_4 : decode cX4_shareOf 4 = .ok (.aload_n 2, 1) := by decide +kernel
theorem dX4_shareOf_5 : decode cX4_shareOf 5 = .ok (.ifnonnull 7, 3) := by decide +kernel
theorem dX4_shareOf_8 : decode cX4_shareOf 8 = .ok (.ldc2_w 43, 3) := by decide +kernel
theorem dX4_shareOf_11 : decode cX4_shareOf 11 = .ok (.lreturn, 1) := by decide +kernel
theorem dX4_shareOf_12 : decode cX4_shareOf 12 = .ok (.aload_n 1, 1) := by decide +kernel
theorem dX4_shareOf_13 : decode cX4_shareOf 13 = .ok (.aload_n 2, 1) := by decide +kernel
theorem dX4_shareOf_14 : decode cX4_shareOf 14 = .ok (.invokestatic 30, 3) := by decide +kernel
theorem dX4_shareOf_17 : decode cX4_shareOf 17 = .ok (.istore 4, 2) := by decide +kernel
theorem dX4_shareOf_19 : decode cX4_shareOf 19 = .ok (.iload 4, 2) := by decide +kernel
theorem dX4_shareOf_21 : decode cX4_shareOf 21 = .ok (.aload_n 0, 1) := by decide +kernel
theorem dX4_shareOf_22 : decode cX4_shareOf 22 = .ok (.aload_n 1, 1) := by decide +kernel
theorem dX4_shareOf_23 : decode cX4_shareOf 23 = .ok (.aload_n 2, 1) := by decide +kernel
theorem dX4_shareOf_24 : decode cX4_shareOf 24 = .ok (.invokestatic 45, 3) := by decide +kernel
theorem dX4_shareOf_27 : decode cX4_shareOf 27 = .ok (.iload_n 3, 1) := by decide +kernel
theorem dX4_shareOf_28 : decode cX4_shareOf 28 = .ok (.invokestatic 49, 3) := by decide +kernel
theorem dX4_shareOf_31 : decode cX4_shareOf 31 = .ok (.lstore 5, 2) := by decide +kernel
theorem dX4_shareOf_33 : decode cX4_shareOf 33 = .ok (.lload 5, 2) := by decide +kernel
theorem dX4_shareOf_35 : decode cX4_shareOf 35 = .ok (.bipush 100, 2) := by decide +kernel
theorem dX4_shareOf_37 : decode cX4_shareOf 37 = .ok (.bipush 8, 2) := by decide +kernel
theorem dX4_shareOf_39 : decode cX4_shareOf 39 = .ok (.iload 4, 2) := by decide +kernel
theorem dX4_shareOf_41 : decode cX4_shareOf 41 = .ok (.isub, 1) := by decide +kernel
theorem dX4_shareOf_42 : decode cX4_shareOf 42 = .ok (.invokestatic 53, 3) := by decide +kernel
theorem dX4_shareOf_45 : decode cX4_shareOf 45 = .ok (.lmul, 1) := by decide +kernel
theorem dX4_shareOf_46 : decode cX4_shareOf 46 = .ok (.lreturn, 1) := by decide +kernel
theorem dX4_shareInLeastTerms_0 : decode cX4_shareInLeastTerms 0 = .ok (.aload_n 0, 1) := by decide +kernel
theorem dX4_shareInLeastTerms_1 : decode cX4_shareInLeastTerms 1 = .ok (.aload_n 1, 1) := by decide +kernel
theorem dX4_shareInLeastTerms_2 : decode cX4_shareInLeastTerms 2 = .ok (.aload_n 2, 1) := by decide +kernel
theorem dX4_shareInLeastTerms_3 : decode cX4_shareInLeastTerms 3 = .ok (.aload_n 0, 1) := by decide +kernel
theorem dX4_shareInLeastTerms_4 : decode cX4_shareInLeastTerms 4 = .ok (.invokevirtual 57, 3) := by decide +kernel
theorem dX4_shareInLeastTerms_7 : decode cX4_shareInLeastTerms 7 = .ok (.invokestatic 60, 3) := by decide +kernel
theorem dX4_shareInLeastTerms_10 : decode cX4_shareInLeastTerms 10 = .ok (.lstore 4, 2) := by decide +kernel
theorem dX4_shareInLeastTerms_12 : decode cX4_shareInLeastTerms 12 = .ok (.lload 4, 2) := by decide +kernel
theorem dX4_shareInLeastTerms_14 : decode cX4_shareInLeastTerms 14 = .ok (.ldc2_w 43, 3) := by decide +kernel
theorem dX4_shareInLeastTerms_17 : decode cX4_shareInLeastTerms 17 = .ok (.invokestatic 64, 3) := by decide +kernel
theorem dX4_shareInLeastTerms_20 : decode cX4_shareInLeastTerms 20 = .ok (.lstore 6, 2) := by decide +kernel
theorem dX4_shareInLeastTerms_22 : decode cX4_shareInLeastTerms 22 = .ok (.lload 6, 2) := by decide +kernel
theorem dX4_shareInLeastTerms_24 : decode cX4_shareInLeastTerms 24 = .ok (.lconst 0, 1) := by decide +kernel
theorem dX4_shareInLeastTerms_25 : decode cX4_shareInLeastTerms 25 = .ok (.lcmp, 1) := by decide +kernel
theorem dX4_shareInLeastTerms_26 : decode cX4_shareInLeastTerms 26 = .ok (.ifCond .ne 7, 3) := by decide +kernel
theorem dX4_shareInLeastTerms_29 : decode cX4_shareInLeastTerms 29 = .ok (.ldc2_w 68, 3) := by decide +kernel
theorem dX4_shareInLeastTerms_32 : decode cX4_shareInLeastTerms 32 = .ok (.lreturn, 1) := by decide +kernel
theorem dX4_shareInLeastTerms_33 : decode cX4_shareInLeastTerms 33 = .ok (.iload_n 3, 1) := by decide +kernel
theorem dX4_shareInLeastTerms_34 : decode cX4_shareInLeastTerms 34 = .ok (.ifCond .ne 11, 3) := by decide +kernel
theorem dX4_shareInLeastTerms_37 : decode cX4_shareInLeastTerms 37 = .ok (.lload 4, 2) := by decide +kernel
theorem dX4_shareInLeastTerms_39 : decode cX4_shareInLeastTerms 39 = .ok (.lload 6, 2) := by decide +kernel
theorem dX4_shareInLeastTerms_41 : decode cX4_shareInLeastTerms 41 = .ok (.ldiv, 1) := by decide +kernel
theorem dX4_shareInLeastTerms_42 : decode cX4_shareInLeastTerms 42 = .ok (.goto 9, 3) := by decide +kernel
theorem dX4_shareInLeastTerms_45 : decode cX4_shareInLeastTerms 45 = .ok (.ldc2_w 43, 3) := by decide +kernel
theorem dX4_shareInLeastTerms_48 : decode cX4_shareInLeastTerms 48 = .ok (.lload 6, 2) := by decide +kernel
theorem dX4_shareInLeastTerms_50 : decode cX4_shareInLeastTerms 50 = .ok (.ldiv, 1) := by decide +kernel
theorem dX4_shareInLeastTerms_51 : decode cX4_shareInLeastTerms 51 = .ok (.lreturn, 1) := by decide +kernel
theorem dX4_rowsThatFit_0 : decode cX4_rowsThatFit 0 = .ok (.lconst 0, 1) := by decide +kernel
theorem dX4_rowsThatFit_1 : decode cX4_rowsThatFit 1 = .ok (.lstore_n 3, 1) := by decide +kernel
theorem dX4_rowsThatFit_2 : decode cX4_rowsThatFit 2 = .ok (.lconst 1, 1) := by decide +kernel
theorem dX4_rowsThatFit_3 : decode cX4_rowsThatFit 3 = .ok (.lstore 5, 2) := by decide +kernel
theorem dX4_rowsThatFit_5 : decode cX4_rowsThatFit 5 = .ok (.iconst 0, 1) := by decide +kernel
theorem dX4_rowsThatFit_6 : decode cX4_rowsThatFit 6 = .ok (.istore 7, 2) := by decide +kernel
theorem dX4_rowsThatFit_8 : decode cX4_rowsThatFit 8 = .ok (.iload 7, 2) := by decide +kernel
theorem dX4_rowsThatFit_10 : decode cX4_rowsThatFit 10 = .ok (.iload_n 0, 1) := by decide +kernel
theorem dX4_rowsThatFit_11 : decode cX4_rowsThatFit 11 = .ok (.if_icmp .gt 55, 3) := by decide +kernel
theorem dX4_rowsThatFit_14 : decode cX4_rowsThatFit 14 = .ok (.iload 7, 2) := by decide +kernel
theorem dX4_rowsThatFit_16 : decode cX4_rowsThatFit 16 = .ok (.iload_n 1, 1) := by decide +kernel
theorem dX4_rowsThatFit_17 : decode cX4_rowsThatFit 17 = .ok (.if_icmp .lt 27, 3) := by decide +kernel
theorem dX4_rowsThatFit_20 : decode cX4_rowsThatFit 20 = .ok (.lload_n 3, 1) := by decide +kernel
theorem dX4_rowsThatFit_21 : decode cX4_rowsThatFit 21 = .ok (.lload 5, 2) := by decide +kernel
theorem dX4_rowsThatFit_23 : decode cX4_rowsThatFit 23 = .ok (.iload_n 2, 1) := by decide +kernel
theorem dX4_rowsThatFit_24 : decode cX4_rowsThatFit 24 = .ok (.iload 7, 2) := by decide +kernel
theorem dX4_rowsThatFit_26 : decode cX4_rowsThatFit 26 = .ok (.invokestatic 53, 3) := by decide +kernel
theorem dX4_rowsThatFit_29 : decode cX4_rowsThatFit 29 = .ok (.lmul, 1) := by decide +kernel
theorem dX4_rowsThatFit_30 : decode cX4_rowsThatFit 30 = .ok (.bipush 100, 2) := by decide +kernel
theorem dX4_rowsThatFit_32 : decode cX4_rowsThatFit 32 = .ok (.iload_n 2, 1) := by decide +kernel
theorem dX4_rowsThatFit_33 : decode cX4_rowsThatFit 33 = .ok (.isub, 1) := by decide +kernel
theorem dX4_rowsThatFit_34 : decode cX4_rowsThatFit 34 = .ok (.iload_n 0, 1) := by decide +kernel
theorem dX4_rowsThatFit_35 : decode cX4_rowsThatFit 35 = .ok (.iload 7, 2) := by decide +kernel
theorem dX4_rowsThatFit_37 : decode cX4_rowsThatFit 37 = .ok (.isub, 1) := by decide +kernel
theorem dX4_rowsThatFit_38 : decode cX4_rowsThatFit 38 = .ok (.invokestatic 53, 3) := by decide +kernel
theorem dX4_rowsThatFit_41 : decode cX4_rowsThatFit 41 = .ok (.lmul, 1) := by decide +kernel
theorem dX4_rowsThatFit_42 : decode cX4_rowsThatFit 42 = .ok (.ladd, 1) := by decide +kernel
theorem dX4_rowsThatFit_43 : decode cX4_rowsThatFit 43 = .ok (.lstore_n 3, 1) := by decide +kernel
theorem dX4_rowsThatFit_44 : decode cX4_rowsThatFit 44 = .ok (.lload 5, 2) := by decide +kernel
theorem dX4_rowsThatFit_46 : decode cX4_rowsThatFit 46 = .ok (.iload_n 0, 1) := by decide +kernel
theorem dX4_rowsThatFit_47 : decode cX4_rowsThatFit 47 = .ok (.iload 7, 2) := by decide +kernel
theorem dX4_rowsThatFit_49 : decode cX4_rowsThatFit 49 = .ok (.isub, 1) := by decide +kernel
theorem dX4_rowsThatFit_50 : decode cX4_rowsThatFit 50 = .ok (.i2l, 1) := by decide +kernel
theorem dX4_rowsThatFit_51 : decode cX4_rowsThatFit 51 = .ok (.lmul, 1) := by decide +kernel
theorem dX4_rowsThatFit_52 : decode cX4_rowsThatFit 52 = .ok (.iload 7, 2) := by decide +kernel
theorem dX4_rowsThatFit_54 : decode cX4_rowsThatFit 54 = .ok (.iconst 1, 1) := by decide +kernel
theorem dX4_rowsThatFit_55 : decode cX4_rowsThatFit 55 = .ok (.iadd, 1) := by decide +kernel
theorem dX4_rowsThatFit_56 : decode cX4_rowsThatFit 56 = .ok (.i2l, 1) := by decide +kernel
theorem dX4_rowsThatFit_57 : decode cX4_rowsThatFit 57 = .ok (.ldiv, 1) := by decide +kernel
theorem dX4_rowsThatFit_58 : decode cX4_rowsThatFit 58 = .ok (.lstore 5, 2) := by decide +kernel
theorem dX4_rowsThatFit_60 : decode cX4_rowsThatFit 60 = .ok (.iinc 7 1, 3) := by decide +kernel
theorem dX4_rowsThatFit_63 : decode cX4_rowsThatFit 63 = .ok (.goto (-55), 3) := by decide +kernel
theorem dX4_rowsThatFit_66 : decode cX4_rowsThatFit 66 = .ok (.lload_n 3, 1) := by decide +kernel
theorem dX4_rowsThatFit_67 : decode cX4_rowsThatFit 67 = .ok (.lreturn, 1) := by decide +kernel
theorem dX4_power_0 : decode cX4_power 0 = .ok (.lconst 1, 1) := by decide +kernel
theorem dX4_power_1 : decode cX4_power 1 = .ok (.lstore_n 2, 1) := by decide +kernel
theorem dX4_power_2 : decode cX4_power 2 = .ok (.iconst 0, 1) := by decide +kernel
theorem dX4_power_3 : decode cX4_power 3 = .ok (.istore 4, 2) := by decide +kernel
theorem dX4_power_5 : decode cX4_power 5 = .ok (.iload 4, 2) := by decide +kernel
theorem dX4_power_7 : decode cX4_power 7 = .ok (.iload_n 1, 1) := by decide +kernel
theorem dX4_power_8 : decode cX4_power 8 = .ok (.if_icmp .ge 14, 3) := by decide +kernel
theorem dX4_power_11 : decode cX4_power 11 = .ok (.lload_n 2, 1) := by decide +kernel
theorem dX4_power_12 : decode cX4_power 12 = .ok (.iload_n 0, 1) := by decide +kernel
theorem dX4_power_13 : decode cX4_power 13 = .ok (.i2l, 1) := by decide +kernel
theorem dX4_power_14 : decode cX4_power 14 = .ok (.lmul, 1) := by decide +kernel
theorem dX4_power_15 : decode cX4_power 15 = .ok (.lstore_n 2, 1) := by decide +kernel
theorem dX4_power_16 : decode cX4_power 16 = .ok (.iinc 4 1, 3) := by decide +kernel
theorem dX4_power_19 : decode cX4_power 19 = .ok (.goto (-14), 3) := by decide +kernel
theorem dX4_power_22 : decode cX4_power 22 = .ok (.lload_n 2, 1) := by decide +kernel
theorem dX4_power_23 : decode cX4_power 23 = .ok (.lreturn, 1) := by decide +kernel
theorem dX4_greatestDivisor_0 : decode cX4_greatestDivisor 0 = .ok (.lload_n 0, 1) := by decide +kernel
theorem dX4_greatestDivisor_1 : decode cX4_greatestDivisor 1 = .ok (.lstore 4, 2) := by decide +kernel
theorem dX4_greatestDivisor_3 : decode cX4_greatestDivisor 3 = .ok (.lload_n 2, 1) := by decide +kernel
theorem dX4_greatestDivisor_4 : decode cX4_greatestDivisor 4 = .ok (.lstore 6, 2) := by decide +kernel
theorem dX4_greatestDivisor_6 : decode cX4_greatestDivisor 6 = .ok (.iconst 0, 1) := by decide +kernel
theorem dX4_greatestDivisor_7 : decode cX4_greatestDivisor 7 = .ok (.istore 8, 2) := by decide +kernel
theorem dX4_greatestDivisor_9 : decode cX4_greatestDivisor 9 = .ok (.iload 8, 2) := by decide +kernel
theorem dX4_greatestDivisor_11 : decode cX4_greatestDivisor 11 = .ok (.bipush 100, 2) := by decide +kernel
theorem dX4_greatestDivisor_13 : decode cX4_greatestDivisor 13 = .ok (.if_icmp .ge 31, 3) := by decide +kernel
theorem dX4_greatestDivisor_16 : decode cX4_greatestDivisor 16 = .ok (.lload 6, 2) := by decide +kernel
theorem dX4_greatestDivisor_18 : decode cX4_greatestDivisor 18 = .ok (.lconst 0, 1) := by decide +kernel
theorem dX4_greatestDivisor_19 : decode cX4_greatestDivisor 19 = .ok (.lcmp, 1) := by decide +kernel
theorem dX4_greatestDivisor_20 : decode cX4_greatestDivisor 20 = .ok (.ifCond .eq 24, 3) := by decide +kernel
theorem dX4_greatestDivisor_23 : decode cX4_greatestDivisor 23 = .ok (.lload 4, 2) := by decide +kernel
theorem dX4_greatestDivisor_25 : decode cX4_greatestDivisor 25 = .ok (.lload 6, 2) := by decide +kernel
