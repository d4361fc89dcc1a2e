theorem dX4_greatestDivisor_27 : decode cX4_greatestDivisor 27 = .ok (.lrem, 1) := by decide +kernel
theorem dX4_greatestDivisor_28 : decode cX4_greatestDivisor 28 = .ok (.lstore 9, 2) := by decide +kernel
theorem dX4_greatestDivisor_30 : decode cX4_greatestDivisor 30 = .ok (.lload 6, 2) := by decide +kernel
theorem dX4_greatestDivisor_32 : decode cX4_greatestDivisor 32 = .ok (.lstore 4, 2) := by decide +kernel
theorem dX4_greatestDivisor_34 : decode cX4_greatestDivisor 34 = .ok (.lload 9, 2) := by decide +kernel
theorem dX4_greatestDivisor_36 : decode cX4_greatestDivisor 36 = .ok (.lstore 6, 2) := by decide +kernel
theorem dX4_greatestDivisor_38 : decode cX4_greatestDivisor 38 = .ok (.iinc 8 1, 3) := by decide +kernel
theorem dX4_greatestDivisor_41 : decode cX4_greatestDivisor 41 = .ok (.goto (-32), 3) := by decide +kernel
theorem dX4_greatestDivisor_44 : decode cX4_greatestDivisor 44 = .ok (.lload 4, 2) := by decide +kernel
theorem dX4_greatestDivisor_46 : decode cX4_greatestDivisor 46 = .ok (.lreturn, 1) := by decide +kernel
theorem dX4_meets_0 : decode cX4_meets 0 = .ok (.iconst 0, 1) := by decide +kernel
theorem dX4_meets_1 : decode cX4_meets 1 = .ok (.istore 7, 2) := by decide +kernel
theorem dX4_meets_3 : decode cX4_meets 3 = .ok (.iload 7, 2) := by decide +kernel
theorem dX4_meets_5 : decode cX4_meets 5 = .ok (.iload 6, 2) := by decide +kernel
theorem dX4_meets_7 : decode cX4_meets 7 = .ok (.if_icmp .ge 43, 3) := by decide +kernel
theorem dX4_meets_10 : decode cX4_meets 10 = .ok (.aload 4, 2) := by decide +kernel
theorem dX4_meets_12 : decode cX4_meets 12 = .ok (.iload 5, 2) := by decide +kernel
theorem dX4_meets_14 : decode cX4_meets 14 = .ok (.iload 7, 2) := by decide +kernel
theorem dX4_meets_16 : decode cX4_meets 16 = .ok (.iadd, 1) := by decide +kernel
theorem dX4_meets_17 : decode cX4_meets 17 = .ok (.invokevirtual 70, 3) := by decide +kernel
theorem dX4_meets_20 : decode cX4_meets 20 = .ok (.istore 8, 2) := by decide +kernel
theorem dX4_meets_22 : decode cX4_meets 22 = .ok (.aload_n 0, 1) := by decide +kernel
theorem dX4_meets_23 : decode cX4_meets 23 = .ok (.iload 8, 2) := by decide +kernel
theorem dX4_meets_25 : decode cX4_meets 25 = .ok (.aload_n 1, 1) := by decide +kernel
theorem dX4_meets_26 : decode cX4_meets 26 = .ok (.aload_n 2, 1) := by decide +kernel
theorem dX4_meets_27 : decode cX4_meets 27 = .ok (.iload_n 3, 1) := by decide +kernel
theorem dX4_meets_28 : decode cX4_meets 28 = .ok (.iload 7, 2) := by decide +kernel
theorem dX4_meets_30 : decode cX4_meets 30 = .ok (.iadd, 1) := by decide +kernel
theorem dX4_meets_31 : decode cX4_meets 31 = .ok (.invokestatic 34, 3) := by decide +kernel
theorem dX4_meets_34 : decode cX4_meets 34 = .ok (.invokevirtual 75, 3) := by decide +kernel
theorem dX4_meets_37 : decode cX4_meets 37 = .ok (.bipush (-9), 2) := by decide +kernel
theorem dX4_meets_39 : decode cX4_meets 39 = .ok (.if_icmp .ne 5, 3) := by decide +kernel
theorem dX4_meets_42 : decode cX4_meets 42 = .ok (.iconst 0, 1) := by decide +kernel
theorem dX4_meets_43 : decode cX4_meets 43 = .ok (.ireturn, 1) := by decide +kernel
theorem dX4_meets_44 : decode cX4_meets 44 = .ok (.iinc 7 1, 3) := by decide +kernel
theorem dX4_meets_47 : decode cX4_meets 47 = .ok (.goto (-44), 3) := by decide +kernel
theorem dX4_meets_50 : decode cX4_meets 50 = .ok (.iconst 1, 1) := by decide +kernel
theorem dX4_meets_51 : decode cX4_meets 51 = .ok (.ireturn, 1) := by decide +kernel
theorem dX5_init_0 : decode cX5_init 0 = .ok (.aload_n 0, 1) := by decide +kernel
theorem dX5_init_1 : decode cX5_init 1 = .ok (.invokespecial 3, 3) := by decide +kernel
theorem dX5_init_4 : decode cX5_init 4 = .ok (.aload_n 0, 1) := by decide +kernel
theorem dX5_init_5 : decode cX5_init 5 = .ok (.iload_n 1, 1) := by decide +kernel
theorem dX5_init_6 : decode cX5_init 6 = .ok (.putfield 9, 3) := by decide +kernel
theorem dX5_init_9 : decode cX5_init 9 = .ok (.aload_n 0, 1) := by decide +kernel
theorem dX5_init_10 : decode cX5_init 10 = .ok (.iload_n 2, 1) := by decide +kernel
theorem dX5_init_11 : decode cX5_init 11 = .ok (.putfield 15, 3) := by decide +kernel
theorem dX5_init_14 : decode cX5_init 14 = .ok (.aload_n 0, 1) := by decide +kernel
theorem dX5_init_15 : decode cX5_init 15 = .ok (.aload_n 3, 1) := by decide +kernel
theorem dX5_init_16 : decode cX5_init 16 = .ok (.putfield 18, 3) := by decide +kernel
theorem dX5_init_19 : decode cX5_init 19 = .ok (.return_, 1) := by decide +kernel
theorem dX5_kind_0 : decode cX5_kind 0 = .ok (.iconst 0, 1) := by decide +kernel
theorem dX5_kind_1 : decode cX5_kind 1 = .ok (.ireturn, 1) := by decide +kernel
theorem dX5_usable_0 : decode cX5_usable 0 = .ok (.aload_n 0, 1) := by decide +kernel
theorem dX5_usable_1 : decode cX5_usable 1 = .ok (.getfield 18, 3) := by decide +kernel
theorem dX5_usable_4 : decode cX5_usable 4 = .ok (.arraylength, 1) := by decide +kernel
theorem dX5_usable_5 : decode cX5_usable 5 = .ok (.ireturn, 1) := by decide +kernel
theorem dX5_telling_0 : decode cX5_telling 0 = .ok (.aload_n 0, 1) := by decide +kernel
theorem dX5_telling_1 : decode cX5_telling 1 = .ok (.aload_n 1, 1) := by decide +kernel
theorem dX5_telling_2 : decode cX5_telling 2 = .ok (.invokevirtual 22, 3) := by decide +kernel
theorem dX5_telling_5 : decode cX5_telling 5 = .ok (.ireturn, 1) := by decide +kernel
theorem dX5_tellingOfPage_0 : decode cX5_tellingOfPage 0 = .ok (.aload_n 1, 1) := by decide +kernel
theorem dX5_tellingOfPage_1 : decode cX5_tellingOfPage 1 = .ok (.iconst 1, 1) := by decide +kernel
theorem dX5_tellingOfPage_2 : decode cX5_tellingOfPage 2 = .ok (.invokevirtual 26, 3) := by decide +kernel
theorem dX5_tellingOfPage_5 : decode cX5_tellingOfPage 5 = .ok (.aload_n 0, 1) := by decide +kernel
theorem dX5_tellingOfPage_6 : decode cX5_tellingOfPage 6 = .ok (.invokevirtual 32, 3) := by decide +kernel
theorem dX5_tellingOfPage_9 : decode cX5_tellingOfPage 9 = .ok (.ireturn, 1) := by decide +kernel
theorem dX5_marking_0 : decode cX5_marking 0 = .ok (.aload_n 1, 1) := by decide +kernel
theorem dX5_marking_1 : decode cX5_marking 1 = .ok (.iconst 4, 1) := by decide +kernel
theorem dX5_marking_2 : decode cX5_marking 2 = .ok (.invokevirtual 26, 3) := by decide +kernel
theorem dX5_marking_5 : decode cX5_marking 5 = .ok (.aload_n 0, 1) := by decide +kernel
theorem dX5_marking_6 : decode cX5_marking 6 = .ok (.getfield 9, 3) := by decide +kernel
theorem dX5_marking_9 : decode cX5_marking 9 = .ok (.ireturn, 1) := by decide +kernel
theorem dX5_size_0 : decode cX5_size 0 = .ok (.aload_n 0, 1) := by decide +kernel
theorem dX5_size_1 : decode cX5_size 1 = .ok (.getfield 18, 3) := by decide +kernel
theorem dX5_size_4 : decode cX5_size 4 = .ok (.arraylength, 1) := by decide +kernel
theorem dX5_size_5 : decode cX5_size 5 = .ok (.ireturn, 1) := by decide +kernel
theorem dX5_groupAt_0 : decode cX5_groupAt 0 = .ok (.iload_n 1, 1) := by decide +kernel
theorem dX5_groupAt_1 : decode cX5_groupAt 1 = .ok (.aload_n 0, 1) := by decide +kernel
theorem dX5_groupAt_2 : decode cX5_groupAt 2 = .ok (.getfield 18, 3) := by decide +kernel
theorem dX5_groupAt_5 : decode cX5_groupAt 5 = .ok (.arraylength, 1) := by decide +kernel
theorem dX5_groupAt_6 : decode cX5_groupAt 6 = .ok (.invokestatic 36, 3) := by decide +kernel
theorem dX5_groupAt_9 : decode cX5_groupAt 9 = .ok (.ifCond .eq 12, 3) := by decide +kernel
theorem dX5_groupAt_12 : decode cX5_groupAt 12 = .ok (.aload_n 0, 1) := by decide +kernel
theorem dX5_groupAt_13 : decode cX5_groupAt 13 = .ok (.getfield 18, 3) := by decide +kernel
theorem dX5_groupAt_16 : decode cX5_groupAt 16 = .ok (.iload_n 1, 1) := by decide +kernel
theorem dX5_groupAt_17 : decode cX5_groupAt 17 = .ok (.iaload, 1) := by decide +kernel
theorem dX5_groupAt_18 : decode cX5_groupAt 18 = .ok (.goto 4, 3) := by decide +kernel
theorem dX5_groupAt_21 : decode cX5_groupAt 21 = .ok (.iconst 0, 1) := by decide +kernel
theorem dX5_groupAt_22 : decode cX5_groupAt 22 = .ok (.ireturn, 1) := by decide +kernel
theorem dX5_isBurnt_0 : decode cX5_isBurnt 0 = .ok (.aload_n 0, 1) := by decide +kernel
theorem dX5_isBurnt_1 : decode cX5_isBurnt 1 = .ok (.getfield 40, 3) := by decide +kernel
theorem dX5_isBurnt_4 : decode cX5_isBurnt 4 = .ok (.ifCond .le 7, 3) := by decide +kernel
theorem dX5_isBurnt_7 : decode cX5_isBurnt 7 = .ok (.iconst 1, 1) := by decide +kernel
theorem dX5_isBurnt_8 : decode cX5_isBurnt 8 = .ok (.goto 4, 3) := by decide +kernel
theorem dX5_isBurnt_11 : decode cX5_isBurnt 11 = .ok (.iconst 0, 1) := by decide +kernel
theorem dX5_isBurnt_12 : decode cX5_isBurnt 12 = .ok (.ireturn, 1) := by decide +kernel
theorem dX5_hide_0 : decode cX5_hide 0 = .ok (.iconst 0, 1) := by decide +kernel
theorem dX5_hide_1 : decode cX5_hide 1 = .ok (.istore_n 2, 1) := by decide +kernel
theorem dX5_hide_2 : decode cX5_hide 2 = .ok (.iload_n 2, 1) := by decide +kernel
theorem dX5_hide_3 : decode cX5_hide 3 = .ok (.aload_n 1, 1) := by decide +kernel
theorem dX5_hide_4 : decode cX5_hide 4 = .ok (.arraylength, 1) := by decide +kernel
theorem dX5_hide_5 : decode cX5_hide 5 = .ok (.if_icmp .ge 24, 3) := by decide +kernel
theorem dX5_hide_8 : decode cX5_hide 8 = .ok (.aload_n 1, 1) := by decide +kernel
theorem dX5_hide_9 : decode cX5_hide 9 = .ok (.iload_n 2, 1) := by decide +kernel
theorem dX5_hide_10 : decode cX5_hide 10 = .ok (.aload_n 1, 1) := by decide +kernel
theorem dX5_hide_11 : decode cX5_hide 11 = .ok (.iload_n 2, 1) := by decide +kernel
theorem dX5_hide_12 : decode cX5_hide 12 = .ok (.iaload, 1) := by decide +kernel
theorem dX5_hide_13 : decode cX5_hide 13 = .ok (.aload_n 0, 1) := by decide +kernel
theorem dX5_hide_14 : decode cX5_hide 14 = .ok (.iload_n 2, 1) := by decide +kernel
theorem dX5_hide_15 : decode cX5_hide 15 = .ok (.invokevirtual 43, 3) := by decide +kernel
theorem dX5_hide_18 : decode cX5_hide 18 = .ok (.iadd, 1) := by decide +kernel
theorem dX5_hide_19 : decode cX5_hide 19 = .ok (.bipush 100, 2) := by decide +kernel
theorem dX5_hide_21 : decode cX5_hide 21 = .ok (.irem, 1) := by decide +kernel
theorem dX5_hide_22 : decode cX5_hide 22 = .ok (.iastore, 1) := by decide +kernel
theorem dX5_hide_23 : decode cX5_hide 23 = .ok (.iinc 2 1, 3) := by decide +kernel
theorem dX5_hide_26 : decode cX5_hide 26 = .ok (.goto (-24), 3) := by decide +kernel
theorem dX5_hide_29 : decode cX5_hide 29 = .ok (.aload_n 0, 1) := by decide +kernel
theorem dX5_hide_30 : decode cX5_hide 30 = .ok (.dup, 1) := by decide +kernel
theorem dX5_hide_31 : decode cX5_hide 31 = .ok (.getfield 40, 3) := by decide +kernel
theorem dX5_hide_34 : decode cX5_hide 34 = .ok (.iconst 1, 1) := by decide +kernel
theorem dX5_hide_35 : decode cX5_hide 35 = .ok (.iadd, 1) := by decide +kernel
theorem dX5_hide_36 : decode cX5_hide 36 = .ok (.putfield 40, 3) := by decide +kernel
theorem dX5_hide_39 : decode cX5_hide 39 = .ok (.return_, 1) := by decide +kernel
theorem dX5_uncovered_0 : decode cX5_uncovered 0 = .ok (.aload_n 1, 1) := by decide +kernel
theorem dX5_uncovered_1 : decode cX5_uncovered 1 = .ok (.iload_n 2, 1) := by decide +kernel
theorem dX5_uncovered_2 : decode cX5_uncovered 2 = .ok (.invokevirtual 47, 3) := by decide +kernel
theorem dX5_uncovered_5 : decode cX5_uncovered 5 = .ok (.aload_n 0, 1) := by decide +kernel
theorem dX5_uncovered_6 : decode cX5_uncovered 6 = .ok (.iload_n 2, 1) := by decide +kernel
theorem dX5_uncovered_7 : decode cX5_uncovered 7 = .ok (.invokevirtual 43, 3) := by decide +kernel
theorem dX5_uncovered_10 : decode cX5_uncovered 10 = .ok (.isub, 1) := by decide +kernel
theorem dX5_uncovered_11 : decode cX5_uncovered 11 = .ok (.bipush 100, 2) := by decide +kernel
theorem dX5_uncovered_13 : decode cX5_uncovered 13 = .ok (.invokestatic 50, 3) := by decide +kernel
theorem dX5_uncovered_16 : decode cX5_uncovered 16 = .ok (.ireturn, 1) := by decide +kernel
theorem dX5_addendOf_0 : decode cX5_addendOf 0 = .ok (.aload_n 0, 1) := by decide +kernel
theorem dX5_addendOf_1 : decode cX5_addendOf 1 = .ok (.getfield 18, 3) := by decide +kernel
theorem dX5_addendOf_4 : decode cX5_addendOf 4 = .ok (.arraylength, 1) := by decide +kernel
theorem dX5_addendOf_5 : decode cX5_addendOf 5 = .ok (.iconst 2, 1) := by decide +kernel
theorem dX5_addendOf_6 : decode cX5_addendOf 6 = .ok (.if_icmp .ge 5, 3) := by decide +kernel
theorem dX5_addendOf_9 : decode cX5_addendOf 9 = .ok (.iconst (-1), 1) := by decide +kernel
theorem dX5_addendOf_10 : decode cX5_addendOf 10 = .ok (.ireturn, 1) := by decide +kernel
theorem dX5_addendOf_11 : decode cX5_addendOf 11 = .ok (.aload_n 0, 1) := by decide +kernel
theorem dX5_addendOf_12 : decode cX5_addendOf 12 = .ok (.getfield 18, 3) := by decide +kernel
theorem dX5_addendOf_15 : decode cX5_addendOf 15 = .ok (.iconst 1, 1) := by decide +kernel
theorem dX5_addendOf_16 : decode cX5_addendOf 16 = .ok (.iaload, 1) := by decide +kernel
theorem dX5_addendOf_17 : decode cX5_addendOf 17 = .ok (.iload_n 1, 1) := by decide +kernel
theorem dX5_addendOf_18 : decode cX5_addendOf 18 = .ok (.aload_n 0, 1) := by decide +kernel
theorem dX5_addendOf_19 : decode cX5_addendOf 19 = .ok (.getfield 18, 3) := by decide +kernel
theorem dX5_addendOf_22 : decode cX5_addendOf 22 = .ok (.iconst 0, 1) := by decide +kernel
theorem dX5_addendOf_23 : decode cX5_addendOf 23 = .ok (.iaload, 1) := by decide +kernel
theorem dX5_addendOf_24 : decode cX5_addendOf 24 = .ok (.imul, 1) := by decide +kernel
theorem dX5_addendOf_25 : decode cX5_addendOf 25 = .ok (.isub, 1) := by decide +kernel
theorem dX5_addendOf_26 : decode cX5_addendOf 26 = .ok (.bipush 100, 2) := by decide +kernel
theorem dX5_addendOf_28 : decode cX5_addendOf 28 = .ok (.invokestatic 50, 3) := by decide +kernel
theorem dX5_addendOf_31 : decode cX5_addendOf 31 = .ok (.istore_n 2, 1) := by decide +kernel
theorem dX5_addendOf_32 : decode cX5_addendOf 32 = .ok (.iconst 2, 1) := by decide +kernel
theorem dX5_addendOf_33 : decode cX5_addendOf 33 = .ok (.istore_n 3, 1) := by decide +kernel
theorem dX5_addendOf_34 : decode cX5_addendOf 34 = .ok (.iload_n 3, 1) := by decide +kernel
theorem dX5_addendOf_35 : decode cX5_addendOf 35 = .ok (.aload_n 0, 1) := by decide +kernel
theorem dX5_addendOf_36 : decode cX5_addendOf 36 = .ok (.getfield 18, 3) := by decide +kernel
theorem dX5_addendOf_39 : decode cX5_addendOf 39 = .ok (.arraylength, 1) := by decide +kernel
theorem dX5_addendOf_40 : decode cX5_addendOf 40 = .ok (.if_icmp .ge 36, 3) := by decide +kernel
theorem dX5_addendOf_43 : decode cX5_addendOf 43 = .ok (.iload_n 1, 1) := by decide +kernel
theorem dX5_addendOf_44 : decode cX5_addendOf 44 = .ok (.aload_n 0, 1) := by decide +kernel
theorem dX5_addendOf_45 : decode cX5_addendOf 45 = .ok (.getfield 18, 3) := by decide +kernel
theorem dX5_addendOf_48 : decode cX5_addendOf 48 = .ok (.iload_n 3, 1) := by decide +kernel
theorem dX5_addendOf_49 : decode cX5_addendOf 49 = .ok (.iconst 1, 1) := by decide +kernel
theorem dX5_addendOf_50 : decode cX5_addendOf 50 = .ok (.isub, 1) := by decide +kernel
theorem dX5_addendOf_51 : decode cX5_addendOf 51 = .ok (.iaload, 1) := by decide +kernel
theorem dX5_addendOf_52 : decode cX5_addendOf 52 = .ok (.imul, 1) := by decide +kernel
theorem dX5_addendOf_53 : decode cX5_addendOf 53 = .ok (.iload_n 2, 1) := by decide +kernel
theorem dX5_addendOf_54 : decode cX5_addendOf 54 = .ok (.iadd, 1) := by decide +kernel
theorem dX5_addendOf_55 : decode cX5_addendOf 55 = .ok (.bipush 100, 2) := by decide +kernel
theorem dX5_addendOf_57 : decode cX5_addendOf 57 = .ok (.irem, 1) := by decide +kernel
theorem dX5_addendOf_58 : decode cX5_addendOf 58 = .ok (.aload_n 0, 1) := by decide +kernel
theorem dX5_addendOf_59 : decode cX5_addendOf 59 = .ok (.getfield 18, 3) := by decide +kernel
theorem dX5_addendOf_62 : decode cX5_addendOf 62 = .ok (.iload_n 3, 1) := by decide +kernel
theorem dX5_addendOf_63 : decode cX5_addendOf 63 = .ok (.iaload, 1) := by decide +kernel
theorem dX5_addendOf_64 : decode cX5_addendOf 64 = .ok (.if_icmp .eq 6, 3) := by decide +kernel
theorem dX5_addendOf_67 : decode cX5_addendOf 67 = .ok (.bipush (-9), 2) := by decide +kernel
theorem dX5_addendOf_69 : decode cX5_addendOf 69 = .ok (.ireturn, 1) := by decide +kernel
theorem dX5_addendOf_70 : decode cX5_addendOf 70 = .ok (.iinc 3 1, 3) := by decide +kernel
theorem dX5_addendOf_73 : decode cX5_addendOf 73 = .ok (.goto (-39), 3) := by decide +kernel
theorem dX5_addendOf_76 : decode cX5_addendOf 76 = .ok (.iload_n 2, 1) := by decide +kernel
theorem dX5_addendOf_77 : decode cX5_addendOf 77 = .ok (.ireturn, 1) := by decide +kernel
theorem dX5_countMakers_0 : decode cX5_countMakers 0 = .ok (.iconst 0, 1) := by decide +kernel
theorem dX5_countMakers_1 : decode cX5_countMakers 1 = .ok (.istore_n 1, 1) := by decide +kernel
theorem dX5_countMakers_2 : decode cX5_countMakers 2 = .ok (.iconst 0, 1) := by decide +kernel
theorem dX5_countMakers_3 : decode cX5_countMakers 3 = .ok (.istore_n 2, 1) := by decide +kernel
theorem dX5_countMakers_4 : decode cX5_countMakers 4 = .ok (.iload_n 2, 1) := by decide +kernel
theorem dX5_countMakers_5 : decode cX5_countMakers 5 = .ok (.bipush 100, 2) := by decide +kernel
theorem dX5_countMakers_7 : decode cX5_countMakers 7 = .ok (.if_icmp .ge 35, 3) := by decide +kernel
theorem dX5_countMakers_10 : decode cX5_countMakers 10 = .ok (.aload_n 0, 1) := by decide +kernel
theorem dX5_countMakers_11 : decode cX5_countMakers 11 = .ok (.iload_n 2, 1) := by decide +kernel
theorem dX5_countMakers_12 : decode cX5_countMakers 12 = .ok (.invokevirtual 56, 3) := by decide +kernel
theorem dX5_countMakers_15 : decode cX5_countMakers 15 = .ok (.istore_n 3, 1) := by decide +kernel
theorem dX5_countMakers_16 : decode cX5_countMakers 16 = .ok (.iload_n 3, 1) := by decide +kernel
theorem dX5_countMakers_17 : decode cX5_countMakers 17 = .ok (.iconst (-1), 1) := by decide +kernel
theorem dX5_countMakers_18 : decode cX5_countMakers 18 = .ok (.if_icmp .ne 9, 3) := by decide +kernel
theorem dX5_countMakers_21 : decode cX5_countMakers 21 = .ok (.iinc 1 100, 3) := by decide +kernel
theorem dX5_countMakers_24 : decode cX5_countMakers 24 = .ok (.goto 12, 3) := by decide +kernel
theorem dX5_countMakers_27 : decode cX5_countMakers 27 = .ok (.iload_n 3, 1) := by decide +kernel
theorem dX5_countMakers_28 : decode cX5_countMakers 28 = .ok (.bipush (-9), 2) := by decide +kernel
theorem dX5_countMakers_30 : decode cX5_countMakers 30 = .ok (.if_icmp .eq 6, 3) := by decide +kernel
theorem dX5_countMakers_33 : decode cX5_countMakers 33 = .ok (.iinc 1 1, 3) := by decide +kernel
theorem dX5_countMakers_36 : decode cX5_countMakers 36 = .ok (.iinc 2 1, 3) := by decide +kernel
theorem dX5_countMakers_39 : decode cX5_countMakers 39 = .ok (.goto (-35), 3) := by decide +kernel
theorem dX5_countMakers_42 : decode cX5_countMakers 42 = .ok (.iload_n 1, 1) := by decide +kernel
theorem dX5_countMakers_43 : decode cX5_countMakers 43 = .ok (.ireturn, 1) := by decide +kernel
theorem dX5_leastFactor_0 : decode cX5_leastFactor 0 = .ok (.iconst 0, 1) := by decide +kernel
theorem dX5_leastFactor_1 : decode cX5_leastFactor 1 = .ok (.istore_n 1, 1) := by decide +kernel
theorem dX5_leastFactor_2 : decode cX5_leastFactor 2 = .ok (.iload_n 1, 1) := by decide +kernel
theorem dX5_leastFactor_3 : decode cX5_leastFactor 3 = .ok (.bipush 100, 2) := by decide +kernel
theorem dX5_leastFactor_5 : decode cX5_leastFactor 5 = .ok (.if_icmp .ge 21, 3) := by decide +kernel
theorem dX5_leastFactor_8 : decode cX5_leastFactor 8 = .ok (.aload_n 0, 1) := by decide +kernel
theorem dX5_leastFactor_9 : decode cX5_leastFactor 9 = .ok (.iload_n 1, 1) := by decide +kernel
theorem dX5_leastFactor_10 : decode cX5_leastFactor 10 = .ok (.invokevirtual 56, 3) := by decide +kernel
theorem dX5_leastFactor_13 : decode cX5_leastFactor 13 = .ok (.bipush (-9), 2) := by decide +kernel
theorem dX5_leastFactor_15 : decode cX5_leastFactor 15 = .ok (.if_icmp .eq 5, 3) := by decide +kernel
theorem dX5_leastFactor_18 : decode cX5_leastFactor 18 = .ok (.iload_n 1, 1) := by decide +kernel
theorem dX5_leastFactor_19 : decode cX5_leastFactor 19 = .ok (.ireturn, 1) := by decide +kernel
theorem dX5_leastFactor_20 : decode cX5_leastFactor 20 = .ok (.iinc 1 1, 3) := by decide +kernel
theorem dX5_leastFactor_23 : decode cX5_leastFactor 23 = .ok (.goto (-21), 3) := by decide +kernel
theorem dX5_leastFactor_26 : decode cX5_leastFactor 26 = .ok (.bipush (-9), 2) := by decide +kernel
theorem dX5_leastFactor_28 : decode cX5_leastFactor 28 = .ok (.ireturn, 1) := by decide +kernel
theorem dX5_leastAddend_0 : decode cX5_leastAddend 0 = .ok (.aload_n 0, 1) := by decide +kernel
theorem dX5_leastAddend_1 : decode cX5_leastAddend 1 = .ok (.invokevirtual 59, 3) := by decide +kernel
theorem dX5_leastAddend_4 : decode cX5_leastAddend 4 = .ok (.istore_n 1, 1) := by decide +kernel
theorem dX5_leastAddend_5 : decode cX5_leastAddend 5 = .ok (.iload_n 1, 1) := by decide +kernel
theorem dX5_leastAddend_6 : decode cX5_leastAddend 6 = .ok (.bipush (-9), 2) := by decide +kernel
theorem dX5_leastAddend_8 : decode cX5_leastAddend 8 = .ok (.if_icmp .ne 6, 3) := by decide +kernel
theorem dX5_leastAddend_11 : decode cX5_leastAddend 11 = .ok (.bipush (-9), 2) := by decide +kernel
theorem dX5_leastAddend_13 : decode cX5_leastAddend 13 = .ok (.ireturn, 1) := by decide +kernel
theorem dX5_leastAddend_14 : decode cX5_leastAddend 14 = .ok (.aload_n 0, 1) := by decide +kernel
theorem dX5_leastAddend_15 : decode cX5_leastAddend 15 = .ok (.iload_n 1, 1) := by decide +kernel
theorem dX5_leastAddend_16 : decode cX5_leastAddend 16 = .ok (.invokevirtual 56, 3) := by decide +kernel
theorem dX5_leastAddend_19 : decode cX5_leastAddend 19 = .ok (.istore_n 2, 1) := by decide +kernel
theorem dX5_leastAddend_20 : decode cX5_leastAddend 20 = .ok (.iload_n 2, 1) := by decide +kernel
theorem dX5_leastAddend_21 : decode cX5_leastAddend 21 = .ok (.iconst (-1), 1) := by decide +kernel
theorem dX5_leastAddend_22 : decode cX5_leastAddend 22 = .ok (.if_icmp .ne 7, 3) := by decide +kernel
theorem dX5_leastAddend_25 : decode cX5_leastAddend 25 = .ok (.iconst 0, 1) := by decide +kernel
theorem dX5_leastAddend_26 : decode cX5_leastAddend 26 = .ok (.goto 4, 3) := by decide +kernel
theorem dX5_leastAddend_29 : decode cX5_leastAddend 29 = .ok (.iload_n 2, 1) := by decide +kernel
theorem dX5_leastAddend_30 : decode cX5_leastAddend 30 = .ok (.ireturn, 1) := by decide +kernel
theorem dX5_isLike_0 : decode cX5_isLike 0 = .ok (.iconst 0, 1) := by decide +kernel
theorem dX5_isLike_1 : decode cX5_isLike 1 = .ok (.istore_n 2, 1) := by decide +kernel
theorem dX5_isLike_2 : decode cX5_isLike 2 = .ok (.iconst 0, 1) := by decide +kernel
theorem dX5_isLike_3 : decode cX5_isLike 3 = .ok (.istore_n 3, 1) := by decide +kernel
theorem dX5_isLike_4 : decode cX5_isLike 4 = .ok (.iload_n 3, 1) := by decide +kernel
theorem dX5_isLike_5 : decode cX5_isLike 5 = .ok (.bipush 100, 2) := by decide +kernel
theorem dX5_isLike_7 : decode cX5_isLike 7 = .ok (.if_icmp .ge 47, 3) := by decide +kernel
theorem dX5_isLike_10 : decode cX5_isLike 10 = .ok (.aload_n 0, 1) := by decide +kernel
theorem dX5_isLike_11 : decode cX5_isLike 11 = .ok (.iload_n 3, 1) := by decide +kernel
theorem dX5_isLike_12 : decode cX5_isLike 12 = .ok (.invokevirtual 56, 3) := by decide +kernel
theorem dX5_isLike_15 : decode cX5_isLike 15 = .ok (.istore 4, 2) := by decide +kernel
theorem dX5_isLike_17 : decode cX5_isLike 17 = .ok (.iload 4, 2) := by decide +kernel
theorem dX5_isLike_19 : decode cX5_isLike 19 = .ok (.bipush (-9), 2) := by decide +kernel
theorem dX5_isLike_21 : decode cX5_isLike 21 = .ok (.if_icmp .eq 27, 3) := by decide +kernel
theorem dX5_isLike_24 : decode cX5_isLike 24 = .ok (.iconst 1, 1) := by decide +kernel
theorem dX5_isLike_25 : decode cX5_isLike 25 = .ok (.istore_n 2, 1) := by decide +kernel
theorem dX5_isLike_26 : decode cX5_isLike 26 = .ok (.aload_n 1, 1) := by decide +kernel
theorem dX5_isLike_27 : decode cX5_isLike 27 = .ok (.iload_n 3, 1) := by decide +kernel
theorem dX5_isLike_28 : decode cX5_isLike 28 = .ok (.invokevirtual 56, 3) := by decide +kernel
theorem dX5_isLike_31 : decode cX5_isLike 31 = .ok (.istore 5, 2) := by decide +kernel
theorem dX5_isLike_33 : decode cX5_isLike 33 = .ok (.iload 5, 2) := by decide +kernel
theorem dX5_isLike_35 : decode cX5_isLike 35 = .ok (.iconst (-1), 1) := by decide +kernel
theorem dX5_isLike_36 : decode cX5_isLike 36 = .ok (.if_icmp .eq 12, 3) := by decide +kernel
theorem dX5_isLike_39 : decode cX5_isLike 39 = .ok (.iload 5, 2) := by decide +kernel
theorem dX5_isLike_41 : decode cX5_isLike 41 = .ok (.iload 4, 2) := by decide +kernel
theorem dX5_isLike_43 : decode cX5_isLike 43 = .ok (.if_icmp .eq 5, 3) := by decide +kernel
theorem dX5_isLike_46 : decode cX5_isLike 46 = .ok (.iconst 0, 1) := by decide +kernel
theorem dX5_isLike_47 : decode cX5_isLike 47 = .ok (.ireturn, 1) := by decide +kernel
theorem dX5_isLike_48 : decode cX5_isLike 48 = .ok (.iinc 3 1, 3) := by decide +kernel
theorem dX5_isLike_51 : decode cX5_isLike 51 = .ok (.goto (-47), 3) := by decide +kernel
theorem dX5_isLike_54 : decode cX5_isLike 54 = .ok (.iload_n 2, 1) := by decide +kernel
theorem dX5_isLike_55 : decode cX5_isLike 55 = .ok (.ireturn, 1) := by decide +kernel
theorem dX5_groupBehind_0 : decode cX5_groupBehind 0 = .ok (.bipush (-9), 2) := by decide +kernel
theorem dX5_groupBehind_2 : decode cX5_groupBehind 2 = .ok (.istore_n 1, 1) := by decide +kernel
theorem dX5_groupBehind_3 : decode cX5_groupBehind 3 = .ok (.iconst 0, 1) := by decide +kernel
theorem dX5_groupBehind_4 : decode cX5_groupBehind 4 = .ok (.istore_n 2, 1) := by decide +kernel
theorem dX5_groupBehind_5 : decode cX5_groupBehind 5 = .ok (.iload_n 2, 1) := by decide +kernel
theorem dX5_groupBehind_6 : decode cX5_groupBehind 6 = .ok (.bipush 100, 2) := by decide +kernel
theorem dX5_groupBehind_8 : decode cX5_groupBehind 8 = .ok (.if_icmp .ge 67, 3) := by decide +kernel
theorem dX5_groupBehind_11 : decode cX5_groupBehind 11 = .ok (.aload_n 0, 1) := by decide +kernel
theorem dX5_groupBehind_12 : decode cX5_groupBehind 12 = .ok (.iload_n 2, 1) := by decide +kernel
theorem dX5_groupBehind_13 : decode cX5_groupBehind 13 = .ok (.invokevirtual 56, 3) := by decide +kernel
theorem dX5_groupBehind_16 : decode cX5_groupBehind 16 = .ok (.istore_n 3, 1) := by decide +kernel
theorem dX5_groupBehind_17 : decode cX5_groupBehind 17 = .ok (.iload_n 3, 1) := by decide +kernel
theorem dX5_groupBehind_18 : decode cX5_groupBehind 18 = .ok (.iconst (-1), 1) := by decide +kernel
theorem dX5_groupBehind_19 : decode cX5_groupBehind 19 = .ok (.if_icmp .ne 6, 3) := by decide +kernel
theorem dX5_groupBehind_22 : decode cX5_groupBehind 22 = .ok (.bipush (-9), 2) := by decide +kernel
theorem dX5_groupBehind_24 : decode cX5_groupBehind 24 = .ok (.ireturn, 1) := by decide +kernel
theorem dX5_groupBehind_25 : decode cX5_groupBehind 25 = .ok (.iload_n 3, 1) := by decide +kernel
theorem dX5_groupBehind_26 : decode cX5_groupBehind 26 = .ok (.bipush (-9), 2) := by decide +kernel
theorem dX5_groupBehind_28 : decode cX5_groupBehind 28 = .ok (.if_icmp .eq 41, 3) := by decide +kernel
theorem dX5_groupBehind_31 : decode cX5_groupBehind 31 = .ok (.iload_n 2, 1) := by decide +kernel
theorem dX5_groupBehind_32 : decode cX5_groupBehind 32 = .ok (.aload_n 0, 1) := by decide +kernel
theorem dX5_groupBehind_33 : decode cX5_groupBehind 33 = .ok (.aload_n 0, 1) := by decide +kernel
theorem dX5_groupBehind_34 : decode cX5_groupBehind 34 = .ok (.getfield 18, 3) := by decide +kernel
theorem dX5_groupBehind_37 : decode cX5_groupBehind 37 = .ok (.arraylength, 1) := by decide +kernel
theorem dX5_groupBehind_38 : decode cX5_groupBehind 38 = .ok (.iconst 1, 1) := by decide +kernel
theorem dX5_groupBehind_39 : decode cX5_groupBehind 39 = .ok (.isub, 1) := by decide +kernel
theorem dX5_groupBehind_40 : decode cX5_groupBehind 40 = .ok (.invokevirtual 43, 3) := by decide +kernel
theorem dX5_groupBehind_43 : decode cX5_groupBehind 43 = .ok (.imul, 1) := by decide +kernel
theorem dX5_groupBehind_44 : decode cX5_groupBehind 44 = .ok (.iload_n 3, 1) := by decide +kernel
theorem dX5_groupBehind_45 : decode cX5_groupBehind 45 = .ok (.iadd, 1) := by decide +kernel
theorem dX5_groupBehind_46 : decode cX5_groupBehind 46 = .ok (.bipush 100, 2) := by decide +kernel
theorem dX5_groupBehind_48 : decode cX5_groupBehind 48 = .ok (.irem, 1) := by decide +kernel
theorem dX5_groupBehind_49 : decode cX5_groupBehind 49 = .ok (.istore 4, 2) := by decide +kernel
theorem dX5_groupBehind_51 : decode cX5_groupBehind 51 = .ok (.iload_n 1, 1) := by decide +kernel
theorem dX5_groupBehind_52 : decode cX5_groupBehind 52 = .ok (.bipush (-9), 2) := by decide +kernel
theorem dX5_groupBehind_54 : decode cX5_groupBehind 54 = .ok (.if_icmp .eq 12, 3) := by decide +kernel
theorem dX5_groupBehind_57 : decode cX5_groupBehind 57 = .ok (.iload_n 1, 1) := by decide +kernel
theorem dX5_groupBehind_58 : decode cX5_groupBehind 58 = .ok (.iload 4, 2) := by decide +kernel
theorem dX5_groupBehind_60 : decode cX5_groupBehind 60 = .ok (.if_icmp .eq 6, 3) := by decide +kernel
theorem dX5_groupBehind_63 : decode cX5_groupBehind 63 = .ok (.bipush (-9), 2) := by decide +kernel
theorem dX5_groupBehind_65 : decode cX5_groupBehind 65 = .ok (.ireturn, 1) := by decide +kernel
theorem dX5_groupBehind_66 : decode cX5_groupBehind 66 = .ok (.iload 4, 2) := by decide +kernel
theorem dX5_groupBehind_68 : decode cX5_groupBehind 68 = .ok (.istore_n 1, 1) := by decide +kernel
theorem dX5_groupBehind_69 : decode cX5_groupBehind 69 = .ok (.iinc 2 1, 3) := by decide +kernel
theorem dX5_groupBehind_72 : decode cX5_groupBehind 72 = .ok (.goto (-67), 3) := by decide +kernel
theorem dX5_groupBehind_75 : decode cX5_groupBehind 75 = .ok (.iload_n 1, 1) := by decide +kernel
theorem dX5_groupBehind_76 : decode cX5_groupBehind 76 = .ok (.ireturn, 1) := by decide +kernel
theorem dX6_init_0 : decode cX6_init 0 = .ok (.aload_n 0, 1) := by decide +kernel
theorem dX6_init_1 : decode cX6_init 1 = .ok (.invokespecial 3, 3) := by decide +kernel
theorem dX6_init_4 : decode cX6_init 4 = .ok (.aload_n 0, 1) := by decide +kernel
theorem dX6_init_5 : decode cX6_init 5 = .ok (.bipush 6, 2) := by decide +kernel
theorem dX6_init_7 : decode cX6_init 7 = .ok (.newarray .int, 2) := by decide +kernel
theorem dX6_init_9 : decode cX6_init 9 = .ok (.putfield 9, 3) := by decide +kernel
theorem dX6_init_12 : decode cX6_init 12 = .ok (.aload_n 0, 1) := by decide +kernel
theorem dX6_init_13 : decode cX6_init 13 = .ok (.bipush 6, 2) := by decide +kernel
theorem dX6_init_15 : decode cX6_init 15 = .ok (.bipush 100, 2) := by decide +kernel
theorem dX6_init_17 : decode cX6_init 17 = .ok (.multianewarray 15 2, 4) := by decide +kernel
theorem dX6_init_21 : decode cX6_init 21 = .ok (.putfield 17, 3) := by decide +kernel
theorem dX6_init_24 : decode cX6_init 24 = .ok (.aload_n 0, 1) := by decide +kernel
theorem dX6_init_25 : decode cX6_init 25 = .ok (.bipush 6, 2) := by decide +kernel
theorem dX6_init_27 : decode cX6_init 27 = .ok (.newarray .int, 2) := by decide +kernel
theorem dX6_init_29 : decode cX6_init 29 = .ok (.putfield 20, 3) := by decide +kernel
theorem dX6_init_32 : decode cX6_init 32 = .ok (.aload_n 0, 1) := by decide +kernel
theorem dX6_init_33 : decode cX6_init 33 = .ok (.bipush 6, 2) := by decide +kernel
theorem dX6_init_35 : decode cX6_init 35 = .ok (.newarray .int, 2) := by decide +kernel
theorem dX6_init_37 : decode cX6_init 37 = .ok (.putfield 23, 3) := by decide +kernel
theorem dX6_init_40 : decode cX6_init 40 = .ok (.aload_n 0, 1) := by decide +kernel
theorem dX6_init_41 : decode cX6_init 41 = .ok (.bipush 6, 2) := by decide +kernel
theorem dX6_init_43 : decode cX6_init 43 = .ok (.newarray .int, 2) := by decide +kernel
theorem dX6_init_45 : decode cX6_init 45 = .ok (.putfield 26, 3) := by decide +kernel
theorem dX6_init_48 : decode cX6_init 48 = .ok (.return_, 1) := by decide +kernel
theorem dX6_bagCount_0 : decode cX6_bagCount 0 = .ok (.aload_n 0, 1) := by decide +kernel
theorem dX6_bagCount_1 : decode cX6_bagCount 1 = .ok (.getfield 29, 3) := by decide +kernel
theorem dX6_bagCount_4 : decode cX6_bagCount 4 = .ok (.ireturn, 1) := by decide +kernel
theorem dX6_changeNeed_0 : decode cX6_changeNeed 0 = .ok (.iload_n 1, 1) := by decide +kernel
theorem dX6_changeNeed_1 : decode cX6_changeNeed 1 = .ok (.bipush 6, 2) := by decide +kernel
theorem dX6_changeNeed_3 : decode cX6_changeNeed 3 = .ok (.invokestatic 33, 3) := by decide +kernel
theorem dX6_changeNeed_6 : decode cX6_changeNeed 6 = .ok (.ifCond .ne 5, 3) := by decide +kernel
theorem dX6_changeNeed_9 : decode cX6_changeNeed 9 = .ok (.iconst 0, 1) := by decide +kernel
theorem dX6_changeNeed_10 : decode cX6_changeNeed 10 = .ok (.ireturn, 1) := by decide +kernel
theorem dX6_changeNeed_11 : decode cX6_changeNeed 11 = .ok (.aload_n 0, 1) := by decide +kernel
theorem dX6_changeNeed_12 : decode cX6_changeNeed 12 = .ok (.getfield 9, 3) := by decide +kernel
theorem dX6_changeNeed_15 : decode cX6_changeNeed 15 = .ok (.iload_n 1, 1) := by decide +kernel
theorem dX6_changeNeed_16 : decode cX6_changeNeed 16 = .ok (.iaload, 1) := by decide +kernel
theorem dX6_changeNeed_17 : decode cX6_changeNeed 17 = .ok (.istore_n 3, 1) := by decide +kernel
theorem dX6_changeNeed_18 : decode cX6_changeNeed 18 = .ok (.aload_n 0, 1) := by decide +kernel
theorem dX6_changeNeed_19 : decode cX6_changeNeed 19 = .ok (.getfield 9, 3) := by decide +kernel
theorem dX6_changeNeed_22 : decode cX6_changeNeed 22 = .ok (.iload_n 1, 1) := by decide +kernel
theorem dX6_changeNeed_23 : decode cX6_changeNeed 23 = .ok (.iload_n 2, 1) := by decide +kernel
theorem dX6_changeNeed_24 : decode cX6_changeNeed 24 = .ok (.iastore, 1) := by decide +kernel
theorem dX6_changeNeed_25 : decode cX6_changeNeed 25 = .ok (.iload_n 3, 1) := by decide +kernel
theorem dX6_changeNeed_26 : decode cX6_changeNeed 26 = .ok (.ireturn, 1) := by decide +kernel
theorem dX6_addBag_0 : decode cX6_addBag 0 = .ok (.iload_n 1, 1) := by decide +kernel
theorem dX6_addBag_1 : decode cX6_addBag 1 = .ok (.bipush 6, 2) := by decide +kernel
theorem dX6_addBag_3 : decode cX6_addBag 3 = .ok (.invokestatic 33, 3) := by decide +kernel
theorem dX6_addBag_6 : decode cX6_addBag 6 = .ok (.ifCond .eq 34, 3) := by decide +kernel
theorem dX6_addBag_9 : decode cX6_addBag 9 = .ok (.iload_n 2, 1) := by decide +kernel
theorem dX6_addBag_10 : decode cX6_addBag 10 = .ok (.bipush 100, 2) := by decide +kernel
theorem dX6_addBag_12 : decode cX6_addBag 12 = .ok (.invokestatic 33, 3) := by decide +kernel
theorem dX6_addBag_15 : decode cX6_addBag 15 = .ok (.ifCond .eq 25, 3) := by decide +kernel
theorem dX6_addBag_18 : decode cX6_addBag 18 = .ok (.aload_n 0, 1) := by decide +kernel
theorem dX6_addBag_19 : decode cX6_addBag 19 = .ok (.getfield 17, 3) := by decide +kernel
theorem dX6_addBag_22 : decode cX6_addBag 22 = .ok (.iload_n 1, 1) := by decide +kernel
theorem dX6_addBag_23 : decode cX6_addBag 23 = .ok (.aaload, 1) := by decide +kernel
theorem dX6_addBag_24 : decode cX6_addBag 24 = .ok (.iload_n 2, 1) := by decide +kernel
theorem dX6_addBag_25 : decode cX6_addBag 25 = .ok (.dup2, 1) := by decide +kernel
theorem dX6_addBag_26 : decode cX6_addBag 26 = .ok (.iaload, 1) := by decide +kernel
theorem dX6_addBag_27 : decode cX6_addBag 27 = .ok (.iload_n 3, 1) := by decide +kernel
theorem dX6_addBag_28 : decode cX6_addBag 28 = .ok (.iadd, 1) := by decide +kernel
theorem dX6_addBag_29 : decode cX6_addBag 29 = .ok (.iastore, 1) := by decide +kernel
theorem dX6_addBag_30 : decode cX6_addBag 30 = .ok (.aload_n 0, 1) := by decide +kernel
theorem dX6_addBag_31 : decode cX6_addBag 31 = .ok (.dup, 1) := by decide +kernel
theorem dX6_addBag_32 : decode cX6_addBag 32 = .ok (.getfield 29, 3) := by decide +kernel
theorem dX6_addBag_35 : decode cX6_addBag 35 = .ok (.iconst 1, 1) := by decide +kernel
theorem dX6_addBag_36 : decode cX6_addBag 36 = .ok (.iadd, 1) := by decide +kernel
theorem dX6_addBag_37 : decode cX6_addBag 37 = .ok (.putfield 29, 3) := by decide +kernel
theorem dX6_addBag_40 : decode cX6_addBag 40 = .ok (.return_, 1) := by decide +kernel
theorem dX6_dayOut_0 : decode cX6_dayOut 0 = .ok (.iload_n 1, 1) := by decide +kernel
theorem dX6_dayOut_1 : decode cX6_dayOut 1 = .ok (.bipush 6, 2) := by decide +kernel
theorem dX6_dayOut_3 : decode cX6_dayOut 3 = .ok (.invokestatic 33, 3) := by decide +kernel
theorem dX6_dayOut_6 : decode cX6_dayOut 6 = .ok (.ifCond .ne 6, 3) := by decide +kernel
theorem dX6_dayOut_9 : decode cX6_dayOut 9 = .ok (.bipush (-9), 2) := by decide +kernel
theorem dX6_dayOut_11 : decode cX6_dayOut 11 = .ok (.ireturn, 1) := by decide +kernel
theorem dX6_dayOut_12 : decode cX6_dayOut 12 = .ok (.iload_n 2, 1) := by decide +kernel
theorem dX6_dayOut_13 : decode cX6_dayOut 13 = .ok (.istore_n 3, 1) := by decide +kernel
theorem dX6_dayOut_14 : decode cX6_dayOut 14 = .ok (.iconst 0, 1) := by decide +kernel
theorem dX6_dayOut_15 : decode cX6_dayOut 15 = .ok (.istore 4, 2) := by decide +kernel
theorem dX6_dayOut_17 : decode cX6_dayOut 17 = .ok (.iload 4, 2) := by decide +kernel
theorem dX6_dayOut_19 : decode cX6_dayOut 19 = .ok (.bipush 100, 2) := by decide +kernel
theorem dX6_dayOut_21 : decode cX6_dayOut 21 = .ok (.if_icmp .ge 43, 3) := by decide +kernel
theorem dX6_dayOut_24 : decode cX6_dayOut 24 = .ok (.iload_n 3, 1) := by decide +kernel
theorem dX6_dayOut_25 : decode cX6_dayOut 25 = .ok (.aload_n 0, 1) := by decide +kernel
theorem dX6_dayOut_26 : decode cX6_dayOut 26 = .ok (.getfield 17, 3) := by decide +kernel
theorem dX6_dayOut_29 : decode cX6_dayOut 29 = .ok (.iload_n 1, 1) := by decide +kernel
theorem dX6_dayOut_30 : decode cX6_dayOut 30 = .ok (.aaload, 1) := by decide +kernel
theorem dX6_dayOut_31 : decode cX6_dayOut 31 = .ok (.iload 4, 2) := by decide +kernel
theorem dX6_dayOut_33 : decode cX6_dayOut 33 = .ok (.iaload, 1) := by decide +kernel
theorem dX6_dayOut_34 : decode cX6_dayOut 34 = .ok (.iadd, 1) := by decide +kernel
theorem dX6_dayOut_35 : decode cX6_dayOut 35 = .ok (.istore_n 3, 1) := by decide +kernel
theorem dX6_dayOut_36 : decode cX6_dayOut 36 = .ok (.iload_n 3, 1) := by decide +kernel
theorem dX6_dayOut_37 : decode cX6_dayOut 37 = .ok (.aload_n 0, 1) := by decide +kernel
theorem dX6_dayOut_38 : decode cX6_dayOut 38 = .ok (.getfield 9, 3) := by decide +kernel
theorem dX6_dayOut_41 : decode cX6_dayOut 41 = .ok (.iload_n 1, 1) := by decide +kernel
theorem dX6_dayOut_42 : decode cX6_dayOut 42 = .ok (.iaload, 1) := by decide +kernel
theorem dX6_dayOut_43 : decode cX6_dayOut 43 = .ok (.if_icmp .ge 6, 3) := by decide +kernel
theorem dX6_dayOut_46 : decode cX6_dayOut 46 = .ok (.iload 4, 2) := by decide +kernel
theorem dX6_dayOut_48 : decode cX6_dayOut 48 = .ok (.ireturn, 1) := by decide +kernel
theorem dX6_dayOut_49 : decode cX6_dayOut 49 = .ok (.iload_n 3, 1) := by decide +kernel
theorem dX6_dayOut_50 : decode cX6_dayOut 50 = .ok (.aload_n 0, 1) := by decide +kernel
theorem dX6_dayOut_51 : decode cX6_dayOut 51 = .ok (.getfield 9, 3) := by decide +kernel
theorem dX6_dayOut_54 : decode cX6_dayOut 54 = .ok (.iload_n 1, 1) := by decide +kernel
theorem dX6_dayOut_55 : decode cX6_dayOut 55 = .ok (.iaload, 1) := by decide +kernel
theorem dX6_dayOut_56 : decode cX6_dayOut 56 = .ok (.isub, 1) := by decide +kernel
theorem dX6_dayOut_57 : decode cX6_dayOut 57 = .ok (.istore_n 3, 1) := by decide +kernel
theorem dX6_dayOut_58 : decode cX6_dayOut 58 = .ok (.iinc 4 1, 3) := by decide +kernel
theorem dX6_dayOut_61 : decode cX6_dayOut 61 = .ok (.goto (-44), 3) := by decide +kernel
theorem dX6_dayOut_64 : decode cX6_dayOut 64 = .ok (.bipush (-9), 2) := by decide +kernel
theorem dX6_dayOut_66 : decode cX6_dayOut 66 = .ok (.ireturn, 1) := by decide +kernel
theorem dX6_part_0 : decode cX6_part 0 = .ok (.iconst 0, 1) := by decide +kernel
theorem dX6_part_1 : decode cX6_part 1 = .ok (.istore_n 2, 1) := by decide +kernel
theorem dX6_part_2 : decode cX6_part 2 = .ok (.iload_n 2, 1) := by decide +kernel
theorem dX6_part_3 : decode cX6_part 3 = .ok (.bipush 6, 2) := by decide +kernel
theorem dX6_part_5 : decode cX6_part 5 = .ok (.if_icmp .ge 23, 3) := by decide +kernel
theorem dX6_part_8 : decode cX6_part 8 = .ok (.aload_n 0, 1) := by decide +kernel
theorem dX6_part_9 : decode cX6_part 9 = .ok (.getfield 20, 3) := by decide +kernel
theorem dX6_part_12 : decode cX6_part 12 = .ok (.iload_n 2, 1) := by decide +kernel
theorem dX6_part_13 : decode cX6_part 13 = .ok (.iconst 0, 1) := by decide +kernel
theorem dX6_part_14 : decode cX6_part 14 = .ok (.iastore, 1) := by decide +kernel
theorem dX6_part_15 : decode cX6_part 15 = .ok (.aload_n 0, 1) := by decide +kernel
theorem dX6_part_16 : decode cX6_part 16 = .ok (.getfield 26, 3) := by decide +kernel
theorem dX6_part_19 : decode cX6_part 19 = .ok (.iload_n 2, 1) := by decide +kernel
theorem dX6_part_20 : decode cX6_part 20 = .ok (.iconst 0, 1) := by decide +kernel
theorem dX6_part_21 : decode cX6_part 21 = .ok (.iastore, 1) := by decide +kernel
theorem dX6_part_22 : decode cX6_part 22 = .ok (.iinc 2 1, 3) := by decide +kernel
theorem dX6_part_25 : decode cX6_part 25 = .ok (.goto (-23), 3) := by decide +kernel
theorem dX6_part_28 : decode cX6_part 28 = .ok (.iconst 0, 1) := by decide +kernel
theorem dX6_part_29 : decode cX6_part 29 = .ok (.istore_n 2, 1) := by decide +kernel
theorem dX6_part_30 : decode cX6_part 30 = .ok (.iload_n 2, 1) := by decide +kernel
theorem dX6_part_31 : decode cX6_part 31 = .ok (.bipush 100, 2) := by decide +kernel
theorem dX6_part_33 : decode cX6_part 33 = .ok (.if_icmp .ge 46, 3) := by decide +kernel
theorem dX6_part_36 : decode cX6_part 36 = .ok (.aload_n 0, 1) := by decide +kernel
theorem dX6_part_37 : decode cX6_part 37 = .ok (.iload_n 2, 1) := by decide +kernel
theorem dX6_part_38 : decode cX6_part 38 = .ok (.invokevirtual 37, 3) := by decide +kernel
theorem dX6_part_41 : decode cX6_part 41 = .ok (.iload_n 1, 1) := by decide +kernel
theorem dX6_part_42 : decode cX6_part 42 = .ok (.if_icmp .le 5, 3) := by decide +kernel
theorem dX6_part_45 : decode cX6_part 45 = .ok (.iload_n 2, 1) := by decide +kernel
theorem dX6_part_46 : decode cX6_part 46 = .ok (.ireturn, 1) := by decide +kernel
theorem dX6_part_47 : decode cX6_part 47 = .ok (.iconst 0, 1) := by decide +kernel
theorem dX6_part_48 : decode cX6_part 48 = .ok (.istore_n 3, 1) := by decide +kernel
theorem dX6_part_49 : decode cX6_part 49 = .ok (.iload_n 3, 1) := by decide +kernel
theorem dX6_part_50 : decode cX6_part 50 = .ok (.bipush 6, 2) := by decide +kernel
theorem dX6_part_52 : decode cX6_part 52 = .ok (.if_icmp .ge 21, 3) := by decide +kernel
theorem dX6_part_55 : decode cX6_part 55 = .ok (.aload_n 0, 1) := by decide +kernel
theorem dX6_part_56 : decode cX6_part 56 = .ok (.getfield 20, 3) := by decide +kernel
theorem dX6_part_59 : decode cX6_part 59 = .ok (.iload_n 3, 1) := by decide +kernel
theorem dX6_part_60 : decode cX6_part 60 = .ok (.aload_n 0, 1) := by decide +kernel
theorem dX6_part_61 : decode cX6_part 61 = .ok (.getfield 23, 3) := by decide +kernel
theorem dX6_part_64 : decode cX6_part 64 = .ok (.iload_n 3, 1) := by decide +kernel
theorem dX6_part_65 : decode cX6_part 65 = .ok (.iaload, 1) := by decide +kernel
theorem dX6_part_66 : decode cX6_part 66 = .ok (.iastore, 1) := by decide +kernel
theorem dX6_part_67 : decode cX6_part 67 = .ok (.iinc 3 1, 3) := by decide +kernel
theorem dX6_part_70 : decode cX6_part 70 = .ok (.goto (-21), 3) := by decide +kernel
theorem dX6_part_73 : decode cX6_part 73 = .ok (.iinc 2 1, 3) := by decide +kernel
theorem dX6_part_76 : decode cX6_part 76 = .ok (.goto (-46), 3) := by decide +kernel
theorem dX6_part_79 : decode cX6_part 79 = .ok (.bipush 100, 2) := by decide +kernel
theorem dX6_part_81 : decode cX6_part 81 = .ok (.ireturn, 1) := by decide +kernel
theorem dX6_wantedThrough_0 : decode cX6_wantedThrough 0 = .ok (.iconst 0, 1) := by decide +kernel
theorem dX6_wantedThrough_1 : decode cX6_wantedThrough 1 = .ok (.istore_n 2, 1) := by decide +kernel
theorem dX6_wantedThrough_2 : decode cX6_wantedThrough 2 = .ok (.iconst 0, 1) := by decide +kernel
theorem dX6_wantedThrough_3 : decode cX6_wantedThrough 3 = .ok (.istore_n 3, 1) := by decide +kernel
theorem dX6_wantedThrough_4 : decode cX6_wantedThrough 4 = .ok (.iload_n 3, 1) := by decide +kernel
theorem dX6_wantedThrough_5 : decode cX6_wantedThrough 5 = .ok (.bipush 6, 2) := by decide +kernel
theorem dX6_wantedThrough_7 : decode cX6_wantedThrough 7 = .ok (.if_icmp .ge 71, 3) := by decide +kernel
theorem dX6_wantedThrough_10 : decode cX6_wantedThrough 10 = .ok (.aload_n 0, 1) := by decide +kernel
theorem dX6_wantedThrough_11 : decode cX6_wantedThrough 11 = .ok (.getfield 26, 3) := by decide +kernel
theorem dX6_wantedThrough_14 : decode cX6_wantedThrough 14 = .ok (.iload_n 3, 1) := by decide +kernel
theorem dX6_wantedThrough_15 : decode cX6_wantedThrough 15 = .ok (.dup2, 1) := by decide +kernel
theorem dX6_wantedThrough_16 : decode cX6_wantedThrough 16 = .ok (.iaload, 1) := by decide +kernel
theorem dX6_wantedThrough_17 : decode cX6_wantedThrough 17 = .ok (.aload_n 0, 1) := by decide +kernel
theorem dX6_wantedThrough_18 : decode cX6_wantedThrough 18 = .ok (.getfield 17, 3) := by decide +kernel
theorem dX6_wantedThrough_21 : decode cX6_wantedThrough 21 = .ok (.iload_n 3, 1) := by decide +kernel
theorem dX6_wantedThrough_22 : decode cX6_wantedThrough 22 = .ok (.aaload, 1) := by decide +kernel
theorem dX6_wantedThrough_23 : decode cX6_wantedThrough 23 = .ok (.iload_n 1, 1) := by decide +kernel
theorem dX6_wantedThrough_24 : decode cX6_wantedThrough 24 = .ok (.iaload, 1) := by decide +kernel
theorem dX6_wantedThrough_25 : decode cX6_wantedThrough 25 = .ok (.iadd, 1) := by decide +kernel
theorem dX6_wantedThrough_26 : decode cX6_wantedThrough 26 = .ok (.iastore, 1) := by decide +kernel
theorem dX6_wantedThrough_27 : decode cX6_wantedThrough 27 = .ok (.aload_n 0, 1) := by decide +kernel
theorem dX6_wantedThrough_28 : decode cX6_wantedThrough 28 = .ok (.getfield 9, 3) := by decide +kernel
theorem dX6_wantedThrough_31 : decode cX6_wantedThrough 31 = .ok (.iload_n 3, 1) := by decide +kernel
theorem dX6_wantedThrough_32 : decode cX6_wantedThrough 32 = .ok (.iaload, 1) := by decide +kernel
theorem dX6_wantedThrough_33 : decode cX6_wantedThrough 33 = .ok (.iload_n 1, 1) := by decide +kernel
theorem dX6_wantedThrough_34 : decode cX6_wantedThrough 34 = .ok (.iconst 1, 1) := by decide +kernel
theorem dX6_wantedThrough_35 : decode cX6_wantedThrough 35 = .ok (.iadd, 1) := by decide +kernel
theorem dX6_wantedThrough_36 : decode cX6_wantedThrough 36 = .ok (.imul, 1) := by decide +kernel
theorem dX6_wantedThrough_37 : decode cX6_wantedThrough 37 = .ok (.aload_n 0, 1) := by decide +kernel
theorem dX6_wantedThrough_38 : decode cX6_wantedThrough 38 = .ok (.getfield 26, 3) := by decide +kernel
theorem dX6_wantedThrough_41 : decode cX6_wantedThrough 41 = .ok (.iload_n 3, 1) := by decide +kernel
theorem dX6_wantedThrough_42 : decode cX6_wantedThrough 42 = .ok (.iaload, 1) := by decide +kernel
theorem dX6_wantedThrough_43 : decode cX6_wantedThrough 43 = .ok (.isub, 1) := by decide +kernel
theorem dX6_wantedThrough_44 : decode cX6_wantedThrough 44 = .ok (.istore 4, 2) := by decide +kernel
theorem dX6_wantedThrough_46 : decode cX6_wantedThrough 46 = .ok (.aload_n 0, 1) := by decide +kernel
theorem dX6_wantedThrough_47 : decode cX6_wantedThrough 47 = .ok (.getfield 23, 3) := by decide +kernel
theorem dX6_wantedThrough_50 : decode cX6_wantedThrough 50 = .ok (.iload_n 3, 1) := by decide +kernel
theorem dX6_wantedThrough_51 : decode cX6_wantedThrough 51 = .ok (.aload_n 0, 1) := by decide +kernel
theorem dX6_wantedThrough_52 : decode cX6_wantedThrough 52 = .ok (.getfield 20, 3) := by decide +kernel
theorem dX6_wantedThrough_55 : decode cX6_wantedThrough 55 = .ok (.iload_n 3, 1) := by decide +kernel
theorem dX6_wantedThrough_56 : decode cX6_wantedThrough 56 = .ok (.iaload, 1) := by decide +kernel
theorem dX6_wantedThrough_57 : decode cX6_wantedThrough 57 = .ok (.iload 4, 2) := by decide +kernel
theorem dX6_wantedThrough_59 : decode cX6_wantedThrough 59 = .ok (.invokestatic 41, 3) := by decide +kernel
theorem dX6_wantedThrough_62 : decode cX6_wantedThrough 62 = .ok (.iastore, 1) := by decide +kernel
theorem dX6_wantedThrough_63 : decode cX6_wantedThrough 63 = .ok (.iload_n 2, 1) := by decide +kernel
theorem dX6_wantedThrough_64 : decode cX6_wantedThrough 64 = .ok (.aload_n 0, 1) := by decide +kernel
theorem dX6_wantedThrough_65 : decode cX6_wantedThrough 65 = .ok (.getfield 23, 3) := by decide +kernel
theorem dX6_wantedThrough_68 : decode cX6_wantedThrough 68 = .ok (.iload_n 3, 1) := by decide +kernel
theorem dX6_wantedThrough_69 : decode cX6_wantedThrough 69 = .ok (.iaload, 1) := by decide +kernel
theorem dX6_wantedThrough_70 : decode cX6_wantedThrough 70 = .ok (.iadd, 1) := by decide +kernel
theorem dX6_wantedThrough_71 : decode cX6_wantedThrough 71 = .ok (.istore_n 2, 1) := by decide +kernel
theorem dX6_wantedThrough_72 : decode cX6_wantedThrough 72 = .ok (.iinc 3 1, 3) := by decide +kernel
theorem dX6_wantedThrough_75 : decode cX6_wantedThrough 75 = .ok (.goto (-71), 3) := by decide +kernel
theorem dX6_wantedThrough_78 : decode cX6_wantedThrough 78 = .ok (.iload_n 2, 1) := by decide +kernel
theorem dX6_wantedThrough_79 : decode cX6_wantedThrough 79 = .ok (.ireturn, 1) := by decide +kernel
theorem dX6_partOf_0 : decode cX6_partOf 0 = .ok (.iload_n 1, 1) := by decide +kernel
theorem dX6_partOf_1 : decode cX6_partOf 1 = .ok (.bipush 6, 2) := by decide +kernel
theorem dX6_partOf_3 : decode cX6_partOf 3 = .ok (.invokestatic 33, 3) := by decide +kernel
theorem dX6_partOf_6 : decode cX6_partOf 6 = .ok (.ifCond .eq 12, 3) := by decide +kernel
theorem dX6_partOf_9 : decode cX6_partOf 9 = .ok (.aload_n 0, 1) := by decide +kernel
theorem dX6_partOf_10 : decode cX6_partOf 10 = .ok (.getfield 20, 3) := by decide +kernel
theorem dX6_partOf_13 : decode cX6_partOf 13 = .ok (.iload_n 1, 1) := by decide +kernel
theorem dX6_partOf_14 : decode cX6_partOf 14 = .ok (.iaload, 1) := by decide +kernel
theorem dX6_partOf_15 : decode cX6_partOf 15 = .ok (.goto 4, 3) := by decide +kernel
theorem dX6_partOf_18 : decode cX6_partOf 18 = .ok (.iconst 0, 1) := by decide +kernel
theorem dX6_partOf_19 : decode cX6_partOf 19 = .ok (.ireturn, 1) := by decide +kernel
theorem dX7_init_0 : decode cX7_init 0 = .ok (.aload_n 0, 1) := by decide +kernel
theorem dX7_init_1 : decode cX7_init 1 = .ok (.invokespecial 3, 3) := by decide +kernel
theorem dX7_init_4 : decode cX7_init 4 = .ok (.aload_n 0, 1) := by decide +kernel
theorem dX7_init_5 : decode cX7_init 5 = .ok (.bipush 60, 2) := by decide +kernel
theorem dX7_init_7 : decode cX7_init 7 = .ok (.newarray .int, 2) := by decide +kernel
theorem dX7_init_9 : decode cX7_init 9 = .ok (.putfield 9, 3) := by decide +kernel
theorem dX7_init_12 : decode cX7_init 12 = .ok (.aload_n 0, 1) := by decide +kernel
theorem dX7_init_13 : decode cX7_init 13 = .ok (.iconst (-1), 1) := by decide +kernel
theorem dX7_init_14 : decode cX7_init 14 = .ok (.putfield 15, 3) := by decide +kernel
theorem dX7_init_17 : decode cX7_init 17 = .ok (.return_, 1) := by decide +kernel
theorem dX7_isNothing_0 : decode cX7_isNothing 0 = .ok (.aload_n 0, 1) := by decide +kernel
theorem dX7_isNothing_1 : decode cX7_isNothing 1 = .ok (.getfield 15, 3) := by decide +kernel
theorem dX7_isNothing_4 : decode cX7_isNothing 4 = .ok (.iconst (-1), 1) := by decide +kernel
theorem dX7_isNothing_5 : decode cX7_isNothing 5 = .ok (.if_icmp .ne 7, 3) := by decide +kernel
theorem dX7_isNothing_8 : decode cX7_isNothing 8 = .ok (.iconst 1, 1) := by decide +kernel
theorem dX7_isNothing_9 : decode cX7_isNothing 9 = .ok (.goto 4, 3) := by decide +kernel
theorem dX7_isNothing_12 : decode cX7_isNothing 12 = .ok (.iconst 0, 1) := by decide +kernel
theorem dX7_isNothing_13 : decode cX7_isNothing 13 = .ok (.ireturn, 1) := by decide +kernel
theorem dX7_empty_0 : decode cX7_empty 0 = .ok (.aload_n 0, 1) := by decide +kernel
theorem dX7_empty_1 : decode cX7_empty 1 = .ok (.iconst (-1), 1) := by decide +kernel
theorem dX7_empty_2 : decode cX7_empty 2 = .ok (.putfield 15, 3) := by decide +kernel
theorem dX7_empty_5 : decode cX7_empty 5 = .ok (.aload_n 0, 1) := by decide +kernel
theorem dX7_empty_6 : decode cX7_empty 6 = .ok (.iconst 0, 1) := by decide +kernel
theorem dX7_empty_7 : decode cX7_empty 7 = .ok (.putfield 19, 3) := by decide +kernel
theorem dX7_empty_10 : decode cX7_empty 10 = .ok (.return_, 1) := by decide +kernel
theorem dX7_renew_0 : decode cX7_renew 0 = .ok (.aload_n 0, 1) := by decide +kernel
theorem dX7_renew_1 : decode cX7_renew 1 = .ok (.iload_n 1, 1) := by decide +kernel
theorem dX7_renew_2 : decode cX7_renew 2 = .ok (.putfield 15, 3) := by decide +kernel
theorem dX7_renew_5 : decode cX7_renew 5 = .ok (.aload_n 0, 1) := by decide +kernel
theorem dX7_renew_6 : decode cX7_renew 6 = .ok (.iconst 0, 1) := by decide +kernel
theorem dX7_renew_7 : decode cX7_renew 7 = .ok (.iload_n 2, 1) := by decide +kernel
theorem dX7_renew_8 : decode cX7_renew 8 = .ok (.bipush 60, 2) := by decide +kernel
theorem dX7_renew_10 : decode cX7_renew 10 = .ok (.invokestatic 22, 3) := by decide +kernel
theorem dX7_renew_13 : decode cX7_renew 13 = .ok (.invokestatic 28, 3) := by decide +kernel
theorem dX7_renew_16 : decode cX7_renew 16 = .ok (.putfield 19, 3) := by decide +kernel
theorem dX7_renew_19 : decode cX7_renew 19 = .ok (.iconst 0, 1) := by decide +kernel
theorem dX7_renew_20 : decode cX7_renew 20 = .ok (.istore_n 3, 1) := by decide +kernel
theorem dX7_renew_21 : decode cX7_renew 21 = .ok (.iload_n 3, 1) := by decide +kernel
theorem dX7_renew_22 : decode cX7_renew 22 = .ok (.bipush 60, 2) := by decide +kernel
theorem dX7_renew_24 : decode cX7_renew 24 = .ok (.if_icmp .ge 16, 3) := by decide +kernel
theorem dX7_renew_27 : decode cX7_renew 27 = .ok (.aload_n 0, 1) := by decide +kernel
theorem dX7_renew_28 : decode cX7_renew 28 = .ok (.getfield 9, 3) := by decide +kernel
theorem dX7_renew_31 : decode cX7_renew 31 = .ok (.iload_n 3, 1) := by decide +kernel
theorem dX7_renew_32 : decode cX7_renew 32 = .ok (.iconst 0, 1) := by decide +kernel
theorem dX7_renew_33 : decode cX7_renew 33 = .ok (.iastore, 1) := by decide +kernel
theorem dX7_renew_34 : decode cX7_renew 34 = .ok (.iinc 3 1, 3) := by decide +kernel
theorem dX7_renew_37 : decode cX7_renew 37 = .ok (.goto (-16), 3) := by decide +kernel
theorem dX7_renew_40 : decode cX7_renew 40 = .ok (.return_, 1) := by decide +kernel
theorem dX7_isOfLaneOf_0 : decode cX7_isOfLaneOf 0 = .ok (.aload_n 0, 1) := by decide +kernel
theorem dX7_isOfLaneOf_1 : decode cX7_isOfLaneOf 1 = .ok (.getfield 15, 3) := by decide +kernel
theorem dX7_isOfLaneOf_4 : decode cX7_isOfLaneOf 4 = .ok (.aload_n 1, 1) := by decide +kernel
theorem dX7_isOfLaneOf_5 : decode cX7_isOfLaneOf 5 = .ok (.getfield 15, 3) := by decide +kernel
theorem dX7_isOfLaneOf_8 : decode cX7_isOfLaneOf 8 = .ok (.if_icmp .ne 7, 3) := by decide +kernel
theorem dX7_isOfLaneOf_11 : decode cX7_isOfLaneOf 11 = .ok (.iconst 1, 1) := by decide +kernel
theorem dX7_isOfLaneOf_12 : decode cX7_isOfLaneOf 12 = .ok (.goto 4, 3) := by decide +kernel
theorem dX7_isOfLaneOf_15 : decode cX7_isOfLaneOf 15 = .ok (.iconst 0, 1) := by decide +kernel
theorem dX7_isOfLaneOf_16 : decode cX7_isOfLaneOf 16 = .ok (.ireturn, 1) := by decide +kernel
theorem dX7_hasCell_0 : decode cX7_hasCell 0 = .ok (.iload_n 1, 1) := by decide +kernel
theorem dX7_hasCell_1 : decode cX7_hasCell 1 = .ok (.aload_n 0, 1) := by decide +kernel
theorem dX7_hasCell_2 : decode cX7_hasCell 2 = .ok (.getfield 19, 3) := by decide +kernel
theorem dX7_hasCell_5 : decode cX7_hasCell 5 = .ok (.invokestatic 31, 3) := by decide +kernel
theorem dX7_hasCell_8 : decode cX7_hasCell 8 = .ok (.ireturn, 1) := by decide +kernel
theorem dX7_hasCells_0 : decode cX7_hasCells 0 = .ok (.iload_n 2, 1) := by decide +kernel
theorem dX7_hasCells_1 : decode cX7_hasCells 1 = .ok (.ifCond .lt 29, 3) := by decide +kernel
theorem dX7_hasCells_4 : decode cX7_hasCells 4 = .ok (.iload_n 2, 1) := by decide +kernel
theorem dX7_hasCells_5 : decode cX7_hasCells 5 = .ok (.aload_n 0, 1) := by decide +kernel
theorem dX7_hasCells_6 : decode cX7_hasCells 6 = .ok (.getfield 19, 3) := by decide +kernel
theorem dX7_hasCells_9 : decode cX7_hasCells 9 = .ok (.if_icmp .gt 21, 3) := by decide +kernel
theorem dX7_hasCells_12 : decode cX7_hasCells 12 = .ok (.iload_n 1, 1) := by decide +kernel
theorem dX7_hasCells_13 : decode cX7_hasCells 13 = .ok (.ifCond .lt 17, 3) := by decide +kernel
theorem dX7_hasCells_16 : decode cX7_hasCells 16 = .ok (.iload_n 1, 1) := by decide +kernel
theorem dX7_hasCells_17 : decode cX7_hasCells 17 = .ok (.aload_n 0, 1) := by decide +kernel
theorem dX7_hasCells_18 : decode cX7_hasCells 18 = .ok (.getfield 19, 3) := by decide +kernel
theorem dX7_hasCells_21 : decode cX7_hasCells 21 = .ok (.iload_n 2, 1) := by decide +kernel
theorem dX7_hasCells_22 : decode cX7_hasCells 22 = .ok (.isub, 1) := by decide +kernel
theorem dX7_hasCells_23 : decode cX7_hasCells 23 = .ok (.if_icmp .gt 7, 3) := by decide +kernel
theorem dX7_hasCells_26 : decode cX7_hasCells 26 = .ok (.iconst 1, 1) := by decide +kernel
theorem dX7_hasCells_27 : decode cX7_hasCells 27 = .ok (.goto 4, 3) := by decide +kernel
theorem dX7_hasCells_30 : decode cX7_hasCells 30 = .ok (.iconst 0, 1) := by decide +kernel
theorem dX7_hasCells_31 : decode cX7_hasCells 31 = .ok (.ireturn, 1) := by decide +kernel
theorem dX7_faultOfLane_0 : decode cX7_faultOfLane 0 = .ok (.aload_n 0, 1) := by decide +kernel
theorem dX7_faultOfLane_1 : decode cX7_faultOfLane 1 = .ok (.invokevirtual 35, 3) := by decide +kernel
theorem dX7_faultOfLane_4 : decode cX7_faultOfLane 4 = .ok (.ifCond .eq 5, 3) := by decide +kernel
theorem dX7_faultOfLane_7 : decode cX7_faultOfLane 7 = .ok (.iconst 1, 1) := by decide +kernel
theorem dX7_faultOfLane_8 : decode cX7_faultOfLane 8 = .ok (.ireturn, 1) := by decide +kernel
theorem dX7_faultOfLane_9 : decode cX7_faultOfLane 9 = .ok (.aload_n 0, 1) := by decide +kernel
theorem dX7_faultOfLane_10 : decode cX7_faultOfLane 10 = .ok (.getfield 15, 3) := by decide +kernel
theorem dX7_faultOfLane_13 : decode cX7_faultOfLane 13 = .ok (.iload_n 1, 1) := by decide +kernel
theorem dX7_faultOfLane_14 : decode cX7_faultOfLane 14 = .ok (.if_icmp .ne 7, 3) := by decide +kernel
theorem dX7_faultOfLane_17 : decode cX7_faultOfLane 17 = .ok (.iconst 0, 1) := by decide +kernel
theorem dX7_faultOfLane_18 : decode cX7_faultOfLane 18 = .ok (.goto 4, 3) := by decide +kernel
theorem dX7_faultOfLane_21 : decode cX7_faultOfLane 21 = .ok (.iconst 2, 1) := by decide +kernel
theorem dX7_faultOfLane_22 : decode cX7_faultOfLane 22 = .ok (.ireturn, 1) := by decide +kernel
theorem dX7_faultOfCells_0 : decode cX7_faultOfCells 0 = .ok (.aload_n 0, 1) := by decide +kernel
theorem dX7_faultOfCells_1 : decode cX7_faultOfCells 1 = .ok (.iload_n 1, 1) := by decide +kernel
theorem dX7_faultOfCells_2 : decode cX7_faultOfCells 2 = .ok (.invokevirtual 39, 3) := by decide +kernel
theorem dX7_faultOfCells_5 : decode cX7_faultOfCells 5 = .ok (.istore 4, 2) := by decide +kernel
theorem dX7_faultOfCells_7 : decode cX7_faultOfCells 7 = .ok (.iload 4, 2) := by decide +kernel
theorem dX7_faultOfCells_9 : decode cX7_faultOfCells 9 = .ok (.ifCond .eq 6, 3) := by decide +kernel
theorem dX7_faultOfCells_12 : decode cX7_faultOfCells 12 = .ok (.iload 4, 2) := by decide +kernel
theorem dX7_faultOfCells_14 : decode cX7_faultOfCells 14 = .ok (.ireturn, 1) := by decide +kernel
theorem dX7_faultOfCells_15 : decode cX7_faultOfCells 15 = .ok (.iload_n 3, 1) := by decide +kernel
theorem dX7_faultOfCells_16 : decode cX7_faultOfCells 16 = .ok (.ifCond .ge 5, 3) := by decide +kernel
theorem dX7_faultOfCells_19 : decode cX7_faultOfCells 19 = .ok (.iconst 4, 1) := by decide +kernel
theorem dX7_faultOfCells_20 : decode cX7_faultOfCells 20 = .ok (.ireturn, 1) := by decide +kernel
theorem dX7_faultOfCells_21 : decode cX7_faultOfCells 21 = .ok (.aload_n 0, 1) := by decide +kernel
theorem dX7_faultOfCells_22 : decode cX7_faultOfCells 22 = .ok (.iload_n 2, 1) := by decide +kernel
theorem dX7_faultOfCells_23 : decode cX7_faultOfCells 23 = .ok (.iload_n 3, 1) := by decide +kernel
theorem dX7_faultOfCells_24 : decode cX7_faultOfCells 24 = .ok (.invokevirtual 43, 3) := by decide +kernel
theorem dX7_faultOfCells_27 : decode cX7_faultOfCells 27 = .ok (.ifCond .eq 7, 3) := by decide +kernel
theorem dX7_faultOfCells_30 : decode cX7_faultOfCells 30 = .ok (.iconst 0, 1) := by decide +kernel
theorem dX7_faultOfCells_31 : decode cX7_faultOfCells 31 = .ok (.goto 4, 3) := by decide +kernel
theorem dX7_faultOfCells_34 : decode cX7_faultOfCells 34 = .ok (.iconst 3, 1) := by decide +kernel
theorem dX7_faultOfCells_35 : decode cX7_faultOfCells 35 = .ok (.ireturn, 1) := by decide +kernel
theorem dX7_faultOfCell_0 : decode cX7_faultOfCell 0 = .ok (.aload_n 0, 1) := by decide +kernel
theorem dX7_faultOfCell_1 : decode cX7_faultOfCell 1 = .ok (.iload_n 1, 1) := by decide +kernel
theorem dX7_faultOfCell_2 : decode cX7_faultOfCell 2 = .ok (.invokevirtual 39, 3) := by decide +kernel
theorem dX7_faultOfCell_5 : decode cX7_faultOfCell 5 = .ok (.istore_n 3, 1) := by decide +kernel
theorem dX7_faultOfCell_6 : decode cX7_faultOfCell 6 = .ok (.iload_n 3, 1) := by decide +kernel
theorem dX7_faultOfCell_7 : decode cX7_faultOfCell 7 = .ok (.ifCond .eq 5, 3) := by decide +kernel
theorem dX7_faultOfCell_10 : decode cX7_faultOfCell 10 = .ok (.iload_n 3, 1) := by decide +kernel
theorem dX7_faultOfCell_11 : decode cX7_faultOfCell 11 = .ok (.ireturn, 1) := by decide +kernel
theorem dX7_faultOfCell_12 : decode cX7_faultOfCell 12 = .ok (.aload_n 0, 1) := by decide +kernel
theorem dX7_faultOfCell_13 : decode cX7_faultOfCell 13 = .ok (.iload_n 2, 1) := by decide +kernel
theorem dX7_faultOfCell_14 : decode cX7_faultOfCell 14 = .ok (.invokevirtual 46, 3) := by decide +kernel
theorem dX7_faultOfCell_17 : decode cX7_faultOfCell 17 = .ok (.ifCond .eq 7, 3) := by decide +kernel
theorem dX7_faultOfCell_20 : decode cX7_faultOfCell 20 = .ok (.iconst 0, 1) := by decide +kernel
theorem dX7_faultOfCell_21 : decode cX7_faultOfCell 21 = .ok (.goto 4, 3) := by decide +kernel
theorem dX7_faultOfCell_24 : decode cX7_faultOfCell 24 = .ok (.iconst 3, 1) := by decide +kernel
theorem dX7_faultOfCell_25 : decode cX7_faultOfCell 25 = .ok (.ireturn, 1) := by decide +kernel
theorem dX7_at_0 : decode cX7_at 0 = .ok (.aload_n 0, 1) := by decide +kernel
theorem dX7_at_1 : decode cX7_at 1 = .ok (.iload_n 1, 1) := by decide +kernel
theorem dX7_at_2 : decode cX7_at 2 = .ok (.invokevirtual 46, 3) := by decide +kernel
theorem dX7_at_5 : decode cX7_at 5 = .ok (.ifCond .eq 21, 3) := by decide +kernel
theorem dX7_at_8 : decode cX7_at 8 = .ok (.iload_n 1, 1) := by decide +kernel
theorem dX7_at_9 : decode cX7_at 9 = .ok (.bipush 60, 2) := by decide +kernel
theorem dX7_at_11 : decode cX7_at 11 = .ok (.invokestatic 31, 3) := by decide +kernel
theorem dX7_at_14 : decode cX7_at 14 = .ok (.ifCond .eq 12, 3) := by decide +kernel
theorem dX7_at_17 : decode cX7_at 17 = .ok (.aload_n 0, 1) := by decide +kernel
theorem dX7_at_18 : decode cX7_at 18 = .ok (.getfield 9, 3) := by decide +kernel
theorem dX7_at_21 : decode cX7_at 21 = .ok (.iload_n 1, 1) := by decide +kernel
theorem dX7_at_22 : decode cX7_at 22 = .ok (.iaload, 1) := by decide +kernel
theorem dX7_at_23 : decode cX7_at 23 = .ok (.goto 4, 3) := by decide +kernel
theorem dX7_at_26 : decode cX7_at 26 = .ok (.iconst 0, 1) := by decide +kernel
theorem dX7_at_27 : decode cX7_at 27 = .ok (.ireturn, 1) := by decide +kernel
theorem dX7_change_0 : decode cX7_change 0 = .ok (.aload_n 0, 1) := by decide +kernel
theorem dX7_change_1 : decode cX7_change 1 = .ok (.iload_n 1, 1) := by decide +kernel
theorem dX7_change_2 : decode cX7_change 2 = .ok (.invokevirtual 46, 3) := by decide +kernel
theorem dX7_change_5 : decode cX7_change 5 = .ok (.ifCond .eq 23, 3) := by decide +kernel
theorem dX7_change_8 : decode cX7_change 8 = .ok (.iload_n 1, 1) := by decide +kernel
theorem dX7_change_9 : decode cX7_change 9 = .ok (.bipush 60, 2) := by decide +kernel
theorem dX7_change_11 : decode cX7_change 11 = .ok (.invokestatic 31, 3) := by decide +kernel
theorem dX7_change_14 : decode cX7_change 14 = .ok (.ifCond .eq 14, 3) := by decide +kernel
theorem dX7_change_17 : decode cX7_change 17 = .ok (.aload_n 0, 1) := by decide +kernel
theorem dX7_change_18 : decode cX7_change 18 = .ok (.getfield 9, 3) := by decide +kernel
theorem dX7_change_21 : decode cX7_change 21 = .ok (.iload_n 1, 1) := by decide +kernel
theorem dX7_change_22 : decode cX7_change 22 = .ok (.aload_n 0, 1) := by decide +kernel
theorem dX7_change_23 : decode cX7_change 23 = .ok (.iload_n 2, 1) := by decide +kernel
theorem dX7_change_24 : decode cX7_change 24 = .ok (.invokevirtual 50, 3) := by decide +kernel
theorem dX7_change_27 : decode cX7_change 27 = .ok (.iastore, 1) := by decide +kernel
theorem dX7_change_28 : decode cX7_change 28 = .ok (.return_, 1) := by decide +kernel
theorem dX7_cutToLane_0 : decode cX7_cutToLane 0 = .ok (.aload_n 0, 1) := by decide +kernel
theorem dX7_cutToLane_1 : decode cX7_cutToLane 1 = .ok (.getfield 15, 3) := by decide +kernel
theorem dX7_cutToLane_4 : decode cX7_cutToLane 4 = .ok (.lookupswitch 34 #[(0, 28), (1, 31)], 28) := by decide +kernel
theorem dX7_cutToLane_32 : decode cX7_cutToLane 32 = .ok (.iload_n 1, 1) := by decide +kernel
theorem dX7_cutToLane_33 : decode cX7_cutToLane 33 = .ok (.i2b, 1) := by decide +kernel
theorem dX7_cutToLane_34 : decode cX7_cutToLane 34 = .ok (.ireturn, 1) := by decide +kernel
theorem dX7_cutToLane_35 : decode cX7_cutToLane 35 = .ok (.iload_n 1, 1) := by decide +kernel
theorem dX7_cutToLane_36 : decode cX7_cutToLane 36 = .ok (.i2s, 1) := by decide +kernel
theorem dX7_cutToLane_37 : decode cX7_cutToLane 37 = .ok (.ireturn, 1) := by decide +kernel
theorem dX7_cutToLane_38 : decode cX7_cutToLane 38 = .ok (.iload_n 1, 1) := by decide +kernel
theorem dX7_cutToLane_39 : decode cX7_cutToLane 39 = .ok (.ireturn, 1) := by decide +kernel
theorem dX7_take_0 : decode cX7_take 0 = .ok (.aload_n 0, 1) := by decide +kernel
theorem dX7_take_1 : decode cX7_take 1 = .ok (.iload_n 1, 1) := by decide +kernel
theorem dX7_take_2 : decode cX7_take 2 = .ok (.iload 4, 2) := by decide +kernel
theorem dX7_take_4 : decode cX7_take 4 = .ok (.invokevirtual 43, 3) := by decide +kernel
theorem dX7_take_7 : decode cX7_take 7 = .ok (.ifCond .eq 28, 3) := by decide +kernel
theorem dX7_take_10 : decode cX7_take 10 = .ok (.aload_n 2, 1) := by decide +kernel
theorem dX7_take_11 : decode cX7_take 11 = .ok (.iload_n 3, 1) := by decide +kernel
theorem dX7_take_12 : decode cX7_take 12 = .ok (.iload 4, 2) := by decide +kernel
theorem dX7_take_14 : decode cX7_take 14 = .ok (.invokevirtual 43, 3) := by decide +kernel
theorem dX7_take_17 : decode cX7_take 17 = .ok (.ifCond .eq 18, 3) := by decide +kernel
theorem dX7_take_20 : decode cX7_take 20 = .ok (.aload_n 2, 1) := by decide +kernel
theorem dX7_take_21 : decode cX7_take 21 = .ok (.getfield 9, 3) := by decide +kernel
theorem dX7_take_24 : decode cX7_take 24 = .ok (.iload_n 3, 1) := by decide +kernel
theorem dX7_take_25 : decode cX7_take 25 = .ok (.aload_n 0, 1) := by decide +kernel
theorem dX7_take_26 : decode cX7_take 26 = .ok (.getfield 9, 3) := by decide +kernel
theorem dX7_take_29 : decode cX7_take 29 = .ok (.iload_n 1, 1) := by decide +kernel
theorem dX7_take_30 : decode cX7_take 30 = .ok (.iload 4, 2) := by decide +kernel
theorem dX7_take_32 : decode cX7_take 32 = .ok (.invokestatic 53, 3) := by decide +kernel
theorem dX7_take_35 : decode cX7_take 35 = .ok (.return_, 1) := by decide +kernel
theorem dX7_hasOnlyGroups_0 : decode cX7_hasOnlyGroups 0 = .ok (.iconst 0, 1) := by decide +kernel
theorem dX7_hasOnlyGroups_1 : decode cX7_hasOnlyGroups 1 = .ok (.istore_n 3, 1) := by decide +kernel
theorem dX7_hasOnlyGroups_2 : decode cX7_hasOnlyGroups 2 = .ok (.iload_n 3, 1) := by decide +kernel
theorem dX7_hasOnlyGroups_3 : decode cX7_hasOnlyGroups 3 = .ok (.iload_n 2, 1) := by decide +kernel
theorem dX7_hasOnlyGroups_4 : decode cX7_hasOnlyGroups 4 = .ok (.if_icmp .ge 26, 3) := by decide +kernel
theorem dX7_hasOnlyGroups_7 : decode cX7_hasOnlyGroups 7 = .ok (.aload_n 0, 1) := by decide +kernel
theorem dX7_hasOnlyGroups_8 : decode cX7_hasOnlyGroups 8 = .ok (.iload_n 1, 1) := by decide +kernel
theorem dX7_hasOnlyGroups_9 : decode cX7_hasOnlyGroups 9 = .ok (.iload_n 3, 1) := by decide +kernel
theorem dX7_hasOnlyGroups_10 : decode cX7_hasOnlyGroups 10 = .ok (.iadd, 1) := by decide +kernel
theorem dX7_hasOnlyGroups_11 : decode cX7_hasOnlyGroups 11 = .ok (.invokevirtual 59, 3) := by decide +kernel
theorem dX7_hasOnlyGroups_14 : decode cX7_hasOnlyGroups 14 = .ok (.bipush 100, 2) := by decide +kernel
theorem dX7_hasOnlyGroups_16 : decode cX7_hasOnlyGroups 16 = .ok (.invokestatic 31, 3) := by decide +kernel
theorem dX7_hasOnlyGroups_19 : decode cX7_hasOnlyGroups 19 = .ok (.ifCond .ne 5, 3) := by decide +kernel
theorem dX7_hasOnlyGroups_22 : decode cX7_hasOnlyGroups 22 = .ok (.iconst 0, 1) := by decide +kernel
theorem dX7_hasOnlyGroups_23 : decode cX7_hasOnlyGroups 23 = .ok (.ireturn, 1) := by decide +kernel
theorem dX7_hasOnlyGroups_24 : decode cX7_hasOnlyGroups 24 = .ok (.iinc 3 1, 3) := by decide +kernel
theorem dX7_hasOnlyGroups_27 : decode cX7_hasOnlyGroups 27 = .ok (.goto (-25), 3) := by decide +kernel
theorem dX7_hasOnlyGroups_30 : decode cX7_hasOnlyGroups 30 = .ok (.iconst 1, 1) := by decide +kernel
theorem dX7_hasOnlyGroups_31 : decode cX7_hasOnlyGroups 31 = .ok (.ireturn, 1) := by decide +kernel
theorem dX7_groups_0 : decode cX7_groups 0 = .ok (.iconst 0, 1) := by decide +kernel
theorem dX7_groups_1 : decode cX7_groups 1 = .ok (.iload_n 2, 1) := by decide +kernel
theorem dX7_groups_2 : decode cX7_groups 2 = .ok (.bipush 60, 2) := by decide +kernel
theorem dX7_groups_4 : decode cX7_groups 4 = .ok (.invokestatic 22, 3) := by decide +kernel
theorem dX7_groups_7 : decode cX7_groups 7 = .ok (.invokestatic 28, 3) := by decide +kernel
theorem dX7_groups_10 : decode cX7_groups 10 = .ok (.newarray .int, 2) := by decide +kernel
theorem dX7_groups_12 : decode cX7_groups 12 = .ok (.astore_n 3, 1) := by decide +kernel
theorem dX7_groups_13 : decode cX7_groups 13 = .ok (.iconst 0, 1) := by decide +kernel
theorem dX7_groups_14 : decode cX7_groups 14 = .ok (.istore 4, 2) := by decide +kernel
theorem dX7_groups_16 : decode cX7_groups 16 = .ok (.iload 4, 2) := by decide +kernel
theorem dX7_groups_18 : decode cX7_groups 18 = .ok (.aload_n 3, 1) := by decide +kernel
theorem dX7_groups_19 : decode cX7_groups 19 = .ok (.arraylength, 1) := by decide +kernel
theorem dX7_groups_20 : decode cX7_groups 20 = .ok (.if_icmp .ge 21, 3) := by decide +kernel
theorem dX7_groups_23 : decode cX7_groups 23 = .ok (.aload_n 3, 1) := by decide +kernel
theorem dX7_groups_24 : decode cX7_groups 24 = .ok (.iload 4, 2) := by decide +kernel
theorem dX7_groups_26 : decode cX7_groups 26 = .ok (.aload_n 0, 1) := by decide +kernel
theorem dX7_groups_27 : decode cX7_groups 27 = .ok (.iload_n 1, 1) := by decide +kernel
theorem dX7_groups_28 : decode cX7_groups 28 = .ok (.iload 4, 2) := by decide +kernel
theorem dX7_groups_30 : decode cX7_groups 30 = .ok (.iadd, 1) := by decide +kernel
theorem dX7_groups_31 : decode cX7_groups 31 = .ok (.invokevirtual 59, 3) := by decide +kernel
theorem dX7_groups_34 : decode cX7_groups 34 = .ok (.iastore, 1) := by decide +kernel
theorem dX7_groups_35 : decode cX7_groups 35 = .ok (.iinc 4 1, 3) := by decide +kernel
theorem dX7_groups_38 : decode cX7_groups 38 = .ok (.goto (-22), 3) := by decide +kernel
theorem dX7_groups_41 : decode cX7_groups 41 = .ok (.aload_n 3, 1) := by decide +kernel
theorem dX7_groups_42 : decode cX7_groups 42 = .ok (.areturn, 1) := by decide +kernel
theorem dX8_init_0 : decode cX8_init 0 = .ok (.aload_n 0, 1) := by decide +kernel
theorem dX8_init_1 : decode cX8_init 1 = .ok (.iload_n 1, 1) := by decide +kernel
theorem dX8_init_2 : decode cX8_init 2 = .ok (.iload_n 2, 1) := by decide +kernel
theorem dX8_init_3 : decode cX8_init 3 = .ok (.aload_n 3, 1) := by decide +kernel
theorem dX8_init_4 : decode cX8_init 4 = .ok (.invokespecial 1, 3) := by decide +kernel
theorem dX8_init_7 : decode cX8_init 7 = .ok (.return_, 1) := by decide +kernel
theorem dX8_kind_0 : decode cX8_kind 0 = .ok (.iconst 1, 1) := by decide +kernel
theorem dX8_kind_1 : decode cX8_kind 1 = .ok (.ireturn, 1) := by decide +kernel
theorem dX8_usable_0 : decode cX8_usable 0 = .ok (.iconst 0, 1) := by decide +kernel
theorem dX8_usable_1 : decode cX8_usable 1 = .ok (.aload_n 0, 1) := by decide +kernel
theorem dX8_usable_2 : decode cX8_usable 2 = .ok (.invokevirtual 7, 3) := by decide +kernel
theorem dX8_usable_5 : decode cX8_usable 5 = .ok (.iconst 1, 1) := by decide +kernel
theorem dX8_usable_6 : decode cX8_usable 6 = .ok (.isub, 1) := by decide +kernel
theorem dX8_usable_7 : decode cX8_usable 7 = .ok (.invokestatic 13, 3) := by decide +kernel
theorem dX8_usable_10 : decode cX8_usable 10 = .ok (.ireturn, 1) := by decide +kernel
theorem dX8_telling_0 : decode cX8_telling 0 = .ok (.aload_n 1, 1) := by decide +kernel
theorem dX8_telling_1 : decode cX8_telling 1 = .ok (.iconst 2, 1) := by decide +kernel
theorem dX8_telling_2 : decode cX8_telling 2 = .ok (.invokevirtual 19, 3) := by decide +kernel
theorem dX8_telling_5 : decode cX8_telling 5 = .ok (.aload_n 0, 1) := by decide +kernel
theorem dX8_telling_6 : decode cX8_telling 6 = .ok (.aload_n 1, 1) := by decide +kernel
theorem dX8_telling_7 : decode cX8_telling 7 = .ok (.invokespecial 25, 3) := by decide +kernel
theorem dX8_telling_10 : decode cX8_telling 10 = .ok (.bipush 100, 2) := by decide +kernel
theorem dX8_telling_12 : decode cX8_telling 12 = .ok (.iadd, 1) := by decide +kernel
theorem dX8_telling_13 : decode cX8_telling 13 = .ok (.ireturn, 1) := by decide +kernel
theorem dX9_init_0 : decode cX9_init 0 = .ok (.aload_n 0, 1) := by decide +kernel
theorem dX9_init_1 : decode cX9_init 1 = .ok (.iload_n 1, 1) := by decide +kernel
theorem dX9_init_2 : decode cX9_init 2 = .ok (.iload_n 2, 1) := by decide +kernel
theorem dX9_init_3 : decode cX9_init 3 = .ok (.aload_n 3, 1) := by decide +kernel
theorem dX9_init_4 : decode cX9_init 4 = .ok (.invokespecial 1, 3) := by decide +kernel
theorem dX9_init_7 : decode cX9_init 7 = .ok (.return_, 1) := by decide +kernel
theorem dX9_kind_0 : decode cX9_kind 0 = .ok (.iconst 2, 1) := by decide +kernel
theorem dX9_kind_1 : decode cX9_kind 1 = .ok (.ireturn, 1) := by decide +kernel
theorem dX9_usable_0 : decode cX9_usable 0 = .ok (.iconst 0, 1) := by decide +kernel
theorem dX9_usable_1 : decode cX9_usable 1 = .ok (.aload_n 0, 1) := by decide +kernel
theorem dX9_usable_2 : decode cX9_usable 2 = .ok (.invokevirtual 7, 3) := by decide +kernel
theorem dX9_usable_5 : decode cX9_usable 5 = .ok (.iconst 2, 1) := by decide +kernel
theorem dX9_usable_6 : decode cX9_usable 6 = .ok (.isub, 1) := by decide +kernel
theorem dX9_usable_7 : decode cX9_usable 7 = .ok (.invokestatic 13, 3) := by decide +kernel
theorem dX9_usable_10 : decode cX9_usable 10 = .ok (.ireturn, 1) := by decide +kernel
theorem dX9_telling_0 : decode cX9_telling 0 = .ok (.aload_n 1, 1) := by decide +kernel
theorem dX9_telling_1 : decode cX9_telling 1 = .ok (.iconst 3, 1) := by decide +kernel
theorem dX9_telling_2 : decode cX9_telling 2 = .ok (.invokevirtual 19, 3) := by decide +kernel
theorem dX9_telling_5 : decode cX9_telling 5 = .ok (.aload_n 0, 1) := by decide +kernel
theorem dX9_telling_6 : decode cX9_telling 6 = .ok (.aload_n 1, 1) := by decide +kernel
theorem dX9_telling_7 : decode cX9_telling 7 = .ok (.invokespecial 25, 3) := by decide +kernel
theorem dX9_telling_10 : decode cX9_telling 10 = .ok (.istore_n 2, 1) := by decide +kernel
theorem dX9_telling_11 : decode cX9_telling 11 = .ok (.iload_n 2, 1) := by decide +kernel
theorem dX9_telling_12 : decode cX9_telling 12 = .ok (.aload_n 0, 1) := by decide +kernel
theorem dX9_telling_13 : decode cX9_telling 13 = .ok (.aload_n 1, 1) := by decide +kernel
theorem dX9_telling_14 : decode cX9_telling 14 = .ok (.invokevirtual 29, 3) := by decide +kernel
theorem dX9_telling_17 : decode cX9_telling 17 = .ok (.iadd, 1) := by decide +kernel
theorem dX9_telling_18 : decode cX9_telling 18 = .ok (.ireturn, 1) := by decide +kernel
theorem dX9_marking_0 : decode cX9_marking 0 = .ok (.aload_n 1, 1) := by decide +kernel
theorem dX9_marking_1 : decode cX9_marking 1 = .ok (.iconst 5, 1) := by decide +kernel
theorem dX9_marking_2 : decode cX9_marking 2 = .ok (.invokevirtual 19, 3) := by decide +kernel
theorem dX9_marking_5 : decode cX9_marking 5 = .ok (.bipush 88, 2) := by decide +kernel
theorem dX9_marking_7 : decode cX9_marking 7 = .ok (.ireturn, 1) := by decide +kernel
theorem dX10_init_0 : decode cX10_init 0 = .ok (.aload_n 0, 1) := by decide +kernel
theorem dX10_init_1 : decode cX10_init 1 = .ok (.invokespecial 1, 3) := by decide +kernel
theorem dX10_init_4 : decode cX10_init 4 = .ok (.return_, 1) := by decide +kernel
theorem dX10_leave_0 : decode cX10_leave 0 = .ok (.aload_n 0, 1) := by decide +kernel
theorem dX10_leave_1 : decode cX10_leave 1 = .ok (.bipush 31, 2) := by decide +kernel
theorem dX10_leave_3 : decode cX10_leave 3 = .ok (.aload_n 0, 1) := by decide +kernel
theorem dX10_leave_4 : decode cX10_leave 4 = .ok (.getfield 7, 3) := by decide +kernel
theorem dX10_leave_7 : decode cX10_leave 7 = .ok (.imul, 1) := by decide +kernel
theorem dX10_leave_8 : decode cX10_leave 8 = .ok (.iload_n 1, 1) := by decide +kernel
theorem dX10_leave_9 : decode cX10_leave 9 = .ok (.iadd, 1) := by decide +kernel
theorem dX10_leave_10 : decode cX10_leave 10 = .ok (.putfield 7, 3) := by decide +kernel
theorem dX10_leave_13 : decode cX10_leave 13 = .ok (.return_, 1) := by decide +kernel
theorem dX11_init_0 : decode cX11_init 0 = .ok (.aload_n 0, 1) := by decide +kernel
theorem dX11_init_1 : decode cX11_init 1 = .ok (.invokespecial 3, 3) := by decide +kernel
theorem dX11_init_4 : decode cX11_init 4 = .ok (.aload_n 0, 1) := by decide +kernel
theorem dX11_init_5 : decode cX11_init 5 = .ok (.new 9, 3) := by decide +kernel
theorem dX11_init_8 : decode cX11_init 8 = .ok (.dup, 1) := by decide +kernel
theorem dX11_init_9 : decode cX11_init 9 = .ok (.invokespecial 11, 3) := by decide +kernel
theorem dX11_init_12 : decode cX11_init 12 = .ok (.putfield 12, 3) := by decide +kernel
theorem dX11_init_15 : decode cX11_init 15 = .ok (.aload_n 0, 1) := by decide +kernel
theorem dX11_init_16 : decode cX11_init 16 = .ok (.new 18, 3) := by decide +kernel
theorem dX11_init_19 : decode cX11_init 19 = .ok (.dup, 1) := by decide +kernel
theorem dX11_init_20 : decode cX11_init 20 = .ok (.invokespecial 20, 3) := by decide +kernel
theorem dX11_init_23 : decode cX11_init 23 = .ok (.putfield 21, 3) := by decide +kernel
theorem dX11_init_26 : decode cX11_init 26 = .ok (.aload_n 0, 1) := by decide +kernel
theorem dX11_init_27 : decode cX11_init 27 = .ok (.new 25, 3) := by decide +kernel
theorem dX11_init_30 : decode cX11_init 30 = .ok (.dup, 1) := by decide +kernel
theorem dX11_init_31 : decode cX11_init 31 = .ok (.invokespecial 27, 3) := by decide +kernel
theorem dX11_init_34 : decode cX11_init 34 = .ok (.putfield 28, 3) := by decide +kernel
theorem dX11_init_37 : decode cX11_init 37 = .ok (.aload_n 0, 1) := by decide +kernel
theorem dX11_init_38 : decode cX11_init 38 = .ok (.bipush 24, 2) := by decide +kernel
theorem dX11_init_40 : decode cX11_init 40 = .ok (.anewarray 32, 3) := by decide +kernel
theorem dX11_init_43 : decode cX11_init 43 = .ok (.putfield 34, 3) := by decide +kernel
theorem dX11_init_46 : decode cX11_init 46 = .ok (.aload_n 0, 1) := by decide +kernel
theorem dX11_init_47 : decode cX11_init 47 = .ok (.bipush 20, 2) := by decide +kernel
theorem dX11_init_49 : decode cX11_init 49 = .ok (.anewarray 38, 3) := by decide +kernel
theorem dX11_init_52 : decode cX11_init 52 = .ok (.putfield 40, 3) := by decide +kernel
theorem dX11_init_55 : decode cX11_init 55 = .ok (.aload_n 0, 1) := by decide +kernel
theorem dX11_init_56 : decode cX11_init 56 = .ok (.iconst 4, 1) := by decide +kernel
theorem dX11_init_57 : decode cX11_init 57 = .ok (.anewarray 44, 3) := by decide +kernel
theorem dX11_init_60 : decode cX11_init 60 = .ok (.putfield 46, 3) := by decide +kernel
theorem dX11_init_63 : decode cX11_init 63 = .ok (.aload_n 0, 1) := by decide +kernel
theorem dX11_init_64 : decode cX11_init 64 = .ok (.new 50, 3) := by decide +kernel
theorem dX11_init_67 : decode cX11_init 67 = .ok (.dup, 1) := by decide +kernel
theorem dX11_init_68 : decode cX11_init 68 = .ok (.invokespecial 52, 3) := by decide +kernel
theorem dX11_init_71 : decode cX11_init 71 = .ok (.putfield 53, 3) := by decide +kernel
theorem dX11_init_74 : decode cX11_init 74 = .ok (.iconst 0, 1) := by decide +kernel
theorem dX11_init_75 : decode cX11_init 75 = .ok (.istore_n 1, 1) := by decide +kernel
theorem dX11_init_76 : decode cX11_init 76 = .ok (.iload_n 1, 1) := by decide +kernel
theorem dX11_init_77 : decode cX11_init 77 = .ok (.iconst 4, 1) := by decide +kernel
theorem dX11_init_78 : decode cX11_init 78 = .ok (.if_icmp .ge 22, 3) := by decide +kernel
theorem dX11_init_81 : decode cX11_init 81 = .ok (.aload_n 0, 1) := by decide +kernel
theorem dX11_init_82 : decode cX11_init 82 = .ok (.getfield 46, 3) := by decide +kernel
theorem dX11_init_85 : decode cX11_init 85 = .ok (.iload_n 1, 1) := by decide +kernel
theorem dX11_init_86 : decode cX11_init 86 = .ok (.new 44, 3) := by decide +kernel
theorem dX11_init_89 : decode cX11_init 89 = .ok (.dup, 1) := by decide +kernel
theorem dX11_init_90 : decode cX11_init 90 = .ok (.invokespecial 57, 3) := by decide +kernel
theorem dX11_init_93 : decode cX11_init 93 = .ok (.aastore, 1) := by decide +kernel
theorem dX11_init_94 : decode cX11_init 94 = .ok (.iinc 1 1, 3) := by decide +kernel
theorem dX11_init_97 : decode cX11_init 97 = .ok (.goto (-21), 3) := by decide +kernel
theorem dX11_init_100 : decode cX11_init 100 = .ok (.return_, 1) := by decide +kernel
theorem dX11_code_0 : decode cX11_code 0 = .ok (.iload_n 1, 1) := by decide +kernel
theorem dX11_code_1 : decode cX11_code 1 = .ok (.bipush 30, 2) := by decide +kernel
theorem dX11_code_3 : decode cX11_code 3 = .ok (.invokestatic 58, 3) := by decide +kernel
theorem dX11_code_6 : decode cX11_code 6 = .ok (.ifCond .ne 5, 3) := by decide +kernel
theorem dX11_code_9 : decode cX11_code 9 = .ok (.iconst (-1), 1) := by decide +kernel
theorem dX11_code_10 : decode cX11_code 10 = .ok (.ireturn, 1) := by decide +kernel
theorem dX11_code_11 : decode cX11_code 11 = .ok (.iload_n 2, 1) := by decide +kernel
theorem dX11_code_12 : decode cX11_code 12 = .ok (.iconst (-1), 1) := by decide +kernel
theorem dX11_code_13 : decode cX11_code 13 = .ok (.if_icmp .eq 15, 3) := by decide +kernel
theorem dX11_code_16 : decode cX11_code 16 = .ok (.iload_n 2, 1) := by decide +kernel
theorem dX11_code_17 : decode cX11_code 17 = .ok (.bipush 100, 2) := by decide +kernel
theorem dX11_code_19 : decode cX11_code 19 = .ok (.invokestatic 58, 3) := by decide +kernel
theorem dX11_code_22 : decode cX11_code 22 = .ok (.ifCond .ne 6, 3) := by decide +kernel
theorem dX11_code_25 : decode cX11_code 25 = .ok (.bipush (-2), 2) := by decide +kernel
theorem dX11_code_27 : decode cX11_code 27 = .ok (.ireturn, 1) := by decide +kernel
theorem dX11_code_28 : decode cX11_code 28 = .ok (.aload_n 0, 1) := by decide +kernel
theorem dX11_code_29 : decode cX11_code 29 = .ok (.getfield 12, 3) := by decide +kernel
theorem dX11_code_32 : decode cX11_code 32 = .ok (.iload_n 2, 1) := by decide +kernel
theorem dX11_code_33 : decode cX11_code 33 = .ok (.invokevirtual 62, 3) := by decide +kernel
theorem dX11_code_36 : decode cX11_code 36 = .ok (.istore_n 3, 1) := by decide +kernel
theorem dX11_code_37 : decode cX11_code 37 = .ok (.iload_n 3, 1) := by decide +kernel
theorem dX11_code_38 : decode cX11_code 38 = .ok (.bipush (-9), 2) := by decide +kernel
theorem dX11_code_40 : decode cX11_code 40 = .ok (.if_icmp .eq 11, 3) := by decide +kernel
theorem dX11_code_43 : decode cX11_code 43 = .ok (.iload_n 3, 1) := by decide +kernel
theorem dX11_code_44 : decode cX11_code 44 = .ok (.iload_n 1, 1) := by decide +kernel
theorem dX11_code_45 : decode cX11_code 45 = .ok (.if_icmp .eq 6, 3) := by decide +kernel
theorem dX11_code_48 : decode cX11_code 48 = .ok (.bipush (-3), 2) := by decide +kernel
theorem dX11_code_50 : decode cX11_code 50 = .ok (.ireturn, 1) := by decide +kernel
theorem dX11_code_51 : decode cX11_code 51 = .ok (.aload_n 0, 1) := by decide +kernel
theorem dX11_code_52 : decode cX11_code 52 = .ok (.getfield 12, 3) := by decide +kernel
theorem dX11_code_55 : decode cX11_code 55 = .ok (.iload_n 1, 1) := by decide +kernel
theorem dX11_code_56 : decode cX11_code 56 = .ok (.invokevirtual 66, 3) := by decide +kernel
theorem dX11_code_59 : decode cX11_code 59 = .ok (.istore 4, 2) := by decide +kernel
theorem dX11_code_61 : decode cX11_code 61 = .ok (.aload_n 0, 1) := by decide +kernel
theorem dX11_code_62 : decode cX11_code 62 = .ok (.getfield 12, 3) := by decide +kernel
theorem dX11_code_65 : decode cX11_code 65 = .ok (.iload_n 1, 1) := by decide +kernel
theorem dX11_code_66 : decode cX11_code 66 = .ok (.iload_n 2, 1) := by decide +kernel
theorem dX11_code_67 : decode cX11_code 67 = .ok (.invokevirtual 69, 3) := by decide +kernel
theorem dX11_code_70 : decode cX11_code 70 = .ok (.iload 4, 2) := by decide +kernel
theorem dX11_code_72 : decode cX11_code 72 = .ok (.ireturn, 1) := by decide +kernel
theorem dX11_weight_0 : decode cX11_weight 0 = .ok (.iload_n 1, 1) := by decide +kernel
theorem dX11_weight_1 : decode cX11_weight 1 = .ok (.bipush 30, 2) := by decide +kernel
theorem dX11_weight_3 : decode cX11_weight 3 = .ok (.invokestatic 58, 3) := by decide +kernel
theorem dX11_weight_6 : decode cX11_weight 6 = .ok (.ifCond .ne 5, 3) := by decide +kernel
theorem dX11_weight_9 : decode cX11_weight 9 = .ok (.iconst (-1), 1) := by decide +kernel
theorem dX11_weight_10 : decode cX11_weight 10 = .ok (.ireturn, 1) := by decide +kernel
theorem dX11_weight_11 : decode cX11_weight 11 = .ok (.iload_n 2, 1) := by decide +kernel
theorem dX11_weight_12 : decode cX11_weight 12 = .ok (.ifCond .lt 9, 3) := by decide +kernel
theorem dX11_weight_15 : decode cX11_weight 15 = .ok (.iload_n 2, 1) := by decide +kernel
theorem dX11_weight_16 : decode cX11_weight 16 = .ok (.bipush 99, 2) := by decide +kernel
theorem dX11_weight_18 : decode cX11_weight 18 = .ok (.if_icmp .le 6, 3) := by decide +kernel
theorem dX11_weight_21 : decode cX11_weight 21 = .ok (.bipush (-2), 2) := by decide +kernel
theorem dX11_weight_23 : decode cX11_weight 23 = .ok (.ireturn, 1) := by decide +kernel
theorem dX11_weight_24 : decode cX11_weight 24 = .ok (.aload_n 0, 1) := by decide +kernel
theorem dX11_weight_25 : decode cX11_weight 25 = .ok (.getfield 12, 3) := by decide +kernel
theorem dX11_weight_28 : decode cX11_weight 28 = .ok (.iload_n 1, 1) := by decide +kernel
theorem dX11_weight_29 : decode cX11_weight 29 = .ok (.invokevirtual 73, 3) := by decide +kernel
theorem dX11_weight_32 : decode cX11_weight 32 = .ok (.istore_n 3, 1) := by decide +kernel
theorem dX11_weight_33 : decode cX11_weight 33 = .ok (.aload_n 0, 1) := by decide +kernel
theorem dX11_weight_34 : decode cX11_weight 34 = .ok (.getfield 12, 3) := by decide +kernel
theorem dX11_weight_37 : decode cX11_weight 37 = .ok (.iload_n 1, 1) := by decide +kernel
theorem dX11_weight_38 : decode cX11_weight 38 = .ok (.iload_n 2, 1) := by decide +kernel
theorem dX11_weight_39 : decode cX11_weight 39 = .ok (.invokevirtual 76, 3) := by decide +kernel
theorem dX11_weight_42 : decode cX11_weight 42 = .ok (.iload_n 3, 1) := by decide +kernel
theorem dX11_weight_43 : decode cX11_weight 43 = .ok (.ireturn, 1) := by decide +kernel
theorem dX11_drill_0 : decode cX11_drill 0 = .ok (.aload_n 0, 1) := by decide +kernel
