theorem dX12_bag_59 : decode cX12_bag 59 = .ok (.getfield 213, 3) := by decide +kernel
theorem dX12_bag_62 : decode cX12_bag 62 = .ok (.iload_n 2, 1) := by decide +kernel
theorem dX12_bag_63 : decode cX12_bag 63 = .ok (.iastore, 1) := by decide +kernel
theorem dX12_bag_64 : decode cX12_bag 64 = .ok (.aload_n 0, 1) := by decide +kernel
theorem dX12_bag_65 : decode cX12_bag 65 = .ok (.getfield 61, 3) := by decide +kernel
theorem dX12_bag_68 : decode cX12_bag 68 = .ok (.aload_n 0, 1) := by decide +kernel
theorem dX12_bag_69 : decode cX12_bag 69 = .ok (.getfield 213, 3) := by decide +kernel
theorem dX12_bag_72 : decode cX12_bag 72 = .ok (.iload_n 3, 1) := by decide +kernel
theorem dX12_bag_73 : decode cX12_bag 73 = .ok (.iastore, 1) := by decide +kernel
theorem dX12_bag_74 : decode cX12_bag 74 = .ok (.aload_n 0, 1) := by decide +kernel
theorem dX12_bag_75 : decode cX12_bag 75 = .ok (.dup, 1) := by decide +kernel
theorem dX12_bag_76 : decode cX12_bag 76 = .ok (.getfield 213, 3) := by decide +kernel
theorem dX12_bag_79 : decode cX12_bag 79 = .ok (.iconst 1, 1) := by decide +kernel
theorem dX12_bag_80 : decode cX12_bag 80 = .ok (.iadd, 1) := by decide +kernel
theorem dX12_bag_81 : decode cX12_bag 81 = .ok (.putfield 213, 3) := by decide +kernel
theorem dX12_bag_84 : decode cX12_bag 84 = .ok (.aload_n 0, 1) := by decide +kernel
theorem dX12_bag_85 : decode cX12_bag 85 = .ok (.getfield 213, 3) := by decide +kernel
theorem dX12_bag_88 : decode cX12_bag 88 = .ok (.ireturn, 1) := by decide +kernel
theorem dX12_comesOn_0 : decode cX12_comesOn 0 = .ok (.iconst 0, 1) := by decide +kernel
theorem dX12_comesOn_1 : decode cX12_comesOn 1 = .ok (.istore_n 3, 1) := by decide +kernel
theorem dX12_comesOn_2 : decode cX12_comesOn 2 = .ok (.iconst 0, 1) := by decide +kernel
theorem dX12_comesOn_3 : decode cX12_comesOn 3 = .ok (.istore 4, 2) := by decide +kernel
theorem dX12_comesOn_5 : decode cX12_comesOn 5 = .ok (.iload 4, 2) := by decide +kernel
theorem dX12_comesOn_7 : decode cX12_comesOn 7 = .ok (.aload_n 0, 1) := by decide +kernel
theorem dX12_comesOn_8 : decode cX12_comesOn 8 = .ok (.getfield 213, 3) := by decide +kernel
theorem dX12_comesOn_11 : decode cX12_comesOn 11 = .ok (.if_icmp .ge 45, 3) := by decide +kernel
theorem dX12_comesOn_14 : decode cX12_comesOn 14 = .ok (.iload_n 3, 1) := by decide +kernel
theorem dX12_comesOn_15 : decode cX12_comesOn 15 = .ok (.aload_n 0, 1) := by decide +kernel
theorem dX12_comesOn_16 : decode cX12_comesOn 16 = .ok (.getfield 55, 3) := by decide +kernel
theorem dX12_comesOn_19 : decode cX12_comesOn 19 = .ok (.iload 4, 2) := by decide +kernel
theorem dX12_comesOn_21 : decode cX12_comesOn 21 = .ok (.iaload, 1) := by decide +kernel
theorem dX12_comesOn_22 : decode cX12_comesOn 22 = .ok (.iload_n 1, 1) := by decide +kernel
theorem dX12_comesOn_23 : decode cX12_comesOn 23 = .ok (.if_icmp .ne 24, 3) := by decide +kernel
theorem dX12_comesOn_26 : decode cX12_comesOn 26 = .ok (.aload_n 0, 1) := by decide +kernel
theorem dX12_comesOn_27 : decode cX12_comesOn 27 = .ok (.getfield 58, 3) := by decide +kernel
theorem dX12_comesOn_30 : decode cX12_comesOn 30 = .ok (.iload 4, 2) := by decide +kernel
theorem dX12_comesOn_32 : decode cX12_comesOn 32 = .ok (.iaload, 1) := by decide +kernel
theorem dX12_comesOn_33 : decode cX12_comesOn 33 = .ok (.iload_n 2, 1) := by decide +kernel
theorem dX12_comesOn_34 : decode cX12_comesOn 34 = .ok (.if_icmp .ne 13, 3) := by decide +kernel
theorem dX12_comesOn_37 : decode cX12_comesOn 37 = .ok (.aload_n 0, 1) := by decide +kernel
theorem dX12_comesOn_38 : decode cX12_comesOn 38 = .ok (.getfield 61, 3) := by decide +kernel
theorem dX12_comesOn_41 : decode cX12_comesOn 41 = .ok (.iload 4, 2) := by decide +kernel
theorem dX12_comesOn_43 : decode cX12_comesOn 43 = .ok (.iaload, 1) := by decide +kernel
theorem dX12_comesOn_44 : decode cX12_comesOn 44 = .ok (.goto 4, 3) := by decide +kernel
theorem dX12_comesOn_47 : decode cX12_comesOn 47 = .ok (.iconst 0, 1) := by decide +kernel
theorem dX12_comesOn_48 : decode cX12_comesOn 48 = .ok (.iadd, 1) := by decide +kernel
theorem dX12_comesOn_49 : decode cX12_comesOn 49 = .ok (.istore_n 3, 1) := by decide +kernel
theorem dX12_comesOn_50 : decode cX12_comesOn 50 = .ok (.iinc 4 1, 3) := by decide +kernel
theorem dX12_comesOn_53 : decode cX12_comesOn 53 = .ok (.goto (-48), 3) := by decide +kernel
theorem dX12_comesOn_56 : decode cX12_comesOn 56 = .ok (.iload_n 3, 1) := by decide +kernel
theorem dX12_comesOn_57 : decode cX12_comesOn 57 = .ok (.ireturn, 1) := by decide +kernel
theorem dX12_outDay_0 : decode cX12_outDay 0 = .ok (.iload_n 2, 1) := by decide +kernel
theorem dX12_outDay_1 : decode cX12_outDay 1 = .ok (.istore_n 3, 1) := by decide +kernel
theorem dX12_outDay_2 : decode cX12_outDay 2 = .ok (.iconst 0, 1) := by decide +kernel
theorem dX12_outDay_3 : decode cX12_outDay 3 = .ok (.istore 4, 2) := by decide +kernel
theorem dX12_outDay_5 : decode cX12_outDay 5 = .ok (.iload 4, 2) := by decide +kernel
theorem dX12_outDay_7 : decode cX12_outDay 7 = .ok (.bipush 100, 2) := by decide +kernel
theorem dX12_outDay_9 : decode cX12_outDay 9 = .ok (.if_icmp .ge 41, 3) := by decide +kernel
theorem dX12_outDay_12 : decode cX12_outDay 12 = .ok (.iload_n 3, 1) := by decide +kernel
theorem dX12_outDay_13 : decode cX12_outDay 13 = .ok (.aload_n 0, 1) := by decide +kernel
theorem dX12_outDay_14 : decode cX12_outDay 14 = .ok (.iload_n 1, 1) := by decide +kernel
theorem dX12_outDay_15 : decode cX12_outDay 15 = .ok (.iload 4, 2) := by decide +kernel
theorem dX12_outDay_17 : decode cX12_outDay 17 = .ok (.invokevirtual 216, 3) := by decide +kernel
theorem dX12_outDay_20 : decode cX12_outDay 20 = .ok (.iadd, 1) := by decide +kernel
theorem dX12_outDay_21 : decode cX12_outDay 21 = .ok (.istore_n 3, 1) := by decide +kernel
theorem dX12_outDay_22 : decode cX12_outDay 22 = .ok (.iload_n 3, 1) := by decide +kernel
theorem dX12_outDay_23 : decode cX12_outDay 23 = .ok (.aload_n 0, 1) := by decide +kernel
theorem dX12_outDay_24 : decode cX12_outDay 24 = .ok (.getfield 52, 3) := by decide +kernel
theorem dX12_outDay_27 : decode cX12_outDay 27 = .ok (.iload_n 1, 1) := by decide +kernel
theorem dX12_outDay_28 : decode cX12_outDay 28 = .ok (.iaload, 1) := by decide +kernel
theorem dX12_outDay_29 : decode cX12_outDay 29 = .ok (.if_icmp .ge 6, 3) := by decide +kernel
theorem dX12_outDay_32 : decode cX12_outDay 32 = .ok (.iload 4, 2) := by decide +kernel
theorem dX12_outDay_34 : decode cX12_outDay 34 = .ok (.ireturn, 1) := by decide +kernel
theorem dX12_outDay_35 : decode cX12_outDay 35 = .ok (.iload_n 3, 1) := by decide +kernel
theorem dX12_outDay_36 : decode cX12_outDay 36 = .ok (.aload_n 0, 1) := by decide +kernel
theorem dX12_outDay_37 : decode cX12_outDay 37 = .ok (.getfield 52, 3) := by decide +kernel
theorem dX12_outDay_40 : decode cX12_outDay 40 = .ok (.iload_n 1, 1) := by decide +kernel
theorem dX12_outDay_41 : decode cX12_outDay 41 = .ok (.iaload, 1) := by decide +kernel
theorem dX12_outDay_42 : decode cX12_outDay 42 = .ok (.isub, 1) := by decide +kernel
theorem dX12_outDay_43 : decode cX12_outDay 43 = .ok (.istore_n 3, 1) := by decide +kernel
theorem dX12_outDay_44 : decode cX12_outDay 44 = .ok (.iinc 4 1, 3) := by decide +kernel
theorem dX12_outDay_47 : decode cX12_outDay 47 = .ok (.goto (-42), 3) := by decide +kernel
theorem dX12_outDay_50 : decode cX12_outDay 50 = .ok (.bipush 100, 2) := by decide +kernel
theorem dX12_outDay_52 : decode cX12_outDay 52 = .ok (.ireturn, 1) := by decide +kernel
theorem dX12_out_0 : decode cX12_out 0 = .ok (.iload_n 1, 1) := by decide +kernel
theorem dX12_out_1 : decode cX12_out 1 = .ok (.invokestatic 160, 3) := by decide +kernel
theorem dX12_out_4 : decode cX12_out 4 = .ok (.ifCond .eq 5, 3) := by decide +kernel
theorem dX12_out_7 : decode cX12_out 7 = .ok (.iconst (-1), 1) := by decide +kernel
theorem dX12_out_8 : decode cX12_out 8 = .ok (.ireturn, 1) := by decide +kernel
theorem dX12_out_9 : decode cX12_out 9 = .ok (.iload_n 2, 1) := by decide +kernel
theorem dX12_out_10 : decode cX12_out 10 = .ok (.i2l, 1) := by decide +kernel
theorem dX12_out_11 : decode cX12_out 11 = .ok (.lconst 0, 1) := by decide +kernel
theorem dX12_out_12 : decode cX12_out 12 = .ok (.ldc2_w 219, 3) := by decide +kernel
theorem dX12_out_15 : decode cX12_out 15 = .ok (.invokestatic 94, 3) := by decide +kernel
theorem dX12_out_18 : decode cX12_out 18 = .ok (.ifCond .ne 6, 3) := by decide +kernel
theorem dX12_out_21 : decode cX12_out 21 = .ok (.bipush (-2), 2) := by decide +kernel
theorem dX12_out_23 : decode cX12_out 23 = .ok (.ireturn, 1) := by decide +kernel
theorem dX12_out_24 : decode cX12_out 24 = .ok (.aload_n 0, 1) := by decide +kernel
theorem dX12_out_25 : decode cX12_out 25 = .ok (.iload_n 1, 1) := by decide +kernel
theorem dX12_out_26 : decode cX12_out 26 = .ok (.iload_n 2, 1) := by decide +kernel
theorem dX12_out_27 : decode cX12_out 27 = .ok (.invokevirtual 221, 3) := by decide +kernel
theorem dX12_out_30 : decode cX12_out 30 = .ok (.istore_n 3, 1) := by decide +kernel
theorem dX12_out_31 : decode cX12_out 31 = .ok (.iload_n 3, 1) := by decide +kernel
theorem dX12_out_32 : decode cX12_out 32 = .ok (.bipush 100, 2) := by decide +kernel
theorem dX12_out_34 : decode cX12_out 34 = .ok (.if_icmp .ne 8, 3) := by decide +kernel
theorem dX12_out_37 : decode cX12_out 37 = .ok (.bipush (-9), 2) := by decide +kernel
theorem dX12_out_39 : decode cX12_out 39 = .ok (.goto 4, 3) := by decide +kernel
theorem dX12_out_42 : decode cX12_out 42 = .ok (.iload_n 3, 1) := by decide +kernel
theorem dX12_out_43 : decode cX12_out 43 = .ok (.ireturn, 1) := by decide +kernel
theorem dX12_takesFor_0 : decode cX12_takesFor 0 = .ok (.iconst 0, 1) := by decide +kernel
theorem dX12_takesFor_1 : decode cX12_takesFor 1 = .ok (.istore_n 3, 1) := by decide +kernel
theorem dX12_takesFor_2 : decode cX12_takesFor 2 = .ok (.iconst 0, 1) := by decide +kernel
theorem dX12_takesFor_3 : decode cX12_takesFor 3 = .ok (.istore 4, 2) := by decide +kernel
theorem dX12_takesFor_5 : decode cX12_takesFor 5 = .ok (.iconst 0, 1) := by decide +kernel
theorem dX12_takesFor_6 : decode cX12_takesFor 6 = .ok (.istore 5, 2) := by decide +kernel
theorem dX12_takesFor_8 : decode cX12_takesFor 8 = .ok (.iload 5, 2) := by decide +kernel
theorem dX12_takesFor_10 : decode cX12_takesFor 10 = .ok (.iload_n 2, 1) := by decide +kernel
theorem dX12_takesFor_11 : decode cX12_takesFor 11 = .ok (.if_icmp .ge 43, 3) := by decide +kernel
theorem dX12_takesFor_14 : decode cX12_takesFor 14 = .ok (.iload 4, 2) := by decide +kernel
theorem dX12_takesFor_16 : decode cX12_takesFor 16 = .ok (.aload_n 0, 1) := by decide +kernel
theorem dX12_takesFor_17 : decode cX12_takesFor 17 = .ok (.iload_n 1, 1) := by decide +kernel
theorem dX12_takesFor_18 : decode cX12_takesFor 18 = .ok (.iload 5, 2) := by decide +kernel
theorem dX12_takesFor_20 : decode cX12_takesFor 20 = .ok (.invokevirtual 216, 3) := by decide +kernel
theorem dX12_takesFor_23 : decode cX12_takesFor 23 = .ok (.aload_n 0, 1) := by decide +kernel
theorem dX12_takesFor_24 : decode cX12_takesFor 24 = .ok (.getfield 52, 3) := by decide +kernel
theorem dX12_takesFor_27 : decode cX12_takesFor 27 = .ok (.iload_n 1, 1) := by decide +kernel
theorem dX12_takesFor_28 : decode cX12_takesFor 28 = .ok (.iaload, 1) := by decide +kernel
theorem dX12_takesFor_29 : decode cX12_takesFor 29 = .ok (.isub, 1) := by decide +kernel
theorem dX12_takesFor_30 : decode cX12_takesFor 30 = .ok (.iadd, 1) := by decide +kernel
theorem dX12_takesFor_31 : decode cX12_takesFor 31 = .ok (.istore 4, 2) := by decide +kernel
theorem dX12_takesFor_33 : decode cX12_takesFor 33 = .ok (.iload 4, 2) := by decide +kernel
theorem dX12_takesFor_35 : decode cX12_takesFor 35 = .ok (.iload_n 3, 1) := by decide +kernel
theorem dX12_takesFor_36 : decode cX12_takesFor 36 = .ok (.iadd, 1) := by decide +kernel
theorem dX12_takesFor_37 : decode cX12_takesFor 37 = .ok (.ifCond .ge 9, 3) := by decide +kernel
theorem dX12_takesFor_40 : decode cX12_takesFor 40 = .ok (.iload 4, 2) := by decide +kernel
theorem dX12_takesFor_42 : decode cX12_takesFor 42 = .ok (.ineg, 1) := by decide +kernel
theorem dX12_takesFor_43 : decode cX12_takesFor 43 = .ok (.goto 4, 3) := by decide +kernel
theorem dX12_takesFor_46 : decode cX12_takesFor 46 = .ok (.iload_n 3, 1) := by decide +kernel
theorem dX12_takesFor_47 : decode cX12_takesFor 47 = .ok (.istore_n 3, 1) := by decide +kernel
theorem dX12_takesFor_48 : decode cX12_takesFor 48 = .ok (.iinc 5 1, 3) := by decide +kernel
theorem dX12_takesFor_51 : decode cX12_takesFor 51 = .ok (.goto (-43), 3) := by decide +kernel
theorem dX12_takesFor_54 : decode cX12_takesFor 54 = .ok (.iload_n 3, 1) := by decide +kernel
theorem dX12_takesFor_55 : decode cX12_takesFor 55 = .ok (.ireturn, 1) := by decide +kernel
theorem dX12_last_0 : decode cX12_last 0 = .ok (.iload_n 1, 1) := by decide +kernel
theorem dX12_last_1 : decode cX12_last 1 = .ok (.i2l, 1) := by decide +kernel
theorem dX12_last_2 : decode cX12_last 2 = .ok (.lconst 0, 1) := by decide +kernel
theorem dX12_last_3 : decode cX12_last 3 = .ok (.ldc2_w 219, 3) := by decide +kernel
theorem dX12_last_6 : decode cX12_last 6 = .ok (.invokestatic 94, 3) := by decide +kernel
theorem dX12_last_9 : decode cX12_last 9 = .ok (.ifCond .ne 6, 3) := by decide +kernel
theorem dX12_last_12 : decode cX12_last 12 = .ok (.bipush (-2), 2) := by decide +kernel
theorem dX12_last_14 : decode cX12_last 14 = .ok (.ireturn, 1) := by decide +kernel
theorem dX12_last_15 : decode cX12_last 15 = .ok (.iload_n 2, 1) := by decide +kernel
theorem dX12_last_16 : decode cX12_last 16 = .ok (.iconst (-1), 1) := by decide +kernel
theorem dX12_last_17 : decode cX12_last 17 = .ok (.if_icmp .eq 12, 3) := by decide +kernel
theorem dX12_last_20 : decode cX12_last 20 = .ok (.iload_n 2, 1) := by decide +kernel
theorem dX12_last_21 : decode cX12_last 21 = .ok (.invokestatic 160, 3) := by decide +kernel
theorem dX12_last_24 : decode cX12_last 24 = .ok (.ifCond .eq 5, 3) := by decide +kernel
theorem dX12_last_27 : decode cX12_last 27 = .ok (.iconst (-1), 1) := by decide +kernel
theorem dX12_last_28 : decode cX12_last 28 = .ok (.ireturn, 1) := by decide +kernel
theorem dX12_last_29 : decode cX12_last 29 = .ok (.iconst 0, 1) := by decide +kernel
theorem dX12_last_30 : decode cX12_last 30 = .ok (.istore_n 3, 1) := by decide +kernel
theorem dX12_last_31 : decode cX12_last 31 = .ok (.iconst 1, 1) := by decide +kernel
theorem dX12_last_32 : decode cX12_last 32 = .ok (.istore 4, 2) := by decide +kernel
theorem dX12_last_34 : decode cX12_last 34 = .ok (.iconst 1, 1) := by decide +kernel
theorem dX12_last_35 : decode cX12_last 35 = .ok (.istore 5, 2) := by decide +kernel
theorem dX12_last_37 : decode cX12_last 37 = .ok (.iload 5, 2) := by decide +kernel
theorem dX12_last_39 : decode cX12_last 39 = .ok (.bipush 100, 2) := by decide +kernel
theorem dX12_last_41 : decode cX12_last 41 = .ok (.if_icmp .gt 71, 3) := by decide +kernel
theorem dX12_last_44 : decode cX12_last 44 = .ok (.iload 4, 2) := by decide +kernel
theorem dX12_last_46 : decode cX12_last 46 = .ok (.ifCond .eq 66, 3) := by decide +kernel
theorem dX12_last_49 : decode cX12_last 49 = .ok (.iconst 0, 1) := by decide +kernel
theorem dX12_last_50 : decode cX12_last 50 = .ok (.istore 6, 2) := by decide +kernel
theorem dX12_last_52 : decode cX12_last 52 = .ok (.iconst 0, 1) := by decide +kernel
theorem dX12_last_53 : decode cX12_last 53 = .ok (.istore 7, 2) := by decide +kernel
theorem dX12_last_55 : decode cX12_last 55 = .ok (.iload 7, 2) := by decide +kernel
theorem dX12_last_57 : decode cX12_last 57 = .ok (.bipush 6, 2) := by decide +kernel
theorem dX12_last_59 : decode cX12_last 59 = .ok (.if_icmp .ge 22, 3) := by decide +kernel
theorem dX12_last_62 : decode cX12_last 62 = .ok (.iload 6, 2) := by decide +kernel
theorem dX12_last_64 : decode cX12_last 64 = .ok (.aload_n 0, 1) := by decide +kernel
theorem dX12_last_65 : decode cX12_last 65 = .ok (.iload 7, 2) := by decide +kernel
theorem dX12_last_67 : decode cX12_last 67 = .ok (.iload 5, 2) := by decide +kernel
theorem dX12_last_69 : decode cX12_last 69 = .ok (.invokevirtual 224, 3) := by decide +kernel
theorem dX12_last_72 : decode cX12_last 72 = .ok (.iadd, 1) := by decide +kernel
theorem dX12_last_73 : decode cX12_last 73 = .ok (.istore 6, 2) := by decide +kernel
theorem dX12_last_75 : decode cX12_last 75 = .ok (.iinc 7 1, 3) := by decide +kernel
theorem dX12_last_78 : decode cX12_last 78 = .ok (.goto (-23), 3) := by decide +kernel
theorem dX12_last_81 : decode cX12_last 81 = .ok (.iload 6, 2) := by decide +kernel
theorem dX12_last_83 : decode cX12_last 83 = .ok (.iload_n 1, 1) := by decide +kernel
theorem dX12_last_84 : decode cX12_last 84 = .ok (.if_icmp .gt 7, 3) := by decide +kernel
theorem dX12_last_87 : decode cX12_last 87 = .ok (.iconst 1, 1) := by decide +kernel
theorem dX12_last_88 : decode cX12_last 88 = .ok (.goto 4, 3) := by decide +kernel
theorem dX12_last_91 : decode cX12_last 91 = .ok (.iconst 0, 1) := by decide +kernel
theorem dX12_last_92 : decode cX12_last 92 = .ok (.istore 4, 2) := by decide +kernel
theorem dX12_last_94 : decode cX12_last 94 = .ok (.iload 4, 2) := by decide +kernel
theorem dX12_last_96 : decode cX12_last 96 = .ok (.ifCond .eq 8, 3) := by decide +kernel
theorem dX12_last_99 : decode cX12_last 99 = .ok (.iload 5, 2) := by decide +kernel
theorem dX12_last_101 : decode cX12_last 101 = .ok (.goto 4, 3) := by decide +kernel
theorem dX12_last_104 : decode cX12_last 104 = .ok (.iload_n 3, 1) := by decide +kernel
theorem dX12_last_105 : decode cX12_last 105 = .ok (.istore_n 3, 1) := by decide +kernel
theorem dX12_last_106 : decode cX12_last 106 = .ok (.iinc 5 1, 3) := by decide +kernel
theorem dX12_last_109 : decode cX12_last 109 = .ok (.goto (-72), 3) := by decide +kernel
theorem dX12_last_112 : decode cX12_last 112 = .ok (.iload_n 2, 1) := by decide +kernel
theorem dX12_last_113 : decode cX12_last 113 = .ok (.ifCond .ge 7, 3) := by decide +kernel
theorem dX12_last_116 : decode cX12_last 116 = .ok (.iload_n 3, 1) := by decide +kernel
theorem dX12_last_117 : decode cX12_last 117 = .ok (.goto 9, 3) := by decide +kernel
theorem dX12_last_120 : decode cX12_last 120 = .ok (.aload_n 0, 1) := by decide +kernel
theorem dX12_last_121 : decode cX12_last 121 = .ok (.iload_n 2, 1) := by decide +kernel
theorem dX12_last_122 : decode cX12_last 122 = .ok (.iload_n 3, 1) := by decide +kernel
theorem dX12_last_123 : decode cX12_last 123 = .ok (.invokevirtual 224, 3) := by decide +kernel
theorem dX12_last_126 : decode cX12_last 126 = .ok (.ireturn, 1) := by decide +kernel
theorem dX12_placesOf_0 : decode cX12_placesOf 0 = .ok (.bipush 8, 2) := by decide +kernel
theorem dX12_placesOf_2 : decode cX12_placesOf 2 = .ok (.aload_n 0, 1) := by decide +kernel
theorem dX12_placesOf_3 : decode cX12_placesOf 3 = .ok (.getfield 43, 3) := by decide +kernel
theorem dX12_placesOf_6 : decode cX12_placesOf 6 = .ok (.iload_n 1, 1) := by decide +kernel
theorem dX12_placesOf_7 : decode cX12_placesOf 7 = .ok (.iaload, 1) := by decide +kernel
theorem dX12_placesOf_8 : decode cX12_placesOf 8 = .ok (.aload_n 0, 1) := by decide +kernel
theorem dX12_placesOf_9 : decode cX12_placesOf 9 = .ok (.getfield 43, 3) := by decide +kernel
theorem dX12_placesOf_12 : decode cX12_placesOf 12 = .ok (.iload_n 2, 1) := by decide +kernel
theorem dX12_placesOf_13 : decode cX12_placesOf 13 = .ok (.iaload, 1) := by decide +kernel
theorem dX12_placesOf_14 : decode cX12_placesOf 14 = .ok (.invokestatic 210, 3) := by decide +kernel
theorem dX12_placesOf_17 : decode cX12_placesOf 17 = .ok (.invokestatic 210, 3) := by decide +kernel
theorem dX12_placesOf_20 : decode cX12_placesOf 20 = .ok (.ireturn, 1) := by decide +kernel
theorem dX12_differ_0 : decode cX12_differ 0 = .ok (.aload_n 0, 1) := by decide +kernel
theorem dX12_differ_1 : decode cX12_differ 1 = .ok (.getfield 46, 3) := by decide +kernel
theorem dX12_differ_4 : decode cX12_differ 4 = .ok (.bipush 12, 2) := by decide +kernel
theorem dX12_differ_6 : decode cX12_differ 6 = .ok (.iload_n 1, 1) := by decide +kernel
theorem dX12_differ_7 : decode cX12_differ 7 = .ok (.imul, 1) := by decide +kernel
theorem dX12_differ_8 : decode cX12_differ 8 = .ok (.iload_n 3, 1) := by decide +kernel
theorem dX12_differ_9 : decode cX12_differ 9 = .ok (.iadd, 1) := by decide +kernel
theorem dX12_differ_10 : decode cX12_differ 10 = .ok (.iaload, 1) := by decide +kernel
theorem dX12_differ_11 : decode cX12_differ 11 = .ok (.aload_n 0, 1) := by decide +kernel
theorem dX12_differ_12 : decode cX12_differ 12 = .ok (.getfield 46, 3) := by decide +kernel
theorem dX12_differ_15 : decode cX12_differ 15 = .ok (.bipush 12, 2) := by decide +kernel
theorem dX12_differ_17 : decode cX12_differ 17 = .ok (.iload_n 2, 1) := by decide +kernel
theorem dX12_differ_18 : decode cX12_differ 18 = .ok (.imul, 1) := by decide +kernel
theorem dX12_differ_19 : decode cX12_differ 19 = .ok (.iload_n 3, 1) := by decide +kernel
theorem dX12_differ_20 : decode cX12_differ 20 = .ok (.iadd, 1) := by decide +kernel
theorem dX12_differ_21 : decode cX12_differ 21 = .ok (.iaload, 1) := by decide +kernel
theorem dX12_differ_22 : decode cX12_differ 22 = .ok (.isub, 1) := by decide +kernel
theorem dX12_differ_23 : decode cX12_differ 23 = .ok (.invokestatic 202, 3) := by decide +kernel
theorem dX12_differ_26 : decode cX12_differ 26 = .ok (.ireturn, 1) := by decide +kernel
theorem dX12_pairsBy_0 : decode cX12_pairsBy 0 = .ok (.iconst 0, 1) := by decide +kernel
theorem dX12_pairsBy_1 : decode cX12_pairsBy 1 = .ok (.istore_n 2, 1) := by decide +kernel
theorem dX12_pairsBy_2 : decode cX12_pairsBy 2 = .ok (.iconst 0, 1) := by decide +kernel
theorem dX12_pairsBy_3 : decode cX12_pairsBy 3 = .ok (.istore_n 3, 1) := by decide +kernel
theorem dX12_pairsBy_4 : decode cX12_pairsBy 4 = .ok (.iload_n 3, 1) := by decide +kernel
theorem dX12_pairsBy_5 : decode cX12_pairsBy 5 = .ok (.bipush 30, 2) := by decide +kernel
theorem dX12_pairsBy_7 : decode cX12_pairsBy 7 = .ok (.if_icmp .ge 45, 3) := by decide +kernel
theorem dX12_pairsBy_10 : decode cX12_pairsBy 10 = .ok (.iload_n 2, 1) := by decide +kernel
theorem dX12_pairsBy_11 : decode cX12_pairsBy 11 = .ok (.aload_n 0, 1) := by decide +kernel
theorem dX12_pairsBy_12 : decode cX12_pairsBy 12 = .ok (.getfield 7, 3) := by decide +kernel
theorem dX12_pairsBy_15 : decode cX12_pairsBy 15 = .ok (.iload_n 3, 1) := by decide +kernel
theorem dX12_pairsBy_16 : decode cX12_pairsBy 16 = .ok (.iaload, 1) := by decide +kernel
theorem dX12_pairsBy_17 : decode cX12_pairsBy 17 = .ok (.ifCond .lt 26, 3) := by decide +kernel
theorem dX12_pairsBy_20 : decode cX12_pairsBy 20 = .ok (.aload_n 0, 1) := by decide +kernel
theorem dX12_pairsBy_21 : decode cX12_pairsBy 21 = .ok (.getfield 16, 3) := by decide +kernel
theorem dX12_pairsBy_24 : decode cX12_pairsBy 24 = .ok (.aload_n 0, 1) := by decide +kernel
theorem dX12_pairsBy_25 : decode cX12_pairsBy 25 = .ok (.getfield 7, 3) := by decide +kernel
theorem dX12_pairsBy_28 : decode cX12_pairsBy 28 = .ok (.iload_n 3, 1) := by decide +kernel
theorem dX12_pairsBy_29 : decode cX12_pairsBy 29 = .ok (.iaload, 1) := by decide +kernel
theorem dX12_pairsBy_30 : decode cX12_pairsBy 30 = .ok (.iload_n 1, 1) := by decide +kernel
theorem dX12_pairsBy_31 : decode cX12_pairsBy 31 = .ok (.isub, 1) := by decide +kernel
theorem dX12_pairsBy_32 : decode cX12_pairsBy 32 = .ok (.invokestatic 202, 3) := by decide +kernel
theorem dX12_pairsBy_35 : decode cX12_pairsBy 35 = .ok (.iaload, 1) := by decide +kernel
theorem dX12_pairsBy_36 : decode cX12_pairsBy 36 = .ok (.ifCond .lt 7, 3) := by decide +kernel
theorem dX12_pairsBy_39 : decode cX12_pairsBy 39 = .ok (.iconst 1, 1) := by decide +kernel
theorem dX12_pairsBy_40 : decode cX12_pairsBy 40 = .ok (.goto 4, 3) := by decide +kernel
theorem dX12_pairsBy_43 : decode cX12_pairsBy 43 = .ok (.iconst 0, 1) := by decide +kernel
theorem dX12_pairsBy_44 : decode cX12_pairsBy 44 = .ok (.iadd, 1) := by decide +kernel
theorem dX12_pairsBy_45 : decode cX12_pairsBy 45 = .ok (.istore_n 2, 1) := by decide +kernel
theorem dX12_pairsBy_46 : decode cX12_pairsBy 46 = .ok (.iinc 3 1, 3) := by decide +kernel
theorem dX12_pairsBy_49 : decode cX12_pairsBy 49 = .ok (.goto (-45), 3) := by decide +kernel
theorem dX12_pairsBy_52 : decode cX12_pairsBy 52 = .ok (.iload_n 2, 1) := by decide +kernel
theorem dX12_pairsBy_53 : decode cX12_pairsBy 53 = .ok (.ireturn, 1) := by decide +kernel
theorem dX12_fitsOf_0 : decode cX12_fitsOf 0 = .ok (.iconst 0, 1) := by decide +kernel
theorem dX12_fitsOf_1 : decode cX12_fitsOf 1 = .ok (.istore_n 3, 1) := by decide +kernel
theorem dX12_fitsOf_2 : decode cX12_fitsOf 2 = .ok (.iconst 0, 1) := by decide +kernel
theorem dX12_fitsOf_3 : decode cX12_fitsOf 3 = .ok (.istore 4, 2) := by decide +kernel
theorem dX12_fitsOf_5 : decode cX12_fitsOf 5 = .ok (.iload 4, 2) := by decide +kernel
theorem dX12_fitsOf_7 : decode cX12_fitsOf 7 = .ok (.aload_n 0, 1) := by decide +kernel
theorem dX12_fitsOf_8 : decode cX12_fitsOf 8 = .ok (.iload_n 1, 1) := by decide +kernel
theorem dX12_fitsOf_9 : decode cX12_fitsOf 9 = .ok (.iload_n 2, 1) := by decide +kernel
theorem dX12_fitsOf_10 : decode cX12_fitsOf 10 = .ok (.invokevirtual 227, 3) := by decide +kernel
theorem dX12_fitsOf_13 : decode cX12_fitsOf 13 = .ok (.if_icmp .ge 32, 3) := by decide +kernel
theorem dX12_fitsOf_16 : decode cX12_fitsOf 16 = .ok (.iload_n 3, 1) := by decide +kernel
theorem dX12_fitsOf_17 : decode cX12_fitsOf 17 = .ok (.aload_n 0, 1) := by decide +kernel
theorem dX12_fitsOf_18 : decode cX12_fitsOf 18 = .ok (.aload_n 0, 1) := by decide +kernel
theorem dX12_fitsOf_19 : decode cX12_fitsOf 19 = .ok (.iload_n 1, 1) := by decide +kernel
theorem dX12_fitsOf_20 : decode cX12_fitsOf 20 = .ok (.iload_n 2, 1) := by decide +kernel
theorem dX12_fitsOf_21 : decode cX12_fitsOf 21 = .ok (.iload 4, 2) := by decide +kernel
theorem dX12_fitsOf_23 : decode cX12_fitsOf 23 = .ok (.invokevirtual 230, 3) := by decide +kernel
theorem dX12_fitsOf_26 : decode cX12_fitsOf 26 = .ok (.invokevirtual 234, 3) := by decide +kernel
theorem dX12_fitsOf_29 : decode cX12_fitsOf 29 = .ok (.ifCond .le 7, 3) := by decide +kernel
theorem dX12_fitsOf_32 : decode cX12_fitsOf 32 = .ok (.iconst 1, 1) := by decide +kernel
theorem dX12_fitsOf_33 : decode cX12_fitsOf 33 = .ok (.goto 4, 3) := by decide +kernel
theorem dX12_fitsOf_36 : decode cX12_fitsOf 36 = .ok (.iconst 0, 1) := by decide +kernel
theorem dX12_fitsOf_37 : decode cX12_fitsOf 37 = .ok (.iadd, 1) := by decide +kernel
theorem dX12_fitsOf_38 : decode cX12_fitsOf 38 = .ok (.istore_n 3, 1) := by decide +kernel
theorem dX12_fitsOf_39 : decode cX12_fitsOf 39 = .ok (.iinc 4 1, 3) := by decide +kernel
theorem dX12_fitsOf_42 : decode cX12_fitsOf 42 = .ok (.goto (-37), 3) := by decide +kernel
theorem dX12_fitsOf_45 : decode cX12_fitsOf 45 = .ok (.iload_n 3, 1) := by decide +kernel
theorem dX12_fitsOf_46 : decode cX12_fitsOf 46 = .ok (.ireturn, 1) := by decide +kernel
theorem dX12_beside_0 : decode cX12_beside 0 = .ok (.aload_n 0, 1) := by decide +kernel
theorem dX12_beside_1 : decode cX12_beside 1 = .ok (.iload_n 1, 1) := by decide +kernel
theorem dX12_beside_2 : decode cX12_beside 2 = .ok (.invokevirtual 205, 3) := by decide +kernel
theorem dX12_beside_5 : decode cX12_beside 5 = .ok (.ifCond .ne 11, 3) := by decide +kernel
theorem dX12_beside_8 : decode cX12_beside 8 = .ok (.aload_n 0, 1) := by decide +kernel
theorem dX12_beside_9 : decode cX12_beside 9 = .ok (.iload_n 2, 1) := by decide +kernel
theorem dX12_beside_10 : decode cX12_beside 10 = .ok (.invokevirtual 205, 3) := by decide +kernel
theorem dX12_beside_13 : decode cX12_beside 13 = .ok (.ifCond .eq 5, 3) := by decide +kernel
theorem dX12_beside_16 : decode cX12_beside 16 = .ok (.iconst (-1), 1) := by decide +kernel
theorem dX12_beside_17 : decode cX12_beside 17 = .ok (.ireturn, 1) := by decide +kernel
theorem dX12_beside_18 : decode cX12_beside 18 = .ok (.iload_n 3, 1) := by decide +kernel
theorem dX12_beside_19 : decode cX12_beside 19 = .ok (.i2l, 1) := by decide +kernel
theorem dX12_beside_20 : decode cX12_beside 20 = .ok (.lconst 0, 1) := by decide +kernel
theorem dX12_beside_21 : decode cX12_beside 21 = .ok (.ldc2_w 237, 3) := by decide +kernel
theorem dX12_beside_24 : decode cX12_beside 24 = .ok (.invokestatic 94, 3) := by decide +kernel
theorem dX12_beside_27 : decode cX12_beside 27 = .ok (.ifCond .eq 8, 3) := by decide +kernel
theorem dX12_beside_30 : decode cX12_beside 30 = .ok (.iload_n 1, 1) := by decide +kernel
theorem dX12_beside_31 : decode cX12_beside 31 = .ok (.iload_n 2, 1) := by decide +kernel
theorem dX12_beside_32 : decode cX12_beside 32 = .ok (.if_icmp .ne 6, 3) := by decide +kernel
theorem dX12_beside_35 : decode cX12_beside 35 = .ok (.bipush (-2), 2) := by decide +kernel
theorem dX12_beside_37 : decode cX12_beside 37 = .ok (.ireturn, 1) := by decide +kernel
theorem dX12_beside_38 : decode cX12_beside 38 = .ok (.iconst 0, 1) := by decide +kernel
theorem dX12_beside_39 : decode cX12_beside 39 = .ok (.istore 4, 2) := by decide +kernel
theorem dX12_beside_41 : decode cX12_beside 41 = .ok (.iconst 0, 1) := by decide +kernel
theorem dX12_beside_42 : decode cX12_beside 42 = .ok (.istore 5, 2) := by decide +kernel
theorem dX12_beside_44 : decode cX12_beside 44 = .ok (.iload 5, 2) := by decide +kernel
theorem dX12_beside_46 : decode cX12_beside 46 = .ok (.aload_n 0, 1) := by decide +kernel
theorem dX12_beside_47 : decode cX12_beside 47 = .ok (.iload_n 1, 1) := by decide +kernel
theorem dX12_beside_48 : decode cX12_beside 48 = .ok (.iload_n 2, 1) := by decide +kernel
theorem dX12_beside_49 : decode cX12_beside 49 = .ok (.invokevirtual 227, 3) := by decide +kernel
theorem dX12_beside_52 : decode cX12_beside 52 = .ok (.if_icmp .ge 35, 3) := by decide +kernel
theorem dX12_beside_55 : decode cX12_beside 55 = .ok (.iload 4, 2) := by decide +kernel
theorem dX12_beside_57 : decode cX12_beside 57 = .ok (.aload_n 0, 1) := by decide +kernel
theorem dX12_beside_58 : decode cX12_beside 58 = .ok (.aload_n 0, 1) := by decide +kernel
theorem dX12_beside_59 : decode cX12_beside 59 = .ok (.iload_n 1, 1) := by decide +kernel
theorem dX12_beside_60 : decode cX12_beside 60 = .ok (.iload_n 2, 1) := by decide +kernel
theorem dX12_beside_61 : decode cX12_beside 61 = .ok (.iload 5, 2) := by decide +kernel
theorem dX12_beside_63 : decode cX12_beside 63 = .ok (.invokevirtual 230, 3) := by decide +kernel
theorem dX12_beside_66 : decode cX12_beside 66 = .ok (.invokevirtual 234, 3) := by decide +kernel
theorem dX12_beside_69 : decode cX12_beside 69 = .ok (.iconst 1, 1) := by decide +kernel
theorem dX12_beside_70 : decode cX12_beside 70 = .ok (.if_icmp .ne 7, 3) := by decide +kernel
theorem dX12_beside_73 : decode cX12_beside 73 = .ok (.iconst 1, 1) := by decide +kernel
theorem dX12_beside_74 : decode cX12_beside 74 = .ok (.goto 4, 3) := by decide +kernel
theorem dX12_beside_77 : decode cX12_beside 77 = .ok (.iconst 0, 1) := by decide +kernel
theorem dX12_beside_78 : decode cX12_beside 78 = .ok (.iadd, 1) := by decide +kernel
theorem dX12_beside_79 : decode cX12_beside 79 = .ok (.istore 4, 2) := by decide +kernel
theorem dX12_beside_81 : decode cX12_beside 81 = .ok (.iinc 5 1, 3) := by decide +kernel
theorem dX12_beside_84 : decode cX12_beside 84 = .ok (.goto (-40), 3) := by decide +kernel
theorem dX12_beside_87 : decode cX12_beside 87 = .ok (.iload_n 3, 1) := by decide +kernel
theorem dX12_beside_88 : decode cX12_beside 88 = .ok (.ifCond .ne 12, 3) := by decide +kernel
theorem dX12_beside_91 : decode cX12_beside 91 = .ok (.aload_n 0, 1) := by decide +kernel
theorem dX12_beside_92 : decode cX12_beside 92 = .ok (.iload_n 1, 1) := by decide +kernel
theorem dX12_beside_93 : decode cX12_beside 93 = .ok (.iload_n 2, 1) := by decide +kernel
theorem dX12_beside_94 : decode cX12_beside 94 = .ok (.invokevirtual 227, 3) := by decide +kernel
theorem dX12_beside_97 : decode cX12_beside 97 = .ok (.goto 47, 3) := by decide +kernel
theorem dX12_beside_100 : decode cX12_beside 100 = .ok (.iload_n 3, 1) := by decide +kernel
theorem dX12_beside_101 : decode cX12_beside 101 = .ok (.iconst 1, 1) := by decide +kernel
theorem dX12_beside_102 : decode cX12_beside 102 = .ok (.if_icmp .ne 12, 3) := by decide +kernel
theorem dX12_beside_105 : decode cX12_beside 105 = .ok (.aload_n 0, 1) := by decide +kernel
theorem dX12_beside_106 : decode cX12_beside 106 = .ok (.iload_n 1, 1) := by decide +kernel
theorem dX12_beside_107 : decode cX12_beside 107 = .ok (.iload_n 2, 1) := by decide +kernel
theorem dX12_beside_108 : decode cX12_beside 108 = .ok (.invokevirtual 239, 3) := by decide +kernel
theorem dX12_beside_111 : decode cX12_beside 111 = .ok (.goto 33, 3) := by decide +kernel
theorem dX12_beside_114 : decode cX12_beside 114 = .ok (.iload_n 3, 1) := by decide +kernel
theorem dX12_beside_115 : decode cX12_beside 115 = .ok (.iconst 2, 1) := by decide +kernel
theorem dX12_beside_116 : decode cX12_beside 116 = .ok (.if_icmp .ne 26, 3) := by decide +kernel
theorem dX12_beside_119 : decode cX12_beside 119 = .ok (.aload_n 0, 1) := by decide +kernel
theorem dX12_beside_120 : decode cX12_beside 120 = .ok (.getfield 37, 3) := by decide +kernel
theorem dX12_beside_123 : decode cX12_beside 123 = .ok (.iload_n 1, 1) := by decide +kernel
theorem dX12_beside_124 : decode cX12_beside 124 = .ok (.iaload, 1) := by decide +kernel
theorem dX12_beside_125 : decode cX12_beside 125 = .ok (.aload_n 0, 1) := by decide +kernel
theorem dX12_beside_126 : decode cX12_beside 126 = .ok (.getfield 37, 3) := by decide +kernel
theorem dX12_beside_129 : decode cX12_beside 129 = .ok (.iload_n 2, 1) := by decide +kernel
theorem dX12_beside_130 : decode cX12_beside 130 = .ok (.iaload, 1) := by decide +kernel
theorem dX12_beside_131 : decode cX12_beside 131 = .ok (.if_icmp .ne 7, 3) := by decide +kernel
theorem dX12_beside_134 : decode cX12_beside 134 = .ok (.iconst 1, 1) := by decide +kernel
theorem dX12_beside_135 : decode cX12_beside 135 = .ok (.goto 9, 3) := by decide +kernel
theorem dX12_beside_138 : decode cX12_beside 138 = .ok (.iconst 0, 1) := by decide +kernel
theorem dX12_beside_139 : decode cX12_beside 139 = .ok (.goto 5, 3) := by decide +kernel
theorem dX12_beside_142 : decode cX12_beside 142 = .ok (.iload 4, 2) := by decide +kernel
theorem dX12_beside_144 : decode cX12_beside 144 = .ok (.ireturn, 1) := by decide +kernel
theorem dX12_spreadOf_0 : decode cX12_spreadOf 0 = .ok (.iconst 0, 1) := by decide +kernel
theorem dX12_spreadOf_1 : decode cX12_spreadOf 1 = .ok (.istore_n 1, 1) := by decide +kernel
theorem dX12_spreadOf_2 : decode cX12_spreadOf 2 = .ok (.iconst 0, 1) := by decide +kernel
theorem dX12_spreadOf_3 : decode cX12_spreadOf 3 = .ok (.istore_n 2, 1) := by decide +kernel
theorem dX12_spreadOf_4 : decode cX12_spreadOf 4 = .ok (.iload_n 2, 1) := by decide +kernel
theorem dX12_spreadOf_5 : decode cX12_spreadOf 5 = .ok (.bipush 100, 2) := by decide +kernel
theorem dX12_spreadOf_7 : decode cX12_spreadOf 7 = .ok (.if_icmp .ge 25, 3) := by decide +kernel
theorem dX12_spreadOf_10 : decode cX12_spreadOf 10 = .ok (.iload_n 1, 1) := by decide +kernel
theorem dX12_spreadOf_11 : decode cX12_spreadOf 11 = .ok (.aload_n 0, 1) := by decide +kernel
theorem dX12_spreadOf_12 : decode cX12_spreadOf 12 = .ok (.iload_n 2, 1) := by decide +kernel
theorem dX12_spreadOf_13 : decode cX12_spreadOf 13 = .ok (.invokevirtual 234, 3) := by decide +kernel
theorem dX12_spreadOf_16 : decode cX12_spreadOf 16 = .ok (.ifCond .le 7, 3) := by decide +kernel
theorem dX12_spreadOf_19 : decode cX12_spreadOf 19 = .ok (.iconst 1, 1) := by decide +kernel
theorem dX12_spreadOf_20 : decode cX12_spreadOf 20 = .ok (.goto 4, 3) := by decide +kernel
theorem dX12_spreadOf_23 : decode cX12_spreadOf 23 = .ok (.iconst 0, 1) := by decide +kernel
theorem dX12_spreadOf_24 : decode cX12_spreadOf 24 = .ok (.iadd, 1) := by decide +kernel
theorem dX12_spreadOf_25 : decode cX12_spreadOf 25 = .ok (.istore_n 1, 1) := by decide +kernel
theorem dX12_spreadOf_26 : decode cX12_spreadOf 26 = .ok (.iinc 2 1, 3) := by decide +kernel
theorem dX12_spreadOf_29 : decode cX12_spreadOf 29 = .ok (.goto (-25), 3) := by decide +kernel
theorem dX12_spreadOf_32 : decode cX12_spreadOf 32 = .ok (.iload_n 1, 1) := by decide +kernel
theorem dX12_spreadOf_33 : decode cX12_spreadOf 33 = .ok (.ireturn, 1) := by decide +kernel
theorem dX12_spread_0 : decode cX12_spread 0 = .ok (.aload_n 0, 1) := by decide +kernel
theorem dX12_spread_1 : decode cX12_spread 1 = .ok (.invokevirtual 242, 3) := by decide +kernel
theorem dX12_spread_4 : decode cX12_spread 4 = .ok (.ireturn, 1) := by decide +kernel
theorem dX12_power_0 : decode cX12_power 0 = .ok (.lconst 1, 1) := by decide +kernel
theorem dX12_power_1 : decode cX12_power 1 = .ok (.lstore_n 3, 1) := by decide +kernel
theorem dX12_power_2 : decode cX12_power 2 = .ok (.iconst 0, 1) := by decide +kernel
theorem dX12_power_3 : decode cX12_power 3 = .ok (.istore 5, 2) := by decide +kernel
theorem dX12_power_5 : decode cX12_power 5 = .ok (.iload 5, 2) := by decide +kernel
theorem dX12_power_7 : decode cX12_power 7 = .ok (.iload_n 2, 1) := by decide +kernel
theorem dX12_power_8 : decode cX12_power 8 = .ok (.if_icmp .ge 13, 3) := by decide +kernel
theorem dX12_power_11 : decode cX12_power 11 = .ok (.lload_n 3, 1) := by decide +kernel
theorem dX12_power_12 : decode cX12_power 12 = .ok (.lload_n 0, 1) := by decide +kernel
theorem dX12_power_13 : decode cX12_power 13 = .ok (.lmul, 1) := by decide +kernel
theorem dX12_power_14 : decode cX12_power 14 = .ok (.lstore_n 3, 1) := by decide +kernel
theorem dX12_power_15 : decode cX12_power 15 = .ok (.iinc 5 1, 3) := by decide +kernel
theorem dX12_power_18 : decode cX12_power 18 = .ok (.goto (-13), 3) := by decide +kernel
theorem dX12_power_21 : decode cX12_power 21 = .ok (.lload_n 3, 1) := by decide +kernel
theorem dX12_power_22 : decode cX12_power 22 = .ok (.lreturn, 1) := by decide +kernel
theorem dX12_choose_0 : decode cX12_choose 0 = .ok (.lconst 1, 1) := by decide +kernel
theorem dX12_choose_1 : decode cX12_choose 1 = .ok (.lstore_n 2, 1) := by decide +kernel
theorem dX12_choose_2 : decode cX12_choose 2 = .ok (.iconst 0, 1) := by decide +kernel
theorem dX12_choose_3 : decode cX12_choose 3 = .ok (.istore 4, 2) := by decide +kernel
theorem dX12_choose_5 : decode cX12_choose 5 = .ok (.iload 4, 2) := by decide +kernel
theorem dX12_choose_7 : decode cX12_choose 7 = .ok (.iload_n 1, 1) := by decide +kernel
theorem dX12_choose_8 : decode cX12_choose 8 = .ok (.if_icmp .ge 23, 3) := by decide +kernel
theorem dX12_choose_11 : decode cX12_choose 11 = .ok (.lload_n 2, 1) := by decide +kernel
theorem dX12_choose_12 : decode cX12_choose 12 = .ok (.iload_n 0, 1) := by decide +kernel
theorem dX12_choose_13 : decode cX12_choose 13 = .ok (.iload 4, 2) := by decide +kernel
theorem dX12_choose_15 : decode cX12_choose 15 = .ok (.isub, 1) := by decide +kernel
theorem dX12_choose_16 : decode cX12_choose 16 = .ok (.i2l, 1) := by decide +kernel
theorem dX12_choose_17 : decode cX12_choose 17 = .ok (.lmul, 1) := by decide +kernel
theorem dX12_choose_18 : decode cX12_choose 18 = .ok (.iload 4, 2) := by decide +kernel
theorem dX12_choose_20 : decode cX12_choose 20 = .ok (.iconst 1, 1) := by decide +kernel
theorem dX12_choose_21 : decode cX12_choose 21 = .ok (.iadd, 1) := by decide +kernel
theorem dX12_choose_22 : decode cX12_choose 22 = .ok (.i2l, 1) := by decide +kernel
theorem dX12_choose_23 : decode cX12_choose 23 = .ok (.ldiv, 1) := by decide +kernel
theorem dX12_choose_24 : decode cX12_choose 24 = .ok (.lstore_n 2, 1) := by decide +kernel
theorem dX12_choose_25 : decode cX12_choose 25 = .ok (.iinc 4 1, 3) := by decide +kernel
theorem dX12_choose_28 : decode cX12_choose 28 = .ok (.goto (-23), 3) := by decide +kernel
theorem dX12_choose_31 : decode cX12_choose 31 = .ok (.lload_n 2, 1) := by decide +kernel
theorem dX12_choose_32 : decode cX12_choose 32 = .ok (.lreturn, 1) := by decide +kernel
theorem dX12_rowsOf_0 : decode cX12_rowsOf 0 = .ok (.aload_n 0, 1) := by decide +kernel
theorem dX12_rowsOf_1 : decode cX12_rowsOf 1 = .ok (.iload_n 1, 1) := by decide +kernel
theorem dX12_rowsOf_2 : decode cX12_rowsOf 2 = .ok (.iload_n 2, 1) := by decide +kernel
theorem dX12_rowsOf_3 : decode cX12_rowsOf 3 = .ok (.invokevirtual 227, 3) := by decide +kernel
theorem dX12_rowsOf_6 : decode cX12_rowsOf 6 = .ok (.istore_n 3, 1) := by decide +kernel
theorem dX12_rowsOf_7 : decode cX12_rowsOf 7 = .ok (.aload_n 0, 1) := by decide +kernel
theorem dX12_rowsOf_8 : decode cX12_rowsOf 8 = .ok (.invokevirtual 242, 3) := by decide +kernel
theorem dX12_rowsOf_11 : decode cX12_rowsOf 11 = .ok (.istore 4, 2) := by decide +kernel
theorem dX12_rowsOf_13 : decode cX12_rowsOf 13 = .ok (.lconst 0, 1) := by decide +kernel
theorem dX12_rowsOf_14 : decode cX12_rowsOf 14 = .ok (.lstore 5, 2) := by decide +kernel
theorem dX12_rowsOf_16 : decode cX12_rowsOf 16 = .ok (.aload_n 0, 1) := by decide +kernel
theorem dX12_rowsOf_17 : decode cX12_rowsOf 17 = .ok (.iload_n 1, 1) := by decide +kernel
theorem dX12_rowsOf_18 : decode cX12_rowsOf 18 = .ok (.iload_n 2, 1) := by decide +kernel
theorem dX12_rowsOf_19 : decode cX12_rowsOf 19 = .ok (.invokevirtual 239, 3) := by decide +kernel
theorem dX12_rowsOf_22 : decode cX12_rowsOf 22 = .ok (.istore 7, 2) := by decide +kernel
theorem dX12_rowsOf_24 : decode cX12_rowsOf 24 = .ok (.iload 7, 2) := by decide +kernel
theorem dX12_rowsOf_26 : decode cX12_rowsOf 26 = .ok (.iload_n 3, 1) := by decide +kernel
theorem dX12_rowsOf_27 : decode cX12_rowsOf 27 = .ok (.if_icmp .gt 44, 3) := by decide +kernel
theorem dX12_rowsOf_30 : decode cX12_rowsOf 30 = .ok (.lload 5, 2) := by decide +kernel
theorem dX12_rowsOf_32 : decode cX12_rowsOf 32 = .ok (.iload_n 3, 1) := by decide +kernel
theorem dX12_rowsOf_33 : decode cX12_rowsOf 33 = .ok (.iload 7, 2) := by decide +kernel
theorem dX12_rowsOf_35 : decode cX12_rowsOf 35 = .ok (.invokestatic 246, 3) := by decide +kernel
theorem dX12_rowsOf_38 : decode cX12_rowsOf 38 = .ok (.iload 4, 2) := by decide +kernel
theorem dX12_rowsOf_40 : decode cX12_rowsOf 40 = .ok (.i2l, 1) := by decide +kernel
theorem dX12_rowsOf_41 : decode cX12_rowsOf 41 = .ok (.iload 7, 2) := by decide +kernel
theorem dX12_rowsOf_43 : decode cX12_rowsOf 43 = .ok (.invokestatic 250, 3) := by decide +kernel
theorem dX12_rowsOf_46 : decode cX12_rowsOf 46 = .ok (.lmul, 1) := by decide +kernel
theorem dX12_rowsOf_47 : decode cX12_rowsOf 47 = .ok (.ldc2_w 254, 3) := by decide +kernel
theorem dX12_rowsOf_50 : decode cX12_rowsOf 50 = .ok (.iload 4, 2) := by decide +kernel
theorem dX12_rowsOf_52 : decode cX12_rowsOf 52 = .ok (.i2l, 1) := by decide +kernel
theorem dX12_rowsOf_53 : decode cX12_rowsOf 53 = .ok (.lsub, 1) := by decide +kernel
theorem dX12_rowsOf_54 : decode cX12_rowsOf 54 = .ok (.iload_n 3, 1) := by decide +kernel
theorem dX12_rowsOf_55 : decode cX12_rowsOf 55 = .ok (.iload 7, 2) := by decide +kernel
theorem dX12_rowsOf_57 : decode cX12_rowsOf 57 = .ok (.isub, 1) := by decide +kernel
theorem dX12_rowsOf_58 : decode cX12_rowsOf 58 = .ok (.invokestatic 250, 3) := by decide +kernel
theorem dX12_rowsOf_61 : decode cX12_rowsOf 61 = .ok (.lmul, 1) := by decide +kernel
theorem dX12_rowsOf_62 : decode cX12_rowsOf 62 = .ok (.ladd, 1) := by decide +kernel
theorem dX12_rowsOf_63 : decode cX12_rowsOf 63 = .ok (.lstore 5, 2) := by decide +kernel
theorem dX12_rowsOf_65 : decode cX12_rowsOf 65 = .ok (.iinc 7 1, 3) := by decide +kernel
theorem dX12_rowsOf_68 : decode cX12_rowsOf 68 = .ok (.goto (-44), 3) := by decide +kernel
theorem dX12_rowsOf_71 : decode cX12_rowsOf 71 = .ok (.lload 5, 2) := by decide +kernel
theorem dX12_rowsOf_73 : decode cX12_rowsOf 73 = .ok (.lreturn, 1) := by decide +kernel
theorem dX12_chance_0 : decode cX12_chance 0 = .ok (.aload_n 0, 1) := by decide +kernel
theorem dX12_chance_1 : decode cX12_chance 1 = .ok (.iload_n 1, 1) := by decide +kernel
theorem dX12_chance_2 : decode cX12_chance 2 = .ok (.invokevirtual 205, 3) := by decide +kernel
theorem dX12_chance_5 : decode cX12_chance 5 = .ok (.ifCond .ne 26, 3) := by decide +kernel
theorem dX12_chance_8 : decode cX12_chance 8 = .ok (.aload_n 0, 1) := by decide +kernel
theorem dX12_chance_9 : decode cX12_chance 9 = .ok (.iload_n 2, 1) := by decide +kernel
theorem dX12_chance_10 : decode cX12_chance 10 = .ok (.invokevirtual 205, 3) := by decide +kernel
theorem dX12_chance_13 : decode cX12_chance 13 = .ok (.ifCond .ne 18, 3) := by decide +kernel
theorem dX12_chance_16 : decode cX12_chance 16 = .ok (.iload_n 3, 1) := by decide +kernel
theorem dX12_chance_17 : decode cX12_chance 17 = .ok (.i2l, 1) := by decide +kernel
theorem dX12_chance_18 : decode cX12_chance 18 = .ok (.lconst 0, 1) := by decide +kernel
theorem dX12_chance_19 : decode cX12_chance 19 = .ok (.lconst 1, 1) := by decide +kernel
theorem dX12_chance_20 : decode cX12_chance 20 = .ok (.invokestatic 94, 3) := by decide +kernel
theorem dX12_chance_23 : decode cX12_chance 23 = .ok (.ifCond .eq 8, 3) := by decide +kernel
theorem dX12_chance_26 : decode cX12_chance 26 = .ok (.iload_n 1, 1) := by decide +kernel
theorem dX12_chance_27 : decode cX12_chance 27 = .ok (.iload_n 2, 1) := by decide +kernel
theorem dX12_chance_28 : decode cX12_chance 28 = .ok (.if_icmp .ne 7, 3) := by decide +kernel
theorem dX12_chance_31 : decode cX12_chance 31 = .ok (.invokestatic 88, 3) := by decide +kernel
theorem dX12_chance_34 : decode cX12_chance 34 = .ok (.lreturn, 1) := by decide +kernel
theorem dX12_chance_35 : decode cX12_chance 35 = .ok (.aload_n 0, 1) := by decide +kernel
theorem dX12_chance_36 : decode cX12_chance 36 = .ok (.iload_n 1, 1) := by decide +kernel
theorem dX12_chance_37 : decode cX12_chance 37 = .ok (.iload_n 2, 1) := by decide +kernel
theorem dX12_chance_38 : decode cX12_chance 38 = .ok (.invokevirtual 256, 3) := by decide +kernel
theorem dX12_chance_41 : decode cX12_chance 41 = .ok (.ldc2_w 254, 3) := by decide +kernel
theorem dX12_chance_44 : decode cX12_chance 44 = .ok (.aload_n 0, 1) := by decide +kernel
theorem dX12_chance_45 : decode cX12_chance 45 = .ok (.iload_n 1, 1) := by decide +kernel
theorem dX12_chance_46 : decode cX12_chance 46 = .ok (.iload_n 2, 1) := by decide +kernel
theorem dX12_chance_47 : decode cX12_chance 47 = .ok (.invokevirtual 227, 3) := by decide +kernel
theorem dX12_chance_50 : decode cX12_chance 50 = .ok (.invokestatic 250, 3) := by decide +kernel
theorem dX12_chance_53 : decode cX12_chance 53 = .ok (.iload_n 3, 1) := by decide +kernel
theorem dX12_chance_54 : decode cX12_chance 54 = .ok (.invokestatic 259, 3) := by decide +kernel
theorem dX12_chance_57 : decode cX12_chance 57 = .ok (.lreturn, 1) := by decide +kernel
theorem dX12_best_0 : decode cX12_best 0 = .ok (.iload_n 1, 1) := by decide +kernel
theorem dX12_best_1 : decode cX12_best 1 = .ok (.i2l, 1) := by decide +kernel
theorem dX12_best_2 : decode cX12_best 2 = .ok (.lconst 0, 1) := by decide +kernel
theorem dX12_best_3 : decode cX12_best 3 = .ok (.lconst 1, 1) := by decide +kernel
theorem dX12_best_4 : decode cX12_best 4 = .ok (.invokestatic 94, 3) := by decide +kernel
theorem dX12_best_7 : decode cX12_best 7 = .ok (.ifCond .ne 6, 3) := by decide +kernel
theorem dX12_best_10 : decode cX12_best 10 = .ok (.bipush (-2), 2) := by decide +kernel
theorem dX12_best_12 : decode cX12_best 12 = .ok (.ireturn, 1) := by decide +kernel
theorem dX12_best_13 : decode cX12_best 13 = .ok (.bipush (-9), 2) := by decide +kernel
theorem dX12_best_15 : decode cX12_best 15 = .ok (.istore_n 2, 1) := by decide +kernel
theorem dX12_best_16 : decode cX12_best 16 = .ok (.lconst 0, 1) := by decide +kernel
theorem dX12_best_17 : decode cX12_best 17 = .ok (.lstore_n 3, 1) := by decide +kernel
theorem dX12_best_18 : decode cX12_best 18 = .ok (.iconst 0, 1) := by decide +kernel
theorem dX12_best_19 : decode cX12_best 19 = .ok (.istore 5, 2) := by decide +kernel
theorem dX12_best_21 : decode cX12_best 21 = .ok (.iload 5, 2) := by decide +kernel
theorem dX12_best_23 : decode cX12_best 23 = .ok (.aload_n 0, 1) := by decide +kernel
theorem dX12_best_24 : decode cX12_best 24 = .ok (.getfield 179, 3) := by decide +kernel
theorem dX12_best_27 : decode cX12_best 27 = .ok (.if_icmp .ge 81, 3) := by decide +kernel
theorem dX12_best_30 : decode cX12_best 30 = .ok (.iload 5, 2) := by decide +kernel
theorem dX12_best_32 : decode cX12_best 32 = .ok (.iconst 1, 1) := by decide +kernel
theorem dX12_best_33 : decode cX12_best 33 = .ok (.iadd, 1) := by decide +kernel
theorem dX12_best_34 : decode cX12_best 34 = .ok (.istore 6, 2) := by decide +kernel
theorem dX12_best_36 : decode cX12_best 36 = .ok (.iload 6, 2) := by decide +kernel
theorem dX12_best_38 : decode cX12_best 38 = .ok (.aload_n 0, 1) := by decide +kernel
theorem dX12_best_39 : decode cX12_best 39 = .ok (.getfield 179, 3) := by decide +kernel
theorem dX12_best_42 : decode cX12_best 42 = .ok (.if_icmp .ge 60, 3) := by decide +kernel
theorem dX12_best_45 : decode cX12_best 45 = .ok (.aload_n 0, 1) := by decide +kernel
theorem dX12_best_46 : decode cX12_best 46 = .ok (.iload 5, 2) := by decide +kernel
theorem dX12_best_48 : decode cX12_best 48 = .ok (.iload 6, 2) := by decide +kernel
theorem dX12_best_50 : decode cX12_best 50 = .ok (.invokevirtual 256, 3) := by decide +kernel
theorem dX12_best_53 : decode cX12_best 53 = .ok (.ldc2_w 254, 3) := by decide +kernel
theorem dX12_best_56 : decode cX12_best 56 = .ok (.bipush 8, 2) := by decide +kernel
theorem dX12_best_58 : decode cX12_best 58 = .ok (.aload_n 0, 1) := by decide +kernel
theorem dX12_best_59 : decode cX12_best 59 = .ok (.iload 5, 2) := by decide +kernel
theorem dX12_best_61 : decode cX12_best 61 = .ok (.iload 6, 2) := by decide +kernel
theorem dX12_best_63 : decode cX12_best 63 = .ok (.invokevirtual 227, 3) := by decide +kernel
theorem dX12_best_66 : decode cX12_best 66 = .ok (.isub, 1) := by decide +kernel
theorem dX12_best_67 : decode cX12_best 67 = .ok (.invokestatic 250, 3) := by decide +kernel
theorem dX12_best_70 : decode cX12_best 70 = .ok (.lmul, 1) := by decide +kernel
theorem dX12_best_71 : decode cX12_best 71 = .ok (.lstore 7, 2) := by decide +kernel
theorem dX12_best_73 : decode cX12_best 73 = .ok (.iload_n 2, 1) := by decide +kernel
theorem dX12_best_74 : decode cX12_best 74 = .ok (.ifCond .lt 10, 3) := by decide +kernel
theorem dX12_best_77 : decode cX12_best 77 = .ok (.lload 7, 2) := by decide +kernel
theorem dX12_best_79 : decode cX12_best 79 = .ok (.lload_n 3, 1) := by decide +kernel
theorem dX12_best_80 : decode cX12_best 80 = .ok (.lcmp, 1) := by decide +kernel
theorem dX12_best_81 : decode cX12_best 81 = .ok (.ifCond .ge 15, 3) := by decide +kernel
theorem dX12_best_84 : decode cX12_best 84 = .ok (.bipush 20, 2) := by decide +kernel
theorem dX12_best_86 : decode cX12_best 86 = .ok (.iload 5, 2) := by decide +kernel
theorem dX12_best_88 : decode cX12_best 88 = .ok (.imul, 1) := by decide +kernel
theorem dX12_best_89 : decode cX12_best 89 = .ok (.iload 6, 2) := by decide +kernel
theorem dX12_best_91 : decode cX12_best 91 = .ok (.iadd, 1) := by decide +kernel
theorem dX12_best_92 : decode cX12_best 92 = .ok (.istore_n 2, 1) := by decide +kernel
theorem dX12_best_93 : decode cX12_best 93 = .ok (.lload 7, 2) := by decide +kernel
theorem dX12_best_95 : decode cX12_best 95 = .ok (.lstore_n 3, 1) := by decide +kernel
theorem dX12_best_96 : decode cX12_best 96 = .ok (.iinc 6 1, 3) := by decide +kernel
theorem dX12_best_99 : decode cX12_best 99 = .ok (.goto (-63), 3) := by decide +kernel
theorem dX12_best_102 : decode cX12_best 102 = .ok (.iinc 5 1, 3) := by decide +kernel
theorem dX12_best_105 : decode cX12_best 105 = .ok (.goto (-84), 3) := by decide +kernel
theorem dX12_best_108 : decode cX12_best 108 = .ok (.iload_n 2, 1) := by decide +kernel
theorem dX12_best_109 : decode cX12_best 109 = .ok (.ifCond .ge 8, 3) := by decide +kernel
theorem dX12_best_112 : decode cX12_best 112 = .ok (.bipush (-9), 2) := by decide +kernel
theorem dX12_best_114 : decode cX12_best 114 = .ok (.goto 18, 3) := by decide +kernel
theorem dX12_best_117 : decode cX12_best 117 = .ok (.iload_n 1, 1) := by decide +kernel
theorem dX12_best_118 : decode cX12_best 118 = .ok (.ifCond .ne 10, 3) := by decide +kernel
theorem dX12_best_121 : decode cX12_best 121 = .ok (.iload_n 2, 1) := by decide +kernel
theorem dX12_best_122 : decode cX12_best 122 = .ok (.bipush 20, 2) := by decide +kernel
theorem dX12_best_124 : decode cX12_best 124 = .ok (.idiv, 1) := by decide +kernel
theorem dX12_best_125 : decode cX12_best 125 = .ok (.goto 7, 3) := by decide +kernel
theorem dX12_best_128 : decode cX12_best 128 = .ok (.iload_n 2, 1) := by decide +kernel
theorem dX12_best_129 : decode cX12_best 129 = .ok (.bipush 20, 2) := by decide +kernel
theorem dX12_best_131 : decode cX12_best 131 = .ok (.irem, 1) := by decide +kernel
theorem dX12_best_132 : decode cX12_best 132 = .ok (.ireturn, 1) := by decide +kernel
theorem dX12_strip_0 : decode cX12_strip 0 = .ok (.aload_n 0, 1) := by decide +kernel
theorem dX12_strip_1 : decode cX12_strip 1 = .ok (.iload_n 1, 1) := by decide +kernel
theorem dX12_strip_2 : decode cX12_strip 2 = .ok (.invokevirtual 205, 3) := by decide +kernel
theorem dX12_strip_5 : decode cX12_strip 5 = .ok (.ifCond .ne 29, 3) := by decide +kernel
theorem dX12_strip_8 : decode cX12_strip 8 = .ok (.aload_n 0, 1) := by decide +kernel
theorem dX12_strip_9 : decode cX12_strip 9 = .ok (.iload_n 2, 1) := by decide +kernel
theorem dX12_strip_10 : decode cX12_strip 10 = .ok (.invokevirtual 205, 3) := by decide +kernel
theorem dX12_strip_13 : decode cX12_strip 13 = .ok (.ifCond .ne 21, 3) := by decide +kernel
theorem dX12_strip_16 : decode cX12_strip 16 = .ok (.iload_n 3, 1) := by decide +kernel
theorem dX12_strip_17 : decode cX12_strip 17 = .ok (.i2l, 1) := by decide +kernel
theorem dX12_strip_18 : decode cX12_strip 18 = .ok (.lconst 0, 1) := by decide +kernel
theorem dX12_strip_19 : decode cX12_strip 19 = .ok (.aload_n 0, 1) := by decide +kernel
theorem dX12_strip_20 : decode cX12_strip 20 = .ok (.iload_n 1, 1) := by decide +kernel
theorem dX12_strip_21 : decode cX12_strip 21 = .ok (.iload_n 2, 1) := by decide +kernel
theorem dX12_strip_22 : decode cX12_strip 22 = .ok (.invokevirtual 227, 3) := by decide +kernel
theorem dX12_strip_25 : decode cX12_strip 25 = .ok (.i2l, 1) := by decide +kernel
theorem dX12_strip_26 : decode cX12_strip 26 = .ok (.lconst 1, 1) := by decide +kernel
theorem dX12_strip_27 : decode cX12_strip 27 = .ok (.lsub, 1) := by decide +kernel
theorem dX12_strip_28 : decode cX12_strip 28 = .ok (.invokestatic 94, 3) := by decide +kernel
theorem dX12_strip_31 : decode cX12_strip 31 = .ok (.ifCond .ne 5, 3) := by decide +kernel
theorem dX12_strip_34 : decode cX12_strip 34 = .ok (.iconst (-1), 1) := by decide +kernel
theorem dX12_strip_35 : decode cX12_strip 35 = .ok (.ireturn, 1) := by decide +kernel
theorem dX12_strip_36 : decode cX12_strip 36 = .ok (.iload 4, 2) := by decide +kernel
theorem dX12_strip_38 : decode cX12_strip 38 = .ok (.i2l, 1) := by decide +kernel
theorem dX12_strip_39 : decode cX12_strip 39 = .ok (.lconst 0, 1) := by decide +kernel
theorem dX12_strip_40 : decode cX12_strip 40 = .ok (.ldc2_w 92, 3) := by decide +kernel
theorem dX12_strip_43 : decode cX12_strip 43 = .ok (.invokestatic 94, 3) := by decide +kernel
theorem dX12_strip_46 : decode cX12_strip 46 = .ok (.ifCond .eq 8, 3) := by decide +kernel
theorem dX12_strip_49 : decode cX12_strip 49 = .ok (.iload_n 1, 1) := by decide +kernel
theorem dX12_strip_50 : decode cX12_strip 50 = .ok (.iload_n 2, 1) := by decide +kernel
theorem dX12_strip_51 : decode cX12_strip 51 = .ok (.if_icmp .ne 6, 3) := by decide +kernel
theorem dX12_strip_54 : decode cX12_strip 54 = .ok (.bipush (-2), 2) := by decide +kernel
theorem dX12_strip_56 : decode cX12_strip 56 = .ok (.ireturn, 1) := by decide +kernel
theorem dX12_strip_57 : decode cX12_strip 57 = .ok (.aload_n 0, 1) := by decide +kernel
theorem dX12_strip_58 : decode cX12_strip 58 = .ok (.iload_n 1, 1) := by decide +kernel
theorem dX12_strip_59 : decode cX12_strip 59 = .ok (.iload_n 2, 1) := by decide +kernel
theorem dX12_strip_60 : decode cX12_strip 60 = .ok (.iload_n 3, 1) := by decide +kernel
theorem dX12_strip_61 : decode cX12_strip 61 = .ok (.invokevirtual 230, 3) := by decide +kernel
theorem dX12_strip_64 : decode cX12_strip 64 = .ok (.istore 5, 2) := by decide +kernel
theorem dX12_strip_66 : decode cX12_strip 66 = .ok (.bipush (-9), 2) := by decide +kernel
theorem dX12_strip_68 : decode cX12_strip 68 = .ok (.istore 6, 2) := by decide +kernel
theorem dX12_strip_70 : decode cX12_strip 70 = .ok (.iconst 0, 1) := by decide +kernel
theorem dX12_strip_71 : decode cX12_strip 71 = .ok (.istore 7, 2) := by decide +kernel
theorem dX12_strip_73 : decode cX12_strip 73 = .ok (.iconst 0, 1) := by decide +kernel
theorem dX12_strip_74 : decode cX12_strip 74 = .ok (.istore 8, 2) := by decide +kernel
theorem dX12_strip_76 : decode cX12_strip 76 = .ok (.iload 8, 2) := by decide +kernel
theorem dX12_strip_78 : decode cX12_strip 78 = .ok (.bipush 30, 2) := by decide +kernel
theorem dX12_strip_80 : decode cX12_strip 80 = .ok (.if_icmp .ge 106, 3) := by decide +kernel
theorem dX12_strip_83 : decode cX12_strip 83 = .ok (.aload_n 0, 1) := by decide +kernel
theorem dX12_strip_84 : decode cX12_strip 84 = .ok (.getfield 7, 3) := by decide +kernel
theorem dX12_strip_87 : decode cX12_strip 87 = .ok (.iload 8, 2) := by decide +kernel
theorem dX12_strip_89 : decode cX12_strip 89 = .ok (.iaload, 1) := by decide +kernel
theorem dX12_strip_90 : decode cX12_strip 90 = .ok (.ifCond .ge 8, 3) := by decide +kernel
theorem dX12_strip_93 : decode cX12_strip 93 = .ok (.bipush (-9), 2) := by decide +kernel
theorem dX12_strip_95 : decode cX12_strip 95 = .ok (.goto 21, 3) := by decide +kernel
theorem dX12_strip_98 : decode cX12_strip 98 = .ok (.aload_n 0, 1) := by decide +kernel
theorem dX12_strip_99 : decode cX12_strip 99 = .ok (.getfield 16, 3) := by decide +kernel
theorem dX12_strip_102 : decode cX12_strip 102 = .ok (.aload_n 0, 1) := by decide +kernel
theorem dX12_strip_103 : decode cX12_strip 103 = .ok (.getfield 7, 3) := by decide +kernel
theorem dX12_strip_106 : decode cX12_strip 106 = .ok (.iload 8, 2) := by decide +kernel
theorem dX12_strip_108 : decode cX12_strip 108 = .ok (.iaload, 1) := by decide +kernel
theorem dX12_strip_109 : decode cX12_strip 109 = .ok (.iload 5, 2) := by decide +kernel
theorem dX12_strip_111 : decode cX12_strip 111 = .ok (.isub, 1) := by decide +kernel
theorem dX12_strip_112 : decode cX12_strip 112 = .ok (.invokestatic 202, 3) := by decide +kernel
theorem dX12_strip_115 : decode cX12_strip 115 = .ok (.iaload, 1) := by decide +kernel
theorem dX12_strip_116 : decode cX12_strip 116 = .ok (.istore 9, 2) := by decide +kernel
theorem dX12_strip_118 : decode cX12_strip 118 = .ok (.iload 9, 2) := by decide +kernel
theorem dX12_strip_120 : decode cX12_strip 120 = .ok (.ifCond .ge 7, 3) := by decide +kernel
theorem dX12_strip_123 : decode cX12_strip 123 = .ok (.iconst 0, 1) := by decide +kernel
theorem dX12_strip_124 : decode cX12_strip 124 = .ok (.goto 22, 3) := by decide +kernel
theorem dX12_strip_127 : decode cX12_strip 127 = .ok (.aload_n 0, 1) := by decide +kernel
theorem dX12_strip_128 : decode cX12_strip 128 = .ok (.getfield 13, 3) := by decide +kernel
theorem dX12_strip_131 : decode cX12_strip 131 = .ok (.iload 8, 2) := by decide +kernel
theorem dX12_strip_133 : decode cX12_strip 133 = .ok (.iaload, 1) := by decide +kernel
theorem dX12_strip_134 : decode cX12_strip 134 = .ok (.iconst 1, 1) := by decide +kernel
theorem dX12_strip_135 : decode cX12_strip 135 = .ok (.iadd, 1) := by decide +kernel
theorem dX12_strip_136 : decode cX12_strip 136 = .ok (.aload_n 0, 1) := by decide +kernel
theorem dX12_strip_137 : decode cX12_strip 137 = .ok (.getfield 13, 3) := by decide +kernel
theorem dX12_strip_140 : decode cX12_strip 140 = .ok (.iload 9, 2) := by decide +kernel
theorem dX12_strip_142 : decode cX12_strip 142 = .ok (.iaload, 1) := by decide +kernel
theorem dX12_strip_143 : decode cX12_strip 143 = .ok (.iconst 1, 1) := by decide +kernel
theorem dX12_strip_144 : decode cX12_strip 144 = .ok (.iadd, 1) := by decide +kernel
theorem dX12_strip_145 : decode cX12_strip 145 = .ok (.imul, 1) := by decide +kernel
theorem dX12_strip_146 : decode cX12_strip 146 = .ok (.istore 10, 2) := by decide +kernel
theorem dX12_strip_148 : decode cX12_strip 148 = .ok (.iload 10, 2) := by decide +kernel
theorem dX12_strip_150 : decode cX12_strip 150 = .ok (.iload 7, 2) := by decide +kernel
theorem dX12_strip_152 : decode cX12_strip 152 = .ok (.if_icmp .le 8, 3) := by decide +kernel
theorem dX12_strip_155 : decode cX12_strip 155 = .ok (.iload 8, 2) := by decide +kernel
theorem dX12_strip_157 : decode cX12_strip 157 = .ok (.goto 5, 3) := by decide +kernel
theorem dX12_strip_160 : decode cX12_strip 160 = .ok (.iload 6, 2) := by decide +kernel
theorem dX12_strip_162 : decode cX12_strip 162 = .ok (.istore 6, 2) := by decide +kernel
theorem dX12_strip_164 : decode cX12_strip 164 = .ok (.iload 10, 2) := by decide +kernel
theorem dX12_strip_166 : decode cX12_strip 166 = .ok (.iload 7, 2) := by decide +kernel
theorem dX12_strip_168 : decode cX12_strip 168 = .ok (.if_icmp .le 8, 3) := by decide +kernel
theorem dX12_strip_171 : decode cX12_strip 171 = .ok (.iload 10, 2) := by decide +kernel
theorem dX12_strip_173 : decode cX12_strip 173 = .ok (.goto 5, 3) := by decide +kernel
theorem dX12_strip_176 : decode cX12_strip 176 = .ok (.iload 7, 2) := by decide +kernel
theorem dX12_strip_178 : decode cX12_strip 178 = .ok (.istore 7, 2) := by decide +kernel
theorem dX12_strip_180 : decode cX12_strip 180 = .ok (.iinc 8 1, 3) := by decide +kernel
theorem dX12_strip_183 : decode cX12_strip 183 = .ok (.goto (-107), 3) := by decide +kernel
theorem dX12_strip_186 : decode cX12_strip 186 = .ok (.iload 4, 2) := by decide +kernel
theorem dX12_strip_188 : decode cX12_strip 188 = .ok (.ifCond .ne 12, 3) := by decide +kernel
theorem dX12_strip_191 : decode cX12_strip 191 = .ok (.aload_n 0, 1) := by decide +kernel
theorem dX12_strip_192 : decode cX12_strip 192 = .ok (.iload 5, 2) := by decide +kernel
theorem dX12_strip_194 : decode cX12_strip 194 = .ok (.invokevirtual 234, 3) := by decide +kernel
theorem dX12_strip_197 : decode cX12_strip 197 = .ok (.goto 42, 3) := by decide +kernel
theorem dX12_strip_200 : decode cX12_strip 200 = .ok (.iload 6, 2) := by decide +kernel
theorem dX12_strip_202 : decode cX12_strip 202 = .ok (.ifCond .ge 8, 3) := by decide +kernel
theorem dX12_strip_205 : decode cX12_strip 205 = .ok (.bipush (-9), 2) := by decide +kernel
theorem dX12_strip_207 : decode cX12_strip 207 = .ok (.goto 32, 3) := by decide +kernel
theorem dX12_strip_210 : decode cX12_strip 210 = .ok (.iload 4, 2) := by decide +kernel
theorem dX12_strip_212 : decode cX12_strip 212 = .ok (.iconst 1, 1) := by decide +kernel
theorem dX12_strip_213 : decode cX12_strip 213 = .ok (.if_icmp .ne 8, 3) := by decide +kernel
theorem dX12_strip_216 : decode cX12_strip 216 = .ok (.iload 6, 2) := by decide +kernel
theorem dX12_strip_218 : decode cX12_strip 218 = .ok (.goto 21, 3) := by decide +kernel
theorem dX12_strip_221 : decode cX12_strip 221 = .ok (.aload_n 0, 1) := by decide +kernel
theorem dX12_strip_222 : decode cX12_strip 222 = .ok (.getfield 16, 3) := by decide +kernel
theorem dX12_strip_225 : decode cX12_strip 225 = .ok (.aload_n 0, 1) := by decide +kernel
theorem dX12_strip_226 : decode cX12_strip 226 = .ok (.getfield 7, 3) := by decide +kernel
theorem dX12_strip_229 : decode cX12_strip 229 = .ok (.iload 6, 2) := by decide +kernel
theorem dX12_strip_231 : decode cX12_strip 231 = .ok (.iaload, 1) := by decide +kernel
theorem dX12_strip_232 : decode cX12_strip 232 = .ok (.iload 5, 2) := by decide +kernel
theorem dX12_strip_234 : decode cX12_strip 234 = .ok (.isub, 1) := by decide +kernel
theorem dX12_strip_235 : decode cX12_strip 235 = .ok (.invokestatic 202, 3) := by decide +kernel
theorem dX12_strip_238 : decode cX12_strip 238 = .ok (.iaload, 1) := by decide +kernel
theorem dX12_strip_239 : decode cX12_strip 239 = .ok (.ireturn, 1) := by decide +kernel
theorem dX12_with_0 : decode cX12_with 0 = .ok (.aload_n 0, 1) := by decide +kernel
theorem dX12_with_1 : decode cX12_with 1 = .ok (.iload_n 1, 1) := by decide +kernel
theorem dX12_with_2 : decode cX12_with 2 = .ok (.invokevirtual 205, 3) := by decide +kernel
theorem dX12_with_5 : decode cX12_with 5 = .ok (.ifCond .ne 47, 3) := by decide +kernel
theorem dX12_with_8 : decode cX12_with 8 = .ok (.aload_n 0, 1) := by decide +kernel
theorem dX12_with_9 : decode cX12_with 9 = .ok (.iload_n 2, 1) := by decide +kernel
theorem dX12_with_10 : decode cX12_with 10 = .ok (.invokevirtual 205, 3) := by decide +kernel
theorem dX12_with_13 : decode cX12_with 13 = .ok (.ifCond .ne 39, 3) := by decide +kernel
theorem dX12_with_16 : decode cX12_with 16 = .ok (.aload_n 0, 1) := by decide +kernel
theorem dX12_with_17 : decode cX12_with 17 = .ok (.iload_n 3, 1) := by decide +kernel
theorem dX12_with_18 : decode cX12_with 18 = .ok (.invokevirtual 205, 3) := by decide +kernel
theorem dX12_with_21 : decode cX12_with 21 = .ok (.ifCond .ne 31, 3) := by decide +kernel
theorem dX12_with_24 : decode cX12_with 24 = .ok (.iload 4, 2) := by decide +kernel
theorem dX12_with_26 : decode cX12_with 26 = .ok (.i2l, 1) := by decide +kernel
theorem dX12_with_27 : decode cX12_with 27 = .ok (.lconst 0, 1) := by decide +kernel
theorem dX12_with_28 : decode cX12_with 28 = .ok (.aload_n 0, 1) := by decide +kernel
theorem dX12_with_29 : decode cX12_with 29 = .ok (.iload_n 1, 1) := by decide +kernel
theorem dX12_with_30 : decode cX12_with 30 = .ok (.iload_n 2, 1) := by decide +kernel
theorem dX12_with_31 : decode cX12_with 31 = .ok (.invokevirtual 227, 3) := by decide +kernel
theorem dX12_with_34 : decode cX12_with 34 = .ok (.aload_n 0, 1) := by decide +kernel
theorem dX12_with_35 : decode cX12_with 35 = .ok (.iload_n 1, 1) := by decide +kernel
theorem dX12_with_36 : decode cX12_with 36 = .ok (.iload_n 3, 1) := by decide +kernel
theorem dX12_with_37 : decode cX12_with 37 = .ok (.invokevirtual 227, 3) := by decide +kernel
theorem dX12_with_40 : decode cX12_with 40 = .ok (.invokestatic 210, 3) := by decide +kernel
theorem dX12_with_43 : decode cX12_with 43 = .ok (.i2l, 1) := by decide +kernel
theorem dX12_with_44 : decode cX12_with 44 = .ok (.lconst 1, 1) := by decide +kernel
theorem dX12_with_45 : decode cX12_with 45 = .ok (.lsub, 1) := by decide +kernel
theorem dX12_with_46 : decode cX12_with 46 = .ok (.invokestatic 94, 3) := by decide +kernel
theorem dX12_with_49 : decode cX12_with 49 = .ok (.ifCond .ne 5, 3) := by decide +kernel
theorem dX12_with_52 : decode cX12_with 52 = .ok (.iconst (-1), 1) := by decide +kernel
theorem dX12_with_53 : decode cX12_with 53 = .ok (.ireturn, 1) := by decide +kernel
theorem dX12_with_54 : decode cX12_with 54 = .ok (.iload_n 1, 1) := by decide +kernel
theorem dX12_with_55 : decode cX12_with 55 = .ok (.iload_n 2, 1) := by decide +kernel
theorem dX12_with_56 : decode cX12_with 56 = .ok (.if_icmp .eq 13, 3) := by decide +kernel
theorem dX12_with_59 : decode cX12_with 59 = .ok (.iload_n 1, 1) := by decide +kernel
theorem dX12_with_60 : decode cX12_with 60 = .ok (.iload_n 3, 1) := by decide +kernel
theorem dX12_with_61 : decode cX12_with 61 = .ok (.if_icmp .eq 8, 3) := by decide +kernel
theorem dX12_with_64 : decode cX12_with 64 = .ok (.iload_n 2, 1) := by decide +kernel
theorem dX12_with_65 : decode cX12_with 65 = .ok (.iload_n 3, 1) := by decide +kernel
theorem dX12_with_66 : decode cX12_with 66 = .ok (.if_icmp .ne 6, 3) := by decide +kernel
theorem dX12_with_69 : decode cX12_with 69 = .ok (.bipush (-2), 2) := by decide +kernel
theorem dX12_with_71 : decode cX12_with 71 = .ok (.ireturn, 1) := by decide +kernel
theorem dX12_with_72 : decode cX12_with 72 = .ok (.iconst 0, 1) := by decide +kernel
theorem dX12_with_73 : decode cX12_with 73 = .ok (.istore 5, 2) := by decide +kernel
theorem dX12_with_75 : decode cX12_with 75 = .ok (.iconst 0, 1) := by decide +kernel
theorem dX12_with_76 : decode cX12_with 76 = .ok (.istore 6, 2) := by decide +kernel
theorem dX12_with_78 : decode cX12_with 78 = .ok (.iload 6, 2) := by decide +kernel
theorem dX12_with_80 : decode cX12_with 80 = .ok (.bipush 30, 2) := by decide +kernel
theorem dX12_with_82 : decode cX12_with 82 = .ok (.if_icmp .ge 95, 3) := by decide +kernel
theorem dX12_with_85 : decode cX12_with 85 = .ok (.aload_n 0, 1) := by decide +kernel
theorem dX12_with_86 : decode cX12_with 86 = .ok (.getfield 7, 3) := by decide +kernel
theorem dX12_with_89 : decode cX12_with 89 = .ok (.iload 6, 2) := by decide +kernel
theorem dX12_with_91 : decode cX12_with 91 = .ok (.iaload, 1) := by decide +kernel
theorem dX12_with_92 : decode cX12_with 92 = .ok (.ifCond .lt 34, 3) := by decide +kernel
theorem dX12_with_95 : decode cX12_with 95 = .ok (.aload_n 0, 1) := by decide +kernel
theorem dX12_with_96 : decode cX12_with 96 = .ok (.getfield 16, 3) := by decide +kernel
theorem dX12_with_99 : decode cX12_with 99 = .ok (.aload_n 0, 1) := by decide +kernel
theorem dX12_with_100 : decode cX12_with 100 = .ok (.getfield 7, 3) := by decide +kernel
theorem dX12_with_103 : decode cX12_with 103 = .ok (.iload 6, 2) := by decide +kernel
theorem dX12_with_105 : decode cX12_with 105 = .ok (.iaload, 1) := by decide +kernel
theorem dX12_with_106 : decode cX12_with 106 = .ok (.aload_n 0, 1) := by decide +kernel
theorem dX12_with_107 : decode cX12_with 107 = .ok (.iload_n 1, 1) := by decide +kernel
theorem dX12_with_108 : decode cX12_with 108 = .ok (.iload_n 2, 1) := by decide +kernel
theorem dX12_with_109 : decode cX12_with 109 = .ok (.iload 4, 2) := by decide +kernel
theorem dX12_with_111 : decode cX12_with 111 = .ok (.invokevirtual 230, 3) := by decide +kernel
theorem dX12_with_114 : decode cX12_with 114 = .ok (.isub, 1) := by decide +kernel
theorem dX12_with_115 : decode cX12_with 115 = .ok (.invokestatic 202, 3) := by decide +kernel
theorem dX12_with_118 : decode cX12_with 118 = .ok (.iaload, 1) := by decide +kernel
theorem dX12_with_119 : decode cX12_with 119 = .ok (.ifCond .lt 7, 3) := by decide +kernel
theorem dX12_with_122 : decode cX12_with 122 = .ok (.iconst 1, 1) := by decide +kernel
theorem dX12_with_123 : decode cX12_with 123 = .ok (.goto 4, 3) := by decide +kernel
theorem dX12_with_126 : decode cX12_with 126 = .ok (.iconst 0, 1) := by decide +kernel
theorem dX12_with_127 : decode cX12_with 127 = .ok (.istore 7, 2) := by decide +kernel
theorem dX12_with_129 : decode cX12_with 129 = .ok (.iload 5, 2) := by decide +kernel
theorem dX12_with_131 : decode cX12_with 131 = .ok (.iload 7, 2) := by decide +kernel
theorem dX12_with_133 : decode cX12_with 133 = .ok (.ifCond .eq 34, 3) := by decide +kernel
theorem dX12_with_136 : decode cX12_with 136 = .ok (.aload_n 0, 1) := by decide +kernel
theorem dX12_with_137 : decode cX12_with 137 = .ok (.getfield 16, 3) := by decide +kernel
theorem dX12_with_140 : decode cX12_with 140 = .ok (.aload_n 0, 1) := by decide +kernel
theorem dX12_with_141 : decode cX12_with 141 = .ok (.getfield 7, 3) := by decide +kernel
theorem dX12_with_144 : decode cX12_with 144 = .ok (.iload 6, 2) := by decide +kernel
theorem dX12_with_146 : decode cX12_with 146 = .ok (.iaload, 1) := by decide +kernel
theorem dX12_with_147 : decode cX12_with 147 = .ok (.aload_n 0, 1) := by decide +kernel
theorem dX12_with_148 : decode cX12_with 148 = .ok (.iload_n 1, 1) := by decide +kernel
theorem dX12_with_149 : decode cX12_with 149 = .ok (.iload_n 3, 1) := by decide +kernel
theorem dX12_with_150 : decode cX12_with 150 = .ok (.iload 4, 2) := by decide +kernel
theorem dX12_with_152 : decode cX12_with 152 = .ok (.invokevirtual 230, 3) := by decide +kernel
theorem dX12_with_155 : decode cX12_with 155 = .ok (.isub, 1) := by decide +kernel
theorem dX12_with_156 : decode cX12_with 156 = .ok (.invokestatic 202, 3) := by decide +kernel
theorem dX12_with_159 : decode cX12_with 159 = .ok (.iaload, 1) := by decide +kernel
theorem dX12_with_160 : decode cX12_with 160 = .ok (.ifCond .lt 7, 3) := by decide +kernel
theorem dX12_with_163 : decode cX12_with 163 = .ok (.iconst 1, 1) := by decide +kernel
theorem dX12_with_164 : decode cX12_with 164 = .ok (.goto 4, 3) := by decide +kernel
theorem dX12_with_167 : decode cX12_with 167 = .ok (.iconst 0, 1) := by decide +kernel
theorem dX12_with_168 : decode cX12_with 168 = .ok (.iadd, 1) := by decide +kernel
theorem dX12_with_169 : decode cX12_with 169 = .ok (.istore 5, 2) := by decide +kernel
theorem dX12_with_171 : decode cX12_with 171 = .ok (.iinc 6 1, 3) := by decide +kernel
theorem dX12_with_174 : decode cX12_with 174 = .ok (.goto (-96), 3) := by decide +kernel
theorem dX12_with_177 : decode cX12_with 177 = .ok (.iload 5, 2) := by decide +kernel
theorem dX12_with_179 : decode cX12_with 179 = .ok (.ireturn, 1) := by decide +kernel
theorem dX12_doesMeet_0 : decode cX12_doesMeet 0 = .ok (.iload 5, 2) := by decide +kernel
theorem dX12_doesMeet_2 : decode cX12_doesMeet 2 = .ok (.iload 4, 2) := by decide +kernel
theorem dX12_doesMeet_4 : decode cX12_doesMeet 4 = .ok (.iadd, 1) := by decide +kernel
theorem dX12_doesMeet_5 : decode cX12_doesMeet 5 = .ok (.aload_n 0, 1) := by decide +kernel
theorem dX12_doesMeet_6 : decode cX12_doesMeet 6 = .ok (.iload_n 1, 1) := by decide +kernel
theorem dX12_doesMeet_7 : decode cX12_doesMeet 7 = .ok (.iload_n 2, 1) := by decide +kernel
theorem dX12_doesMeet_8 : decode cX12_doesMeet 8 = .ok (.invokevirtual 227, 3) := by decide +kernel
theorem dX12_doesMeet_11 : decode cX12_doesMeet 11 = .ok (.if_icmp .gt 7, 3) := by decide +kernel
theorem dX12_doesMeet_14 : decode cX12_doesMeet 14 = .ok (.iconst 1, 1) := by decide +kernel
theorem dX12_doesMeet_15 : decode cX12_doesMeet 15 = .ok (.goto 4, 3) := by decide +kernel
theorem dX12_doesMeet_18 : decode cX12_doesMeet 18 = .ok (.iconst 0, 1) := by decide +kernel
theorem dX12_doesMeet_19 : decode cX12_doesMeet 19 = .ok (.istore 6, 2) := by decide +kernel
theorem dX12_doesMeet_21 : decode cX12_doesMeet 21 = .ok (.iconst 0, 1) := by decide +kernel
theorem dX12_doesMeet_22 : decode cX12_doesMeet 22 = .ok (.istore 7, 2) := by decide +kernel
theorem dX12_doesMeet_24 : decode cX12_doesMeet 24 = .ok (.iload 7, 2) := by decide +kernel
theorem dX12_doesMeet_26 : decode cX12_doesMeet 26 = .ok (.iload 4, 2) := by decide +kernel
theorem dX12_doesMeet_28 : decode cX12_doesMeet 28 = .ok (.if_icmp .ge 58, 3) := by decide +kernel
theorem dX12_doesMeet_31 : decode cX12_doesMeet 31 = .ok (.iload 6, 2) := by decide +kernel
theorem dX12_doesMeet_33 : decode cX12_doesMeet 33 = .ok (.ifCond .eq 53, 3) := by decide +kernel
theorem dX12_doesMeet_36 : decode cX12_doesMeet 36 = .ok (.aload_n 0, 1) := by decide +kernel
theorem dX12_doesMeet_37 : decode cX12_doesMeet 37 = .ok (.getfield 16, 3) := by decide +kernel
theorem dX12_doesMeet_40 : decode cX12_doesMeet 40 = .ok (.aload_n 0, 1) := by decide +kernel
theorem dX12_doesMeet_41 : decode cX12_doesMeet 41 = .ok (.getfield 7, 3) := by decide +kernel
theorem dX12_doesMeet_44 : decode cX12_doesMeet 44 = .ok (.aload_n 0, 1) := by decide +kernel
theorem dX12_doesMeet_45 : decode cX12_doesMeet 45 = .ok (.getfield 70, 3) := by decide +kernel
theorem dX12_doesMeet_48 : decode cX12_doesMeet 48 = .ok (.iload_n 3, 1) := by decide +kernel
theorem dX12_doesMeet_49 : decode cX12_doesMeet 49 = .ok (.iload 7, 2) := by decide +kernel
theorem dX12_doesMeet_51 : decode cX12_doesMeet 51 = .ok (.iadd, 1) := by decide +kernel
theorem dX12_doesMeet_52 : decode cX12_doesMeet 52 = .ok (.iaload, 1) := by decide +kernel
theorem dX12_doesMeet_53 : decode cX12_doesMeet 53 = .ok (.iaload, 1) := by decide +kernel
theorem dX12_doesMeet_54 : decode cX12_doesMeet 54 = .ok (.aload_n 0, 1) := by decide +kernel
theorem dX12_doesMeet_55 : decode cX12_doesMeet 55 = .ok (.iload_n 1, 1) := by decide +kernel
theorem dX12_doesMeet_56 : decode cX12_doesMeet 56 = .ok (.iload_n 2, 1) := by decide +kernel
theorem dX12_doesMeet_57 : decode cX12_doesMeet 57 = .ok (.iload 5, 2) := by decide +kernel
theorem dX12_doesMeet_59 : decode cX12_doesMeet 59 = .ok (.iload 7, 2) := by decide +kernel
theorem dX12_doesMeet_61 : decode cX12_doesMeet 61 = .ok (.iadd, 1) := by decide +kernel
theorem dX12_doesMeet_62 : decode cX12_doesMeet 62 = .ok (.invokevirtual 230, 3) := by decide +kernel
theorem dX12_doesMeet_65 : decode cX12_doesMeet 65 = .ok (.isub, 1) := by decide +kernel
theorem dX12_doesMeet_66 : decode cX12_doesMeet 66 = .ok (.invokestatic 202, 3) := by decide +kernel
theorem dX12_doesMeet_69 : decode cX12_doesMeet 69 = .ok (.iaload, 1) := by decide +kernel
theorem dX12_doesMeet_70 : decode cX12_doesMeet 70 = .ok (.ifCond .lt 7, 3) := by decide +kernel
theorem dX12_doesMeet_73 : decode cX12_doesMeet 73 = .ok (.iconst 1, 1) := by decide +kernel
theorem dX12_doesMeet_74 : decode cX12_doesMeet 74 = .ok (.goto 4, 3) := by decide +kernel
theorem dX12_doesMeet_77 : decode cX12_doesMeet 77 = .ok (.iconst 0, 1) := by decide +kernel
theorem dX12_doesMeet_78 : decode cX12_doesMeet 78 = .ok (.istore 6, 2) := by decide +kernel
theorem dX12_doesMeet_80 : decode cX12_doesMeet 80 = .ok (.iinc 7 1, 3) := by decide +kernel
theorem dX12_doesMeet_83 : decode cX12_doesMeet 83 = .ok (.goto (-59), 3) := by decide +kernel
theorem dX12_doesMeet_86 : decode cX12_doesMeet 86 = .ok (.iload 6, 2) := by decide +kernel
theorem dX12_doesMeet_88 : decode cX12_doesMeet 88 = .ok (.ireturn, 1) := by decide +kernel
theorem dX12_crib_0 : decode cX12_crib 0 = .ok (.aload_n 0, 1) := by decide +kernel
theorem dX12_crib_1 : decode cX12_crib 1 = .ok (.iload_n 1, 1) := by decide +kernel
theorem dX12_crib_2 : decode cX12_crib 2 = .ok (.invokevirtual 205, 3) := by decide +kernel
theorem dX12_crib_5 : decode cX12_crib 5 = .ok (.ifCond .ne 19, 3) := by decide +kernel
theorem dX12_crib_8 : decode cX12_crib 8 = .ok (.aload_n 0, 1) := by decide +kernel
theorem dX12_crib_9 : decode cX12_crib 9 = .ok (.iload_n 2, 1) := by decide +kernel
theorem dX12_crib_10 : decode cX12_crib 10 = .ok (.invokevirtual 205, 3) := by decide +kernel
theorem dX12_crib_13 : decode cX12_crib 13 = .ok (.ifCond .ne 11, 3) := by decide +kernel
theorem dX12_crib_16 : decode cX12_crib 16 = .ok (.iload 4, 2) := by decide +kernel
theorem dX12_crib_18 : decode cX12_crib 18 = .ok (.invokestatic 135, 3) := by decide +kernel
theorem dX12_crib_21 : decode cX12_crib 21 = .ok (.ifCond .eq 9, 3) := by decide +kernel
theorem dX12_crib_24 : decode cX12_crib 24 = .ok (.aload_n 0, 1) := by decide +kernel
theorem dX12_crib_25 : decode cX12_crib 25 = .ok (.iconst (-1), 1) := by decide +kernel
theorem dX12_crib_26 : decode cX12_crib 26 = .ok (.invokevirtual 98, 3) := by decide +kernel
theorem dX12_crib_29 : decode cX12_crib 29 = .ok (.ireturn, 1) := by decide +kernel
theorem dX12_crib_30 : decode cX12_crib 30 = .ok (.iload_n 1, 1) := by decide +kernel
theorem dX12_crib_31 : decode cX12_crib 31 = .ok (.iload_n 2, 1) := by decide +kernel
theorem dX12_crib_32 : decode cX12_crib 32 = .ok (.if_icmp .eq 13, 3) := by decide +kernel
theorem dX12_crib_35 : decode cX12_crib 35 = .ok (.iload_n 3, 1) := by decide +kernel
theorem dX12_crib_36 : decode cX12_crib 36 = .ok (.i2l, 1) := by decide +kernel
theorem dX12_crib_37 : decode cX12_crib 37 = .ok (.lconst 0, 1) := by decide +kernel
theorem dX12_crib_38 : decode cX12_crib 38 = .ok (.lconst 1, 1) := by decide +kernel
theorem dX12_crib_39 : decode cX12_crib 39 = .ok (.invokestatic 94, 3) := by decide +kernel
theorem dX12_crib_42 : decode cX12_crib 42 = .ok (.ifCond .ne 10, 3) := by decide +kernel
theorem dX12_crib_45 : decode cX12_crib 45 = .ok (.aload_n 0, 1) := by decide +kernel
theorem dX12_crib_46 : decode cX12_crib 46 = .ok (.bipush (-2), 2) := by decide +kernel
theorem dX12_crib_48 : decode cX12_crib 48 = .ok (.invokevirtual 98, 3) := by decide +kernel
theorem dX12_crib_51 : decode cX12_crib 51 = .ok (.ireturn, 1) := by decide +kernel
theorem dX12_crib_52 : decode cX12_crib 52 = .ok (.aload_n 0, 1) := by decide +kernel
theorem dX12_crib_53 : decode cX12_crib 53 = .ok (.iload 4, 2) := by decide +kernel
theorem dX12_crib_55 : decode cX12_crib 55 = .ok (.iload 5, 2) := by decide +kernel
theorem dX12_crib_57 : decode cX12_crib 57 = .ok (.iload 6, 2) := by decide +kernel
theorem dX12_crib_59 : decode cX12_crib 59 = .ok (.iload 7, 2) := by decide +kernel
theorem dX12_crib_61 : decode cX12_crib 61 = .ok (.i2l, 1) := by decide +kernel
theorem dX12_crib_62 : decode cX12_crib 62 = .ok (.invokevirtual 138, 3) := by decide +kernel
theorem dX12_crib_65 : decode cX12_crib 65 = .ok (.istore 8, 2) := by decide +kernel
theorem dX12_crib_67 : decode cX12_crib 67 = .ok (.iload 8, 2) := by decide +kernel
theorem dX12_crib_69 : decode cX12_crib 69 = .ok (.ifCond .ge 6, 3) := by decide +kernel
theorem dX12_crib_72 : decode cX12_crib 72 = .ok (.iload 8, 2) := by decide +kernel
theorem dX12_crib_74 : decode cX12_crib 74 = .ok (.ireturn, 1) := by decide +kernel
theorem dX12_crib_75 : decode cX12_crib 75 = .ok (.iload 7, 2) := by decide +kernel
theorem dX12_crib_77 : decode cX12_crib 77 = .ok (.i2l, 1) := by decide +kernel
theorem dX12_crib_78 : decode cX12_crib 78 = .ok (.lconst 1, 1) := by decide +kernel
theorem dX12_crib_79 : decode cX12_crib 79 = .ok (.ldc2_w 126, 3) := by decide +kernel
theorem dX12_crib_82 : decode cX12_crib 82 = .ok (.invokestatic 94, 3) := by decide +kernel
theorem dX12_crib_85 : decode cX12_crib 85 = .ok (.ifCond .ne 10, 3) := by decide +kernel
theorem dX12_crib_88 : decode cX12_crib 88 = .ok (.aload_n 0, 1) := by decide +kernel
theorem dX12_crib_89 : decode cX12_crib 89 = .ok (.bipush (-2), 2) := by decide +kernel
theorem dX12_crib_91 : decode cX12_crib 91 = .ok (.invokevirtual 98, 3) := by decide +kernel
theorem dX12_crib_94 : decode cX12_crib 94 = .ok (.ireturn, 1) := by decide +kernel
theorem dX12_crib_95 : decode cX12_crib 95 = .ok (.bipush 60, 2) := by decide +kernel
theorem dX12_crib_97 : decode cX12_crib 97 = .ok (.iload 4, 2) := by decide +kernel
theorem dX12_crib_99 : decode cX12_crib 99 = .ok (.imul, 1) := by decide +kernel
theorem dX12_crib_100 : decode cX12_crib 100 = .ok (.iload 6, 2) := by decide +kernel
theorem dX12_crib_102 : decode cX12_crib 102 = .ok (.iadd, 1) := by decide +kernel
theorem dX12_crib_103 : decode cX12_crib 103 = .ok (.istore 9, 2) := by decide +kernel
theorem dX12_crib_105 : decode cX12_crib 105 = .ok (.aload_n 0, 1) := by decide +kernel
theorem dX12_crib_106 : decode cX12_crib 106 = .ok (.iload 9, 2) := by decide +kernel
theorem dX12_crib_108 : decode cX12_crib 108 = .ok (.iload 7, 2) := by decide +kernel
theorem dX12_crib_110 : decode cX12_crib 110 = .ok (.invokevirtual 195, 3) := by decide +kernel
theorem dX12_crib_113 : decode cX12_crib 113 = .ok (.ifCond .ne 9, 3) := by decide +kernel
theorem dX12_crib_116 : decode cX12_crib 116 = .ok (.aload_n 0, 1) := by decide +kernel
theorem dX12_crib_117 : decode cX12_crib 117 = .ok (.iconst (-1), 1) := by decide +kernel
theorem dX12_crib_118 : decode cX12_crib 118 = .ok (.invokevirtual 98, 3) := by decide +kernel
theorem dX12_crib_121 : decode cX12_crib 121 = .ok (.ireturn, 1) := by decide +kernel
theorem dX12_crib_122 : decode cX12_crib 122 = .ok (.iconst 0, 1) := by decide +kernel
theorem dX12_crib_123 : decode cX12_crib 123 = .ok (.istore 10, 2) := by decide +kernel
theorem dX12_crib_125 : decode cX12_crib 125 = .ok (.bipush (-9), 2) := by decide +kernel
theorem dX12_crib_127 : decode cX12_crib 127 = .ok (.istore 11, 2) := by decide +kernel
theorem dX12_crib_129 : decode cX12_crib 129 = .ok (.bipush 7, 2) := by decide +kernel
theorem dX12_crib_131 : decode cX12_crib 131 = .ok (.istore 12, 2) := by decide +kernel
theorem dX12_crib_133 : decode cX12_crib 133 = .ok (.iload 12, 2) := by decide +kernel
theorem dX12_crib_135 : decode cX12_crib 135 = .ok (.ifCond .lt 31, 3) := by decide +kernel
theorem dX12_crib_138 : decode cX12_crib 138 = .ok (.aload_n 0, 1) := by decide +kernel
theorem dX12_crib_139 : decode cX12_crib 139 = .ok (.iload_n 1, 1) := by decide +kernel
theorem dX12_crib_140 : decode cX12_crib 140 = .ok (.iload_n 2, 1) := by decide +kernel
theorem dX12_crib_141 : decode cX12_crib 141 = .ok (.iload 9, 2) := by decide +kernel
theorem dX12_crib_143 : decode cX12_crib 143 = .ok (.iload 7, 2) := by decide +kernel
theorem dX12_crib_145 : decode cX12_crib 145 = .ok (.iload 12, 2) := by decide +kernel
theorem dX12_crib_147 : decode cX12_crib 147 = .ok (.invokevirtual 263, 3) := by decide +kernel
theorem dX12_crib_150 : decode cX12_crib 150 = .ok (.ifCond .eq 10, 3) := by decide +kernel
theorem dX12_crib_153 : decode cX12_crib 153 = .ok (.iinc 10 1, 3) := by decide +kernel
theorem dX12_crib_156 : decode cX12_crib 156 = .ok (.iload 12, 2) := by decide +kernel
theorem dX12_crib_158 : decode cX12_crib 158 = .ok (.istore 11, 2) := by decide +kernel
theorem dX12_crib_160 : decode cX12_crib 160 = .ok (.iinc 12 (-1), 3) := by decide +kernel
theorem dX12_crib_163 : decode cX12_crib 163 = .ok (.goto (-30), 3) := by decide +kernel
theorem dX12_crib_166 : decode cX12_crib 166 = .ok (.aload_n 0, 1) := by decide +kernel
theorem dX12_crib_167 : decode cX12_crib 167 = .ok (.iload_n 3, 1) := by decide +kernel
theorem dX12_crib_168 : decode cX12_crib 168 = .ok (.ifCond .ne 8, 3) := by decide +kernel
theorem dX12_crib_171 : decode cX12_crib 171 = .ok (.iload 10, 2) := by decide +kernel
theorem dX12_crib_173 : decode cX12_crib 173 = .ok (.goto 5, 3) := by decide +kernel
theorem dX12_crib_176 : decode cX12_crib 176 = .ok (.iload 11, 2) := by decide +kernel
theorem dX12_crib_178 : decode cX12_crib 178 = .ok (.invokevirtual 98, 3) := by decide +kernel
theorem dX12_crib_181 : decode cX12_crib 181 = .ok (.ireturn, 1) := by decide +kernel
theorem dX12_open_0 : decode cX12_open 0 = .ok (.aload_n 0, 1) := by decide +kernel
theorem dX12_open_1 : decode cX12_open 1 = .ok (.iload_n 1, 1) := by decide +kernel
theorem dX12_open_2 : decode cX12_open 2 = .ok (.invokevirtual 192, 3) := by decide +kernel
theorem dX12_open_5 : decode cX12_open 5 = .ok (.ifCond .ne 6, 3) := by decide +kernel
theorem dX12_open_8 : decode cX12_open 8 = .ok (.bipush (-2), 2) := by decide +kernel
theorem dX12_open_10 : decode cX12_open 10 = .ok (.ireturn, 1) := by decide +kernel
