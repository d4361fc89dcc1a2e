theorem dX11_drill_1 : decode cX11_drill 1 = .ok (.iconst 0, 1) := by decide +kernel
theorem dX11_drill_2 : decode cX11_drill 2 = .ok (.putfield 79, 3) := by decide +kernel
theorem dX11_drill_5 : decode cX11_drill 5 = .ok (.aload_n 0, 1) := by decide +kernel
theorem dX11_drill_6 : decode cX11_drill 6 = .ok (.iload_n 1, 1) := by decide +kernel
theorem dX11_drill_7 : decode cX11_drill 7 = .ok (.invokevirtual 83, 3) := by decide +kernel
theorem dX11_drill_10 : decode cX11_drill 10 = .ok (.astore 5, 2) := by decide +kernel
theorem dX11_drill_12 : decode cX11_drill 12 = .ok (.aload 5, 2) := by decide +kernel
theorem dX11_drill_14 : decode cX11_drill 14 = .ok (.ifnonnull 5, 3) := by decide +kernel
theorem dX11_drill_17 : decode cX11_drill 17 = .ok (.iconst (-1), 1) := by decide +kernel
theorem dX11_drill_18 : decode cX11_drill 18 = .ok (.ireturn, 1) := by decide +kernel
theorem dX11_drill_19 : decode cX11_drill 19 = .ok (.iload_n 2, 1) := by decide +kernel
theorem dX11_drill_20 : decode cX11_drill 20 = .ok (.iconst 3, 1) := by decide +kernel
theorem dX11_drill_21 : decode cX11_drill 21 = .ok (.invokestatic 58, 3) := by decide +kernel
theorem dX11_drill_24 : decode cX11_drill 24 = .ok (.ifCond .ne 6, 3) := by decide +kernel
theorem dX11_drill_27 : decode cX11_drill 27 = .ok (.bipush (-2), 2) := by decide +kernel
theorem dX11_drill_29 : decode cX11_drill 29 = .ok (.ireturn, 1) := by decide +kernel
theorem dX11_drill_30 : decode cX11_drill 30 = .ok (.aload 5, 2) := by decide +kernel
theorem dX11_drill_32 : decode cX11_drill 32 = .ok (.iload_n 2, 1) := by decide +kernel
theorem dX11_drill_33 : decode cX11_drill 33 = .ok (.iload_n 3, 1) := by decide +kernel
theorem dX11_drill_34 : decode cX11_drill 34 = .ok (.iload 4, 2) := by decide +kernel
theorem dX11_drill_36 : decode cX11_drill 36 = .ok (.invokevirtual 87, 3) := by decide +kernel
theorem dX11_drill_39 : decode cX11_drill 39 = .ok (.istore 6, 2) := by decide +kernel
theorem dX11_drill_41 : decode cX11_drill 41 = .ok (.iload 6, 2) := by decide +kernel
theorem dX11_drill_43 : decode cX11_drill 43 = .ok (.ifCond .eq 10, 3) := by decide +kernel
theorem dX11_drill_46 : decode cX11_drill 46 = .ok (.aload_n 0, 1) := by decide +kernel
theorem dX11_drill_47 : decode cX11_drill 47 = .ok (.iload 6, 2) := by decide +kernel
theorem dX11_drill_49 : decode cX11_drill 49 = .ok (.invokevirtual 91, 3) := by decide +kernel
theorem dX11_drill_52 : decode cX11_drill 52 = .ok (.ireturn, 1) := by decide +kernel
theorem dX11_drill_53 : decode cX11_drill 53 = .ok (.new 94, 3) := by decide +kernel
theorem dX11_drill_56 : decode cX11_drill 56 = .ok (.dup, 1) := by decide +kernel
theorem dX11_drill_57 : decode cX11_drill 57 = .ok (.aload 5, 2) := by decide +kernel
theorem dX11_drill_59 : decode cX11_drill 59 = .ok (.iload_n 3, 1) := by decide +kernel
theorem dX11_drill_60 : decode cX11_drill 60 = .ok (.iload 4, 2) := by decide +kernel
theorem dX11_drill_62 : decode cX11_drill 62 = .ok (.invokespecial 96, 3) := by decide +kernel
theorem dX11_drill_65 : decode cX11_drill 65 = .ok (.astore 7, 2) := by decide +kernel
theorem dX11_drill_67 : decode cX11_drill 67 = .ok (.aload 7, 2) := by decide +kernel
theorem dX11_drill_69 : decode cX11_drill 69 = .ok (.invokevirtual 99, 3) := by decide +kernel
theorem dX11_drill_72 : decode cX11_drill 72 = .ok (.istore 8, 2) := by decide +kernel
theorem dX11_drill_74 : decode cX11_drill 74 = .ok (.iload 8, 2) := by decide +kernel
theorem dX11_drill_76 : decode cX11_drill 76 = .ok (.ifCond .lt 12, 3) := by decide +kernel
theorem dX11_drill_79 : decode cX11_drill 79 = .ok (.aload_n 0, 1) := by decide +kernel
theorem dX11_drill_80 : decode cX11_drill 80 = .ok (.aload 7, 2) := by decide +kernel
theorem dX11_drill_82 : decode cX11_drill 82 = .ok (.invokevirtual 103, 3) := by decide +kernel
theorem dX11_drill_85 : decode cX11_drill 85 = .ok (.putfield 53, 3) := by decide +kernel
theorem dX11_drill_88 : decode cX11_drill 88 = .ok (.iload 8, 2) := by decide +kernel
theorem dX11_drill_90 : decode cX11_drill 90 = .ok (.ireturn, 1) := by decide +kernel
theorem dX11_ofDrill_0 : decode cX11_ofDrill 0 = .ok (.iload_n 1, 1) := by decide +kernel
theorem dX11_ofDrill_1 : decode cX11_ofDrill 1 = .ok (.tableswitch 69 0 3 #[31, 39, 47, 58], 31) := by decide +kernel
theorem dX11_ofDrill_32 : decode cX11_ofDrill 32 = .ok (.aload_n 0, 1) := by decide +kernel
theorem dX11_ofDrill_33 : decode cX11_ofDrill 33 = .ok (.getfield 53, 3) := by decide +kernel
theorem dX11_ofDrill_36 : decode cX11_ofDrill 36 = .ok (.invokevirtual 107, 3) := by decide +kernel
theorem dX11_ofDrill_39 : decode cX11_ofDrill 39 = .ok (.ireturn, 1) := by decide +kernel
theorem dX11_ofDrill_40 : decode cX11_ofDrill 40 = .ok (.aload_n 0, 1) := by decide +kernel
theorem dX11_ofDrill_41 : decode cX11_ofDrill 41 = .ok (.getfield 53, 3) := by decide +kernel
theorem dX11_ofDrill_44 : decode cX11_ofDrill 44 = .ok (.invokevirtual 110, 3) := by decide +kernel
theorem dX11_ofDrill_47 : decode cX11_ofDrill 47 = .ok (.ireturn, 1) := by decide +kernel
theorem dX11_ofDrill_48 : decode cX11_ofDrill 48 = .ok (.aload_n 0, 1) := by decide +kernel
theorem dX11_ofDrill_49 : decode cX11_ofDrill 49 = .ok (.getfield 53, 3) := by decide +kernel
theorem dX11_ofDrill_52 : decode cX11_ofDrill 52 = .ok (.invokevirtual 113, 3) := by decide +kernel
theorem dX11_ofDrill_55 : decode cX11_ofDrill 55 = .ok (.invokestatic 117, 3) := by decide +kernel
theorem dX11_ofDrill_58 : decode cX11_ofDrill 58 = .ok (.ireturn, 1) := by decide +kernel
theorem dX11_ofDrill_59 : decode cX11_ofDrill 59 = .ok (.aload_n 0, 1) := by decide +kernel
theorem dX11_ofDrill_60 : decode cX11_ofDrill 60 = .ok (.getfield 53, 3) := by decide +kernel
theorem dX11_ofDrill_63 : decode cX11_ofDrill 63 = .ok (.invokevirtual 121, 3) := by decide +kernel
theorem dX11_ofDrill_66 : decode cX11_ofDrill 66 = .ok (.invokestatic 117, 3) := by decide +kernel
theorem dX11_ofDrill_69 : decode cX11_ofDrill 69 = .ok (.ireturn, 1) := by decide +kernel
theorem dX11_ofDrill_70 : decode cX11_ofDrill 70 = .ok (.bipush (-2), 2) := by decide +kernel
theorem dX11_ofDrill_72 : decode cX11_ofDrill 72 = .ok (.ireturn, 1) := by decide +kernel
theorem dX11_page_0 : decode cX11_page 0 = .ok (.aload_n 0, 1) := by decide +kernel
theorem dX11_page_1 : decode cX11_page 1 = .ok (.iconst 0, 1) := by decide +kernel
theorem dX11_page_2 : decode cX11_page 2 = .ok (.putfield 79, 3) := by decide +kernel
theorem dX11_page_5 : decode cX11_page 5 = .ok (.aload_n 0, 1) := by decide +kernel
theorem dX11_page_6 : decode cX11_page 6 = .ok (.iload_n 3, 1) := by decide +kernel
theorem dX11_page_7 : decode cX11_page 7 = .ok (.invokevirtual 83, 3) := by decide +kernel
theorem dX11_page_10 : decode cX11_page 10 = .ok (.astore 7, 2) := by decide +kernel
theorem dX11_page_12 : decode cX11_page 12 = .ok (.aload 7, 2) := by decide +kernel
theorem dX11_page_14 : decode cX11_page 14 = .ok (.ifnull 12, 3) := by decide +kernel
theorem dX11_page_17 : decode cX11_page 17 = .ok (.iload_n 2, 1) := by decide +kernel
theorem dX11_page_18 : decode cX11_page 18 = .ok (.bipush 6, 2) := by decide +kernel
theorem dX11_page_20 : decode cX11_page 20 = .ok (.invokestatic 58, 3) := by decide +kernel
theorem dX11_page_23 : decode cX11_page 23 = .ok (.ifCond .ne 5, 3) := by decide +kernel
theorem dX11_page_26 : decode cX11_page 26 = .ok (.iconst (-1), 1) := by decide +kernel
theorem dX11_page_27 : decode cX11_page 27 = .ok (.ireturn, 1) := by decide +kernel
theorem dX11_page_28 : decode cX11_page 28 = .ok (.iload_n 1, 1) := by decide +kernel
theorem dX11_page_29 : decode cX11_page 29 = .ok (.iconst 3, 1) := by decide +kernel
theorem dX11_page_30 : decode cX11_page 30 = .ok (.invokestatic 58, 3) := by decide +kernel
theorem dX11_page_33 : decode cX11_page 33 = .ok (.ifCond .eq 12, 3) := by decide +kernel
theorem dX11_page_36 : decode cX11_page 36 = .ok (.iload 4, 2) := by decide +kernel
theorem dX11_page_38 : decode cX11_page 38 = .ok (.iconst 3, 1) := by decide +kernel
theorem dX11_page_39 : decode cX11_page 39 = .ok (.invokestatic 58, 3) := by decide +kernel
theorem dX11_page_42 : decode cX11_page 42 = .ok (.ifCond .ne 6, 3) := by decide +kernel
theorem dX11_page_45 : decode cX11_page 45 = .ok (.bipush (-2), 2) := by decide +kernel
theorem dX11_page_47 : decode cX11_page 47 = .ok (.ireturn, 1) := by decide +kernel
theorem dX11_page_48 : decode cX11_page 48 = .ok (.aload 7, 2) := by decide +kernel
theorem dX11_page_50 : decode cX11_page 50 = .ok (.iload 4, 2) := by decide +kernel
theorem dX11_page_52 : decode cX11_page 52 = .ok (.iload 5, 2) := by decide +kernel
theorem dX11_page_54 : decode cX11_page 54 = .ok (.iload 6, 2) := by decide +kernel
theorem dX11_page_56 : decode cX11_page 56 = .ok (.invokevirtual 87, 3) := by decide +kernel
theorem dX11_page_59 : decode cX11_page 59 = .ok (.istore 8, 2) := by decide +kernel
theorem dX11_page_61 : decode cX11_page 61 = .ok (.iload 8, 2) := by decide +kernel
theorem dX11_page_63 : decode cX11_page 63 = .ok (.ifCond .eq 10, 3) := by decide +kernel
theorem dX11_page_66 : decode cX11_page 66 = .ok (.aload_n 0, 1) := by decide +kernel
theorem dX11_page_67 : decode cX11_page 67 = .ok (.iload 8, 2) := by decide +kernel
theorem dX11_page_69 : decode cX11_page 69 = .ok (.invokevirtual 91, 3) := by decide +kernel
theorem dX11_page_72 : decode cX11_page 72 = .ok (.ireturn, 1) := by decide +kernel
theorem dX11_page_73 : decode cX11_page 73 = .ok (.iload 6, 2) := by decide +kernel
theorem dX11_page_75 : decode cX11_page 75 = .ok (.iconst 1, 1) := by decide +kernel
theorem dX11_page_76 : decode cX11_page 76 = .ok (.if_icmp .lt 22, 3) := by decide +kernel
theorem dX11_page_79 : decode cX11_page 79 = .ok (.iload 6, 2) := by decide +kernel
theorem dX11_page_81 : decode cX11_page 81 = .ok (.bipush 12, 2) := by decide +kernel
theorem dX11_page_83 : decode cX11_page 83 = .ok (.if_icmp .gt 15, 3) := by decide +kernel
theorem dX11_page_86 : decode cX11_page 86 = .ok (.aload 7, 2) := by decide +kernel
theorem dX11_page_88 : decode cX11_page 88 = .ok (.iload 5, 2) := by decide +kernel
theorem dX11_page_90 : decode cX11_page 90 = .ok (.iload 6, 2) := by decide +kernel
theorem dX11_page_92 : decode cX11_page 92 = .ok (.invokevirtual 124, 3) := by decide +kernel
theorem dX11_page_95 : decode cX11_page 95 = .ok (.ifCond .ne 6, 3) := by decide +kernel
theorem dX11_page_98 : decode cX11_page 98 = .ok (.bipush (-2), 2) := by decide +kernel
theorem dX11_page_100 : decode cX11_page 100 = .ok (.ireturn, 1) := by decide +kernel
theorem dX11_page_101 : decode cX11_page 101 = .ok (.aload_n 0, 1) := by decide +kernel
theorem dX11_page_102 : decode cX11_page 102 = .ok (.getfield 127, 3) := by decide +kernel
theorem dX11_page_105 : decode cX11_page 105 = .ok (.bipush 24, 2) := by decide +kernel
theorem dX11_page_107 : decode cX11_page 107 = .ok (.invokestatic 58, 3) := by decide +kernel
theorem dX11_page_110 : decode cX11_page 110 = .ok (.ifCond .ne 6, 3) := by decide +kernel
theorem dX11_page_113 : decode cX11_page 113 = .ok (.bipush (-4), 2) := by decide +kernel
theorem dX11_page_115 : decode cX11_page 115 = .ok (.ireturn, 1) := by decide +kernel
theorem dX11_page_116 : decode cX11_page 116 = .ok (.aload_n 0, 1) := by decide +kernel
theorem dX11_page_117 : decode cX11_page 117 = .ok (.getfield 127, 3) := by decide +kernel
theorem dX11_page_120 : decode cX11_page 120 = .ok (.istore 9, 2) := by decide +kernel
theorem dX11_page_122 : decode cX11_page 122 = .ok (.aload_n 0, 1) := by decide +kernel
theorem dX11_page_123 : decode cX11_page 123 = .ok (.getfield 34, 3) := by decide +kernel
theorem dX11_page_126 : decode cX11_page 126 = .ok (.iload 9, 2) := by decide +kernel
theorem dX11_page_128 : decode cX11_page 128 = .ok (.iload_n 1, 1) := by decide +kernel
theorem dX11_page_129 : decode cX11_page 129 = .ok (.iload 9, 2) := by decide +kernel
theorem dX11_page_131 : decode cX11_page 131 = .ok (.iload_n 2, 1) := by decide +kernel
theorem dX11_page_132 : decode cX11_page 132 = .ok (.aload 7, 2) := by decide +kernel
theorem dX11_page_134 : decode cX11_page 134 = .ok (.iload 5, 2) := by decide +kernel
theorem dX11_page_136 : decode cX11_page 136 = .ok (.iload 6, 2) := by decide +kernel
theorem dX11_page_138 : decode cX11_page 138 = .ok (.invokevirtual 130, 3) := by decide +kernel
theorem dX11_page_141 : decode cX11_page 141 = .ok (.invokestatic 134, 3) := by decide +kernel
theorem dX11_page_144 : decode cX11_page 144 = .ok (.aastore, 1) := by decide +kernel
theorem dX11_page_145 : decode cX11_page 145 = .ok (.aload_n 0, 1) := by decide +kernel
theorem dX11_page_146 : decode cX11_page 146 = .ok (.dup, 1) := by decide +kernel
theorem dX11_page_147 : decode cX11_page 147 = .ok (.getfield 127, 3) := by decide +kernel
theorem dX11_page_150 : decode cX11_page 150 = .ok (.iconst 1, 1) := by decide +kernel
theorem dX11_page_151 : decode cX11_page 151 = .ok (.iadd, 1) := by decide +kernel
theorem dX11_page_152 : decode cX11_page 152 = .ok (.putfield 127, 3) := by decide +kernel
theorem dX11_page_155 : decode cX11_page 155 = .ok (.iload 9, 2) := by decide +kernel
theorem dX11_page_157 : decode cX11_page 157 = .ok (.ireturn, 1) := by decide +kernel
theorem dX11_ofPage_0 : decode cX11_ofPage 0 = .ok (.aload_n 0, 1) := by decide +kernel
theorem dX11_ofPage_1 : decode cX11_ofPage 1 = .ok (.iload_n 1, 1) := by decide +kernel
theorem dX11_ofPage_2 : decode cX11_ofPage 2 = .ok (.invokevirtual 138, 3) := by decide +kernel
theorem dX11_ofPage_5 : decode cX11_ofPage 5 = .ok (.astore_n 3, 1) := by decide +kernel
theorem dX11_ofPage_6 : decode cX11_ofPage 6 = .ok (.aload_n 3, 1) := by decide +kernel
theorem dX11_ofPage_7 : decode cX11_ofPage 7 = .ok (.ifnonnull 5, 3) := by decide +kernel
theorem dX11_ofPage_10 : decode cX11_ofPage 10 = .ok (.iconst (-1), 1) := by decide +kernel
theorem dX11_ofPage_11 : decode cX11_ofPage 11 = .ok (.ireturn, 1) := by decide +kernel
theorem dX11_ofPage_12 : decode cX11_ofPage 12 = .ok (.iload_n 2, 1) := by decide +kernel
theorem dX11_ofPage_13 : decode cX11_ofPage 13 = .ok (.tableswitch 72 0 5 #[39, 44, 49, 54, 59, 67], 39) := by decide +kernel
theorem dX11_ofPage_52 : decode cX11_ofPage 52 = .ok (.aload_n 3, 1) := by decide +kernel
theorem dX11_ofPage_53 : decode cX11_ofPage 53 = .ok (.invokevirtual 142, 3) := by decide +kernel
theorem dX11_ofPage_56 : decode cX11_ofPage 56 = .ok (.ireturn, 1) := by decide +kernel
theorem dX11_ofPage_57 : decode cX11_ofPage 57 = .ok (.aload_n 3, 1) := by decide +kernel
theorem dX11_ofPage_58 : decode cX11_ofPage 58 = .ok (.getfield 145, 3) := by decide +kernel
theorem dX11_ofPage_61 : decode cX11_ofPage 61 = .ok (.ireturn, 1) := by decide +kernel
theorem dX11_ofPage_62 : decode cX11_ofPage 62 = .ok (.aload_n 3, 1) := by decide +kernel
theorem dX11_ofPage_63 : decode cX11_ofPage 63 = .ok (.invokevirtual 148, 3) := by decide +kernel
theorem dX11_ofPage_66 : decode cX11_ofPage 66 = .ok (.ireturn, 1) := by decide +kernel
theorem dX11_ofPage_67 : decode cX11_ofPage 67 = .ok (.aload_n 3, 1) := by decide +kernel
theorem dX11_ofPage_68 : decode cX11_ofPage 68 = .ok (.invokevirtual 151, 3) := by decide +kernel
theorem dX11_ofPage_71 : decode cX11_ofPage 71 = .ok (.ireturn, 1) := by decide +kernel
theorem dX11_ofPage_72 : decode cX11_ofPage 72 = .ok (.aload_n 3, 1) := by decide +kernel
theorem dX11_ofPage_73 : decode cX11_ofPage 73 = .ok (.invokevirtual 154, 3) := by decide +kernel
theorem dX11_ofPage_76 : decode cX11_ofPage 76 = .ok (.invokestatic 117, 3) := by decide +kernel
theorem dX11_ofPage_79 : decode cX11_ofPage 79 = .ok (.ireturn, 1) := by decide +kernel
theorem dX11_ofPage_80 : decode cX11_ofPage 80 = .ok (.aload_n 3, 1) := by decide +kernel
theorem dX11_ofPage_81 : decode cX11_ofPage 81 = .ok (.getfield 157, 3) := by decide +kernel
theorem dX11_ofPage_84 : decode cX11_ofPage 84 = .ok (.ireturn, 1) := by decide +kernel
theorem dX11_ofPage_85 : decode cX11_ofPage 85 = .ok (.iload_n 2, 1) := by decide +kernel
theorem dX11_ofPage_86 : decode cX11_ofPage 86 = .ok (.bipush 10, 2) := by decide +kernel
theorem dX11_ofPage_88 : decode cX11_ofPage 88 = .ok (.isub, 1) := by decide +kernel
theorem dX11_ofPage_89 : decode cX11_ofPage 89 = .ok (.aload_n 3, 1) := by decide +kernel
theorem dX11_ofPage_90 : decode cX11_ofPage 90 = .ok (.invokevirtual 148, 3) := by decide +kernel
theorem dX11_ofPage_93 : decode cX11_ofPage 93 = .ok (.invokestatic 58, 3) := by decide +kernel
theorem dX11_ofPage_96 : decode cX11_ofPage 96 = .ok (.ifCond .eq 14, 3) := by decide +kernel
theorem dX11_ofPage_99 : decode cX11_ofPage 99 = .ok (.aload_n 3, 1) := by decide +kernel
theorem dX11_ofPage_100 : decode cX11_ofPage 100 = .ok (.iload_n 2, 1) := by decide +kernel
theorem dX11_ofPage_101 : decode cX11_ofPage 101 = .ok (.bipush 10, 2) := by decide +kernel
theorem dX11_ofPage_103 : decode cX11_ofPage 103 = .ok (.isub, 1) := by decide +kernel
theorem dX11_ofPage_104 : decode cX11_ofPage 104 = .ok (.invokevirtual 159, 3) := by decide +kernel
theorem dX11_ofPage_107 : decode cX11_ofPage 107 = .ok (.goto 5, 3) := by decide +kernel
theorem dX11_ofPage_110 : decode cX11_ofPage 110 = .ok (.bipush (-2), 2) := by decide +kernel
theorem dX11_ofPage_112 : decode cX11_ofPage 112 = .ok (.ireturn, 1) := by decide +kernel
theorem dX11_letter_0 : decode cX11_letter 0 = .ok (.aload_n 0, 1) := by decide +kernel
theorem dX11_letter_1 : decode cX11_letter 1 = .ok (.iconst 0, 1) := by decide +kernel
theorem dX11_letter_2 : decode cX11_letter 2 = .ok (.putfield 79, 3) := by decide +kernel
theorem dX11_letter_5 : decode cX11_letter 5 = .ok (.aload_n 0, 1) := by decide +kernel
theorem dX11_letter_6 : decode cX11_letter 6 = .ok (.iload_n 1, 1) := by decide +kernel
theorem dX11_letter_7 : decode cX11_letter 7 = .ok (.invokevirtual 138, 3) := by decide +kernel
theorem dX11_letter_10 : decode cX11_letter 10 = .ok (.astore 7, 2) := by decide +kernel
theorem dX11_letter_12 : decode cX11_letter 12 = .ok (.aload_n 0, 1) := by decide +kernel
theorem dX11_letter_13 : decode cX11_letter 13 = .ok (.iload_n 3, 1) := by decide +kernel
theorem dX11_letter_14 : decode cX11_letter 14 = .ok (.invokevirtual 83, 3) := by decide +kernel
theorem dX11_letter_17 : decode cX11_letter 17 = .ok (.astore 8, 2) := by decide +kernel
theorem dX11_letter_19 : decode cX11_letter 19 = .ok (.aload 7, 2) := by decide +kernel
theorem dX11_letter_21 : decode cX11_letter 21 = .ok (.ifnull 8, 3) := by decide +kernel
theorem dX11_letter_24 : decode cX11_letter 24 = .ok (.aload 8, 2) := by decide +kernel
theorem dX11_letter_26 : decode cX11_letter 26 = .ok (.ifnonnull 5, 3) := by decide +kernel
theorem dX11_letter_29 : decode cX11_letter 29 = .ok (.iconst (-1), 1) := by decide +kernel
theorem dX11_letter_30 : decode cX11_letter 30 = .ok (.ireturn, 1) := by decide +kernel
theorem dX11_letter_31 : decode cX11_letter 31 = .ok (.iload_n 2, 1) := by decide +kernel
theorem dX11_letter_32 : decode cX11_letter 32 = .ok (.bipush 100, 2) := by decide +kernel
theorem dX11_letter_34 : decode cX11_letter 34 = .ok (.invokestatic 58, 3) := by decide +kernel
theorem dX11_letter_37 : decode cX11_letter 37 = .ok (.ifCond .eq 12, 3) := by decide +kernel
theorem dX11_letter_40 : decode cX11_letter 40 = .ok (.iload 4, 2) := by decide +kernel
theorem dX11_letter_42 : decode cX11_letter 42 = .ok (.iconst 3, 1) := by decide +kernel
theorem dX11_letter_43 : decode cX11_letter 43 = .ok (.invokestatic 58, 3) := by decide +kernel
theorem dX11_letter_46 : decode cX11_letter 46 = .ok (.ifCond .ne 6, 3) := by decide +kernel
theorem dX11_letter_49 : decode cX11_letter 49 = .ok (.bipush (-2), 2) := by decide +kernel
theorem dX11_letter_51 : decode cX11_letter 51 = .ok (.ireturn, 1) := by decide +kernel
theorem dX11_letter_52 : decode cX11_letter 52 = .ok (.aload 8, 2) := by decide +kernel
theorem dX11_letter_54 : decode cX11_letter 54 = .ok (.iload 4, 2) := by decide +kernel
theorem dX11_letter_56 : decode cX11_letter 56 = .ok (.iload 5, 2) := by decide +kernel
theorem dX11_letter_58 : decode cX11_letter 58 = .ok (.iload 6, 2) := by decide +kernel
theorem dX11_letter_60 : decode cX11_letter 60 = .ok (.invokevirtual 87, 3) := by decide +kernel
theorem dX11_letter_63 : decode cX11_letter 63 = .ok (.istore 9, 2) := by decide +kernel
theorem dX11_letter_65 : decode cX11_letter 65 = .ok (.iload 9, 2) := by decide +kernel
theorem dX11_letter_67 : decode cX11_letter 67 = .ok (.ifCond .eq 10, 3) := by decide +kernel
theorem dX11_letter_70 : decode cX11_letter 70 = .ok (.aload_n 0, 1) := by decide +kernel
theorem dX11_letter_71 : decode cX11_letter 71 = .ok (.iload 9, 2) := by decide +kernel
theorem dX11_letter_73 : decode cX11_letter 73 = .ok (.invokevirtual 91, 3) := by decide +kernel
theorem dX11_letter_76 : decode cX11_letter 76 = .ok (.ireturn, 1) := by decide +kernel
theorem dX11_letter_77 : decode cX11_letter 77 = .ok (.aload_n 0, 1) := by decide +kernel
theorem dX11_letter_78 : decode cX11_letter 78 = .ok (.getfield 12, 3) := by decide +kernel
theorem dX11_letter_81 : decode cX11_letter 81 = .ok (.aload 8, 2) := by decide +kernel
theorem dX11_letter_83 : decode cX11_letter 83 = .ok (.iload 5, 2) := by decide +kernel
theorem dX11_letter_85 : decode cX11_letter 85 = .ok (.iload 6, 2) := by decide +kernel
theorem dX11_letter_87 : decode cX11_letter 87 = .ok (.invokevirtual 162, 3) := by decide +kernel
theorem dX11_letter_90 : decode cX11_letter 90 = .ok (.ifCond .ne 5, 3) := by decide +kernel
theorem dX11_letter_93 : decode cX11_letter 93 = .ok (.iconst (-1), 1) := by decide +kernel
theorem dX11_letter_94 : decode cX11_letter 94 = .ok (.ireturn, 1) := by decide +kernel
theorem dX11_letter_95 : decode cX11_letter 95 = .ok (.aload_n 0, 1) := by decide +kernel
theorem dX11_letter_96 : decode cX11_letter 96 = .ok (.getfield 53, 3) := by decide +kernel
theorem dX11_letter_99 : decode cX11_letter 99 = .ok (.iload 6, 2) := by decide +kernel
theorem dX11_letter_101 : decode cX11_letter 101 = .ok (.invokevirtual 166, 3) := by decide +kernel
theorem dX11_letter_104 : decode cX11_letter 104 = .ok (.istore 10, 2) := by decide +kernel
theorem dX11_letter_106 : decode cX11_letter 106 = .ok (.aload 7, 2) := by decide +kernel
theorem dX11_letter_108 : decode cX11_letter 108 = .ok (.invokevirtual 154, 3) := by decide +kernel
theorem dX11_letter_111 : decode cX11_letter 111 = .ok (.ifCond .eq 13, 3) := by decide +kernel
theorem dX11_letter_114 : decode cX11_letter 114 = .ok (.aload_n 0, 1) := by decide +kernel
theorem dX11_letter_115 : decode cX11_letter 115 = .ok (.getfield 53, 3) := by decide +kernel
theorem dX11_letter_118 : decode cX11_letter 118 = .ok (.invokevirtual 121, 3) := by decide +kernel
theorem dX11_letter_121 : decode cX11_letter 121 = .ok (.ifCond .eq 19, 3) := by decide +kernel
theorem dX11_letter_124 : decode cX11_letter 124 = .ok (.iload 10, 2) := by decide +kernel
theorem dX11_letter_126 : decode cX11_letter 126 = .ok (.aload 7, 2) := by decide +kernel
theorem dX11_letter_128 : decode cX11_letter 128 = .ok (.invokevirtual 151, 3) := by decide +kernel
theorem dX11_letter_131 : decode cX11_letter 131 = .ok (.if_icmp .gt 9, 3) := by decide +kernel
theorem dX11_letter_134 : decode cX11_letter 134 = .ok (.iload 10, 2) := by decide +kernel
theorem dX11_letter_136 : decode cX11_letter 136 = .ok (.iconst 1, 1) := by decide +kernel
theorem dX11_letter_137 : decode cX11_letter 137 = .ok (.if_icmp .ge 6, 3) := by decide +kernel
theorem dX11_letter_140 : decode cX11_letter 140 = .ok (.bipush (-3), 2) := by decide +kernel
theorem dX11_letter_142 : decode cX11_letter 142 = .ok (.ireturn, 1) := by decide +kernel
theorem dX11_letter_143 : decode cX11_letter 143 = .ok (.aload_n 0, 1) := by decide +kernel
theorem dX11_letter_144 : decode cX11_letter 144 = .ok (.getfield 169, 3) := by decide +kernel
theorem dX11_letter_147 : decode cX11_letter 147 = .ok (.bipush 20, 2) := by decide +kernel
theorem dX11_letter_149 : decode cX11_letter 149 = .ok (.invokestatic 58, 3) := by decide +kernel
theorem dX11_letter_152 : decode cX11_letter 152 = .ok (.ifCond .ne 6, 3) := by decide +kernel
theorem dX11_letter_155 : decode cX11_letter 155 = .ok (.bipush (-4), 2) := by decide +kernel
theorem dX11_letter_157 : decode cX11_letter 157 = .ok (.ireturn, 1) := by decide +kernel
theorem dX11_letter_158 : decode cX11_letter 158 = .ok (.iload 10, 2) := by decide +kernel
theorem dX11_letter_160 : decode cX11_letter 160 = .ok (.newarray .int, 2) := by decide +kernel
theorem dX11_letter_162 : decode cX11_letter 162 = .ok (.astore 11, 2) := by decide +kernel
theorem dX11_letter_164 : decode cX11_letter 164 = .ok (.aload_n 0, 1) := by decide +kernel
theorem dX11_letter_165 : decode cX11_letter 165 = .ok (.getfield 53, 3) := by decide +kernel
theorem dX11_letter_168 : decode cX11_letter 168 = .ok (.aload 11, 2) := by decide +kernel
theorem dX11_letter_170 : decode cX11_letter 170 = .ok (.aload_n 0, 1) := by decide +kernel
theorem dX11_letter_171 : decode cX11_letter 171 = .ok (.getfield 12, 3) := by decide +kernel
theorem dX11_letter_174 : decode cX11_letter 174 = .ok (.aload 8, 2) := by decide +kernel
theorem dX11_letter_176 : decode cX11_letter 176 = .ok (.iload 5, 2) := by decide +kernel
theorem dX11_letter_178 : decode cX11_letter 178 = .ok (.iload 6, 2) := by decide +kernel
theorem dX11_letter_180 : decode cX11_letter 180 = .ok (.invokevirtual 172, 3) := by decide +kernel
theorem dX11_letter_183 : decode cX11_letter 183 = .ok (.aload 7, 2) := by decide +kernel
theorem dX11_letter_185 : decode cX11_letter 185 = .ok (.aload 11, 2) := by decide +kernel
theorem dX11_letter_187 : decode cX11_letter 187 = .ok (.invokevirtual 176, 3) := by decide +kernel
theorem dX11_letter_190 : decode cX11_letter 190 = .ok (.aload_n 0, 1) := by decide +kernel
theorem dX11_letter_191 : decode cX11_letter 191 = .ok (.getfield 169, 3) := by decide +kernel
theorem dX11_letter_194 : decode cX11_letter 194 = .ok (.istore 12, 2) := by decide +kernel
theorem dX11_letter_196 : decode cX11_letter 196 = .ok (.aload_n 0, 1) := by decide +kernel
theorem dX11_letter_197 : decode cX11_letter 197 = .ok (.getfield 40, 3) := by decide +kernel
theorem dX11_letter_200 : decode cX11_letter 200 = .ok (.iload 12, 2) := by decide +kernel
theorem dX11_letter_202 : decode cX11_letter 202 = .ok (.new 38, 3) := by decide +kernel
theorem dX11_letter_205 : decode cX11_letter 205 = .ok (.dup, 1) := by decide +kernel
theorem dX11_letter_206 : decode cX11_letter 206 = .ok (.iload_n 1, 1) := by decide +kernel
theorem dX11_letter_207 : decode cX11_letter 207 = .ok (.iload_n 2, 1) := by decide +kernel
theorem dX11_letter_208 : decode cX11_letter 208 = .ok (.aload 11, 2) := by decide +kernel
theorem dX11_letter_210 : decode cX11_letter 210 = .ok (.invokespecial 180, 3) := by decide +kernel
theorem dX11_letter_213 : decode cX11_letter 213 = .ok (.aastore, 1) := by decide +kernel
theorem dX11_letter_214 : decode cX11_letter 214 = .ok (.aload_n 0, 1) := by decide +kernel
theorem dX11_letter_215 : decode cX11_letter 215 = .ok (.dup, 1) := by decide +kernel
theorem dX11_letter_216 : decode cX11_letter 216 = .ok (.getfield 169, 3) := by decide +kernel
theorem dX11_letter_219 : decode cX11_letter 219 = .ok (.iconst 1, 1) := by decide +kernel
theorem dX11_letter_220 : decode cX11_letter 220 = .ok (.iadd, 1) := by decide +kernel
theorem dX11_letter_221 : decode cX11_letter 221 = .ok (.putfield 169, 3) := by decide +kernel
theorem dX11_letter_224 : decode cX11_letter 224 = .ok (.iload 12, 2) := by decide +kernel
theorem dX11_letter_226 : decode cX11_letter 226 = .ok (.ireturn, 1) := by decide +kernel
theorem dX11_ofLetter_0 : decode cX11_ofLetter 0 = .ok (.aload_n 0, 1) := by decide +kernel
theorem dX11_ofLetter_1 : decode cX11_ofLetter 1 = .ok (.iload_n 1, 1) := by decide +kernel
theorem dX11_ofLetter_2 : decode cX11_ofLetter 2 = .ok (.invokevirtual 183, 3) := by decide +kernel
theorem dX11_ofLetter_5 : decode cX11_ofLetter 5 = .ok (.astore_n 3, 1) := by decide +kernel
theorem dX11_ofLetter_6 : decode cX11_ofLetter 6 = .ok (.aload_n 3, 1) := by decide +kernel
theorem dX11_ofLetter_7 : decode cX11_ofLetter 7 = .ok (.ifnonnull 5, 3) := by decide +kernel
theorem dX11_ofLetter_10 : decode cX11_ofLetter 10 = .ok (.iconst (-1), 1) := by decide +kernel
theorem dX11_ofLetter_11 : decode cX11_ofLetter 11 = .ok (.ireturn, 1) := by decide +kernel
theorem dX11_ofLetter_12 : decode cX11_ofLetter 12 = .ok (.iload_n 2, 1) := by decide +kernel
theorem dX11_ofLetter_13 : decode cX11_ofLetter 13 = .ok (.tableswitch 42 0 2 #[27, 32, 37], 27) := by decide +kernel
theorem dX11_ofLetter_40 : decode cX11_ofLetter 40 = .ok (.aload_n 3, 1) := by decide +kernel
theorem dX11_ofLetter_41 : decode cX11_ofLetter 41 = .ok (.getfield 187, 3) := by decide +kernel
theorem dX11_ofLetter_44 : decode cX11_ofLetter 44 = .ok (.ireturn, 1) := by decide +kernel
theorem dX11_ofLetter_45 : decode cX11_ofLetter 45 = .ok (.aload_n 3, 1) := by decide +kernel
theorem dX11_ofLetter_46 : decode cX11_ofLetter 46 = .ok (.getfield 190, 3) := by decide +kernel
theorem dX11_ofLetter_49 : decode cX11_ofLetter 49 = .ok (.ireturn, 1) := by decide +kernel
theorem dX11_ofLetter_50 : decode cX11_ofLetter 50 = .ok (.aload_n 3, 1) := by decide +kernel
theorem dX11_ofLetter_51 : decode cX11_ofLetter 51 = .ok (.invokevirtual 193, 3) := by decide +kernel
theorem dX11_ofLetter_54 : decode cX11_ofLetter 54 = .ok (.ireturn, 1) := by decide +kernel
theorem dX11_ofLetter_55 : decode cX11_ofLetter 55 = .ok (.iload_n 2, 1) := by decide +kernel
theorem dX11_ofLetter_56 : decode cX11_ofLetter 56 = .ok (.bipush 10, 2) := by decide +kernel
theorem dX11_ofLetter_58 : decode cX11_ofLetter 58 = .ok (.isub, 1) := by decide +kernel
theorem dX11_ofLetter_59 : decode cX11_ofLetter 59 = .ok (.aload_n 3, 1) := by decide +kernel
theorem dX11_ofLetter_60 : decode cX11_ofLetter 60 = .ok (.invokevirtual 193, 3) := by decide +kernel
theorem dX11_ofLetter_63 : decode cX11_ofLetter 63 = .ok (.invokestatic 58, 3) := by decide +kernel
theorem dX11_ofLetter_66 : decode cX11_ofLetter 66 = .ok (.ifCond .eq 14, 3) := by decide +kernel
theorem dX11_ofLetter_69 : decode cX11_ofLetter 69 = .ok (.aload_n 3, 1) := by decide +kernel
theorem dX11_ofLetter_70 : decode cX11_ofLetter 70 = .ok (.iload_n 2, 1) := by decide +kernel
theorem dX11_ofLetter_71 : decode cX11_ofLetter 71 = .ok (.bipush 10, 2) := by decide +kernel
theorem dX11_ofLetter_73 : decode cX11_ofLetter 73 = .ok (.isub, 1) := by decide +kernel
theorem dX11_ofLetter_74 : decode cX11_ofLetter 74 = .ok (.invokevirtual 194, 3) := by decide +kernel
theorem dX11_ofLetter_77 : decode cX11_ofLetter 77 = .ok (.goto 5, 3) := by decide +kernel
theorem dX11_ofLetter_80 : decode cX11_ofLetter 80 = .ok (.bipush (-2), 2) := by decide +kernel
theorem dX11_ofLetter_82 : decode cX11_ofLetter 82 = .ok (.ireturn, 1) := by decide +kernel
theorem dX11_read_0 : decode cX11_read 0 = .ok (.aload_n 0, 1) := by decide +kernel
theorem dX11_read_1 : decode cX11_read 1 = .ok (.iload_n 1, 1) := by decide +kernel
theorem dX11_read_2 : decode cX11_read 2 = .ok (.invokevirtual 183, 3) := by decide +kernel
theorem dX11_read_5 : decode cX11_read 5 = .ok (.astore 4, 2) := by decide +kernel
theorem dX11_read_7 : decode cX11_read 7 = .ok (.aload_n 0, 1) := by decide +kernel
theorem dX11_read_8 : decode cX11_read 8 = .ok (.iload_n 2, 1) := by decide +kernel
theorem dX11_read_9 : decode cX11_read 9 = .ok (.invokevirtual 138, 3) := by decide +kernel
theorem dX11_read_12 : decode cX11_read 12 = .ok (.astore 5, 2) := by decide +kernel
theorem dX11_read_14 : decode cX11_read 14 = .ok (.aload 4, 2) := by decide +kernel
theorem dX11_read_16 : decode cX11_read 16 = .ok (.ifnull 19, 3) := by decide +kernel
theorem dX11_read_19 : decode cX11_read 19 = .ok (.aload 5, 2) := by decide +kernel
theorem dX11_read_21 : decode cX11_read 21 = .ok (.ifnull 14, 3) := by decide +kernel
theorem dX11_read_24 : decode cX11_read 24 = .ok (.iload_n 3, 1) := by decide +kernel
theorem dX11_read_25 : decode cX11_read 25 = .ok (.iconst (-1), 1) := by decide +kernel
theorem dX11_read_26 : decode cX11_read 26 = .ok (.if_icmp .lt 9, 3) := by decide +kernel
theorem dX11_read_29 : decode cX11_read 29 = .ok (.iload_n 3, 1) := by decide +kernel
theorem dX11_read_30 : decode cX11_read 30 = .ok (.bipush 12, 2) := by decide +kernel
theorem dX11_read_32 : decode cX11_read 32 = .ok (.if_icmp .lt 5, 3) := by decide +kernel
theorem dX11_read_35 : decode cX11_read 35 = .ok (.iconst (-1), 1) := by decide +kernel
theorem dX11_read_36 : decode cX11_read 36 = .ok (.ireturn, 1) := by decide +kernel
theorem dX11_read_37 : decode cX11_read 37 = .ok (.aload_n 0, 1) := by decide +kernel
theorem dX11_read_38 : decode cX11_read 38 = .ok (.aload 4, 2) := by decide +kernel
theorem dX11_read_40 : decode cX11_read 40 = .ok (.aload 5, 2) := by decide +kernel
theorem dX11_read_42 : decode cX11_read 42 = .ok (.invokevirtual 195, 3) := by decide +kernel
theorem dX11_read_45 : decode cX11_read 45 = .ok (.ifCond .eq 6, 3) := by decide +kernel
theorem dX11_read_48 : decode cX11_read 48 = .ok (.bipush (-3), 2) := by decide +kernel
theorem dX11_read_50 : decode cX11_read 50 = .ok (.ireturn, 1) := by decide +kernel
theorem dX11_read_51 : decode cX11_read 51 = .ok (.aload_n 0, 1) := by decide +kernel
theorem dX11_read_52 : decode cX11_read 52 = .ok (.getfield 53, 3) := by decide +kernel
theorem dX11_read_55 : decode cX11_read 55 = .ok (.invokevirtual 107, 3) := by decide +kernel
theorem dX11_read_58 : decode cX11_read 58 = .ok (.bipush (-9), 2) := by decide +kernel
theorem dX11_read_60 : decode cX11_read 60 = .ok (.if_icmp .ne 7, 3) := by decide +kernel
theorem dX11_read_63 : decode cX11_read 63 = .ok (.iconst 0, 1) := by decide +kernel
theorem dX11_read_64 : decode cX11_read 64 = .ok (.goto 4, 3) := by decide +kernel
theorem dX11_read_67 : decode cX11_read 67 = .ok (.iconst 1, 1) := by decide +kernel
theorem dX11_read_68 : decode cX11_read 68 = .ok (.istore 6, 2) := by decide +kernel
theorem dX11_read_70 : decode cX11_read 70 = .ok (.aload_n 0, 1) := by decide +kernel
theorem dX11_read_71 : decode cX11_read 71 = .ok (.getfield 53, 3) := by decide +kernel
theorem dX11_read_74 : decode cX11_read 74 = .ok (.invokevirtual 113, 3) := by decide +kernel
theorem dX11_read_77 : decode cX11_read 77 = .ok (.ifCond .eq 13, 3) := by decide +kernel
theorem dX11_read_80 : decode cX11_read 80 = .ok (.aload 4, 2) := by decide +kernel
theorem dX11_read_82 : decode cX11_read 82 = .ok (.invokevirtual 193, 3) := by decide +kernel
theorem dX11_read_85 : decode cX11_read 85 = .ok (.iconst 1, 1) := by decide +kernel
theorem dX11_read_86 : decode cX11_read 86 = .ok (.isub, 1) := by decide +kernel
theorem dX11_read_87 : decode cX11_read 87 = .ok (.goto 8, 3) := by decide +kernel
theorem dX11_read_90 : decode cX11_read 90 = .ok (.aload 4, 2) := by decide +kernel
theorem dX11_read_92 : decode cX11_read 92 = .ok (.invokevirtual 193, 3) := by decide +kernel
theorem dX11_read_95 : decode cX11_read 95 = .ok (.istore 7, 2) := by decide +kernel
theorem dX11_read_97 : decode cX11_read 97 = .ok (.iconst 0, 1) := by decide +kernel
theorem dX11_read_98 : decode cX11_read 98 = .ok (.istore 8, 2) := by decide +kernel
theorem dX11_read_100 : decode cX11_read 100 = .ok (.iload 6, 2) := by decide +kernel
theorem dX11_read_102 : decode cX11_read 102 = .ok (.istore 9, 2) := by decide +kernel
theorem dX11_read_104 : decode cX11_read 104 = .ok (.iload 9, 2) := by decide +kernel
theorem dX11_read_106 : decode cX11_read 106 = .ok (.iload 7, 2) := by decide +kernel
theorem dX11_read_108 : decode cX11_read 108 = .ok (.if_icmp .ge 46, 3) := by decide +kernel
theorem dX11_read_111 : decode cX11_read 111 = .ok (.aload_n 0, 1) := by decide +kernel
theorem dX11_read_112 : decode cX11_read 112 = .ok (.getfield 12, 3) := by decide +kernel
theorem dX11_read_115 : decode cX11_read 115 = .ok (.aload 5, 2) := by decide +kernel
theorem dX11_read_117 : decode cX11_read 117 = .ok (.aload 4, 2) := by decide +kernel
theorem dX11_read_119 : decode cX11_read 119 = .ok (.iload 9, 2) := by decide +kernel
theorem dX11_read_121 : decode cX11_read 121 = .ok (.invokevirtual 199, 3) := by decide +kernel
theorem dX11_read_124 : decode cX11_read 124 = .ok (.invokevirtual 62, 3) := by decide +kernel
theorem dX11_read_127 : decode cX11_read 127 = .ok (.istore 10, 2) := by decide +kernel
theorem dX11_read_129 : decode cX11_read 129 = .ok (.iload 10, 2) := by decide +kernel
theorem dX11_read_131 : decode cX11_read 131 = .ok (.bipush (-9), 2) := by decide +kernel
theorem dX11_read_133 : decode cX11_read 133 = .ok (.if_icmp .eq 15, 3) := by decide +kernel
theorem dX11_read_136 : decode cX11_read 136 = .ok (.iload 8, 2) := by decide +kernel
theorem dX11_read_138 : decode cX11_read 138 = .ok (.iload_n 3, 1) := by decide +kernel
theorem dX11_read_139 : decode cX11_read 139 = .ok (.if_icmp .ne 6, 3) := by decide +kernel
theorem dX11_read_142 : decode cX11_read 142 = .ok (.iload 10, 2) := by decide +kernel
theorem dX11_read_144 : decode cX11_read 144 = .ok (.ireturn, 1) := by decide +kernel
theorem dX11_read_145 : decode cX11_read 145 = .ok (.iinc 8 1, 3) := by decide +kernel
theorem dX11_read_148 : decode cX11_read 148 = .ok (.iinc 9 1, 3) := by decide +kernel
theorem dX11_read_151 : decode cX11_read 151 = .ok (.goto (-47), 3) := by decide +kernel
theorem dX11_read_154 : decode cX11_read 154 = .ok (.iload_n 3, 1) := by decide +kernel
theorem dX11_read_155 : decode cX11_read 155 = .ok (.iconst (-1), 1) := by decide +kernel
theorem dX11_read_156 : decode cX11_read 156 = .ok (.if_icmp .ne 8, 3) := by decide +kernel
theorem dX11_read_159 : decode cX11_read 159 = .ok (.iload 8, 2) := by decide +kernel
theorem dX11_read_161 : decode cX11_read 161 = .ok (.goto 5, 3) := by decide +kernel
theorem dX11_read_164 : decode cX11_read 164 = .ok (.bipush (-9), 2) := by decide +kernel
theorem dX11_read_166 : decode cX11_read 166 = .ok (.ireturn, 1) := by decide +kernel
theorem dX11_need_0 : decode cX11_need 0 = .ok (.iload_n 1, 1) := by decide +kernel
theorem dX11_need_1 : decode cX11_need 1 = .ok (.bipush 6, 2) := by decide +kernel
theorem dX11_need_3 : decode cX11_need 3 = .ok (.invokestatic 58, 3) := by decide +kernel
theorem dX11_need_6 : decode cX11_need 6 = .ok (.ifCond .ne 5, 3) := by decide +kernel
theorem dX11_need_9 : decode cX11_need 9 = .ok (.iconst (-1), 1) := by decide +kernel
theorem dX11_need_10 : decode cX11_need 10 = .ok (.ireturn, 1) := by decide +kernel
theorem dX11_need_11 : decode cX11_need 11 = .ok (.iload_n 2, 1) := by decide +kernel
theorem dX11_need_12 : decode cX11_need 12 = .ok (.ifCond .lt 9, 3) := by decide +kernel
theorem dX11_need_15 : decode cX11_need 15 = .ok (.iload_n 2, 1) := by decide +kernel
theorem dX11_need_16 : decode cX11_need 16 = .ok (.bipush 9, 2) := by decide +kernel
theorem dX11_need_18 : decode cX11_need 18 = .ok (.if_icmp .le 6, 3) := by decide +kernel
theorem dX11_need_21 : decode cX11_need 21 = .ok (.bipush (-2), 2) := by decide +kernel
theorem dX11_need_23 : decode cX11_need 23 = .ok (.ireturn, 1) := by decide +kernel
theorem dX11_need_24 : decode cX11_need 24 = .ok (.aload_n 0, 1) := by decide +kernel
theorem dX11_need_25 : decode cX11_need 25 = .ok (.getfield 21, 3) := by decide +kernel
theorem dX11_need_28 : decode cX11_need 28 = .ok (.iload_n 1, 1) := by decide +kernel
theorem dX11_need_29 : decode cX11_need 29 = .ok (.iload_n 2, 1) := by decide +kernel
theorem dX11_need_30 : decode cX11_need 30 = .ok (.invokevirtual 203, 3) := by decide +kernel
theorem dX11_need_33 : decode cX11_need 33 = .ok (.ireturn, 1) := by decide +kernel
theorem dX11_bag_0 : decode cX11_bag 0 = .ok (.iload_n 1, 1) := by decide +kernel
theorem dX11_bag_1 : decode cX11_bag 1 = .ok (.bipush 6, 2) := by decide +kernel
theorem dX11_bag_3 : decode cX11_bag 3 = .ok (.invokestatic 58, 3) := by decide +kernel
theorem dX11_bag_6 : decode cX11_bag 6 = .ok (.ifCond .ne 5, 3) := by decide +kernel
theorem dX11_bag_9 : decode cX11_bag 9 = .ok (.iconst (-1), 1) := by decide +kernel
theorem dX11_bag_10 : decode cX11_bag 10 = .ok (.ireturn, 1) := by decide +kernel
theorem dX11_bag_11 : decode cX11_bag 11 = .ok (.iload_n 2, 1) := by decide +kernel
theorem dX11_bag_12 : decode cX11_bag 12 = .ok (.bipush 100, 2) := by decide +kernel
theorem dX11_bag_14 : decode cX11_bag 14 = .ok (.invokestatic 58, 3) := by decide +kernel
theorem dX11_bag_17 : decode cX11_bag 17 = .ok (.ifCond .eq 14, 3) := by decide +kernel
theorem dX11_bag_20 : decode cX11_bag 20 = .ok (.iload_n 3, 1) := by decide +kernel
theorem dX11_bag_21 : decode cX11_bag 21 = .ok (.iconst 1, 1) := by decide +kernel
theorem dX11_bag_22 : decode cX11_bag 22 = .ok (.if_icmp .lt 9, 3) := by decide +kernel
theorem dX11_bag_25 : decode cX11_bag 25 = .ok (.iload_n 3, 1) := by decide +kernel
theorem dX11_bag_26 : decode cX11_bag 26 = .ok (.bipush 99, 2) := by decide +kernel
theorem dX11_bag_28 : decode cX11_bag 28 = .ok (.if_icmp .le 6, 3) := by decide +kernel
theorem dX11_bag_31 : decode cX11_bag 31 = .ok (.bipush (-2), 2) := by decide +kernel
theorem dX11_bag_33 : decode cX11_bag 33 = .ok (.ireturn, 1) := by decide +kernel
theorem dX11_bag_34 : decode cX11_bag 34 = .ok (.aload_n 0, 1) := by decide +kernel
theorem dX11_bag_35 : decode cX11_bag 35 = .ok (.getfield 21, 3) := by decide +kernel
theorem dX11_bag_38 : decode cX11_bag 38 = .ok (.invokevirtual 207, 3) := by decide +kernel
theorem dX11_bag_41 : decode cX11_bag 41 = .ok (.bipush 20, 2) := by decide +kernel
theorem dX11_bag_43 : decode cX11_bag 43 = .ok (.if_icmp .lt 6, 3) := by decide +kernel
theorem dX11_bag_46 : decode cX11_bag 46 = .ok (.bipush (-4), 2) := by decide +kernel
theorem dX11_bag_48 : decode cX11_bag 48 = .ok (.ireturn, 1) := by decide +kernel
theorem dX11_bag_49 : decode cX11_bag 49 = .ok (.aload_n 0, 1) := by decide +kernel
theorem dX11_bag_50 : decode cX11_bag 50 = .ok (.getfield 21, 3) := by decide +kernel
theorem dX11_bag_53 : decode cX11_bag 53 = .ok (.iload_n 1, 1) := by decide +kernel
theorem dX11_bag_54 : decode cX11_bag 54 = .ok (.iload_n 2, 1) := by decide +kernel
theorem dX11_bag_55 : decode cX11_bag 55 = .ok (.iload_n 3, 1) := by decide +kernel
theorem dX11_bag_56 : decode cX11_bag 56 = .ok (.invokevirtual 210, 3) := by decide +kernel
theorem dX11_bag_59 : decode cX11_bag 59 = .ok (.aload_n 0, 1) := by decide +kernel
theorem dX11_bag_60 : decode cX11_bag 60 = .ok (.getfield 21, 3) := by decide +kernel
theorem dX11_bag_63 : decode cX11_bag 63 = .ok (.invokevirtual 207, 3) := by decide +kernel
theorem dX11_bag_66 : decode cX11_bag 66 = .ok (.ireturn, 1) := by decide +kernel
theorem dX11_out_0 : decode cX11_out 0 = .ok (.iload_n 1, 1) := by decide +kernel
theorem dX11_out_1 : decode cX11_out 1 = .ok (.bipush 6, 2) := by decide +kernel
theorem dX11_out_3 : decode cX11_out 3 = .ok (.invokestatic 58, 3) := by decide +kernel
theorem dX11_out_6 : decode cX11_out 6 = .ok (.ifCond .ne 5, 3) := by decide +kernel
theorem dX11_out_9 : decode cX11_out 9 = .ok (.iconst (-1), 1) := by decide +kernel
theorem dX11_out_10 : decode cX11_out 10 = .ok (.ireturn, 1) := by decide +kernel
theorem dX11_out_11 : decode cX11_out 11 = .ok (.iload_n 2, 1) := by decide +kernel
theorem dX11_out_12 : decode cX11_out 12 = .ok (.ifCond .lt 10, 3) := by decide +kernel
theorem dX11_out_15 : decode cX11_out 15 = .ok (.iload_n 2, 1) := by decide +kernel
theorem dX11_out_16 : decode cX11_out 16 = .ok (.sipush 9999, 3) := by decide +kernel
theorem dX11_out_19 : decode cX11_out 19 = .ok (.if_icmp .le 6, 3) := by decide +kernel
theorem dX11_out_22 : decode cX11_out 22 = .ok (.bipush (-2), 2) := by decide +kernel
theorem dX11_out_24 : decode cX11_out 24 = .ok (.ireturn, 1) := by decide +kernel
theorem dX11_out_25 : decode cX11_out 25 = .ok (.aload_n 0, 1) := by decide +kernel
theorem dX11_out_26 : decode cX11_out 26 = .ok (.getfield 21, 3) := by decide +kernel
theorem dX11_out_29 : decode cX11_out 29 = .ok (.iload_n 1, 1) := by decide +kernel
theorem dX11_out_30 : decode cX11_out 30 = .ok (.iload_n 2, 1) := by decide +kernel
theorem dX11_out_31 : decode cX11_out 31 = .ok (.invokevirtual 214, 3) := by decide +kernel
theorem dX11_out_34 : decode cX11_out 34 = .ok (.ireturn, 1) := by decide +kernel
theorem dX11_last_0 : decode cX11_last 0 = .ok (.iload_n 1, 1) := by decide +kernel
theorem dX11_last_1 : decode cX11_last 1 = .ok (.ifCond .lt 10, 3) := by decide +kernel
theorem dX11_last_4 : decode cX11_last 4 = .ok (.iload_n 1, 1) := by decide +kernel
theorem dX11_last_5 : decode cX11_last 5 = .ok (.sipush 9999, 3) := by decide +kernel
theorem dX11_last_8 : decode cX11_last 8 = .ok (.if_icmp .le 6, 3) := by decide +kernel
theorem dX11_last_11 : decode cX11_last 11 = .ok (.bipush (-2), 2) := by decide +kernel
theorem dX11_last_13 : decode cX11_last 13 = .ok (.ireturn, 1) := by decide +kernel
theorem dX11_last_14 : decode cX11_last 14 = .ok (.iload_n 2, 1) := by decide +kernel
theorem dX11_last_15 : decode cX11_last 15 = .ok (.iconst (-1), 1) := by decide +kernel
theorem dX11_last_16 : decode cX11_last 16 = .ok (.if_icmp .eq 14, 3) := by decide +kernel
theorem dX11_last_19 : decode cX11_last 19 = .ok (.iload_n 2, 1) := by decide +kernel
theorem dX11_last_20 : decode cX11_last 20 = .ok (.bipush 6, 2) := by decide +kernel
theorem dX11_last_22 : decode cX11_last 22 = .ok (.invokestatic 58, 3) := by decide +kernel
theorem dX11_last_25 : decode cX11_last 25 = .ok (.ifCond .ne 5, 3) := by decide +kernel
theorem dX11_last_28 : decode cX11_last 28 = .ok (.iconst (-1), 1) := by decide +kernel
theorem dX11_last_29 : decode cX11_last 29 = .ok (.ireturn, 1) := by decide +kernel
theorem dX11_last_30 : decode cX11_last 30 = .ok (.aload_n 0, 1) := by decide +kernel
theorem dX11_last_31 : decode cX11_last 31 = .ok (.getfield 21, 3) := by decide +kernel
theorem dX11_last_34 : decode cX11_last 34 = .ok (.iload_n 1, 1) := by decide +kernel
theorem dX11_last_35 : decode cX11_last 35 = .ok (.invokevirtual 217, 3) := by decide +kernel
theorem dX11_last_38 : decode cX11_last 38 = .ok (.istore_n 3, 1) := by decide +kernel
theorem dX11_last_39 : decode cX11_last 39 = .ok (.iload_n 2, 1) := by decide +kernel
theorem dX11_last_40 : decode cX11_last 40 = .ok (.iconst (-1), 1) := by decide +kernel
theorem dX11_last_41 : decode cX11_last 41 = .ok (.if_icmp .ne 7, 3) := by decide +kernel
theorem dX11_last_44 : decode cX11_last 44 = .ok (.iload_n 3, 1) := by decide +kernel
theorem dX11_last_45 : decode cX11_last 45 = .ok (.goto 11, 3) := by decide +kernel
theorem dX11_last_48 : decode cX11_last 48 = .ok (.aload_n 0, 1) := by decide +kernel
theorem dX11_last_49 : decode cX11_last 49 = .ok (.getfield 21, 3) := by decide +kernel
theorem dX11_last_52 : decode cX11_last 52 = .ok (.iload_n 2, 1) := by decide +kernel
theorem dX11_last_53 : decode cX11_last 53 = .ok (.invokevirtual 220, 3) := by decide +kernel
theorem dX11_last_56 : decode cX11_last 56 = .ok (.ireturn, 1) := by decide +kernel
theorem dX11_beside_0 : decode cX11_beside 0 = .ok (.aload_n 0, 1) := by decide +kernel
theorem dX11_beside_1 : decode cX11_beside 1 = .ok (.iload_n 1, 1) := by decide +kernel
theorem dX11_beside_2 : decode cX11_beside 2 = .ok (.invokevirtual 183, 3) := by decide +kernel
theorem dX11_beside_5 : decode cX11_beside 5 = .ok (.astore 4, 2) := by decide +kernel
theorem dX11_beside_7 : decode cX11_beside 7 = .ok (.aload_n 0, 1) := by decide +kernel
theorem dX11_beside_8 : decode cX11_beside 8 = .ok (.iload_n 2, 1) := by decide +kernel
theorem dX11_beside_9 : decode cX11_beside 9 = .ok (.invokevirtual 183, 3) := by decide +kernel
theorem dX11_beside_12 : decode cX11_beside 12 = .ok (.astore 5, 2) := by decide +kernel
theorem dX11_beside_14 : decode cX11_beside 14 = .ok (.aload 4, 2) := by decide +kernel
theorem dX11_beside_16 : decode cX11_beside 16 = .ok (.ifnull 8, 3) := by decide +kernel
theorem dX11_beside_19 : decode cX11_beside 19 = .ok (.aload 5, 2) := by decide +kernel
theorem dX11_beside_21 : decode cX11_beside 21 = .ok (.ifnonnull 5, 3) := by decide +kernel
theorem dX11_beside_24 : decode cX11_beside 24 = .ok (.iconst (-1), 1) := by decide +kernel
theorem dX11_beside_25 : decode cX11_beside 25 = .ok (.ireturn, 1) := by decide +kernel
theorem dX11_beside_26 : decode cX11_beside 26 = .ok (.iload_n 1, 1) := by decide +kernel
theorem dX11_beside_27 : decode cX11_beside 27 = .ok (.iload_n 2, 1) := by decide +kernel
theorem dX11_beside_28 : decode cX11_beside 28 = .ok (.if_icmp .ne 6, 3) := by decide +kernel
theorem dX11_beside_31 : decode cX11_beside 31 = .ok (.bipush (-2), 2) := by decide +kernel
theorem dX11_beside_33 : decode cX11_beside 33 = .ok (.ireturn, 1) := by decide +kernel
theorem dX11_beside_34 : decode cX11_beside 34 = .ok (.iload_n 3, 1) := by decide +kernel
theorem dX11_beside_35 : decode cX11_beside 35 = .ok (.tableswitch 83 0 3 #[29, 37, 49, 71], 29) := by decide +kernel
theorem dX11_beside_64 : decode cX11_beside 64 = .ok (.aload 4, 2) := by decide +kernel
theorem dX11_beside_66 : decode cX11_beside 66 = .ok (.aload 5, 2) := by decide +kernel
theorem dX11_beside_68 : decode cX11_beside 68 = .ok (.invokestatic 223, 3) := by decide +kernel
theorem dX11_beside_71 : decode cX11_beside 71 = .ok (.ireturn, 1) := by decide +kernel
theorem dX11_beside_72 : decode cX11_beside 72 = .ok (.aload_n 0, 1) := by decide +kernel
theorem dX11_beside_73 : decode cX11_beside 73 = .ok (.getfield 12, 3) := by decide +kernel
theorem dX11_beside_76 : decode cX11_beside 76 = .ok (.aload 4, 2) := by decide +kernel
theorem dX11_beside_78 : decode cX11_beside 78 = .ok (.aload 5, 2) := by decide +kernel
theorem dX11_beside_80 : decode cX11_beside 80 = .ok (.invokestatic 229, 3) := by decide +kernel
theorem dX11_beside_83 : decode cX11_beside 83 = .ok (.ireturn, 1) := by decide +kernel
theorem dX11_beside_84 : decode cX11_beside 84 = .ok (.aload 4, 2) := by decide +kernel
theorem dX11_beside_86 : decode cX11_beside 86 = .ok (.getfield 187, 3) := by decide +kernel
theorem dX11_beside_89 : decode cX11_beside 89 = .ok (.aload 5, 2) := by decide +kernel
theorem dX11_beside_91 : decode cX11_beside 91 = .ok (.getfield 187, 3) := by decide +kernel
theorem dX11_beside_94 : decode cX11_beside 94 = .ok (.if_icmp .ne 7, 3) := by decide +kernel
theorem dX11_beside_97 : decode cX11_beside 97 = .ok (.iconst 1, 1) := by decide +kernel
theorem dX11_beside_98 : decode cX11_beside 98 = .ok (.goto 4, 3) := by decide +kernel
theorem dX11_beside_101 : decode cX11_beside 101 = .ok (.iconst 0, 1) := by decide +kernel
theorem dX11_beside_102 : decode cX11_beside 102 = .ok (.invokestatic 117, 3) := by decide +kernel
theorem dX11_beside_105 : decode cX11_beside 105 = .ok (.ireturn, 1) := by decide +kernel
theorem dX11_beside_106 : decode cX11_beside 106 = .ok (.aload_n 0, 1) := by decide +kernel
theorem dX11_beside_107 : decode cX11_beside 107 = .ok (.getfield 12, 3) := by decide +kernel
theorem dX11_beside_110 : decode cX11_beside 110 = .ok (.aload 4, 2) := by decide +kernel
theorem dX11_beside_112 : decode cX11_beside 112 = .ok (.aload 5, 2) := by decide +kernel
theorem dX11_beside_114 : decode cX11_beside 114 = .ok (.invokestatic 233, 3) := by decide +kernel
theorem dX11_beside_117 : decode cX11_beside 117 = .ok (.ireturn, 1) := by decide +kernel
theorem dX11_beside_118 : decode cX11_beside 118 = .ok (.bipush (-2), 2) := by decide +kernel
theorem dX11_beside_120 : decode cX11_beside 120 = .ok (.ireturn, 1) := by decide +kernel
theorem dX11_spread_0 : decode cX11_spread 0 = .ok (.aload_n 0, 1) := by decide +kernel
theorem dX11_spread_1 : decode cX11_spread 1 = .ok (.getfield 12, 3) := by decide +kernel
theorem dX11_spread_4 : decode cX11_spread 4 = .ok (.invokevirtual 236, 3) := by decide +kernel
theorem dX11_spread_7 : decode cX11_spread 7 = .ok (.ireturn, 1) := by decide +kernel
theorem dX11_chance_0 : decode cX11_chance 0 = .ok (.aload_n 0, 1) := by decide +kernel
theorem dX11_chance_1 : decode cX11_chance 1 = .ok (.iload_n 1, 1) := by decide +kernel
theorem dX11_chance_2 : decode cX11_chance 2 = .ok (.invokevirtual 183, 3) := by decide +kernel
theorem dX11_chance_5 : decode cX11_chance 5 = .ok (.astore 4, 2) := by decide +kernel
theorem dX11_chance_7 : decode cX11_chance 7 = .ok (.aload_n 0, 1) := by decide +kernel
theorem dX11_chance_8 : decode cX11_chance 8 = .ok (.iload_n 2, 1) := by decide +kernel
theorem dX11_chance_9 : decode cX11_chance 9 = .ok (.invokevirtual 183, 3) := by decide +kernel
theorem dX11_chance_12 : decode cX11_chance 12 = .ok (.astore 5, 2) := by decide +kernel
theorem dX11_chance_14 : decode cX11_chance 14 = .ok (.aload 4, 2) := by decide +kernel
theorem dX11_chance_16 : decode cX11_chance 16 = .ok (.ifnull 21, 3) := by decide +kernel
theorem dX11_chance_19 : decode cX11_chance 19 = .ok (.aload 5, 2) := by decide +kernel
theorem dX11_chance_21 : decode cX11_chance 21 = .ok (.ifnull 16, 3) := by decide +kernel
theorem dX11_chance_24 : decode cX11_chance 24 = .ok (.iload_n 3, 1) := by decide +kernel
theorem dX11_chance_25 : decode cX11_chance 25 = .ok (.iconst 2, 1) := by decide +kernel
theorem dX11_chance_26 : decode cX11_chance 26 = .ok (.invokestatic 58, 3) := by decide +kernel
theorem dX11_chance_29 : decode cX11_chance 29 = .ok (.ifCond .eq 8, 3) := by decide +kernel
theorem dX11_chance_32 : decode cX11_chance 32 = .ok (.iload_n 1, 1) := by decide +kernel
theorem dX11_chance_33 : decode cX11_chance 33 = .ok (.iload_n 2, 1) := by decide +kernel
theorem dX11_chance_34 : decode cX11_chance 34 = .ok (.if_icmp .ne 7, 3) := by decide +kernel
theorem dX11_chance_37 : decode cX11_chance 37 = .ok (.ldc2_w 239, 3) := by decide +kernel
theorem dX11_chance_40 : decode cX11_chance 40 = .ok (.lreturn, 1) := by decide +kernel
theorem dX11_chance_41 : decode cX11_chance 41 = .ok (.aload_n 0, 1) := by decide +kernel
theorem dX11_chance_42 : decode cX11_chance 42 = .ok (.getfield 12, 3) := by decide +kernel
theorem dX11_chance_45 : decode cX11_chance 45 = .ok (.aload 4, 2) := by decide +kernel
theorem dX11_chance_47 : decode cX11_chance 47 = .ok (.aload 5, 2) := by decide +kernel
theorem dX11_chance_49 : decode cX11_chance 49 = .ok (.iload_n 3, 1) := by decide +kernel
theorem dX11_chance_50 : decode cX11_chance 50 = .ok (.invokestatic 241, 3) := by decide +kernel
theorem dX11_chance_53 : decode cX11_chance 53 = .ok (.lreturn, 1) := by decide +kernel
theorem dX11_best_0 : decode cX11_best 0 = .ok (.iload_n 1, 1) := by decide +kernel
theorem dX11_best_1 : decode cX11_best 1 = .ok (.iconst 2, 1) := by decide +kernel
theorem dX11_best_2 : decode cX11_best 2 = .ok (.invokestatic 58, 3) := by decide +kernel
theorem dX11_best_5 : decode cX11_best 5 = .ok (.ifCond .ne 6, 3) := by decide +kernel
theorem dX11_best_8 : decode cX11_best 8 = .ok (.bipush (-2), 2) := by decide +kernel
theorem dX11_best_10 : decode cX11_best 10 = .ok (.ireturn, 1) := by decide +kernel
theorem dX11_best_11 : decode cX11_best 11 = .ok (.lconst 0, 1) := by decide +kernel
theorem dX11_best_12 : decode cX11_best 12 = .ok (.lstore_n 2, 1) := by decide +kernel
theorem dX11_best_13 : decode cX11_best 13 = .ok (.bipush (-9), 2) := by decide +kernel
theorem dX11_best_15 : decode cX11_best 15 = .ok (.istore 4, 2) := by decide +kernel
theorem dX11_best_17 : decode cX11_best 17 = .ok (.bipush (-9), 2) := by decide +kernel
theorem dX11_best_19 : decode cX11_best 19 = .ok (.istore 5, 2) := by decide +kernel
theorem dX11_best_21 : decode cX11_best 21 = .ok (.aload_n 0, 1) := by decide +kernel
theorem dX11_best_22 : decode cX11_best 22 = .ok (.getfield 12, 3) := by decide +kernel
theorem dX11_best_25 : decode cX11_best 25 = .ok (.invokevirtual 236, 3) := by decide +kernel
theorem dX11_best_28 : decode cX11_best 28 = .ok (.istore 6, 2) := by decide +kernel
theorem dX11_best_30 : decode cX11_best 30 = .ok (.iconst 0, 1) := by decide +kernel
theorem dX11_best_31 : decode cX11_best 31 = .ok (.istore 7, 2) := by decide +kernel
theorem dX11_best_33 : decode cX11_best 33 = .ok (.iload 7, 2) := by decide +kernel
theorem dX11_best_35 : decode cX11_best 35 = .ok (.aload_n 0, 1) := by decide +kernel
theorem dX11_best_36 : decode cX11_best 36 = .ok (.getfield 169, 3) := by decide +kernel
theorem dX11_best_39 : decode cX11_best 39 = .ok (.if_icmp .ge 78, 3) := by decide +kernel
theorem dX11_best_42 : decode cX11_best 42 = .ok (.iload 7, 2) := by decide +kernel
theorem dX11_best_44 : decode cX11_best 44 = .ok (.iconst 1, 1) := by decide +kernel
theorem dX11_best_45 : decode cX11_best 45 = .ok (.iadd, 1) := by decide +kernel
theorem dX11_best_46 : decode cX11_best 46 = .ok (.istore 8, 2) := by decide +kernel
theorem dX11_best_48 : decode cX11_best 48 = .ok (.iload 8, 2) := by decide +kernel
theorem dX11_best_50 : decode cX11_best 50 = .ok (.aload_n 0, 1) := by decide +kernel
theorem dX11_best_51 : decode cX11_best 51 = .ok (.getfield 169, 3) := by decide +kernel
theorem dX11_best_54 : decode cX11_best 54 = .ok (.if_icmp .ge 57, 3) := by decide +kernel
theorem dX11_best_57 : decode cX11_best 57 = .ok (.aload_n 0, 1) := by decide +kernel
theorem dX11_best_58 : decode cX11_best 58 = .ok (.getfield 12, 3) := by decide +kernel
theorem dX11_best_61 : decode cX11_best 61 = .ok (.aload_n 0, 1) := by decide +kernel
theorem dX11_best_62 : decode cX11_best 62 = .ok (.iload 7, 2) := by decide +kernel
theorem dX11_best_64 : decode cX11_best 64 = .ok (.invokevirtual 183, 3) := by decide +kernel
theorem dX11_best_67 : decode cX11_best 67 = .ok (.aload_n 0, 1) := by decide +kernel
theorem dX11_best_68 : decode cX11_best 68 = .ok (.iload 8, 2) := by decide +kernel
theorem dX11_best_70 : decode cX11_best 70 = .ok (.invokevirtual 183, 3) := by decide +kernel
theorem dX11_best_73 : decode cX11_best 73 = .ok (.iload 6, 2) := by decide +kernel
theorem dX11_best_75 : decode cX11_best 75 = .ok (.invokestatic 245, 3) := by decide +kernel
theorem dX11_best_78 : decode cX11_best 78 = .ok (.lstore 9, 2) := by decide +kernel
theorem dX11_best_80 : decode cX11_best 80 = .ok (.iload 4, 2) := by decide +kernel
theorem dX11_best_82 : decode cX11_best 82 = .ok (.bipush (-9), 2) := by decide +kernel
theorem dX11_best_84 : decode cX11_best 84 = .ok (.if_icmp .eq 10, 3) := by decide +kernel
theorem dX11_best_87 : decode cX11_best 87 = .ok (.lload 9, 2) := by decide +kernel
theorem dX11_best_89 : decode cX11_best 89 = .ok (.lload_n 2, 1) := by decide +kernel
theorem dX11_best_90 : decode cX11_best 90 = .ok (.lcmp, 1) := by decide +kernel
theorem dX11_best_91 : decode cX11_best 91 = .ok (.ifCond .ge 14, 3) := by decide +kernel
theorem dX11_best_94 : decode cX11_best 94 = .ok (.lload 9, 2) := by decide +kernel
theorem dX11_best_96 : decode cX11_best 96 = .ok (.lstore_n 2, 1) := by decide +kernel
theorem dX11_best_97 : decode cX11_best 97 = .ok (.iload 7, 2) := by decide +kernel
theorem dX11_best_99 : decode cX11_best 99 = .ok (.istore 4, 2) := by decide +kernel
theorem dX11_best_101 : decode cX11_best 101 = .ok (.iload 8, 2) := by decide +kernel
theorem dX11_best_103 : decode cX11_best 103 = .ok (.istore 5, 2) := by decide +kernel
theorem dX11_best_105 : decode cX11_best 105 = .ok (.iinc 8 1, 3) := by decide +kernel
theorem dX11_best_108 : decode cX11_best 108 = .ok (.goto (-60), 3) := by decide +kernel
theorem dX11_best_111 : decode cX11_best 111 = .ok (.iinc 7 1, 3) := by decide +kernel
theorem dX11_best_114 : decode cX11_best 114 = .ok (.goto (-81), 3) := by decide +kernel
theorem dX11_best_117 : decode cX11_best 117 = .ok (.iload_n 1, 1) := by decide +kernel
theorem dX11_best_118 : decode cX11_best 118 = .ok (.ifCond .ne 8, 3) := by decide +kernel
theorem dX11_best_121 : decode cX11_best 121 = .ok (.iload 4, 2) := by decide +kernel
theorem dX11_best_123 : decode cX11_best 123 = .ok (.goto 5, 3) := by decide +kernel
theorem dX11_best_126 : decode cX11_best 126 = .ok (.iload 5, 2) := by decide +kernel
theorem dX11_best_128 : decode cX11_best 128 = .ok (.ireturn, 1) := by decide +kernel
theorem dX11_strip_0 : decode cX11_strip 0 = .ok (.aload_n 0, 1) := by decide +kernel
theorem dX11_strip_1 : decode cX11_strip 1 = .ok (.iload_n 1, 1) := by decide +kernel
theorem dX11_strip_2 : decode cX11_strip 2 = .ok (.invokevirtual 183, 3) := by decide +kernel
theorem dX11_strip_5 : decode cX11_strip 5 = .ok (.astore 5, 2) := by decide +kernel
theorem dX11_strip_7 : decode cX11_strip 7 = .ok (.aload_n 0, 1) := by decide +kernel
theorem dX11_strip_8 : decode cX11_strip 8 = .ok (.iload_n 2, 1) := by decide +kernel
theorem dX11_strip_9 : decode cX11_strip 9 = .ok (.invokevirtual 183, 3) := by decide +kernel
theorem dX11_strip_12 : decode cX11_strip 12 = .ok (.astore 6, 2) := by decide +kernel
theorem dX11_strip_14 : decode cX11_strip 14 = .ok (.aload 5, 2) := by decide +kernel
theorem dX11_strip_16 : decode cX11_strip 16 = .ok (.ifnull 22, 3) := by decide +kernel
theorem dX11_strip_19 : decode cX11_strip 19 = .ok (.aload 6, 2) := by decide +kernel
theorem dX11_strip_21 : decode cX11_strip 21 = .ok (.ifnull 17, 3) := by decide +kernel
theorem dX11_strip_24 : decode cX11_strip 24 = .ok (.iload_n 3, 1) := by decide +kernel
theorem dX11_strip_25 : decode cX11_strip 25 = .ok (.aload 5, 2) := by decide +kernel
theorem dX11_strip_27 : decode cX11_strip 27 = .ok (.aload 6, 2) := by decide +kernel
theorem dX11_strip_29 : decode cX11_strip 29 = .ok (.invokestatic 223, 3) := by decide +kernel
theorem dX11_strip_32 : decode cX11_strip 32 = .ok (.invokestatic 58, 3) := by decide +kernel
theorem dX11_strip_35 : decode cX11_strip 35 = .ok (.ifCond .ne 5, 3) := by decide +kernel
theorem dX11_strip_38 : decode cX11_strip 38 = .ok (.iconst (-1), 1) := by decide +kernel
theorem dX11_strip_39 : decode cX11_strip 39 = .ok (.ireturn, 1) := by decide +kernel
theorem dX11_strip_40 : decode cX11_strip 40 = .ok (.iload 4, 2) := by decide +kernel
theorem dX11_strip_42 : decode cX11_strip 42 = .ok (.iconst 3, 1) := by decide +kernel
theorem dX11_strip_43 : decode cX11_strip 43 = .ok (.invokestatic 58, 3) := by decide +kernel
theorem dX11_strip_46 : decode cX11_strip 46 = .ok (.ifCond .eq 8, 3) := by decide +kernel
theorem dX11_strip_49 : decode cX11_strip 49 = .ok (.iload_n 1, 1) := by decide +kernel
theorem dX11_strip_50 : decode cX11_strip 50 = .ok (.iload_n 2, 1) := by decide +kernel
theorem dX11_strip_51 : decode cX11_strip 51 = .ok (.if_icmp .ne 6, 3) := by decide +kernel
theorem dX11_strip_54 : decode cX11_strip 54 = .ok (.bipush (-2), 2) := by decide +kernel
theorem dX11_strip_56 : decode cX11_strip 56 = .ok (.ireturn, 1) := by decide +kernel
theorem dX11_strip_57 : decode cX11_strip 57 = .ok (.aload 5, 2) := by decide +kernel
theorem dX11_strip_59 : decode cX11_strip 59 = .ok (.aload 6, 2) := by decide +kernel
theorem dX11_strip_61 : decode cX11_strip 61 = .ok (.iload_n 3, 1) := by decide +kernel
theorem dX11_strip_62 : decode cX11_strip 62 = .ok (.invokestatic 248, 3) := by decide +kernel
theorem dX11_strip_65 : decode cX11_strip 65 = .ok (.istore 7, 2) := by decide +kernel
theorem dX11_strip_67 : decode cX11_strip 67 = .ok (.iload 4, 2) := by decide +kernel
theorem dX11_strip_69 : decode cX11_strip 69 = .ok (.ifCond .ne 13, 3) := by decide +kernel
theorem dX11_strip_72 : decode cX11_strip 72 = .ok (.aload_n 0, 1) := by decide +kernel
theorem dX11_strip_73 : decode cX11_strip 73 = .ok (.getfield 12, 3) := by decide +kernel
theorem dX11_strip_76 : decode cX11_strip 76 = .ok (.iload 7, 2) := by decide +kernel
theorem dX11_strip_78 : decode cX11_strip 78 = .ok (.invokevirtual 252, 3) := by decide +kernel
theorem dX11_strip_81 : decode cX11_strip 81 = .ok (.ireturn, 1) := by decide +kernel
theorem dX11_strip_82 : decode cX11_strip 82 = .ok (.aload_n 0, 1) := by decide +kernel
theorem dX11_strip_83 : decode cX11_strip 83 = .ok (.getfield 12, 3) := by decide +kernel
theorem dX11_strip_86 : decode cX11_strip 86 = .ok (.iload 7, 2) := by decide +kernel
theorem dX11_strip_88 : decode cX11_strip 88 = .ok (.invokevirtual 255, 3) := by decide +kernel
theorem dX11_strip_91 : decode cX11_strip 91 = .ok (.istore 8, 2) := by decide +kernel
theorem dX11_strip_93 : decode cX11_strip 93 = .ok (.iload 4, 2) := by decide +kernel
theorem dX11_strip_95 : decode cX11_strip 95 = .ok (.iconst 1, 1) := by decide +kernel
theorem dX11_strip_96 : decode cX11_strip 96 = .ok (.if_icmp .eq 10, 3) := by decide +kernel
theorem dX11_strip_99 : decode cX11_strip 99 = .ok (.iload 8, 2) := by decide +kernel
theorem dX11_strip_101 : decode cX11_strip 101 = .ok (.bipush (-9), 2) := by decide +kernel
theorem dX11_strip_103 : decode cX11_strip 103 = .ok (.if_icmp .ne 8, 3) := by decide +kernel
theorem dX11_strip_106 : decode cX11_strip 106 = .ok (.iload 8, 2) := by decide +kernel
theorem dX11_strip_108 : decode cX11_strip 108 = .ok (.goto 14, 3) := by decide +kernel
theorem dX11_strip_111 : decode cX11_strip 111 = .ok (.aload_n 0, 1) := by decide +kernel
theorem dX11_strip_112 : decode cX11_strip 112 = .ok (.getfield 12, 3) := by decide +kernel
theorem dX11_strip_115 : decode cX11_strip 115 = .ok (.iload 8, 2) := by decide +kernel
theorem dX11_strip_117 : decode cX11_strip 117 = .ok (.iload 7, 2) := by decide +kernel
theorem dX11_strip_119 : decode cX11_strip 119 = .ok (.invokevirtual 258, 3) := by decide +kernel
theorem dX11_strip_122 : decode cX11_strip 122 = .ok (.ireturn, 1) := by decide +kernel
theorem dX11_with_0 : decode cX11_with 0 = .ok (.aload_n 0, 1) := by decide +kernel
theorem dX11_with_1 : decode cX11_with 1 = .ok (.iload_n 1, 1) := by decide +kernel
theorem dX11_with_2 : decode cX11_with 2 = .ok (.invokevirtual 183, 3) := by decide +kernel
theorem dX11_with_5 : decode cX11_with 5 = .ok (.astore 5, 2) := by decide +kernel
theorem dX11_with_7 : decode cX11_with 7 = .ok (.aload_n 0, 1) := by decide +kernel
theorem dX11_with_8 : decode cX11_with 8 = .ok (.iload_n 2, 1) := by decide +kernel
theorem dX11_with_9 : decode cX11_with 9 = .ok (.invokevirtual 183, 3) := by decide +kernel
theorem dX11_with_12 : decode cX11_with 12 = .ok (.astore 6, 2) := by decide +kernel
theorem dX11_with_14 : decode cX11_with 14 = .ok (.aload_n 0, 1) := by decide +kernel
theorem dX11_with_15 : decode cX11_with 15 = .ok (.iload_n 3, 1) := by decide +kernel
theorem dX11_with_16 : decode cX11_with 16 = .ok (.invokevirtual 183, 3) := by decide +kernel
theorem dX11_with_19 : decode cX11_with 19 = .ok (.astore 7, 2) := by decide +kernel
theorem dX11_with_21 : decode cX11_with 21 = .ok (.aload 5, 2) := by decide +kernel
theorem dX11_with_23 : decode cX11_with 23 = .ok (.ifnull 13, 3) := by decide +kernel
theorem dX11_with_26 : decode cX11_with 26 = .ok (.aload 6, 2) := by decide +kernel
theorem dX11_with_28 : decode cX11_with 28 = .ok (.ifnull 8, 3) := by decide +kernel
theorem dX11_with_31 : decode cX11_with 31 = .ok (.aload 7, 2) := by decide +kernel
theorem dX11_with_33 : decode cX11_with 33 = .ok (.ifnonnull 5, 3) := by decide +kernel
theorem dX11_with_36 : decode cX11_with 36 = .ok (.iconst (-1), 1) := by decide +kernel
theorem dX11_with_37 : decode cX11_with 37 = .ok (.ireturn, 1) := by decide +kernel
theorem dX11_with_38 : decode cX11_with 38 = .ok (.aload 5, 2) := by decide +kernel
theorem dX11_with_40 : decode cX11_with 40 = .ok (.aload 6, 2) := by decide +kernel
theorem dX11_with_42 : decode cX11_with 42 = .ok (.invokestatic 223, 3) := by decide +kernel
theorem dX11_with_45 : decode cX11_with 45 = .ok (.aload 6, 2) := by decide +kernel
theorem dX11_with_47 : decode cX11_with 47 = .ok (.aload 7, 2) := by decide +kernel
theorem dX11_with_49 : decode cX11_with 49 = .ok (.invokestatic 223, 3) := by decide +kernel
theorem dX11_with_52 : decode cX11_with 52 = .ok (.invokestatic 261, 3) := by decide +kernel
theorem dX11_with_55 : decode cX11_with 55 = .ok (.istore 8, 2) := by decide +kernel
theorem dX11_with_57 : decode cX11_with 57 = .ok (.iload 4, 2) := by decide +kernel
theorem dX11_with_59 : decode cX11_with 59 = .ok (.iload 8, 2) := by decide +kernel
theorem dX11_with_61 : decode cX11_with 61 = .ok (.invokestatic 58, 3) := by decide +kernel
theorem dX11_with_64 : decode cX11_with 64 = .ok (.ifCond .ne 5, 3) := by decide +kernel
theorem dX11_with_67 : decode cX11_with 67 = .ok (.iconst (-1), 1) := by decide +kernel
theorem dX11_with_68 : decode cX11_with 68 = .ok (.ireturn, 1) := by decide +kernel
theorem dX11_with_69 : decode cX11_with 69 = .ok (.iload_n 1, 1) := by decide +kernel
theorem dX11_with_70 : decode cX11_with 70 = .ok (.iload_n 2, 1) := by decide +kernel
theorem dX11_with_71 : decode cX11_with 71 = .ok (.if_icmp .eq 13, 3) := by decide +kernel
theorem dX11_with_74 : decode cX11_with 74 = .ok (.iload_n 1, 1) := by decide +kernel
theorem dX11_with_75 : decode cX11_with 75 = .ok (.iload_n 3, 1) := by decide +kernel
theorem dX11_with_76 : decode cX11_with 76 = .ok (.if_icmp .eq 8, 3) := by decide +kernel
theorem dX11_with_79 : decode cX11_with 79 = .ok (.iload_n 2, 1) := by decide +kernel
theorem dX11_with_80 : decode cX11_with 80 = .ok (.iload_n 3, 1) := by decide +kernel
theorem dX11_with_81 : decode cX11_with 81 = .ok (.if_icmp .ne 6, 3) := by decide +kernel
theorem dX11_with_84 : decode cX11_with 84 = .ok (.bipush (-2), 2) := by decide +kernel
theorem dX11_with_86 : decode cX11_with 86 = .ok (.ireturn, 1) := by decide +kernel
theorem dX11_with_87 : decode cX11_with 87 = .ok (.aload_n 0, 1) := by decide +kernel
theorem dX11_with_88 : decode cX11_with 88 = .ok (.getfield 12, 3) := by decide +kernel
theorem dX11_with_91 : decode cX11_with 91 = .ok (.aload 5, 2) := by decide +kernel
theorem dX11_with_93 : decode cX11_with 93 = .ok (.aload 6, 2) := by decide +kernel
theorem dX11_with_95 : decode cX11_with 95 = .ok (.iload 4, 2) := by decide +kernel
theorem dX11_with_97 : decode cX11_with 97 = .ok (.invokestatic 248, 3) := by decide +kernel
theorem dX11_with_100 : decode cX11_with 100 = .ok (.aload 5, 2) := by decide +kernel
theorem dX11_with_102 : decode cX11_with 102 = .ok (.aload 7, 2) := by decide +kernel
theorem dX11_with_104 : decode cX11_with 104 = .ok (.iload 4, 2) := by decide +kernel
theorem dX11_with_106 : decode cX11_with 106 = .ok (.invokestatic 248, 3) := by decide +kernel
theorem dX11_with_109 : decode cX11_with 109 = .ok (.invokevirtual 266, 3) := by decide +kernel
theorem dX11_with_112 : decode cX11_with 112 = .ok (.ireturn, 1) := by decide +kernel
theorem dX11_crib_0 : decode cX11_crib 0 = .ok (.aload_n 0, 1) := by decide +kernel
theorem dX11_crib_1 : decode cX11_crib 1 = .ok (.iconst 0, 1) := by decide +kernel
theorem dX11_crib_2 : decode cX11_crib 2 = .ok (.putfield 79, 3) := by decide +kernel
theorem dX11_crib_5 : decode cX11_crib 5 = .ok (.aload_n 0, 1) := by decide +kernel
theorem dX11_crib_6 : decode cX11_crib 6 = .ok (.iload_n 1, 1) := by decide +kernel
theorem dX11_crib_7 : decode cX11_crib 7 = .ok (.invokevirtual 183, 3) := by decide +kernel
theorem dX11_crib_10 : decode cX11_crib 10 = .ok (.astore 8, 2) := by decide +kernel
theorem dX11_crib_12 : decode cX11_crib 12 = .ok (.aload_n 0, 1) := by decide +kernel
theorem dX11_crib_13 : decode cX11_crib 13 = .ok (.iload_n 2, 1) := by decide +kernel
theorem dX11_crib_14 : decode cX11_crib 14 = .ok (.invokevirtual 183, 3) := by decide +kernel
theorem dX11_crib_17 : decode cX11_crib 17 = .ok (.astore 9, 2) := by decide +kernel
theorem dX11_crib_19 : decode cX11_crib 19 = .ok (.aload_n 0, 1) := by decide +kernel
theorem dX11_crib_20 : decode cX11_crib 20 = .ok (.iload 4, 2) := by decide +kernel
theorem dX11_crib_22 : decode cX11_crib 22 = .ok (.invokevirtual 83, 3) := by decide +kernel
theorem dX11_crib_25 : decode cX11_crib 25 = .ok (.astore 10, 2) := by decide +kernel
theorem dX11_crib_27 : decode cX11_crib 27 = .ok (.aload 8, 2) := by decide +kernel
theorem dX11_crib_29 : decode cX11_crib 29 = .ok (.ifnull 13, 3) := by decide +kernel
theorem dX11_crib_32 : decode cX11_crib 32 = .ok (.aload 9, 2) := by decide +kernel
theorem dX11_crib_34 : decode cX11_crib 34 = .ok (.ifnull 8, 3) := by decide +kernel
theorem dX11_crib_37 : decode cX11_crib 37 = .ok (.aload 10, 2) := by decide +kernel
theorem dX11_crib_39 : decode cX11_crib 39 = .ok (.ifnonnull 5, 3) := by decide +kernel
theorem dX11_crib_42 : decode cX11_crib 42 = .ok (.iconst (-1), 1) := by decide +kernel
theorem dX11_crib_43 : decode cX11_crib 43 = .ok (.ireturn, 1) := by decide +kernel
theorem dX11_crib_44 : decode cX11_crib 44 = .ok (.iload_n 1, 1) := by decide +kernel
theorem dX11_crib_45 : decode cX11_crib 45 = .ok (.iload_n 2, 1) := by decide +kernel
theorem dX11_crib_46 : decode cX11_crib 46 = .ok (.if_icmp .eq 20, 3) := by decide +kernel
theorem dX11_crib_49 : decode cX11_crib 49 = .ok (.iload_n 3, 1) := by decide +kernel
theorem dX11_crib_50 : decode cX11_crib 50 = .ok (.iconst 2, 1) := by decide +kernel
theorem dX11_crib_51 : decode cX11_crib 51 = .ok (.invokestatic 58, 3) := by decide +kernel
theorem dX11_crib_54 : decode cX11_crib 54 = .ok (.ifCond .eq 12, 3) := by decide +kernel
theorem dX11_crib_57 : decode cX11_crib 57 = .ok (.iload 5, 2) := by decide +kernel
theorem dX11_crib_59 : decode cX11_crib 59 = .ok (.iconst 3, 1) := by decide +kernel
theorem dX11_crib_60 : decode cX11_crib 60 = .ok (.invokestatic 58, 3) := by decide +kernel
theorem dX11_crib_63 : decode cX11_crib 63 = .ok (.ifCond .ne 6, 3) := by decide +kernel
theorem dX11_crib_66 : decode cX11_crib 66 = .ok (.bipush (-2), 2) := by decide +kernel
theorem dX11_crib_68 : decode cX11_crib 68 = .ok (.ireturn, 1) := by decide +kernel
theorem dX11_crib_69 : decode cX11_crib 69 = .ok (.aload 10, 2) := by decide +kernel
theorem dX11_crib_71 : decode cX11_crib 71 = .ok (.iload 5, 2) := by decide +kernel
theorem dX11_crib_73 : decode cX11_crib 73 = .ok (.iload 6, 2) := by decide +kernel
theorem dX11_crib_75 : decode cX11_crib 75 = .ok (.iload 7, 2) := by decide +kernel
theorem dX11_crib_77 : decode cX11_crib 77 = .ok (.invokevirtual 87, 3) := by decide +kernel
theorem dX11_crib_80 : decode cX11_crib 80 = .ok (.istore 11, 2) := by decide +kernel
theorem dX11_crib_82 : decode cX11_crib 82 = .ok (.iload 11, 2) := by decide +kernel
theorem dX11_crib_84 : decode cX11_crib 84 = .ok (.ifCond .eq 10, 3) := by decide +kernel
theorem dX11_crib_87 : decode cX11_crib 87 = .ok (.aload_n 0, 1) := by decide +kernel
theorem dX11_crib_88 : decode cX11_crib 88 = .ok (.iload 11, 2) := by decide +kernel
theorem dX11_crib_90 : decode cX11_crib 90 = .ok (.invokevirtual 91, 3) := by decide +kernel
theorem dX11_crib_93 : decode cX11_crib 93 = .ok (.ireturn, 1) := by decide +kernel
theorem dX11_crib_94 : decode cX11_crib 94 = .ok (.iload 7, 2) := by decide +kernel
theorem dX11_crib_96 : decode cX11_crib 96 = .ok (.iconst 1, 1) := by decide +kernel
theorem dX11_crib_97 : decode cX11_crib 97 = .ok (.if_icmp .lt 10, 3) := by decide +kernel
theorem dX11_crib_100 : decode cX11_crib 100 = .ok (.iload 7, 2) := by decide +kernel
theorem dX11_crib_102 : decode cX11_crib 102 = .ok (.bipush 6, 2) := by decide +kernel
theorem dX11_crib_104 : decode cX11_crib 104 = .ok (.if_icmp .le 6, 3) := by decide +kernel
theorem dX11_crib_107 : decode cX11_crib 107 = .ok (.bipush (-2), 2) := by decide +kernel
theorem dX11_crib_109 : decode cX11_crib 109 = .ok (.ireturn, 1) := by decide +kernel
theorem dX11_crib_110 : decode cX11_crib 110 = .ok (.aload_n 0, 1) := by decide +kernel
theorem dX11_crib_111 : decode cX11_crib 111 = .ok (.getfield 12, 3) := by decide +kernel
theorem dX11_crib_114 : decode cX11_crib 114 = .ok (.aload 10, 2) := by decide +kernel
theorem dX11_crib_116 : decode cX11_crib 116 = .ok (.iload 6, 2) := by decide +kernel
theorem dX11_crib_118 : decode cX11_crib 118 = .ok (.iload 7, 2) := by decide +kernel
theorem dX11_crib_120 : decode cX11_crib 120 = .ok (.invokevirtual 162, 3) := by decide +kernel
theorem dX11_crib_123 : decode cX11_crib 123 = .ok (.ifCond .ne 5, 3) := by decide +kernel
theorem dX11_crib_126 : decode cX11_crib 126 = .ok (.iconst (-1), 1) := by decide +kernel
theorem dX11_crib_127 : decode cX11_crib 127 = .ok (.ireturn, 1) := by decide +kernel
theorem dX11_crib_128 : decode cX11_crib 128 = .ok (.iconst 0, 1) := by decide +kernel
theorem dX11_crib_129 : decode cX11_crib 129 = .ok (.istore 12, 2) := by decide +kernel
theorem dX11_crib_131 : decode cX11_crib 131 = .ok (.aload 8, 2) := by decide +kernel
theorem dX11_crib_133 : decode cX11_crib 133 = .ok (.aload 9, 2) := by decide +kernel
theorem dX11_crib_135 : decode cX11_crib 135 = .ok (.invokestatic 223, 3) := by decide +kernel
theorem dX11_crib_138 : decode cX11_crib 138 = .ok (.istore 13, 2) := by decide +kernel
theorem dX11_crib_140 : decode cX11_crib 140 = .ok (.iconst 0, 1) := by decide +kernel
theorem dX11_crib_141 : decode cX11_crib 141 = .ok (.istore 14, 2) := by decide +kernel
theorem dX11_crib_143 : decode cX11_crib 143 = .ok (.iload 14, 2) := by decide +kernel
theorem dX11_crib_145 : decode cX11_crib 145 = .ok (.iload 7, 2) := by decide +kernel
theorem dX11_crib_147 : decode cX11_crib 147 = .ok (.iadd, 1) := by decide +kernel
theorem dX11_crib_148 : decode cX11_crib 148 = .ok (.iload 13, 2) := by decide +kernel
theorem dX11_crib_150 : decode cX11_crib 150 = .ok (.if_icmp .gt 42, 3) := by decide +kernel
theorem dX11_crib_153 : decode cX11_crib 153 = .ok (.aload_n 0, 1) := by decide +kernel
theorem dX11_crib_154 : decode cX11_crib 154 = .ok (.getfield 12, 3) := by decide +kernel
theorem dX11_crib_157 : decode cX11_crib 157 = .ok (.aload 8, 2) := by decide +kernel
theorem dX11_crib_159 : decode cX11_crib 159 = .ok (.aload 9, 2) := by decide +kernel
theorem dX11_crib_161 : decode cX11_crib 161 = .ok (.iload 14, 2) := by decide +kernel
theorem dX11_crib_163 : decode cX11_crib 163 = .ok (.aload 10, 2) := by decide +kernel
theorem dX11_crib_165 : decode cX11_crib 165 = .ok (.iload 6, 2) := by decide +kernel
theorem dX11_crib_167 : decode cX11_crib 167 = .ok (.iload 7, 2) := by decide +kernel
theorem dX11_crib_169 : decode cX11_crib 169 = .ok (.invokestatic 269, 3) := by decide +kernel
theorem dX11_crib_172 : decode cX11_crib 172 = .ok (.ifCond .eq 14, 3) := by decide +kernel
theorem dX11_crib_175 : decode cX11_crib 175 = .ok (.iload_n 3, 1) := by decide +kernel
theorem dX11_crib_176 : decode cX11_crib 176 = .ok (.iconst 1, 1) := by decide +kernel
theorem dX11_crib_177 : decode cX11_crib 177 = .ok (.if_icmp .ne 6, 3) := by decide +kernel
theorem dX11_crib_180 : decode cX11_crib 180 = .ok (.iload 14, 2) := by decide +kernel
theorem dX11_crib_182 : decode cX11_crib 182 = .ok (.ireturn, 1) := by decide +kernel
theorem dX11_crib_183 : decode cX11_crib 183 = .ok (.iinc 12 1, 3) := by decide +kernel
theorem dX11_crib_186 : decode cX11_crib 186 = .ok (.iinc 14 1, 3) := by decide +kernel
theorem dX11_crib_189 : decode cX11_crib 189 = .ok (.goto (-46), 3) := by decide +kernel
theorem dX11_crib_192 : decode cX11_crib 192 = .ok (.iload_n 3, 1) := by decide +kernel
theorem dX11_crib_193 : decode cX11_crib 193 = .ok (.ifCond .ne 8, 3) := by decide +kernel
theorem dX11_crib_196 : decode cX11_crib 196 = .ok (.iload 12, 2) := by decide +kernel
theorem dX11_crib_198 : decode cX11_crib 198 = .ok (.goto 5, 3) := by decide +kernel
theorem dX11_crib_201 : decode cX11_crib 201 = .ok (.bipush (-9), 2) := by decide +kernel
theorem dX11_crib_203 : decode cX11_crib 203 = .ok (.ireturn, 1) := by decide +kernel
theorem dX11_open_0 : decode cX11_open 0 = .ok (.iload_n 1, 1) := by decide +kernel
theorem dX11_open_1 : decode cX11_open 1 = .ok (.bipush 100, 2) := by decide +kernel
theorem dX11_open_3 : decode cX11_open 3 = .ok (.invokestatic 58, 3) := by decide +kernel
theorem dX11_open_6 : decode cX11_open 6 = .ok (.ifCond .ne 6, 3) := by decide +kernel
theorem dX11_open_9 : decode cX11_open 9 = .ok (.bipush (-2), 2) := by decide +kernel
theorem dX11_open_11 : decode cX11_open 11 = .ok (.ireturn, 1) := by decide +kernel
theorem dX11_open_12 : decode cX11_open 12 = .ok (.iconst 0, 1) := by decide +kernel
theorem dX11_open_13 : decode cX11_open 13 = .ok (.istore_n 2, 1) := by decide +kernel
theorem dX11_open_14 : decode cX11_open 14 = .ok (.iconst 0, 1) := by decide +kernel
theorem dX11_open_15 : decode cX11_open 15 = .ok (.istore_n 3, 1) := by decide +kernel
theorem dX11_open_16 : decode cX11_open 16 = .ok (.iload_n 3, 1) := by decide +kernel
theorem dX11_open_17 : decode cX11_open 17 = .ok (.aload_n 0, 1) := by decide +kernel
theorem dX11_open_18 : decode cX11_open 18 = .ok (.getfield 169, 3) := by decide +kernel
theorem dX11_open_21 : decode cX11_open 21 = .ok (.if_icmp .ge 47, 3) := by decide +kernel
theorem dX11_open_24 : decode cX11_open 24 = .ok (.aload_n 0, 1) := by decide +kernel
theorem dX11_open_25 : decode cX11_open 25 = .ok (.iload_n 3, 1) := by decide +kernel
theorem dX11_open_26 : decode cX11_open 26 = .ok (.invokevirtual 183, 3) := by decide +kernel
theorem dX11_open_29 : decode cX11_open 29 = .ok (.astore 4, 2) := by decide +kernel
theorem dX11_open_31 : decode cX11_open 31 = .ok (.aload 4, 2) := by decide +kernel
theorem dX11_open_33 : decode cX11_open 33 = .ok (.ifnull 29, 3) := by decide +kernel
theorem dX11_open_36 : decode cX11_open 36 = .ok (.aload 4, 2) := by decide +kernel
theorem dX11_open_38 : decode cX11_open 38 = .ok (.getfield 190, 3) := by decide +kernel
theorem dX11_open_41 : decode cX11_open 41 = .ok (.iload_n 1, 1) := by decide +kernel
theorem dX11_open_42 : decode cX11_open 42 = .ok (.if_icmp .gt 20, 3) := by decide +kernel
theorem dX11_open_45 : decode cX11_open 45 = .ok (.aload_n 0, 1) := by decide +kernel
theorem dX11_open_46 : decode cX11_open 46 = .ok (.iload_n 1, 1) := by decide +kernel
theorem dX11_open_47 : decode cX11_open 47 = .ok (.aload 4, 2) := by decide +kernel
theorem dX11_open_49 : decode cX11_open 49 = .ok (.getfield 187, 3) := by decide +kernel
theorem dX11_open_52 : decode cX11_open 52 = .ok (.invokevirtual 273, 3) := by decide +kernel
theorem dX11_open_55 : decode cX11_open 55 = .ok (.iconst 1, 1) := by decide +kernel
theorem dX11_open_56 : decode cX11_open 56 = .ok (.if_icmp .le 6, 3) := by decide +kernel
theorem dX11_open_59 : decode cX11_open 59 = .ok (.iinc 2 1, 3) := by decide +kernel
theorem dX11_open_62 : decode cX11_open 62 = .ok (.iinc 3 1, 3) := by decide +kernel
theorem dX11_open_65 : decode cX11_open 65 = .ok (.goto (-49), 3) := by decide +kernel
theorem dX11_open_68 : decode cX11_open 68 = .ok (.iload_n 2, 1) := by decide +kernel
theorem dX11_open_69 : decode cX11_open 69 = .ok (.ireturn, 1) := by decide +kernel
theorem dX11_makers_0 : decode cX11_makers 0 = .ok (.aload_n 0, 1) := by decide +kernel
theorem dX11_makers_1 : decode cX11_makers 1 = .ok (.iload_n 1, 1) := by decide +kernel
theorem dX11_makers_2 : decode cX11_makers 2 = .ok (.invokevirtual 138, 3) := by decide +kernel
theorem dX11_makers_5 : decode cX11_makers 5 = .ok (.astore_n 3, 1) := by decide +kernel
theorem dX11_makers_6 : decode cX11_makers 6 = .ok (.aload_n 3, 1) := by decide +kernel
theorem dX11_makers_7 : decode cX11_makers 7 = .ok (.ifnonnull 5, 3) := by decide +kernel
theorem dX11_makers_10 : decode cX11_makers 10 = .ok (.iconst (-1), 1) := by decide +kernel
theorem dX11_makers_11 : decode cX11_makers 11 = .ok (.ireturn, 1) := by decide +kernel
theorem dX11_makers_12 : decode cX11_makers 12 = .ok (.iload_n 2, 1) := by decide +kernel
theorem dX11_makers_13 : decode cX11_makers 13 = .ok (.tableswitch 42 0 2 #[27, 32, 37], 27) := by decide +kernel
theorem dX11_makers_40 : decode cX11_makers 40 = .ok (.aload_n 3, 1) := by decide +kernel
theorem dX11_makers_41 : decode cX11_makers 41 = .ok (.invokevirtual 276, 3) := by decide +kernel
theorem dX11_makers_44 : decode cX11_makers 44 = .ok (.ireturn, 1) := by decide +kernel
theorem dX11_makers_45 : decode cX11_makers 45 = .ok (.aload_n 3, 1) := by decide +kernel
theorem dX11_makers_46 : decode cX11_makers 46 = .ok (.invokevirtual 279, 3) := by decide +kernel
theorem dX11_makers_49 : decode cX11_makers 49 = .ok (.ireturn, 1) := by decide +kernel
theorem dX11_makers_50 : decode cX11_makers 50 = .ok (.aload_n 3, 1) := by decide +kernel
theorem dX11_makers_51 : decode cX11_makers 51 = .ok (.invokevirtual 282, 3) := by decide +kernel
theorem dX11_makers_54 : decode cX11_makers 54 = .ok (.ireturn, 1) := by decide +kernel
theorem dX11_makers_55 : decode cX11_makers 55 = .ok (.bipush (-2), 2) := by decide +kernel
theorem dX11_makers_57 : decode cX11_makers 57 = .ok (.ireturn, 1) := by decide +kernel
theorem dX11_like_0 : decode cX11_like 0 = .ok (.aload_n 0, 1) := by decide +kernel
theorem dX11_like_1 : decode cX11_like 1 = .ok (.iload_n 1, 1) := by decide +kernel
theorem dX11_like_2 : decode cX11_like 2 = .ok (.invokevirtual 138, 3) := by decide +kernel
theorem dX11_like_5 : decode cX11_like 5 = .ok (.astore_n 3, 1) := by decide +kernel
theorem dX11_like_6 : decode cX11_like 6 = .ok (.aload_n 0, 1) := by decide +kernel
theorem dX11_like_7 : decode cX11_like 7 = .ok (.iload_n 2, 1) := by decide +kernel
theorem dX11_like_8 : decode cX11_like 8 = .ok (.invokevirtual 138, 3) := by decide +kernel
theorem dX11_like_11 : decode cX11_like 11 = .ok (.astore 4, 2) := by decide +kernel
theorem dX11_like_13 : decode cX11_like 13 = .ok (.aload_n 3, 1) := by decide +kernel
theorem dX11_like_14 : decode cX11_like 14 = .ok (.ifnull 8, 3) := by decide +kernel
theorem dX11_like_17 : decode cX11_like 17 = .ok (.aload 4, 2) := by decide +kernel
theorem dX11_like_19 : decode cX11_like 19 = .ok (.ifnonnull 5, 3) := by decide +kernel
theorem dX11_like_22 : decode cX11_like 22 = .ok (.iconst (-1), 1) := by decide +kernel
theorem dX11_like_23 : decode cX11_like 23 = .ok (.ireturn, 1) := by decide +kernel
theorem dX11_like_24 : decode cX11_like 24 = .ok (.aload_n 3, 1) := by decide +kernel
theorem dX11_like_25 : decode cX11_like 25 = .ok (.aload 4, 2) := by decide +kernel
theorem dX11_like_27 : decode cX11_like 27 = .ok (.invokevirtual 285, 3) := by decide +kernel
theorem dX11_like_30 : decode cX11_like 30 = .ok (.invokestatic 117, 3) := by decide +kernel
theorem dX11_like_33 : decode cX11_like 33 = .ok (.ireturn, 1) := by decide +kernel
theorem dX11_next_0 : decode cX11_next 0 = .ok (.aload_n 0, 1) := by decide +kernel
theorem dX11_next_1 : decode cX11_next 1 = .ok (.iload_n 1, 1) := by decide +kernel
theorem dX11_next_2 : decode cX11_next 2 = .ok (.invokevirtual 138, 3) := by decide +kernel
