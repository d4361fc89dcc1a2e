theorem dX12_readDrill_122 : decode cX12_readDrill 122 = .ok (.ifCond .ne 8, 3) := by decide +kernel
theorem dX12_readDrill_125 : decode cX12_readDrill 125 = .ok (.aload_n 0, 1) := by decide +kernel
theorem dX12_readDrill_126 : decode cX12_readDrill 126 = .ok (.getfield 119, 3) := by decide +kernel
theorem dX12_readDrill_129 : decode cX12_readDrill 129 = .ok (.ireturn, 1) := by decide +kernel
theorem dX12_readDrill_130 : decode cX12_readDrill 130 = .ok (.aload_n 0, 1) := by decide +kernel
theorem dX12_readDrill_131 : decode cX12_readDrill 131 = .ok (.getfield 119, 3) := by decide +kernel
theorem dX12_readDrill_134 : decode cX12_readDrill 134 = .ok (.iload_n 2, 1) := by decide +kernel
theorem dX12_readDrill_135 : decode cX12_readDrill 135 = .ok (.if_icmp .ge 7, 3) := by decide +kernel
theorem dX12_readDrill_138 : decode cX12_readDrill 138 = .ok (.iconst 1, 1) := by decide +kernel
theorem dX12_readDrill_139 : decode cX12_readDrill 139 = .ok (.goto 4, 3) := by decide +kernel
theorem dX12_readDrill_142 : decode cX12_readDrill 142 = .ok (.iconst 0, 1) := by decide +kernel
theorem dX12_readDrill_143 : decode cX12_readDrill 143 = .ok (.istore_n 3, 1) := by decide +kernel
theorem dX12_readDrill_144 : decode cX12_readDrill 144 = .ok (.iload_n 3, 1) := by decide +kernel
theorem dX12_readDrill_145 : decode cX12_readDrill 145 = .ok (.ifCond .eq 70, 3) := by decide +kernel
theorem dX12_readDrill_148 : decode cX12_readDrill 148 = .ok (.aload_n 0, 1) := by decide +kernel
theorem dX12_readDrill_149 : decode cX12_readDrill 149 = .ok (.getfield 70, 3) := by decide +kernel
theorem dX12_readDrill_152 : decode cX12_readDrill 152 = .ok (.iload_n 1, 1) := by decide +kernel
theorem dX12_readDrill_153 : decode cX12_readDrill 153 = .ok (.aload_n 0, 1) := by decide +kernel
theorem dX12_readDrill_154 : decode cX12_readDrill 154 = .ok (.getfield 119, 3) := by decide +kernel
theorem dX12_readDrill_157 : decode cX12_readDrill 157 = .ok (.iadd, 1) := by decide +kernel
theorem dX12_readDrill_158 : decode cX12_readDrill 158 = .ok (.iaload, 1) := by decide +kernel
theorem dX12_readDrill_159 : decode cX12_readDrill 159 = .ok (.bipush 59, 2) := by decide +kernel
theorem dX12_readDrill_161 : decode cX12_readDrill 161 = .ok (.if_icmp .ne 39, 3) := by decide +kernel
theorem dX12_readDrill_164 : decode cX12_readDrill 164 = .ok (.aload_n 0, 1) := by decide +kernel
theorem dX12_readDrill_165 : decode cX12_readDrill 165 = .ok (.getfield 19, 3) := by decide +kernel
theorem dX12_readDrill_168 : decode cX12_readDrill 168 = .ok (.iconst 0, 1) := by decide +kernel
theorem dX12_readDrill_169 : decode cX12_readDrill 169 = .ok (.iaload, 1) := by decide +kernel
theorem dX12_readDrill_170 : decode cX12_readDrill 170 = .ok (.ifCond .lt 35, 3) := by decide +kernel
theorem dX12_readDrill_173 : decode cX12_readDrill 173 = .ok (.aload_n 0, 1) := by decide +kernel
theorem dX12_readDrill_174 : decode cX12_readDrill 174 = .ok (.getfield 19, 3) := by decide +kernel
theorem dX12_readDrill_177 : decode cX12_readDrill 177 = .ok (.iconst 1, 1) := by decide +kernel
theorem dX12_readDrill_178 : decode cX12_readDrill 178 = .ok (.iaload, 1) := by decide +kernel
theorem dX12_readDrill_179 : decode cX12_readDrill 179 = .ok (.ifCond .lt 26, 3) := by decide +kernel
theorem dX12_readDrill_182 : decode cX12_readDrill 182 = .ok (.aload_n 0, 1) := by decide +kernel
theorem dX12_readDrill_183 : decode cX12_readDrill 183 = .ok (.getfield 19, 3) := by decide +kernel
theorem dX12_readDrill_186 : decode cX12_readDrill 186 = .ok (.iconst 2, 1) := by decide +kernel
theorem dX12_readDrill_187 : decode cX12_readDrill 187 = .ok (.iaload, 1) := by decide +kernel
theorem dX12_readDrill_188 : decode cX12_readDrill 188 = .ok (.ifCond .lt 17, 3) := by decide +kernel
theorem dX12_readDrill_191 : decode cX12_readDrill 191 = .ok (.aload_n 0, 1) := by decide +kernel
theorem dX12_readDrill_192 : decode cX12_readDrill 192 = .ok (.getfield 19, 3) := by decide +kernel
theorem dX12_readDrill_195 : decode cX12_readDrill 195 = .ok (.iconst 3, 1) := by decide +kernel
theorem dX12_readDrill_196 : decode cX12_readDrill 196 = .ok (.iaload, 1) := by decide +kernel
theorem dX12_readDrill_197 : decode cX12_readDrill 197 = .ok (.ifCond .lt 8, 3) := by decide +kernel
theorem dX12_readDrill_200 : decode cX12_readDrill 200 = .ok (.aload_n 0, 1) := by decide +kernel
theorem dX12_readDrill_201 : decode cX12_readDrill 201 = .ok (.getfield 119, 3) := by decide +kernel
theorem dX12_readDrill_204 : decode cX12_readDrill 204 = .ok (.ireturn, 1) := by decide +kernel
theorem dX12_readDrill_205 : decode cX12_readDrill 205 = .ok (.aload_n 0, 1) := by decide +kernel
theorem dX12_readDrill_206 : decode cX12_readDrill 206 = .ok (.dup, 1) := by decide +kernel
theorem dX12_readDrill_207 : decode cX12_readDrill 207 = .ok (.getfield 119, 3) := by decide +kernel
theorem dX12_readDrill_210 : decode cX12_readDrill 210 = .ok (.iconst 1, 1) := by decide +kernel
theorem dX12_readDrill_211 : decode cX12_readDrill 211 = .ok (.iadd, 1) := by decide +kernel
theorem dX12_readDrill_212 : decode cX12_readDrill 212 = .ok (.putfield 119, 3) := by decide +kernel
theorem dX12_readDrill_215 : decode cX12_readDrill 215 = .ok (.goto (-179), 3) := by decide +kernel
theorem dX12_readDrill_218 : decode cX12_readDrill 218 = .ok (.iconst (-1), 1) := by decide +kernel
theorem dX12_readDrill_219 : decode cX12_readDrill 219 = .ok (.ireturn, 1) := by decide +kernel
theorem dX12_drill_0 : decode cX12_drill 0 = .ok (.iload_n 1, 1) := by decide +kernel
theorem dX12_drill_1 : decode cX12_drill 1 = .ok (.invokestatic 135, 3) := by decide +kernel
theorem dX12_drill_4 : decode cX12_drill 4 = .ok (.ifCond .eq 9, 3) := by decide +kernel
theorem dX12_drill_7 : decode cX12_drill 7 = .ok (.aload_n 0, 1) := by decide +kernel
theorem dX12_drill_8 : decode cX12_drill 8 = .ok (.iconst (-1), 1) := by decide +kernel
theorem dX12_drill_9 : decode cX12_drill 9 = .ok (.invokevirtual 98, 3) := by decide +kernel
theorem dX12_drill_12 : decode cX12_drill 12 = .ok (.ireturn, 1) := by decide +kernel
theorem dX12_drill_13 : decode cX12_drill 13 = .ok (.aload_n 0, 1) := by decide +kernel
theorem dX12_drill_14 : decode cX12_drill 14 = .ok (.iload_n 1, 1) := by decide +kernel
theorem dX12_drill_15 : decode cX12_drill 15 = .ok (.iload_n 2, 1) := by decide +kernel
theorem dX12_drill_16 : decode cX12_drill 16 = .ok (.iload_n 3, 1) := by decide +kernel
theorem dX12_drill_17 : decode cX12_drill 17 = .ok (.iload 4, 2) := by decide +kernel
theorem dX12_drill_19 : decode cX12_drill 19 = .ok (.i2l, 1) := by decide +kernel
theorem dX12_drill_20 : decode cX12_drill 20 = .ok (.invokevirtual 138, 3) := by decide +kernel
theorem dX12_drill_23 : decode cX12_drill 23 = .ok (.istore 5, 2) := by decide +kernel
theorem dX12_drill_25 : decode cX12_drill 25 = .ok (.iload 5, 2) := by decide +kernel
theorem dX12_drill_27 : decode cX12_drill 27 = .ok (.ifCond .ge 6, 3) := by decide +kernel
theorem dX12_drill_30 : decode cX12_drill 30 = .ok (.iload 5, 2) := by decide +kernel
theorem dX12_drill_32 : decode cX12_drill 32 = .ok (.ireturn, 1) := by decide +kernel
theorem dX12_drill_33 : decode cX12_drill 33 = .ok (.aload_n 0, 1) := by decide +kernel
theorem dX12_drill_34 : decode cX12_drill 34 = .ok (.bipush 60, 2) := by decide +kernel
theorem dX12_drill_36 : decode cX12_drill 36 = .ok (.iload_n 1, 1) := by decide +kernel
theorem dX12_drill_37 : decode cX12_drill 37 = .ok (.imul, 1) := by decide +kernel
theorem dX12_drill_38 : decode cX12_drill 38 = .ok (.iload_n 3, 1) := by decide +kernel
theorem dX12_drill_39 : decode cX12_drill 39 = .ok (.iadd, 1) := by decide +kernel
theorem dX12_drill_40 : decode cX12_drill 40 = .ok (.iload 4, 2) := by decide +kernel
theorem dX12_drill_42 : decode cX12_drill 42 = .ok (.invokevirtual 142, 3) := by decide +kernel
theorem dX12_drill_45 : decode cX12_drill 45 = .ok (.istore 6, 2) := by decide +kernel
theorem dX12_drill_47 : decode cX12_drill 47 = .ok (.iload 6, 2) := by decide +kernel
theorem dX12_drill_49 : decode cX12_drill 49 = .ok (.ifCond .lt 13, 3) := by decide +kernel
theorem dX12_drill_52 : decode cX12_drill 52 = .ok (.aload_n 0, 1) := by decide +kernel
theorem dX12_drill_53 : decode cX12_drill 53 = .ok (.bipush (-100), 2) := by decide +kernel
theorem dX12_drill_55 : decode cX12_drill 55 = .ok (.iload 6, 2) := by decide +kernel
theorem dX12_drill_57 : decode cX12_drill 57 = .ok (.isub, 1) := by decide +kernel
theorem dX12_drill_58 : decode cX12_drill 58 = .ok (.invokevirtual 98, 3) := by decide +kernel
theorem dX12_drill_61 : decode cX12_drill 61 = .ok (.ireturn, 1) := by decide +kernel
theorem dX12_drill_62 : decode cX12_drill 62 = .ok (.iconst 0, 1) := by decide +kernel
theorem dX12_drill_63 : decode cX12_drill 63 = .ok (.istore 7, 2) := by decide +kernel
theorem dX12_drill_65 : decode cX12_drill 65 = .ok (.iconst 0, 1) := by decide +kernel
theorem dX12_drill_66 : decode cX12_drill 66 = .ok (.istore 8, 2) := by decide +kernel
theorem dX12_drill_68 : decode cX12_drill 68 = .ok (.iload 8, 2) := by decide +kernel
theorem dX12_drill_70 : decode cX12_drill 70 = .ok (.iconst 4, 1) := by decide +kernel
theorem dX12_drill_71 : decode cX12_drill 71 = .ok (.if_icmp .ge 29, 3) := by decide +kernel
theorem dX12_drill_74 : decode cX12_drill 74 = .ok (.iload 7, 2) := by decide +kernel
theorem dX12_drill_76 : decode cX12_drill 76 = .ok (.aload_n 0, 1) := by decide +kernel
theorem dX12_drill_77 : decode cX12_drill 77 = .ok (.getfield 19, 3) := by decide +kernel
theorem dX12_drill_80 : decode cX12_drill 80 = .ok (.iload 8, 2) := by decide +kernel
theorem dX12_drill_82 : decode cX12_drill 82 = .ok (.iaload, 1) := by decide +kernel
theorem dX12_drill_83 : decode cX12_drill 83 = .ok (.ifCond .lt 7, 3) := by decide +kernel
theorem dX12_drill_86 : decode cX12_drill 86 = .ok (.iconst 1, 1) := by decide +kernel
theorem dX12_drill_87 : decode cX12_drill 87 = .ok (.goto 4, 3) := by decide +kernel
theorem dX12_drill_90 : decode cX12_drill 90 = .ok (.iconst 0, 1) := by decide +kernel
theorem dX12_drill_91 : decode cX12_drill 91 = .ok (.iadd, 1) := by decide +kernel
theorem dX12_drill_92 : decode cX12_drill 92 = .ok (.istore 7, 2) := by decide +kernel
theorem dX12_drill_94 : decode cX12_drill 94 = .ok (.iinc 8 1, 3) := by decide +kernel
theorem dX12_drill_97 : decode cX12_drill 97 = .ok (.goto (-29), 3) := by decide +kernel
theorem dX12_drill_100 : decode cX12_drill 100 = .ok (.aload_n 0, 1) := by decide +kernel
theorem dX12_drill_101 : decode cX12_drill 101 = .ok (.aload_n 0, 1) := by decide +kernel
theorem dX12_drill_102 : decode cX12_drill 102 = .ok (.getfield 19, 3) := by decide +kernel
theorem dX12_drill_105 : decode cX12_drill 105 = .ok (.iconst 0, 1) := by decide +kernel
theorem dX12_drill_106 : decode cX12_drill 106 = .ok (.iaload, 1) := by decide +kernel
theorem dX12_drill_107 : decode cX12_drill 107 = .ok (.putfield 76, 3) := by decide +kernel
theorem dX12_drill_110 : decode cX12_drill 110 = .ok (.aload_n 0, 1) := by decide +kernel
theorem dX12_drill_111 : decode cX12_drill 111 = .ok (.aload_n 0, 1) := by decide +kernel
theorem dX12_drill_112 : decode cX12_drill 112 = .ok (.getfield 19, 3) := by decide +kernel
theorem dX12_drill_115 : decode cX12_drill 115 = .ok (.iconst 1, 1) := by decide +kernel
theorem dX12_drill_116 : decode cX12_drill 116 = .ok (.iaload, 1) := by decide +kernel
theorem dX12_drill_117 : decode cX12_drill 117 = .ok (.putfield 80, 3) := by decide +kernel
theorem dX12_drill_120 : decode cX12_drill 120 = .ok (.aload_n 0, 1) := by decide +kernel
theorem dX12_drill_121 : decode cX12_drill 121 = .ok (.aload_n 0, 1) := by decide +kernel
theorem dX12_drill_122 : decode cX12_drill 122 = .ok (.getfield 19, 3) := by decide +kernel
theorem dX12_drill_125 : decode cX12_drill 125 = .ok (.iconst 2, 1) := by decide +kernel
theorem dX12_drill_126 : decode cX12_drill 126 = .ok (.iaload, 1) := by decide +kernel
theorem dX12_drill_127 : decode cX12_drill 127 = .ok (.ifCond .lt 7, 3) := by decide +kernel
theorem dX12_drill_130 : decode cX12_drill 130 = .ok (.iconst 1, 1) := by decide +kernel
theorem dX12_drill_131 : decode cX12_drill 131 = .ok (.goto 4, 3) := by decide +kernel
theorem dX12_drill_134 : decode cX12_drill 134 = .ok (.iconst 0, 1) := by decide +kernel
theorem dX12_drill_135 : decode cX12_drill 135 = .ok (.putfield 146, 3) := by decide +kernel
theorem dX12_drill_138 : decode cX12_drill 138 = .ok (.aload_n 0, 1) := by decide +kernel
theorem dX12_drill_139 : decode cX12_drill 139 = .ok (.aload_n 0, 1) := by decide +kernel
theorem dX12_drill_140 : decode cX12_drill 140 = .ok (.getfield 19, 3) := by decide +kernel
theorem dX12_drill_143 : decode cX12_drill 143 = .ok (.iconst 3, 1) := by decide +kernel
theorem dX12_drill_144 : decode cX12_drill 144 = .ok (.iaload, 1) := by decide +kernel
theorem dX12_drill_145 : decode cX12_drill 145 = .ok (.ifCond .le 7, 3) := by decide +kernel
theorem dX12_drill_148 : decode cX12_drill 148 = .ok (.iconst 1, 1) := by decide +kernel
theorem dX12_drill_149 : decode cX12_drill 149 = .ok (.goto 4, 3) := by decide +kernel
theorem dX12_drill_152 : decode cX12_drill 152 = .ok (.iconst 0, 1) := by decide +kernel
theorem dX12_drill_153 : decode cX12_drill 153 = .ok (.putfield 149, 3) := by decide +kernel
theorem dX12_drill_156 : decode cX12_drill 156 = .ok (.aload_n 0, 1) := by decide +kernel
theorem dX12_drill_157 : decode cX12_drill 157 = .ok (.iload 7, 2) := by decide +kernel
theorem dX12_drill_159 : decode cX12_drill 159 = .ok (.invokevirtual 98, 3) := by decide +kernel
theorem dX12_drill_162 : decode cX12_drill 162 = .ok (.ireturn, 1) := by decide +kernel
theorem dX12_ofDrill_0 : decode cX12_ofDrill 0 = .ok (.iload_n 1, 1) := by decide +kernel
theorem dX12_ofDrill_1 : decode cX12_ofDrill 1 = .ok (.tableswitch 51 0 3 #[31, 36, 41, 46], 31) := by decide +kernel
theorem dX12_ofDrill_32 : decode cX12_ofDrill 32 = .ok (.aload_n 0, 1) := by decide +kernel
theorem dX12_ofDrill_33 : decode cX12_ofDrill 33 = .ok (.getfield 76, 3) := by decide +kernel
theorem dX12_ofDrill_36 : decode cX12_ofDrill 36 = .ok (.ireturn, 1) := by decide +kernel
theorem dX12_ofDrill_37 : decode cX12_ofDrill 37 = .ok (.aload_n 0, 1) := by decide +kernel
theorem dX12_ofDrill_38 : decode cX12_ofDrill 38 = .ok (.getfield 80, 3) := by decide +kernel
theorem dX12_ofDrill_41 : decode cX12_ofDrill 41 = .ok (.ireturn, 1) := by decide +kernel
theorem dX12_ofDrill_42 : decode cX12_ofDrill 42 = .ok (.aload_n 0, 1) := by decide +kernel
theorem dX12_ofDrill_43 : decode cX12_ofDrill 43 = .ok (.getfield 146, 3) := by decide +kernel
theorem dX12_ofDrill_46 : decode cX12_ofDrill 46 = .ok (.ireturn, 1) := by decide +kernel
theorem dX12_ofDrill_47 : decode cX12_ofDrill 47 = .ok (.aload_n 0, 1) := by decide +kernel
theorem dX12_ofDrill_48 : decode cX12_ofDrill 48 = .ok (.getfield 149, 3) := by decide +kernel
theorem dX12_ofDrill_51 : decode cX12_ofDrill 51 = .ok (.ireturn, 1) := by decide +kernel
theorem dX12_ofDrill_52 : decode cX12_ofDrill 52 = .ok (.bipush (-2), 2) := by decide +kernel
theorem dX12_ofDrill_54 : decode cX12_ofDrill 54 = .ok (.ireturn, 1) := by decide +kernel
theorem dX12_noPage_0 : decode cX12_noPage 0 = .ok (.iload_n 1, 1) := by decide +kernel
theorem dX12_noPage_1 : decode cX12_noPage 1 = .ok (.i2l, 1) := by decide +kernel
theorem dX12_noPage_2 : decode cX12_noPage 2 = .ok (.lconst 0, 1) := by decide +kernel
theorem dX12_noPage_3 : decode cX12_noPage 3 = .ok (.aload_n 0, 1) := by decide +kernel
theorem dX12_noPage_4 : decode cX12_noPage 4 = .ok (.getfield 152, 3) := by decide +kernel
theorem dX12_noPage_7 : decode cX12_noPage 7 = .ok (.i2l, 1) := by decide +kernel
theorem dX12_noPage_8 : decode cX12_noPage 8 = .ok (.lconst 1, 1) := by decide +kernel
theorem dX12_noPage_9 : decode cX12_noPage 9 = .ok (.lsub, 1) := by decide +kernel
theorem dX12_noPage_10 : decode cX12_noPage 10 = .ok (.invokestatic 94, 3) := by decide +kernel
theorem dX12_noPage_13 : decode cX12_noPage 13 = .ok (.ifCond .ne 7, 3) := by decide +kernel
theorem dX12_noPage_16 : decode cX12_noPage 16 = .ok (.iconst 1, 1) := by decide +kernel
theorem dX12_noPage_17 : decode cX12_noPage 17 = .ok (.goto 4, 3) := by decide +kernel
theorem dX12_noPage_20 : decode cX12_noPage 20 = .ok (.iconst 0, 1) := by decide +kernel
theorem dX12_noPage_21 : decode cX12_noPage 21 = .ok (.ireturn, 1) := by decide +kernel
theorem dX12_noPost_0 : decode cX12_noPost 0 = .ok (.iload_n 0, 1) := by decide +kernel
theorem dX12_noPost_1 : decode cX12_noPost 1 = .ok (.i2l, 1) := by decide +kernel
theorem dX12_noPost_2 : decode cX12_noPost 2 = .ok (.lconst 0, 1) := by decide +kernel
theorem dX12_noPost_3 : decode cX12_noPost 3 = .ok (.ldc2_w 155, 3) := by decide +kernel
theorem dX12_noPost_6 : decode cX12_noPost 6 = .ok (.invokestatic 94, 3) := by decide +kernel
theorem dX12_noPost_9 : decode cX12_noPost 9 = .ok (.ifCond .ne 7, 3) := by decide +kernel
theorem dX12_noPost_12 : decode cX12_noPost 12 = .ok (.iconst 1, 1) := by decide +kernel
theorem dX12_noPost_13 : decode cX12_noPost 13 = .ok (.goto 4, 3) := by decide +kernel
theorem dX12_noPost_16 : decode cX12_noPost 16 = .ok (.iconst 0, 1) := by decide +kernel
theorem dX12_noPost_17 : decode cX12_noPost 17 = .ok (.ireturn, 1) := by decide +kernel
theorem dX12_areGroups_0 : decode cX12_areGroups 0 = .ok (.iconst 1, 1) := by decide +kernel
theorem dX12_areGroups_1 : decode cX12_areGroups 1 = .ok (.istore_n 3, 1) := by decide +kernel
theorem dX12_areGroups_2 : decode cX12_areGroups 2 = .ok (.iconst 0, 1) := by decide +kernel
theorem dX12_areGroups_3 : decode cX12_areGroups 3 = .ok (.istore 4, 2) := by decide +kernel
theorem dX12_areGroups_5 : decode cX12_areGroups 5 = .ok (.iload 4, 2) := by decide +kernel
theorem dX12_areGroups_7 : decode cX12_areGroups 7 = .ok (.iload_n 2, 1) := by decide +kernel
theorem dX12_areGroups_8 : decode cX12_areGroups 8 = .ok (.if_icmp .ge 34, 3) := by decide +kernel
theorem dX12_areGroups_11 : decode cX12_areGroups 11 = .ok (.iload_n 3, 1) := by decide +kernel
theorem dX12_areGroups_12 : decode cX12_areGroups 12 = .ok (.ifCond .eq 22, 3) := by decide +kernel
theorem dX12_areGroups_15 : decode cX12_areGroups 15 = .ok (.aload_n 0, 1) := by decide +kernel
theorem dX12_areGroups_16 : decode cX12_areGroups 16 = .ok (.getfield 70, 3) := by decide +kernel
theorem dX12_areGroups_19 : decode cX12_areGroups 19 = .ok (.iload_n 1, 1) := by decide +kernel
theorem dX12_areGroups_20 : decode cX12_areGroups 20 = .ok (.iload 4, 2) := by decide +kernel
theorem dX12_areGroups_22 : decode cX12_areGroups 22 = .ok (.iadd, 1) := by decide +kernel
theorem dX12_areGroups_23 : decode cX12_areGroups 23 = .ok (.iaload, 1) := by decide +kernel
theorem dX12_areGroups_24 : decode cX12_areGroups 24 = .ok (.invokestatic 157, 3) := by decide +kernel
theorem dX12_areGroups_27 : decode cX12_areGroups 27 = .ok (.ifCond .eq 7, 3) := by decide +kernel
theorem dX12_areGroups_30 : decode cX12_areGroups 30 = .ok (.iconst 1, 1) := by decide +kernel
theorem dX12_areGroups_31 : decode cX12_areGroups 31 = .ok (.goto 4, 3) := by decide +kernel
theorem dX12_areGroups_34 : decode cX12_areGroups 34 = .ok (.iconst 0, 1) := by decide +kernel
theorem dX12_areGroups_35 : decode cX12_areGroups 35 = .ok (.istore_n 3, 1) := by decide +kernel
theorem dX12_areGroups_36 : decode cX12_areGroups 36 = .ok (.iinc 4 1, 3) := by decide +kernel
theorem dX12_areGroups_39 : decode cX12_areGroups 39 = .ok (.goto (-34), 3) := by decide +kernel
theorem dX12_areGroups_42 : decode cX12_areGroups 42 = .ok (.iload_n 3, 1) := by decide +kernel
theorem dX12_areGroups_43 : decode cX12_areGroups 43 = .ok (.ireturn, 1) := by decide +kernel
theorem dX12_page_0 : decode cX12_page 0 = .ok (.iload_n 3, 1) := by decide +kernel
theorem dX12_page_1 : decode cX12_page 1 = .ok (.invokestatic 135, 3) := by decide +kernel
theorem dX12_page_4 : decode cX12_page 4 = .ok (.ifCond .ne 10, 3) := by decide +kernel
theorem dX12_page_7 : decode cX12_page 7 = .ok (.iload_n 2, 1) := by decide +kernel
theorem dX12_page_8 : decode cX12_page 8 = .ok (.invokestatic 160, 3) := by decide +kernel
theorem dX12_page_11 : decode cX12_page 11 = .ok (.ifCond .eq 9, 3) := by decide +kernel
theorem dX12_page_14 : decode cX12_page 14 = .ok (.aload_n 0, 1) := by decide +kernel
theorem dX12_page_15 : decode cX12_page 15 = .ok (.iconst (-1), 1) := by decide +kernel
theorem dX12_page_16 : decode cX12_page 16 = .ok (.invokevirtual 98, 3) := by decide +kernel
theorem dX12_page_19 : decode cX12_page 19 = .ok (.ireturn, 1) := by decide +kernel
theorem dX12_page_20 : decode cX12_page 20 = .ok (.iload_n 1, 1) := by decide +kernel
theorem dX12_page_21 : decode cX12_page 21 = .ok (.i2l, 1) := by decide +kernel
theorem dX12_page_22 : decode cX12_page 22 = .ok (.lconst 0, 1) := by decide +kernel
theorem dX12_page_23 : decode cX12_page 23 = .ok (.ldc2_w 92, 3) := by decide +kernel
theorem dX12_page_26 : decode cX12_page 26 = .ok (.invokestatic 94, 3) := by decide +kernel
theorem dX12_page_29 : decode cX12_page 29 = .ok (.ifCond .ne 10, 3) := by decide +kernel
theorem dX12_page_32 : decode cX12_page 32 = .ok (.aload_n 0, 1) := by decide +kernel
theorem dX12_page_33 : decode cX12_page 33 = .ok (.bipush (-2), 2) := by decide +kernel
theorem dX12_page_35 : decode cX12_page 35 = .ok (.invokevirtual 98, 3) := by decide +kernel
theorem dX12_page_38 : decode cX12_page 38 = .ok (.ireturn, 1) := by decide +kernel
theorem dX12_page_39 : decode cX12_page 39 = .ok (.aload_n 0, 1) := by decide +kernel
theorem dX12_page_40 : decode cX12_page 40 = .ok (.iload_n 3, 1) := by decide +kernel
theorem dX12_page_41 : decode cX12_page 41 = .ok (.iload 4, 2) := by decide +kernel
theorem dX12_page_43 : decode cX12_page 43 = .ok (.iload 5, 2) := by decide +kernel
theorem dX12_page_45 : decode cX12_page 45 = .ok (.iload 6, 2) := by decide +kernel
theorem dX12_page_47 : decode cX12_page 47 = .ok (.i2l, 1) := by decide +kernel
theorem dX12_page_48 : decode cX12_page 48 = .ok (.invokevirtual 138, 3) := by decide +kernel
theorem dX12_page_51 : decode cX12_page 51 = .ok (.istore 7, 2) := by decide +kernel
theorem dX12_page_53 : decode cX12_page 53 = .ok (.iload 7, 2) := by decide +kernel
theorem dX12_page_55 : decode cX12_page 55 = .ok (.ifCond .ge 6, 3) := by decide +kernel
theorem dX12_page_58 : decode cX12_page 58 = .ok (.iload 7, 2) := by decide +kernel
theorem dX12_page_60 : decode cX12_page 60 = .ok (.ireturn, 1) := by decide +kernel
theorem dX12_page_61 : decode cX12_page 61 = .ok (.iload 6, 2) := by decide +kernel
theorem dX12_page_63 : decode cX12_page 63 = .ok (.i2l, 1) := by decide +kernel
theorem dX12_page_64 : decode cX12_page 64 = .ok (.lconst 1, 1) := by decide +kernel
theorem dX12_page_65 : decode cX12_page 65 = .ok (.ldc2_w 163, 3) := by decide +kernel
theorem dX12_page_68 : decode cX12_page 68 = .ok (.invokestatic 94, 3) := by decide +kernel
theorem dX12_page_71 : decode cX12_page 71 = .ok (.ifCond .eq 19, 3) := by decide +kernel
theorem dX12_page_74 : decode cX12_page 74 = .ok (.aload_n 0, 1) := by decide +kernel
theorem dX12_page_75 : decode cX12_page 75 = .ok (.bipush 60, 2) := by decide +kernel
theorem dX12_page_77 : decode cX12_page 77 = .ok (.iload_n 3, 1) := by decide +kernel
theorem dX12_page_78 : decode cX12_page 78 = .ok (.imul, 1) := by decide +kernel
theorem dX12_page_79 : decode cX12_page 79 = .ok (.iload 5, 2) := by decide +kernel
theorem dX12_page_81 : decode cX12_page 81 = .ok (.iadd, 1) := by decide +kernel
theorem dX12_page_82 : decode cX12_page 82 = .ok (.iload 6, 2) := by decide +kernel
theorem dX12_page_84 : decode cX12_page 84 = .ok (.invokevirtual 165, 3) := by decide +kernel
theorem dX12_page_87 : decode cX12_page 87 = .ok (.ifCond .ne 10, 3) := by decide +kernel
theorem dX12_page_90 : decode cX12_page 90 = .ok (.aload_n 0, 1) := by decide +kernel
theorem dX12_page_91 : decode cX12_page 91 = .ok (.bipush (-2), 2) := by decide +kernel
theorem dX12_page_93 : decode cX12_page 93 = .ok (.invokevirtual 98, 3) := by decide +kernel
theorem dX12_page_96 : decode cX12_page 96 = .ok (.ireturn, 1) := by decide +kernel
theorem dX12_page_97 : decode cX12_page 97 = .ok (.aload_n 0, 1) := by decide +kernel
theorem dX12_page_98 : decode cX12_page 98 = .ok (.getfield 152, 3) := by decide +kernel
theorem dX12_page_101 : decode cX12_page 101 = .ok (.bipush 24, 2) := by decide +kernel
theorem dX12_page_103 : decode cX12_page 103 = .ok (.if_icmp .ne 10, 3) := by decide +kernel
theorem dX12_page_106 : decode cX12_page 106 = .ok (.aload_n 0, 1) := by decide +kernel
theorem dX12_page_107 : decode cX12_page 107 = .ok (.bipush (-4), 2) := by decide +kernel
theorem dX12_page_109 : decode cX12_page 109 = .ok (.invokevirtual 98, 3) := by decide +kernel
theorem dX12_page_112 : decode cX12_page 112 = .ok (.ireturn, 1) := by decide +kernel
theorem dX12_page_113 : decode cX12_page 113 = .ok (.aload_n 0, 1) := by decide +kernel
theorem dX12_page_114 : decode cX12_page 114 = .ok (.getfield 22, 3) := by decide +kernel
theorem dX12_page_117 : decode cX12_page 117 = .ok (.aload_n 0, 1) := by decide +kernel
theorem dX12_page_118 : decode cX12_page 118 = .ok (.getfield 152, 3) := by decide +kernel
theorem dX12_page_121 : decode cX12_page 121 = .ok (.iload_n 1, 1) := by decide +kernel
theorem dX12_page_122 : decode cX12_page 122 = .ok (.iastore, 1) := by decide +kernel
theorem dX12_page_123 : decode cX12_page 123 = .ok (.aload_n 0, 1) := by decide +kernel
theorem dX12_page_124 : decode cX12_page 124 = .ok (.getfield 25, 3) := by decide +kernel
theorem dX12_page_127 : decode cX12_page 127 = .ok (.aload_n 0, 1) := by decide +kernel
theorem dX12_page_128 : decode cX12_page 128 = .ok (.getfield 152, 3) := by decide +kernel
theorem dX12_page_131 : decode cX12_page 131 = .ok (.iload_n 2, 1) := by decide +kernel
theorem dX12_page_132 : decode cX12_page 132 = .ok (.iastore, 1) := by decide +kernel
theorem dX12_page_133 : decode cX12_page 133 = .ok (.aload_n 0, 1) := by decide +kernel
theorem dX12_page_134 : decode cX12_page 134 = .ok (.getfield 28, 3) := by decide +kernel
theorem dX12_page_137 : decode cX12_page 137 = .ok (.aload_n 0, 1) := by decide +kernel
theorem dX12_page_138 : decode cX12_page 138 = .ok (.getfield 152, 3) := by decide +kernel
theorem dX12_page_141 : decode cX12_page 141 = .ok (.iload 6, 2) := by decide +kernel
theorem dX12_page_143 : decode cX12_page 143 = .ok (.iastore, 1) := by decide +kernel
theorem dX12_page_144 : decode cX12_page 144 = .ok (.iconst 0, 1) := by decide +kernel
theorem dX12_page_145 : decode cX12_page 145 = .ok (.istore 8, 2) := by decide +kernel
theorem dX12_page_147 : decode cX12_page 147 = .ok (.iload 8, 2) := by decide +kernel
theorem dX12_page_149 : decode cX12_page 149 = .ok (.iload 6, 2) := by decide +kernel
theorem dX12_page_151 : decode cX12_page 151 = .ok (.if_icmp .ge 39, 3) := by decide +kernel
theorem dX12_page_154 : decode cX12_page 154 = .ok (.aload_n 0, 1) := by decide +kernel
theorem dX12_page_155 : decode cX12_page 155 = .ok (.getfield 31, 3) := by decide +kernel
theorem dX12_page_158 : decode cX12_page 158 = .ok (.bipush 12, 2) := by decide +kernel
theorem dX12_page_160 : decode cX12_page 160 = .ok (.aload_n 0, 1) := by decide +kernel
theorem dX12_page_161 : decode cX12_page 161 = .ok (.getfield 152, 3) := by decide +kernel
theorem dX12_page_164 : decode cX12_page 164 = .ok (.imul, 1) := by decide +kernel
theorem dX12_page_165 : decode cX12_page 165 = .ok (.iload 8, 2) := by decide +kernel
theorem dX12_page_167 : decode cX12_page 167 = .ok (.iadd, 1) := by decide +kernel
theorem dX12_page_168 : decode cX12_page 168 = .ok (.aload_n 0, 1) := by decide +kernel
theorem dX12_page_169 : decode cX12_page 169 = .ok (.getfield 70, 3) := by decide +kernel
theorem dX12_page_172 : decode cX12_page 172 = .ok (.bipush 60, 2) := by decide +kernel
theorem dX12_page_174 : decode cX12_page 174 = .ok (.iload_n 3, 1) := by decide +kernel
theorem dX12_page_175 : decode cX12_page 175 = .ok (.imul, 1) := by decide +kernel
theorem dX12_page_176 : decode cX12_page 176 = .ok (.iload 5, 2) := by decide +kernel
theorem dX12_page_178 : decode cX12_page 178 = .ok (.iadd, 1) := by decide +kernel
theorem dX12_page_179 : decode cX12_page 179 = .ok (.iload 8, 2) := by decide +kernel
theorem dX12_page_181 : decode cX12_page 181 = .ok (.iadd, 1) := by decide +kernel
theorem dX12_page_182 : decode cX12_page 182 = .ok (.iaload, 1) := by decide +kernel
theorem dX12_page_183 : decode cX12_page 183 = .ok (.iastore, 1) := by decide +kernel
theorem dX12_page_184 : decode cX12_page 184 = .ok (.iinc 8 1, 3) := by decide +kernel
theorem dX12_page_187 : decode cX12_page 187 = .ok (.goto (-40), 3) := by decide +kernel
theorem dX12_page_190 : decode cX12_page 190 = .ok (.aload_n 0, 1) := by decide +kernel
theorem dX12_page_191 : decode cX12_page 191 = .ok (.dup, 1) := by decide +kernel
theorem dX12_page_192 : decode cX12_page 192 = .ok (.getfield 152, 3) := by decide +kernel
theorem dX12_page_195 : decode cX12_page 195 = .ok (.iconst 1, 1) := by decide +kernel
theorem dX12_page_196 : decode cX12_page 196 = .ok (.iadd, 1) := by decide +kernel
theorem dX12_page_197 : decode cX12_page 197 = .ok (.putfield 152, 3) := by decide +kernel
theorem dX12_page_200 : decode cX12_page 200 = .ok (.aload_n 0, 1) := by decide +kernel
theorem dX12_page_201 : decode cX12_page 201 = .ok (.aload_n 0, 1) := by decide +kernel
theorem dX12_page_202 : decode cX12_page 202 = .ok (.getfield 152, 3) := by decide +kernel
theorem dX12_page_205 : decode cX12_page 205 = .ok (.iconst 1, 1) := by decide +kernel
theorem dX12_page_206 : decode cX12_page 206 = .ok (.isub, 1) := by decide +kernel
theorem dX12_page_207 : decode cX12_page 207 = .ok (.invokevirtual 98, 3) := by decide +kernel
theorem dX12_page_210 : decode cX12_page 210 = .ok (.ireturn, 1) := by decide +kernel
theorem dX12_usable_0 : decode cX12_usable 0 = .ok (.aload_n 0, 1) := by decide +kernel
theorem dX12_usable_1 : decode cX12_usable 1 = .ok (.getfield 28, 3) := by decide +kernel
theorem dX12_usable_4 : decode cX12_usable 4 = .ok (.iload_n 1, 1) := by decide +kernel
theorem dX12_usable_5 : decode cX12_usable 5 = .ok (.iaload, 1) := by decide +kernel
theorem dX12_usable_6 : decode cX12_usable 6 = .ok (.aload_n 0, 1) := by decide +kernel
theorem dX12_usable_7 : decode cX12_usable 7 = .ok (.getfield 22, 3) := by decide +kernel
theorem dX12_usable_10 : decode cX12_usable 10 = .ok (.iload_n 1, 1) := by decide +kernel
theorem dX12_usable_11 : decode cX12_usable 11 = .ok (.iaload, 1) := by decide +kernel
theorem dX12_usable_12 : decode cX12_usable 12 = .ok (.isub, 1) := by decide +kernel
theorem dX12_usable_13 : decode cX12_usable 13 = .ok (.istore_n 2, 1) := by decide +kernel
theorem dX12_usable_14 : decode cX12_usable 14 = .ok (.iload_n 2, 1) := by decide +kernel
theorem dX12_usable_15 : decode cX12_usable 15 = .ok (.ifCond .ge 7, 3) := by decide +kernel
theorem dX12_usable_18 : decode cX12_usable 18 = .ok (.iconst 0, 1) := by decide +kernel
theorem dX12_usable_19 : decode cX12_usable 19 = .ok (.goto 4, 3) := by decide +kernel
theorem dX12_usable_22 : decode cX12_usable 22 = .ok (.iload_n 2, 1) := by decide +kernel
theorem dX12_usable_23 : decode cX12_usable 23 = .ok (.ireturn, 1) := by decide +kernel
theorem dX12_ofPage_0 : decode cX12_ofPage 0 = .ok (.aload_n 0, 1) := by decide +kernel
theorem dX12_ofPage_1 : decode cX12_ofPage 1 = .ok (.iload_n 1, 1) := by decide +kernel
theorem dX12_ofPage_2 : decode cX12_ofPage 2 = .ok (.invokevirtual 169, 3) := by decide +kernel
theorem dX12_ofPage_5 : decode cX12_ofPage 5 = .ok (.ifCond .eq 5, 3) := by decide +kernel
theorem dX12_ofPage_8 : decode cX12_ofPage 8 = .ok (.iconst (-1), 1) := by decide +kernel
theorem dX12_ofPage_9 : decode cX12_ofPage 9 = .ok (.ireturn, 1) := by decide +kernel
theorem dX12_ofPage_10 : decode cX12_ofPage 10 = .ok (.iload_n 2, 1) := by decide +kernel
theorem dX12_ofPage_11 : decode cX12_ofPage 11 = .ok (.tableswitch 86 0 5 #[37, 44, 51, 58, 64, 79], 37) := by decide +kernel
theorem dX12_ofPage_48 : decode cX12_ofPage 48 = .ok (.aload_n 0, 1) := by decide +kernel
theorem dX12_ofPage_49 : decode cX12_ofPage 49 = .ok (.getfield 22, 3) := by decide +kernel
theorem dX12_ofPage_52 : decode cX12_ofPage 52 = .ok (.iload_n 1, 1) := by decide +kernel
theorem dX12_ofPage_53 : decode cX12_ofPage 53 = .ok (.iaload, 1) := by decide +kernel
theorem dX12_ofPage_54 : decode cX12_ofPage 54 = .ok (.ireturn, 1) := by decide +kernel
theorem dX12_ofPage_55 : decode cX12_ofPage 55 = .ok (.aload_n 0, 1) := by decide +kernel
theorem dX12_ofPage_56 : decode cX12_ofPage 56 = .ok (.getfield 25, 3) := by decide +kernel
theorem dX12_ofPage_59 : decode cX12_ofPage 59 = .ok (.iload_n 1, 1) := by decide +kernel
theorem dX12_ofPage_60 : decode cX12_ofPage 60 = .ok (.iaload, 1) := by decide +kernel
theorem dX12_ofPage_61 : decode cX12_ofPage 61 = .ok (.ireturn, 1) := by decide +kernel
theorem dX12_ofPage_62 : decode cX12_ofPage 62 = .ok (.aload_n 0, 1) := by decide +kernel
theorem dX12_ofPage_63 : decode cX12_ofPage 63 = .ok (.getfield 28, 3) := by decide +kernel
theorem dX12_ofPage_66 : decode cX12_ofPage 66 = .ok (.iload_n 1, 1) := by decide +kernel
theorem dX12_ofPage_67 : decode cX12_ofPage 67 = .ok (.iaload, 1) := by decide +kernel
theorem dX12_ofPage_68 : decode cX12_ofPage 68 = .ok (.ireturn, 1) := by decide +kernel
theorem dX12_ofPage_69 : decode cX12_ofPage 69 = .ok (.aload_n 0, 1) := by decide +kernel
theorem dX12_ofPage_70 : decode cX12_ofPage 70 = .ok (.iload_n 1, 1) := by decide +kernel
theorem dX12_ofPage_71 : decode cX12_ofPage 71 = .ok (.invokevirtual 172, 3) := by decide +kernel
theorem dX12_ofPage_74 : decode cX12_ofPage 74 = .ok (.ireturn, 1) := by decide +kernel
theorem dX12_ofPage_75 : decode cX12_ofPage 75 = .ok (.aload_n 0, 1) := by decide +kernel
theorem dX12_ofPage_76 : decode cX12_ofPage 76 = .ok (.getfield 34, 3) := by decide +kernel
theorem dX12_ofPage_79 : decode cX12_ofPage 79 = .ok (.iload_n 1, 1) := by decide +kernel
theorem dX12_ofPage_80 : decode cX12_ofPage 80 = .ok (.iaload, 1) := by decide +kernel
theorem dX12_ofPage_81 : decode cX12_ofPage 81 = .ok (.ifCond .le 7, 3) := by decide +kernel
theorem dX12_ofPage_84 : decode cX12_ofPage 84 = .ok (.iconst 1, 1) := by decide +kernel
theorem dX12_ofPage_85 : decode cX12_ofPage 85 = .ok (.goto 4, 3) := by decide +kernel
theorem dX12_ofPage_88 : decode cX12_ofPage 88 = .ok (.iconst 0, 1) := by decide +kernel
theorem dX12_ofPage_89 : decode cX12_ofPage 89 = .ok (.ireturn, 1) := by decide +kernel
theorem dX12_ofPage_90 : decode cX12_ofPage 90 = .ok (.aload_n 0, 1) := by decide +kernel
theorem dX12_ofPage_91 : decode cX12_ofPage 91 = .ok (.getfield 34, 3) := by decide +kernel
theorem dX12_ofPage_94 : decode cX12_ofPage 94 = .ok (.iload_n 1, 1) := by decide +kernel
theorem dX12_ofPage_95 : decode cX12_ofPage 95 = .ok (.iaload, 1) := by decide +kernel
theorem dX12_ofPage_96 : decode cX12_ofPage 96 = .ok (.ireturn, 1) := by decide +kernel
theorem dX12_ofPage_97 : decode cX12_ofPage 97 = .ok (.iload_n 2, 1) := by decide +kernel
theorem dX12_ofPage_98 : decode cX12_ofPage 98 = .ok (.i2l, 1) := by decide +kernel
theorem dX12_ofPage_99 : decode cX12_ofPage 99 = .ok (.ldc2_w 175, 3) := by decide +kernel
theorem dX12_ofPage_102 : decode cX12_ofPage 102 = .ok (.ldc2_w 177, 3) := by decide +kernel
theorem dX12_ofPage_105 : decode cX12_ofPage 105 = .ok (.aload_n 0, 1) := by decide +kernel
theorem dX12_ofPage_106 : decode cX12_ofPage 106 = .ok (.getfield 28, 3) := by decide +kernel
theorem dX12_ofPage_109 : decode cX12_ofPage 109 = .ok (.iload_n 1, 1) := by decide +kernel
theorem dX12_ofPage_110 : decode cX12_ofPage 110 = .ok (.iaload, 1) := by decide +kernel
theorem dX12_ofPage_111 : decode cX12_ofPage 111 = .ok (.i2l, 1) := by decide +kernel
theorem dX12_ofPage_112 : decode cX12_ofPage 112 = .ok (.ladd, 1) := by decide +kernel
theorem dX12_ofPage_113 : decode cX12_ofPage 113 = .ok (.invokestatic 94, 3) := by decide +kernel
theorem dX12_ofPage_116 : decode cX12_ofPage 116 = .ok (.ifCond .eq 20, 3) := by decide +kernel
theorem dX12_ofPage_119 : decode cX12_ofPage 119 = .ok (.aload_n 0, 1) := by decide +kernel
theorem dX12_ofPage_120 : decode cX12_ofPage 120 = .ok (.getfield 31, 3) := by decide +kernel
theorem dX12_ofPage_123 : decode cX12_ofPage 123 = .ok (.bipush 12, 2) := by decide +kernel
theorem dX12_ofPage_125 : decode cX12_ofPage 125 = .ok (.iload_n 1, 1) := by decide +kernel
theorem dX12_ofPage_126 : decode cX12_ofPage 126 = .ok (.imul, 1) := by decide +kernel
theorem dX12_ofPage_127 : decode cX12_ofPage 127 = .ok (.iload_n 2, 1) := by decide +kernel
theorem dX12_ofPage_128 : decode cX12_ofPage 128 = .ok (.iadd, 1) := by decide +kernel
theorem dX12_ofPage_129 : decode cX12_ofPage 129 = .ok (.bipush 10, 2) := by decide +kernel
theorem dX12_ofPage_131 : decode cX12_ofPage 131 = .ok (.isub, 1) := by decide +kernel
theorem dX12_ofPage_132 : decode cX12_ofPage 132 = .ok (.iaload, 1) := by decide +kernel
theorem dX12_ofPage_133 : decode cX12_ofPage 133 = .ok (.goto 5, 3) := by decide +kernel
theorem dX12_ofPage_136 : decode cX12_ofPage 136 = .ok (.bipush (-2), 2) := by decide +kernel
theorem dX12_ofPage_138 : decode cX12_ofPage 138 = .ok (.ireturn, 1) := by decide +kernel
theorem dX12_noLetter_0 : decode cX12_noLetter 0 = .ok (.iload_n 1, 1) := by decide +kernel
theorem dX12_noLetter_1 : decode cX12_noLetter 1 = .ok (.i2l, 1) := by decide +kernel
theorem dX12_noLetter_2 : decode cX12_noLetter 2 = .ok (.lconst 0, 1) := by decide +kernel
theorem dX12_noLetter_3 : decode cX12_noLetter 3 = .ok (.aload_n 0, 1) := by decide +kernel
theorem dX12_noLetter_4 : decode cX12_noLetter 4 = .ok (.getfield 179, 3) := by decide +kernel
theorem dX12_noLetter_7 : decode cX12_noLetter 7 = .ok (.i2l, 1) := by decide +kernel
theorem dX12_noLetter_8 : decode cX12_noLetter 8 = .ok (.lconst 1, 1) := by decide +kernel
theorem dX12_noLetter_9 : decode cX12_noLetter 9 = .ok (.lsub, 1) := by decide +kernel
theorem dX12_noLetter_10 : decode cX12_noLetter 10 = .ok (.invokestatic 94, 3) := by decide +kernel
theorem dX12_noLetter_13 : decode cX12_noLetter 13 = .ok (.ifCond .ne 7, 3) := by decide +kernel
theorem dX12_noLetter_16 : decode cX12_noLetter 16 = .ok (.iconst 1, 1) := by decide +kernel
theorem dX12_noLetter_17 : decode cX12_noLetter 17 = .ok (.goto 4, 3) := by decide +kernel
theorem dX12_noLetter_20 : decode cX12_noLetter 20 = .ok (.iconst 0, 1) := by decide +kernel
theorem dX12_noLetter_21 : decode cX12_noLetter 21 = .ok (.ireturn, 1) := by decide +kernel
theorem dX12_isDay_0 : decode cX12_isDay 0 = .ok (.iload_n 1, 1) := by decide +kernel
theorem dX12_isDay_1 : decode cX12_isDay 1 = .ok (.i2l, 1) := by decide +kernel
theorem dX12_isDay_2 : decode cX12_isDay 2 = .ok (.lconst 0, 1) := by decide +kernel
theorem dX12_isDay_3 : decode cX12_isDay 3 = .ok (.ldc2_w 111, 3) := by decide +kernel
theorem dX12_isDay_6 : decode cX12_isDay 6 = .ok (.invokestatic 94, 3) := by decide +kernel
theorem dX12_isDay_9 : decode cX12_isDay 9 = .ok (.ireturn, 1) := by decide +kernel
theorem dX12_layGroup_0 : decode cX12_layGroup 0 = .ok (.aload_n 0, 1) := by decide +kernel
theorem dX12_layGroup_1 : decode cX12_layGroup 1 = .ok (.getfield 49, 3) := by decide +kernel
theorem dX12_layGroup_4 : decode cX12_layGroup 4 = .ok (.aload_n 0, 1) := by decide +kernel
theorem dX12_layGroup_5 : decode cX12_layGroup 5 = .ok (.getfield 182, 3) := by decide +kernel
theorem dX12_layGroup_8 : decode cX12_layGroup 8 = .ok (.iload_n 1, 1) := by decide +kernel
theorem dX12_layGroup_9 : decode cX12_layGroup 9 = .ok (.iastore, 1) := by decide +kernel
theorem dX12_layGroup_10 : decode cX12_layGroup 10 = .ok (.aload_n 0, 1) := by decide +kernel
theorem dX12_layGroup_11 : decode cX12_layGroup 11 = .ok (.dup, 1) := by decide +kernel
theorem dX12_layGroup_12 : decode cX12_layGroup 12 = .ok (.getfield 182, 3) := by decide +kernel
theorem dX12_layGroup_15 : decode cX12_layGroup 15 = .ok (.iconst 1, 1) := by decide +kernel
theorem dX12_layGroup_16 : decode cX12_layGroup 16 = .ok (.iadd, 1) := by decide +kernel
theorem dX12_layGroup_17 : decode cX12_layGroup 17 = .ok (.putfield 182, 3) := by decide +kernel
theorem dX12_layGroup_20 : decode cX12_layGroup 20 = .ok (.return_, 1) := by decide +kernel
theorem dX12_checkOf_0 : decode cX12_checkOf 0 = .ok (.iconst 0, 1) := by decide +kernel
theorem dX12_checkOf_1 : decode cX12_checkOf 1 = .ok (.istore_n 2, 1) := by decide +kernel
theorem dX12_checkOf_2 : decode cX12_checkOf 2 = .ok (.iconst 0, 1) := by decide +kernel
theorem dX12_checkOf_3 : decode cX12_checkOf 3 = .ok (.istore_n 3, 1) := by decide +kernel
theorem dX12_checkOf_4 : decode cX12_checkOf 4 = .ok (.iload_n 3, 1) := by decide +kernel
theorem dX12_checkOf_5 : decode cX12_checkOf 5 = .ok (.iload_n 1, 1) := by decide +kernel
theorem dX12_checkOf_6 : decode cX12_checkOf 6 = .ok (.if_icmp .ge 22, 3) := by decide +kernel
theorem dX12_checkOf_9 : decode cX12_checkOf 9 = .ok (.iload_n 2, 1) := by decide +kernel
theorem dX12_checkOf_10 : decode cX12_checkOf 10 = .ok (.aload_n 0, 1) := by decide +kernel
theorem dX12_checkOf_11 : decode cX12_checkOf 11 = .ok (.getfield 49, 3) := by decide +kernel
theorem dX12_checkOf_14 : decode cX12_checkOf 14 = .ok (.iload_n 3, 1) := by decide +kernel
theorem dX12_checkOf_15 : decode cX12_checkOf 15 = .ok (.iaload, 1) := by decide +kernel
theorem dX12_checkOf_16 : decode cX12_checkOf 16 = .ok (.iload_n 3, 1) := by decide +kernel
theorem dX12_checkOf_17 : decode cX12_checkOf 17 = .ok (.iconst 2, 1) := by decide +kernel
theorem dX12_checkOf_18 : decode cX12_checkOf 18 = .ok (.iadd, 1) := by decide +kernel
theorem dX12_checkOf_19 : decode cX12_checkOf 19 = .ok (.imul, 1) := by decide +kernel
theorem dX12_checkOf_20 : decode cX12_checkOf 20 = .ok (.iadd, 1) := by decide +kernel
theorem dX12_checkOf_21 : decode cX12_checkOf 21 = .ok (.istore_n 2, 1) := by decide +kernel
theorem dX12_checkOf_22 : decode cX12_checkOf 22 = .ok (.iinc 3 1, 3) := by decide +kernel
theorem dX12_checkOf_25 : decode cX12_checkOf 25 = .ok (.goto (-21), 3) := by decide +kernel
theorem dX12_checkOf_28 : decode cX12_checkOf 28 = .ok (.iload_n 2, 1) := by decide +kernel
theorem dX12_checkOf_29 : decode cX12_checkOf 29 = .ok (.bipush 100, 2) := by decide +kernel
theorem dX12_checkOf_31 : decode cX12_checkOf 31 = .ok (.irem, 1) := by decide +kernel
theorem dX12_checkOf_32 : decode cX12_checkOf 32 = .ok (.ireturn, 1) := by decide +kernel
theorem dX12_layWords_0 : decode cX12_layWords 0 = .ok (.aload_n 0, 1) := by decide +kernel
theorem dX12_layWords_1 : decode cX12_layWords 1 = .ok (.iconst 0, 1) := by decide +kernel
theorem dX12_layWords_2 : decode cX12_layWords 2 = .ok (.putfield 182, 3) := by decide +kernel
theorem dX12_layWords_5 : decode cX12_layWords 5 = .ok (.aload_n 0, 1) := by decide +kernel
theorem dX12_layWords_6 : decode cX12_layWords 6 = .ok (.getfield 76, 3) := by decide +kernel
theorem dX12_layWords_9 : decode cX12_layWords 9 = .ok (.ifCond .lt 11, 3) := by decide +kernel
theorem dX12_layWords_12 : decode cX12_layWords 12 = .ok (.aload_n 0, 1) := by decide +kernel
theorem dX12_layWords_13 : decode cX12_layWords 13 = .ok (.aload_n 0, 1) := by decide +kernel
theorem dX12_layWords_14 : decode cX12_layWords 14 = .ok (.getfield 76, 3) := by decide +kernel
theorem dX12_layWords_17 : decode cX12_layWords 17 = .ok (.invokevirtual 185, 3) := by decide +kernel
theorem dX12_layWords_20 : decode cX12_layWords 20 = .ok (.iconst 0, 1) := by decide +kernel
theorem dX12_layWords_21 : decode cX12_layWords 21 = .ok (.istore_n 3, 1) := by decide +kernel
theorem dX12_layWords_22 : decode cX12_layWords 22 = .ok (.iload_n 3, 1) := by decide +kernel
theorem dX12_layWords_23 : decode cX12_layWords 23 = .ok (.iload_n 2, 1) := by decide +kernel
theorem dX12_layWords_24 : decode cX12_layWords 24 = .ok (.if_icmp .ge 26, 3) := by decide +kernel
theorem dX12_layWords_27 : decode cX12_layWords 27 = .ok (.aload_n 0, 1) := by decide +kernel
theorem dX12_layWords_28 : decode cX12_layWords 28 = .ok (.aload_n 0, 1) := by decide +kernel
theorem dX12_layWords_29 : decode cX12_layWords 29 = .ok (.getfield 7, 3) := by decide +kernel
theorem dX12_layWords_32 : decode cX12_layWords 32 = .ok (.aload_n 0, 1) := by decide +kernel
theorem dX12_layWords_33 : decode cX12_layWords 33 = .ok (.getfield 70, 3) := by decide +kernel
theorem dX12_layWords_36 : decode cX12_layWords 36 = .ok (.iload_n 1, 1) := by decide +kernel
theorem dX12_layWords_37 : decode cX12_layWords 37 = .ok (.iload_n 3, 1) := by decide +kernel
theorem dX12_layWords_38 : decode cX12_layWords 38 = .ok (.iadd, 1) := by decide +kernel
theorem dX12_layWords_39 : decode cX12_layWords 39 = .ok (.iaload, 1) := by decide +kernel
theorem dX12_layWords_40 : decode cX12_layWords 40 = .ok (.iaload, 1) := by decide +kernel
theorem dX12_layWords_41 : decode cX12_layWords 41 = .ok (.invokevirtual 185, 3) := by decide +kernel
theorem dX12_layWords_44 : decode cX12_layWords 44 = .ok (.iinc 3 1, 3) := by decide +kernel
theorem dX12_layWords_47 : decode cX12_layWords 47 = .ok (.goto (-25), 3) := by decide +kernel
theorem dX12_layWords_50 : decode cX12_layWords 50 = .ok (.aload_n 0, 1) := by decide +kernel
theorem dX12_layWords_51 : decode cX12_layWords 51 = .ok (.getfield 80, 3) := by decide +kernel
theorem dX12_layWords_54 : decode cX12_layWords 54 = .ok (.ifCond .le 23, 3) := by decide +kernel
theorem dX12_layWords_57 : decode cX12_layWords 57 = .ok (.aload_n 0, 1) := by decide +kernel
theorem dX12_layWords_58 : decode cX12_layWords 58 = .ok (.getfield 182, 3) := by decide +kernel
theorem dX12_layWords_61 : decode cX12_layWords 61 = .ok (.aload_n 0, 1) := by decide +kernel
theorem dX12_layWords_62 : decode cX12_layWords 62 = .ok (.getfield 80, 3) := by decide +kernel
theorem dX12_layWords_65 : decode cX12_layWords 65 = .ok (.irem, 1) := by decide +kernel
theorem dX12_layWords_66 : decode cX12_layWords 66 = .ok (.ifCond .eq 11, 3) := by decide +kernel
theorem dX12_layWords_69 : decode cX12_layWords 69 = .ok (.aload_n 0, 1) := by decide +kernel
theorem dX12_layWords_70 : decode cX12_layWords 70 = .ok (.iconst 0, 1) := by decide +kernel
theorem dX12_layWords_71 : decode cX12_layWords 71 = .ok (.invokevirtual 185, 3) := by decide +kernel
theorem dX12_layWords_74 : decode cX12_layWords 74 = .ok (.goto (-24), 3) := by decide +kernel
theorem dX12_layWords_77 : decode cX12_layWords 77 = .ok (.aload_n 0, 1) := by decide +kernel
theorem dX12_layWords_78 : decode cX12_layWords 78 = .ok (.getfield 146, 3) := by decide +kernel
theorem dX12_layWords_81 : decode cX12_layWords 81 = .ok (.iconst 1, 1) := by decide +kernel
theorem dX12_layWords_82 : decode cX12_layWords 82 = .ok (.if_icmp .ne 15, 3) := by decide +kernel
theorem dX12_layWords_85 : decode cX12_layWords 85 = .ok (.aload_n 0, 1) := by decide +kernel
theorem dX12_layWords_86 : decode cX12_layWords 86 = .ok (.aload_n 0, 1) := by decide +kernel
theorem dX12_layWords_87 : decode cX12_layWords 87 = .ok (.aload_n 0, 1) := by decide +kernel
theorem dX12_layWords_88 : decode cX12_layWords 88 = .ok (.getfield 182, 3) := by decide +kernel
theorem dX12_layWords_91 : decode cX12_layWords 91 = .ok (.invokevirtual 189, 3) := by decide +kernel
theorem dX12_layWords_94 : decode cX12_layWords 94 = .ok (.invokevirtual 185, 3) := by decide +kernel
theorem dX12_layWords_97 : decode cX12_layWords 97 = .ok (.return_, 1) := by decide +kernel
theorem dX12_areWords_0 : decode cX12_areWords 0 = .ok (.iconst 1, 1) := by decide +kernel
theorem dX12_areWords_1 : decode cX12_areWords 1 = .ok (.istore_n 3, 1) := by decide +kernel
theorem dX12_areWords_2 : decode cX12_areWords 2 = .ok (.iconst 0, 1) := by decide +kernel
theorem dX12_areWords_3 : decode cX12_areWords 3 = .ok (.istore 4, 2) := by decide +kernel
theorem dX12_areWords_5 : decode cX12_areWords 5 = .ok (.iload 4, 2) := by decide +kernel
theorem dX12_areWords_7 : decode cX12_areWords 7 = .ok (.iload_n 2, 1) := by decide +kernel
theorem dX12_areWords_8 : decode cX12_areWords 8 = .ok (.if_icmp .ge 51, 3) := by decide +kernel
theorem dX12_areWords_11 : decode cX12_areWords 11 = .ok (.iload_n 3, 1) := by decide +kernel
theorem dX12_areWords_12 : decode cX12_areWords 12 = .ok (.ifCond .eq 39, 3) := by decide +kernel
theorem dX12_areWords_15 : decode cX12_areWords 15 = .ok (.aload_n 0, 1) := by decide +kernel
theorem dX12_areWords_16 : decode cX12_areWords 16 = .ok (.getfield 70, 3) := by decide +kernel
theorem dX12_areWords_19 : decode cX12_areWords 19 = .ok (.iload_n 1, 1) := by decide +kernel
theorem dX12_areWords_20 : decode cX12_areWords 20 = .ok (.iload 4, 2) := by decide +kernel
theorem dX12_areWords_22 : decode cX12_areWords 22 = .ok (.iadd, 1) := by decide +kernel
theorem dX12_areWords_23 : decode cX12_areWords 23 = .ok (.iaload, 1) := by decide +kernel
theorem dX12_areWords_24 : decode cX12_areWords 24 = .ok (.invokestatic 113, 3) := by decide +kernel
theorem dX12_areWords_27 : decode cX12_areWords 27 = .ok (.ifCond .ne 24, 3) := by decide +kernel
theorem dX12_areWords_30 : decode cX12_areWords 30 = .ok (.aload_n 0, 1) := by decide +kernel
theorem dX12_areWords_31 : decode cX12_areWords 31 = .ok (.getfield 7, 3) := by decide +kernel
theorem dX12_areWords_34 : decode cX12_areWords 34 = .ok (.aload_n 0, 1) := by decide +kernel
theorem dX12_areWords_35 : decode cX12_areWords 35 = .ok (.getfield 70, 3) := by decide +kernel
theorem dX12_areWords_38 : decode cX12_areWords 38 = .ok (.iload_n 1, 1) := by decide +kernel
theorem dX12_areWords_39 : decode cX12_areWords 39 = .ok (.iload 4, 2) := by decide +kernel
theorem dX12_areWords_41 : decode cX12_areWords 41 = .ok (.iadd, 1) := by decide +kernel
theorem dX12_areWords_42 : decode cX12_areWords 42 = .ok (.iaload, 1) := by decide +kernel
theorem dX12_areWords_43 : decode cX12_areWords 43 = .ok (.iaload, 1) := by decide +kernel
theorem dX12_areWords_44 : decode cX12_areWords 44 = .ok (.ifCond .lt 7, 3) := by decide +kernel
theorem dX12_areWords_47 : decode cX12_areWords 47 = .ok (.iconst 1, 1) := by decide +kernel
theorem dX12_areWords_48 : decode cX12_areWords 48 = .ok (.goto 4, 3) := by decide +kernel
theorem dX12_areWords_51 : decode cX12_areWords 51 = .ok (.iconst 0, 1) := by decide +kernel
theorem dX12_areWords_52 : decode cX12_areWords 52 = .ok (.istore_n 3, 1) := by decide +kernel
theorem dX12_areWords_53 : decode cX12_areWords 53 = .ok (.iinc 4 1, 3) := by decide +kernel
theorem dX12_areWords_56 : decode cX12_areWords 56 = .ok (.goto (-51), 3) := by decide +kernel
theorem dX12_areWords_59 : decode cX12_areWords 59 = .ok (.iload_n 3, 1) := by decide +kernel
theorem dX12_areWords_60 : decode cX12_areWords 60 = .ok (.ireturn, 1) := by decide +kernel
theorem dX12_letter_0 : decode cX12_letter 0 = .ok (.aload_n 0, 1) := by decide +kernel
theorem dX12_letter_1 : decode cX12_letter 1 = .ok (.iload_n 1, 1) := by decide +kernel
theorem dX12_letter_2 : decode cX12_letter 2 = .ok (.invokevirtual 169, 3) := by decide +kernel
theorem dX12_letter_5 : decode cX12_letter 5 = .ok (.ifCond .ne 10, 3) := by decide +kernel
theorem dX12_letter_8 : decode cX12_letter 8 = .ok (.iload_n 3, 1) := by decide +kernel
theorem dX12_letter_9 : decode cX12_letter 9 = .ok (.invokestatic 135, 3) := by decide +kernel
theorem dX12_letter_12 : decode cX12_letter 12 = .ok (.ifCond .eq 9, 3) := by decide +kernel
theorem dX12_letter_15 : decode cX12_letter 15 = .ok (.aload_n 0, 1) := by decide +kernel
theorem dX12_letter_16 : decode cX12_letter 16 = .ok (.iconst (-1), 1) := by decide +kernel
theorem dX12_letter_17 : decode cX12_letter 17 = .ok (.invokevirtual 98, 3) := by decide +kernel
theorem dX12_letter_20 : decode cX12_letter 20 = .ok (.ireturn, 1) := by decide +kernel
theorem dX12_letter_21 : decode cX12_letter 21 = .ok (.aload_n 0, 1) := by decide +kernel
theorem dX12_letter_22 : decode cX12_letter 22 = .ok (.iload_n 2, 1) := by decide +kernel
theorem dX12_letter_23 : decode cX12_letter 23 = .ok (.invokevirtual 192, 3) := by decide +kernel
theorem dX12_letter_26 : decode cX12_letter 26 = .ok (.ifCond .ne 10, 3) := by decide +kernel
theorem dX12_letter_29 : decode cX12_letter 29 = .ok (.aload_n 0, 1) := by decide +kernel
theorem dX12_letter_30 : decode cX12_letter 30 = .ok (.bipush (-2), 2) := by decide +kernel
theorem dX12_letter_32 : decode cX12_letter 32 = .ok (.invokevirtual 98, 3) := by decide +kernel
theorem dX12_letter_35 : decode cX12_letter 35 = .ok (.ireturn, 1) := by decide +kernel
theorem dX12_letter_36 : decode cX12_letter 36 = .ok (.aload_n 0, 1) := by decide +kernel
theorem dX12_letter_37 : decode cX12_letter 37 = .ok (.iload_n 3, 1) := by decide +kernel
theorem dX12_letter_38 : decode cX12_letter 38 = .ok (.iload 4, 2) := by decide +kernel
theorem dX12_letter_40 : decode cX12_letter 40 = .ok (.iload 5, 2) := by decide +kernel
theorem dX12_letter_42 : decode cX12_letter 42 = .ok (.iload 6, 2) := by decide +kernel
theorem dX12_letter_44 : decode cX12_letter 44 = .ok (.i2l, 1) := by decide +kernel
theorem dX12_letter_45 : decode cX12_letter 45 = .ok (.invokevirtual 138, 3) := by decide +kernel
theorem dX12_letter_48 : decode cX12_letter 48 = .ok (.istore 7, 2) := by decide +kernel
theorem dX12_letter_50 : decode cX12_letter 50 = .ok (.iload 7, 2) := by decide +kernel
theorem dX12_letter_52 : decode cX12_letter 52 = .ok (.ifCond .ge 6, 3) := by decide +kernel
theorem dX12_letter_55 : decode cX12_letter 55 = .ok (.iload 7, 2) := by decide +kernel
theorem dX12_letter_57 : decode cX12_letter 57 = .ok (.ireturn, 1) := by decide +kernel
theorem dX12_letter_58 : decode cX12_letter 58 = .ok (.aload_n 0, 1) := by decide +kernel
theorem dX12_letter_59 : decode cX12_letter 59 = .ok (.bipush 60, 2) := by decide +kernel
theorem dX12_letter_61 : decode cX12_letter 61 = .ok (.iload_n 3, 1) := by decide +kernel
theorem dX12_letter_62 : decode cX12_letter 62 = .ok (.imul, 1) := by decide +kernel
theorem dX12_letter_63 : decode cX12_letter 63 = .ok (.iload 5, 2) := by decide +kernel
theorem dX12_letter_65 : decode cX12_letter 65 = .ok (.iadd, 1) := by decide +kernel
theorem dX12_letter_66 : decode cX12_letter 66 = .ok (.iload 6, 2) := by decide +kernel
theorem dX12_letter_68 : decode cX12_letter 68 = .ok (.invokevirtual 195, 3) := by decide +kernel
theorem dX12_letter_71 : decode cX12_letter 71 = .ok (.ifCond .ne 9, 3) := by decide +kernel
theorem dX12_letter_74 : decode cX12_letter 74 = .ok (.aload_n 0, 1) := by decide +kernel
theorem dX12_letter_75 : decode cX12_letter 75 = .ok (.iconst (-1), 1) := by decide +kernel
theorem dX12_letter_76 : decode cX12_letter 76 = .ok (.invokevirtual 98, 3) := by decide +kernel
theorem dX12_letter_79 : decode cX12_letter 79 = .ok (.ireturn, 1) := by decide +kernel
theorem dX12_letter_80 : decode cX12_letter 80 = .ok (.aload_n 0, 1) := by decide +kernel
theorem dX12_letter_81 : decode cX12_letter 81 = .ok (.bipush 60, 2) := by decide +kernel
theorem dX12_letter_83 : decode cX12_letter 83 = .ok (.iload_n 3, 1) := by decide +kernel
theorem dX12_letter_84 : decode cX12_letter 84 = .ok (.imul, 1) := by decide +kernel
theorem dX12_letter_85 : decode cX12_letter 85 = .ok (.iload 5, 2) := by decide +kernel
theorem dX12_letter_87 : decode cX12_letter 87 = .ok (.iadd, 1) := by decide +kernel
theorem dX12_letter_88 : decode cX12_letter 88 = .ok (.iload 6, 2) := by decide +kernel
theorem dX12_letter_90 : decode cX12_letter 90 = .ok (.invokevirtual 198, 3) := by decide +kernel
theorem dX12_letter_93 : decode cX12_letter 93 = .ok (.aload_n 0, 1) := by decide +kernel
theorem dX12_letter_94 : decode cX12_letter 94 = .ok (.getfield 34, 3) := by decide +kernel
theorem dX12_letter_97 : decode cX12_letter 97 = .ok (.iload_n 1, 1) := by decide +kernel
theorem dX12_letter_98 : decode cX12_letter 98 = .ok (.iaload, 1) := by decide +kernel
theorem dX12_letter_99 : decode cX12_letter 99 = .ok (.ifCond .le 10, 3) := by decide +kernel
theorem dX12_letter_102 : decode cX12_letter 102 = .ok (.aload_n 0, 1) := by decide +kernel
theorem dX12_letter_103 : decode cX12_letter 103 = .ok (.getfield 149, 3) := by decide +kernel
theorem dX12_letter_106 : decode cX12_letter 106 = .ok (.ifCond .eq 22, 3) := by decide +kernel
theorem dX12_letter_109 : decode cX12_letter 109 = .ok (.aload_n 0, 1) := by decide +kernel
theorem dX12_letter_110 : decode cX12_letter 110 = .ok (.getfield 182, 3) := by decide +kernel
theorem dX12_letter_113 : decode cX12_letter 113 = .ok (.aload_n 0, 1) := by decide +kernel
theorem dX12_letter_114 : decode cX12_letter 114 = .ok (.iload_n 1, 1) := by decide +kernel
theorem dX12_letter_115 : decode cX12_letter 115 = .ok (.invokevirtual 172, 3) := by decide +kernel
theorem dX12_letter_118 : decode cX12_letter 118 = .ok (.if_icmp .gt 10, 3) := by decide +kernel
theorem dX12_letter_121 : decode cX12_letter 121 = .ok (.aload_n 0, 1) := by decide +kernel
theorem dX12_letter_122 : decode cX12_letter 122 = .ok (.getfield 182, 3) := by decide +kernel
theorem dX12_letter_125 : decode cX12_letter 125 = .ok (.ifCond .ne 10, 3) := by decide +kernel
theorem dX12_letter_128 : decode cX12_letter 128 = .ok (.aload_n 0, 1) := by decide +kernel
theorem dX12_letter_129 : decode cX12_letter 129 = .ok (.bipush (-3), 2) := by decide +kernel
theorem dX12_letter_131 : decode cX12_letter 131 = .ok (.invokevirtual 98, 3) := by decide +kernel
theorem dX12_letter_134 : decode cX12_letter 134 = .ok (.ireturn, 1) := by decide +kernel
theorem dX12_letter_135 : decode cX12_letter 135 = .ok (.aload_n 0, 1) := by decide +kernel
theorem dX12_letter_136 : decode cX12_letter 136 = .ok (.getfield 179, 3) := by decide +kernel
theorem dX12_letter_139 : decode cX12_letter 139 = .ok (.bipush 20, 2) := by decide +kernel
theorem dX12_letter_141 : decode cX12_letter 141 = .ok (.if_icmp .ne 10, 3) := by decide +kernel
theorem dX12_letter_144 : decode cX12_letter 144 = .ok (.aload_n 0, 1) := by decide +kernel
theorem dX12_letter_145 : decode cX12_letter 145 = .ok (.bipush (-4), 2) := by decide +kernel
theorem dX12_letter_147 : decode cX12_letter 147 = .ok (.invokevirtual 98, 3) := by decide +kernel
theorem dX12_letter_150 : decode cX12_letter 150 = .ok (.ireturn, 1) := by decide +kernel
theorem dX12_letter_151 : decode cX12_letter 151 = .ok (.aload_n 0, 1) := by decide +kernel
theorem dX12_letter_152 : decode cX12_letter 152 = .ok (.getfield 37, 3) := by decide +kernel
theorem dX12_letter_155 : decode cX12_letter 155 = .ok (.aload_n 0, 1) := by decide +kernel
theorem dX12_letter_156 : decode cX12_letter 156 = .ok (.getfield 179, 3) := by decide +kernel
theorem dX12_letter_159 : decode cX12_letter 159 = .ok (.iload_n 1, 1) := by decide +kernel
theorem dX12_letter_160 : decode cX12_letter 160 = .ok (.iastore, 1) := by decide +kernel
theorem dX12_letter_161 : decode cX12_letter 161 = .ok (.aload_n 0, 1) := by decide +kernel
theorem dX12_letter_162 : decode cX12_letter 162 = .ok (.getfield 40, 3) := by decide +kernel
theorem dX12_letter_165 : decode cX12_letter 165 = .ok (.aload_n 0, 1) := by decide +kernel
theorem dX12_letter_166 : decode cX12_letter 166 = .ok (.getfield 179, 3) := by decide +kernel
theorem dX12_letter_169 : decode cX12_letter 169 = .ok (.iload_n 2, 1) := by decide +kernel
theorem dX12_letter_170 : decode cX12_letter 170 = .ok (.iastore, 1) := by decide +kernel
theorem dX12_letter_171 : decode cX12_letter 171 = .ok (.aload_n 0, 1) := by decide +kernel
theorem dX12_letter_172 : decode cX12_letter 172 = .ok (.getfield 43, 3) := by decide +kernel
theorem dX12_letter_175 : decode cX12_letter 175 = .ok (.aload_n 0, 1) := by decide +kernel
theorem dX12_letter_176 : decode cX12_letter 176 = .ok (.getfield 179, 3) := by decide +kernel
theorem dX12_letter_179 : decode cX12_letter 179 = .ok (.aload_n 0, 1) := by decide +kernel
theorem dX12_letter_180 : decode cX12_letter 180 = .ok (.getfield 182, 3) := by decide +kernel
theorem dX12_letter_183 : decode cX12_letter 183 = .ok (.iastore, 1) := by decide +kernel
theorem dX12_letter_184 : decode cX12_letter 184 = .ok (.iconst 0, 1) := by decide +kernel
theorem dX12_letter_185 : decode cX12_letter 185 = .ok (.istore 8, 2) := by decide +kernel
theorem dX12_letter_187 : decode cX12_letter 187 = .ok (.iload 8, 2) := by decide +kernel
theorem dX12_letter_189 : decode cX12_letter 189 = .ok (.aload_n 0, 1) := by decide +kernel
theorem dX12_letter_190 : decode cX12_letter 190 = .ok (.getfield 182, 3) := by decide +kernel
theorem dX12_letter_193 : decode cX12_letter 193 = .ok (.if_icmp .ge 47, 3) := by decide +kernel
theorem dX12_letter_196 : decode cX12_letter 196 = .ok (.aload_n 0, 1) := by decide +kernel
theorem dX12_letter_197 : decode cX12_letter 197 = .ok (.getfield 46, 3) := by decide +kernel
theorem dX12_letter_200 : decode cX12_letter 200 = .ok (.bipush 12, 2) := by decide +kernel
theorem dX12_letter_202 : decode cX12_letter 202 = .ok (.aload_n 0, 1) := by decide +kernel
theorem dX12_letter_203 : decode cX12_letter 203 = .ok (.getfield 179, 3) := by decide +kernel
theorem dX12_letter_206 : decode cX12_letter 206 = .ok (.imul, 1) := by decide +kernel
theorem dX12_letter_207 : decode cX12_letter 207 = .ok (.iload 8, 2) := by decide +kernel
theorem dX12_letter_209 : decode cX12_letter 209 = .ok (.iadd, 1) := by decide +kernel
theorem dX12_letter_210 : decode cX12_letter 210 = .ok (.aload_n 0, 1) := by decide +kernel
theorem dX12_letter_211 : decode cX12_letter 211 = .ok (.getfield 49, 3) := by decide +kernel
theorem dX12_letter_214 : decode cX12_letter 214 = .ok (.iload 8, 2) := by decide +kernel
theorem dX12_letter_216 : decode cX12_letter 216 = .ok (.iaload, 1) := by decide +kernel
theorem dX12_letter_217 : decode cX12_letter 217 = .ok (.aload_n 0, 1) := by decide +kernel
theorem dX12_letter_218 : decode cX12_letter 218 = .ok (.getfield 31, 3) := by decide +kernel
theorem dX12_letter_221 : decode cX12_letter 221 = .ok (.bipush 12, 2) := by decide +kernel
theorem dX12_letter_223 : decode cX12_letter 223 = .ok (.iload_n 1, 1) := by decide +kernel
theorem dX12_letter_224 : decode cX12_letter 224 = .ok (.imul, 1) := by decide +kernel
theorem dX12_letter_225 : decode cX12_letter 225 = .ok (.iload 8, 2) := by decide +kernel
theorem dX12_letter_227 : decode cX12_letter 227 = .ok (.iadd, 1) := by decide +kernel
theorem dX12_letter_228 : decode cX12_letter 228 = .ok (.iaload, 1) := by decide +kernel
theorem dX12_letter_229 : decode cX12_letter 229 = .ok (.iadd, 1) := by decide +kernel
theorem dX12_letter_230 : decode cX12_letter 230 = .ok (.invokestatic 202, 3) := by decide +kernel
theorem dX12_letter_233 : decode cX12_letter 233 = .ok (.iastore, 1) := by decide +kernel
theorem dX12_letter_234 : decode cX12_letter 234 = .ok (.iinc 8 1, 3) := by decide +kernel
theorem dX12_letter_237 : decode cX12_letter 237 = .ok (.goto (-50), 3) := by decide +kernel
theorem dX12_letter_240 : decode cX12_letter 240 = .ok (.aload_n 0, 1) := by decide +kernel
theorem dX12_letter_241 : decode cX12_letter 241 = .ok (.getfield 34, 3) := by decide +kernel
theorem dX12_letter_244 : decode cX12_letter 244 = .ok (.iload_n 1, 1) := by decide +kernel
theorem dX12_letter_245 : decode cX12_letter 245 = .ok (.dup2, 1) := by decide +kernel
theorem dX12_letter_246 : decode cX12_letter 246 = .ok (.iaload, 1) := by decide +kernel
theorem dX12_letter_247 : decode cX12_letter 247 = .ok (.iconst 1, 1) := by decide +kernel
theorem dX12_letter_248 : decode cX12_letter 248 = .ok (.iadd, 1) := by decide +kernel
theorem dX12_letter_249 : decode cX12_letter 249 = .ok (.iastore, 1) := by decide +kernel
theorem dX12_letter_250 : decode cX12_letter 250 = .ok (.aload_n 0, 1) := by decide +kernel
theorem dX12_letter_251 : decode cX12_letter 251 = .ok (.dup, 1) := by decide +kernel
theorem dX12_letter_252 : decode cX12_letter 252 = .ok (.getfield 179, 3) := by decide +kernel
theorem dX12_letter_255 : decode cX12_letter 255 = .ok (.iconst 1, 1) := by decide +kernel
theorem dX12_letter_256 : decode cX12_letter 256 = .ok (.iadd, 1) := by decide +kernel
theorem dX12_letter_257 : decode cX12_letter 257 = .ok (.putfield 179, 3) := by decide +kernel
theorem dX12_letter_260 : decode cX12_letter 260 = .ok (.aload_n 0, 1) := by decide +kernel
theorem dX12_letter_261 : decode cX12_letter 261 = .ok (.aload_n 0, 1) := by decide +kernel
theorem dX12_letter_262 : decode cX12_letter 262 = .ok (.getfield 179, 3) := by decide +kernel
theorem dX12_letter_265 : decode cX12_letter 265 = .ok (.iconst 1, 1) := by decide +kernel
theorem dX12_letter_266 : decode cX12_letter 266 = .ok (.isub, 1) := by decide +kernel
theorem dX12_letter_267 : decode cX12_letter 267 = .ok (.invokevirtual 98, 3) := by decide +kernel
theorem dX12_letter_270 : decode cX12_letter 270 = .ok (.ireturn, 1) := by decide +kernel
theorem dX12_ofLetter_0 : decode cX12_ofLetter 0 = .ok (.aload_n 0, 1) := by decide +kernel
theorem dX12_ofLetter_1 : decode cX12_ofLetter 1 = .ok (.iload_n 1, 1) := by decide +kernel
theorem dX12_ofLetter_2 : decode cX12_ofLetter 2 = .ok (.invokevirtual 205, 3) := by decide +kernel
theorem dX12_ofLetter_5 : decode cX12_ofLetter 5 = .ok (.ifCond .eq 5, 3) := by decide +kernel
theorem dX12_ofLetter_8 : decode cX12_ofLetter 8 = .ok (.iconst (-1), 1) := by decide +kernel
theorem dX12_ofLetter_9 : decode cX12_ofLetter 9 = .ok (.ireturn, 1) := by decide +kernel
theorem dX12_ofLetter_10 : decode cX12_ofLetter 10 = .ok (.iload_n 2, 1) := by decide +kernel
theorem dX12_ofLetter_11 : decode cX12_ofLetter 11 = .ok (.tableswitch 46 0 2 #[25, 32, 39], 25) := by decide +kernel
theorem dX12_ofLetter_36 : decode cX12_ofLetter 36 = .ok (.aload_n 0, 1) := by decide +kernel
theorem dX12_ofLetter_37 : decode cX12_ofLetter 37 = .ok (.getfield 37, 3) := by decide +kernel
theorem dX12_ofLetter_40 : decode cX12_ofLetter 40 = .ok (.iload_n 1, 1) := by decide +kernel
theorem dX12_ofLetter_41 : decode cX12_ofLetter 41 = .ok (.iaload, 1) := by decide +kernel
theorem dX12_ofLetter_42 : decode cX12_ofLetter 42 = .ok (.ireturn, 1) := by decide +kernel
theorem dX12_ofLetter_43 : decode cX12_ofLetter 43 = .ok (.aload_n 0, 1) := by decide +kernel
theorem dX12_ofLetter_44 : decode cX12_ofLetter 44 = .ok (.getfield 40, 3) := by decide +kernel
theorem dX12_ofLetter_47 : decode cX12_ofLetter 47 = .ok (.iload_n 1, 1) := by decide +kernel
theorem dX12_ofLetter_48 : decode cX12_ofLetter 48 = .ok (.iaload, 1) := by decide +kernel
theorem dX12_ofLetter_49 : decode cX12_ofLetter 49 = .ok (.ireturn, 1) := by decide +kernel
theorem dX12_ofLetter_50 : decode cX12_ofLetter 50 = .ok (.aload_n 0, 1) := by decide +kernel
theorem dX12_ofLetter_51 : decode cX12_ofLetter 51 = .ok (.getfield 43, 3) := by decide +kernel
theorem dX12_ofLetter_54 : decode cX12_ofLetter 54 = .ok (.iload_n 1, 1) := by decide +kernel
theorem dX12_ofLetter_55 : decode cX12_ofLetter 55 = .ok (.iaload, 1) := by decide +kernel
theorem dX12_ofLetter_56 : decode cX12_ofLetter 56 = .ok (.ireturn, 1) := by decide +kernel
theorem dX12_ofLetter_57 : decode cX12_ofLetter 57 = .ok (.iload_n 2, 1) := by decide +kernel
theorem dX12_ofLetter_58 : decode cX12_ofLetter 58 = .ok (.i2l, 1) := by decide +kernel
theorem dX12_ofLetter_59 : decode cX12_ofLetter 59 = .ok (.ldc2_w 175, 3) := by decide +kernel
theorem dX12_ofLetter_62 : decode cX12_ofLetter 62 = .ok (.ldc2_w 177, 3) := by decide +kernel
theorem dX12_ofLetter_65 : decode cX12_ofLetter 65 = .ok (.aload_n 0, 1) := by decide +kernel
theorem dX12_ofLetter_66 : decode cX12_ofLetter 66 = .ok (.getfield 43, 3) := by decide +kernel
theorem dX12_ofLetter_69 : decode cX12_ofLetter 69 = .ok (.iload_n 1, 1) := by decide +kernel
theorem dX12_ofLetter_70 : decode cX12_ofLetter 70 = .ok (.iaload, 1) := by decide +kernel
theorem dX12_ofLetter_71 : decode cX12_ofLetter 71 = .ok (.i2l, 1) := by decide +kernel
theorem dX12_ofLetter_72 : decode cX12_ofLetter 72 = .ok (.ladd, 1) := by decide +kernel
theorem dX12_ofLetter_73 : decode cX12_ofLetter 73 = .ok (.invokestatic 94, 3) := by decide +kernel
theorem dX12_ofLetter_76 : decode cX12_ofLetter 76 = .ok (.ifCond .eq 20, 3) := by decide +kernel
theorem dX12_ofLetter_79 : decode cX12_ofLetter 79 = .ok (.aload_n 0, 1) := by decide +kernel
theorem dX12_ofLetter_80 : decode cX12_ofLetter 80 = .ok (.getfield 46, 3) := by decide +kernel
theorem dX12_ofLetter_83 : decode cX12_ofLetter 83 = .ok (.bipush 12, 2) := by decide +kernel
theorem dX12_ofLetter_85 : decode cX12_ofLetter 85 = .ok (.iload_n 1, 1) := by decide +kernel
theorem dX12_ofLetter_86 : decode cX12_ofLetter 86 = .ok (.imul, 1) := by decide +kernel
theorem dX12_ofLetter_87 : decode cX12_ofLetter 87 = .ok (.iload_n 2, 1) := by decide +kernel
theorem dX12_ofLetter_88 : decode cX12_ofLetter 88 = .ok (.iadd, 1) := by decide +kernel
theorem dX12_ofLetter_89 : decode cX12_ofLetter 89 = .ok (.bipush 10, 2) := by decide +kernel
theorem dX12_ofLetter_91 : decode cX12_ofLetter 91 = .ok (.isub, 1) := by decide +kernel
theorem dX12_ofLetter_92 : decode cX12_ofLetter 92 = .ok (.iaload, 1) := by decide +kernel
theorem dX12_ofLetter_93 : decode cX12_ofLetter 93 = .ok (.goto 5, 3) := by decide +kernel
theorem dX12_ofLetter_96 : decode cX12_ofLetter 96 = .ok (.bipush (-2), 2) := by decide +kernel
theorem dX12_ofLetter_98 : decode cX12_ofLetter 98 = .ok (.ireturn, 1) := by decide +kernel
theorem dX12_read_0 : decode cX12_read 0 = .ok (.aload_n 0, 1) := by decide +kernel
theorem dX12_read_1 : decode cX12_read 1 = .ok (.iload_n 1, 1) := by decide +kernel
theorem dX12_read_2 : decode cX12_read 2 = .ok (.invokevirtual 205, 3) := by decide +kernel
theorem dX12_read_5 : decode cX12_read 5 = .ok (.ifCond .ne 25, 3) := by decide +kernel
theorem dX12_read_8 : decode cX12_read 8 = .ok (.aload_n 0, 1) := by decide +kernel
theorem dX12_read_9 : decode cX12_read 9 = .ok (.iload_n 2, 1) := by decide +kernel
theorem dX12_read_10 : decode cX12_read 10 = .ok (.invokevirtual 169, 3) := by decide +kernel
theorem dX12_read_13 : decode cX12_read 13 = .ok (.ifCond .ne 17, 3) := by decide +kernel
theorem dX12_read_16 : decode cX12_read 16 = .ok (.iload_n 3, 1) := by decide +kernel
theorem dX12_read_17 : decode cX12_read 17 = .ok (.i2l, 1) := by decide +kernel
theorem dX12_read_18 : decode cX12_read 18 = .ok (.ldc2_w 117, 3) := by decide +kernel
theorem dX12_read_21 : decode cX12_read 21 = .ok (.ldc2_w 208, 3) := by decide +kernel
theorem dX12_read_24 : decode cX12_read 24 = .ok (.invokestatic 94, 3) := by decide +kernel
theorem dX12_read_27 : decode cX12_read 27 = .ok (.ifCond .ne 5, 3) := by decide +kernel
theorem dX12_read_30 : decode cX12_read 30 = .ok (.iconst (-1), 1) := by decide +kernel
theorem dX12_read_31 : decode cX12_read 31 = .ok (.ireturn, 1) := by decide +kernel
theorem dX12_read_32 : decode cX12_read 32 = .ok (.aload_n 0, 1) := by decide +kernel
theorem dX12_read_33 : decode cX12_read 33 = .ok (.aload_n 0, 1) := by decide +kernel
theorem dX12_read_34 : decode cX12_read 34 = .ok (.getfield 43, 3) := by decide +kernel
theorem dX12_read_37 : decode cX12_read 37 = .ok (.iload_n 1, 1) := by decide +kernel
theorem dX12_read_38 : decode cX12_read 38 = .ok (.iaload, 1) := by decide +kernel
theorem dX12_read_39 : decode cX12_read 39 = .ok (.aload_n 0, 1) := by decide +kernel
theorem dX12_read_40 : decode cX12_read 40 = .ok (.getfield 28, 3) := by decide +kernel
theorem dX12_read_43 : decode cX12_read 43 = .ok (.iload_n 2, 1) := by decide +kernel
theorem dX12_read_44 : decode cX12_read 44 = .ok (.iaload, 1) := by decide +kernel
theorem dX12_read_45 : decode cX12_read 45 = .ok (.invokestatic 210, 3) := by decide +kernel
theorem dX12_read_48 : decode cX12_read 48 = .ok (.putfield 182, 3) := by decide +kernel
theorem dX12_read_51 : decode cX12_read 51 = .ok (.iconst 0, 1) := by decide +kernel
theorem dX12_read_52 : decode cX12_read 52 = .ok (.istore 4, 2) := by decide +kernel
theorem dX12_read_54 : decode cX12_read 54 = .ok (.iload 4, 2) := by decide +kernel
theorem dX12_read_56 : decode cX12_read 56 = .ok (.aload_n 0, 1) := by decide +kernel
theorem dX12_read_57 : decode cX12_read 57 = .ok (.getfield 182, 3) := by decide +kernel
theorem dX12_read_60 : decode cX12_read 60 = .ok (.if_icmp .ge 44, 3) := by decide +kernel
theorem dX12_read_63 : decode cX12_read 63 = .ok (.aload_n 0, 1) := by decide +kernel
theorem dX12_read_64 : decode cX12_read 64 = .ok (.getfield 49, 3) := by decide +kernel
theorem dX12_read_67 : decode cX12_read 67 = .ok (.iload 4, 2) := by decide +kernel
theorem dX12_read_69 : decode cX12_read 69 = .ok (.aload_n 0, 1) := by decide +kernel
theorem dX12_read_70 : decode cX12_read 70 = .ok (.getfield 46, 3) := by decide +kernel
theorem dX12_read_73 : decode cX12_read 73 = .ok (.bipush 12, 2) := by decide +kernel
theorem dX12_read_75 : decode cX12_read 75 = .ok (.iload_n 1, 1) := by decide +kernel
theorem dX12_read_76 : decode cX12_read 76 = .ok (.imul, 1) := by decide +kernel
theorem dX12_read_77 : decode cX12_read 77 = .ok (.iload 4, 2) := by decide +kernel
theorem dX12_read_79 : decode cX12_read 79 = .ok (.iadd, 1) := by decide +kernel
theorem dX12_read_80 : decode cX12_read 80 = .ok (.iaload, 1) := by decide +kernel
theorem dX12_read_81 : decode cX12_read 81 = .ok (.aload_n 0, 1) := by decide +kernel
theorem dX12_read_82 : decode cX12_read 82 = .ok (.getfield 31, 3) := by decide +kernel
theorem dX12_read_85 : decode cX12_read 85 = .ok (.bipush 12, 2) := by decide +kernel
theorem dX12_read_87 : decode cX12_read 87 = .ok (.iload_n 2, 1) := by decide +kernel
theorem dX12_read_88 : decode cX12_read 88 = .ok (.imul, 1) := by decide +kernel
theorem dX12_read_89 : decode cX12_read 89 = .ok (.iload 4, 2) := by decide +kernel
theorem dX12_read_91 : decode cX12_read 91 = .ok (.iadd, 1) := by decide +kernel
theorem dX12_read_92 : decode cX12_read 92 = .ok (.iaload, 1) := by decide +kernel
theorem dX12_read_93 : decode cX12_read 93 = .ok (.isub, 1) := by decide +kernel
theorem dX12_read_94 : decode cX12_read 94 = .ok (.invokestatic 202, 3) := by decide +kernel
theorem dX12_read_97 : decode cX12_read 97 = .ok (.iastore, 1) := by decide +kernel
theorem dX12_read_98 : decode cX12_read 98 = .ok (.iinc 4 1, 3) := by decide +kernel
theorem dX12_read_101 : decode cX12_read 101 = .ok (.goto (-47), 3) := by decide +kernel
theorem dX12_read_104 : decode cX12_read 104 = .ok (.aload_n 0, 1) := by decide +kernel
theorem dX12_read_105 : decode cX12_read 105 = .ok (.getfield 76, 3) := by decide +kernel
theorem dX12_read_108 : decode cX12_read 108 = .ok (.ifCond .lt 16, 3) := by decide +kernel
theorem dX12_read_111 : decode cX12_read 111 = .ok (.aload_n 0, 1) := by decide +kernel
theorem dX12_read_112 : decode cX12_read 112 = .ok (.getfield 49, 3) := by decide +kernel
theorem dX12_read_115 : decode cX12_read 115 = .ok (.iconst 0, 1) := by decide +kernel
theorem dX12_read_116 : decode cX12_read 116 = .ok (.iaload, 1) := by decide +kernel
theorem dX12_read_117 : decode cX12_read 117 = .ok (.aload_n 0, 1) := by decide +kernel
theorem dX12_read_118 : decode cX12_read 118 = .ok (.getfield 76, 3) := by decide +kernel
theorem dX12_read_121 : decode cX12_read 121 = .ok (.if_icmp .ne 17, 3) := by decide +kernel
theorem dX12_read_124 : decode cX12_read 124 = .ok (.aload_n 0, 1) := by decide +kernel
theorem dX12_read_125 : decode cX12_read 125 = .ok (.getfield 43, 3) := by decide +kernel
theorem dX12_read_128 : decode cX12_read 128 = .ok (.iload_n 1, 1) := by decide +kernel
theorem dX12_read_129 : decode cX12_read 129 = .ok (.iaload, 1) := by decide +kernel
theorem dX12_read_130 : decode cX12_read 130 = .ok (.aload_n 0, 1) := by decide +kernel
theorem dX12_read_131 : decode cX12_read 131 = .ok (.iload_n 2, 1) := by decide +kernel
theorem dX12_read_132 : decode cX12_read 132 = .ok (.invokevirtual 172, 3) := by decide +kernel
theorem dX12_read_135 : decode cX12_read 135 = .ok (.if_icmp .le 7, 3) := by decide +kernel
theorem dX12_read_138 : decode cX12_read 138 = .ok (.iconst 1, 1) := by decide +kernel
theorem dX12_read_139 : decode cX12_read 139 = .ok (.goto 4, 3) := by decide +kernel
theorem dX12_read_142 : decode cX12_read 142 = .ok (.iconst 0, 1) := by decide +kernel
theorem dX12_read_143 : decode cX12_read 143 = .ok (.istore 4, 2) := by decide +kernel
theorem dX12_read_145 : decode cX12_read 145 = .ok (.iload 4, 2) := by decide +kernel
theorem dX12_read_147 : decode cX12_read 147 = .ok (.ifCond .ne 35, 3) := by decide +kernel
theorem dX12_read_150 : decode cX12_read 150 = .ok (.aload_n 0, 1) := by decide +kernel
theorem dX12_read_151 : decode cX12_read 151 = .ok (.getfield 146, 3) := by decide +kernel
theorem dX12_read_154 : decode cX12_read 154 = .ok (.iconst 1, 1) := by decide +kernel
theorem dX12_read_155 : decode cX12_read 155 = .ok (.if_icmp .ne 31, 3) := by decide +kernel
theorem dX12_read_158 : decode cX12_read 158 = .ok (.aload_n 0, 1) := by decide +kernel
theorem dX12_read_159 : decode cX12_read 159 = .ok (.getfield 49, 3) := by decide +kernel
theorem dX12_read_162 : decode cX12_read 162 = .ok (.aload_n 0, 1) := by decide +kernel
theorem dX12_read_163 : decode cX12_read 163 = .ok (.getfield 182, 3) := by decide +kernel
theorem dX12_read_166 : decode cX12_read 166 = .ok (.iconst 1, 1) := by decide +kernel
theorem dX12_read_167 : decode cX12_read 167 = .ok (.isub, 1) := by decide +kernel
theorem dX12_read_168 : decode cX12_read 168 = .ok (.iaload, 1) := by decide +kernel
theorem dX12_read_169 : decode cX12_read 169 = .ok (.aload_n 0, 1) := by decide +kernel
theorem dX12_read_170 : decode cX12_read 170 = .ok (.aload_n 0, 1) := by decide +kernel
theorem dX12_read_171 : decode cX12_read 171 = .ok (.getfield 182, 3) := by decide +kernel
theorem dX12_read_174 : decode cX12_read 174 = .ok (.iconst 1, 1) := by decide +kernel
theorem dX12_read_175 : decode cX12_read 175 = .ok (.isub, 1) := by decide +kernel
theorem dX12_read_176 : decode cX12_read 176 = .ok (.invokevirtual 189, 3) := by decide +kernel
theorem dX12_read_179 : decode cX12_read 179 = .ok (.if_icmp .eq 7, 3) := by decide +kernel
theorem dX12_read_182 : decode cX12_read 182 = .ok (.iconst 1, 1) := by decide +kernel
theorem dX12_read_183 : decode cX12_read 183 = .ok (.goto 4, 3) := by decide +kernel
theorem dX12_read_186 : decode cX12_read 186 = .ok (.iconst 0, 1) := by decide +kernel
theorem dX12_read_187 : decode cX12_read 187 = .ok (.istore 4, 2) := by decide +kernel
theorem dX12_read_189 : decode cX12_read 189 = .ok (.iload 4, 2) := by decide +kernel
theorem dX12_read_191 : decode cX12_read 191 = .ok (.ifCond .eq 6, 3) := by decide +kernel
theorem dX12_read_194 : decode cX12_read 194 = .ok (.bipush (-3), 2) := by decide +kernel
theorem dX12_read_196 : decode cX12_read 196 = .ok (.ireturn, 1) := by decide +kernel
theorem dX12_read_197 : decode cX12_read 197 = .ok (.iconst 0, 1) := by decide +kernel
theorem dX12_read_198 : decode cX12_read 198 = .ok (.istore 5, 2) := by decide +kernel
theorem dX12_read_200 : decode cX12_read 200 = .ok (.bipush (-9), 2) := by decide +kernel
theorem dX12_read_202 : decode cX12_read 202 = .ok (.istore 6, 2) := by decide +kernel
theorem dX12_read_204 : decode cX12_read 204 = .ok (.aload_n 0, 1) := by decide +kernel
theorem dX12_read_205 : decode cX12_read 205 = .ok (.getfield 76, 3) := by decide +kernel
theorem dX12_read_208 : decode cX12_read 208 = .ok (.ifCond .lt 7, 3) := by decide +kernel
theorem dX12_read_211 : decode cX12_read 211 = .ok (.iconst 1, 1) := by decide +kernel
theorem dX12_read_212 : decode cX12_read 212 = .ok (.goto 4, 3) := by decide +kernel
theorem dX12_read_215 : decode cX12_read 215 = .ok (.iconst 0, 1) := by decide +kernel
theorem dX12_read_216 : decode cX12_read 216 = .ok (.istore 7, 2) := by decide +kernel
theorem dX12_read_218 : decode cX12_read 218 = .ok (.iload 7, 2) := by decide +kernel
theorem dX12_read_220 : decode cX12_read 220 = .ok (.aload_n 0, 1) := by decide +kernel
theorem dX12_read_221 : decode cX12_read 221 = .ok (.getfield 182, 3) := by decide +kernel
theorem dX12_read_224 : decode cX12_read 224 = .ok (.aload_n 0, 1) := by decide +kernel
theorem dX12_read_225 : decode cX12_read 225 = .ok (.getfield 146, 3) := by decide +kernel
theorem dX12_read_228 : decode cX12_read 228 = .ok (.isub, 1) := by decide +kernel
theorem dX12_read_229 : decode cX12_read 229 = .ok (.if_icmp .ge 52, 3) := by decide +kernel
theorem dX12_read_232 : decode cX12_read 232 = .ok (.aload_n 0, 1) := by decide +kernel
theorem dX12_read_233 : decode cX12_read 233 = .ok (.getfield 16, 3) := by decide +kernel
theorem dX12_read_236 : decode cX12_read 236 = .ok (.aload_n 0, 1) := by decide +kernel
theorem dX12_read_237 : decode cX12_read 237 = .ok (.getfield 49, 3) := by decide +kernel
theorem dX12_read_240 : decode cX12_read 240 = .ok (.iload 7, 2) := by decide +kernel
theorem dX12_read_242 : decode cX12_read 242 = .ok (.iaload, 1) := by decide +kernel
theorem dX12_read_243 : decode cX12_read 243 = .ok (.iaload, 1) := by decide +kernel
theorem dX12_read_244 : decode cX12_read 244 = .ok (.ifCond .lt 31, 3) := by decide +kernel
theorem dX12_read_247 : decode cX12_read 247 = .ok (.iload 5, 2) := by decide +kernel
theorem dX12_read_249 : decode cX12_read 249 = .ok (.iload_n 3, 1) := by decide +kernel
theorem dX12_read_250 : decode cX12_read 250 = .ok (.if_icmp .ne 18, 3) := by decide +kernel
theorem dX12_read_253 : decode cX12_read 253 = .ok (.aload_n 0, 1) := by decide +kernel
theorem dX12_read_254 : decode cX12_read 254 = .ok (.getfield 16, 3) := by decide +kernel
theorem dX12_read_257 : decode cX12_read 257 = .ok (.aload_n 0, 1) := by decide +kernel
theorem dX12_read_258 : decode cX12_read 258 = .ok (.getfield 49, 3) := by decide +kernel
theorem dX12_read_261 : decode cX12_read 261 = .ok (.iload 7, 2) := by decide +kernel
theorem dX12_read_263 : decode cX12_read 263 = .ok (.iaload, 1) := by decide +kernel
theorem dX12_read_264 : decode cX12_read 264 = .ok (.iaload, 1) := by decide +kernel
theorem dX12_read_265 : decode cX12_read 265 = .ok (.goto 5, 3) := by decide +kernel
theorem dX12_read_268 : decode cX12_read 268 = .ok (.iload 6, 2) := by decide +kernel
theorem dX12_read_270 : decode cX12_read 270 = .ok (.istore 6, 2) := by decide +kernel
theorem dX12_read_272 : decode cX12_read 272 = .ok (.iinc 5 1, 3) := by decide +kernel
theorem dX12_read_275 : decode cX12_read 275 = .ok (.iinc 7 1, 3) := by decide +kernel
theorem dX12_read_278 : decode cX12_read 278 = .ok (.goto (-60), 3) := by decide +kernel
theorem dX12_read_281 : decode cX12_read 281 = .ok (.iload_n 3, 1) := by decide +kernel
theorem dX12_read_282 : decode cX12_read 282 = .ok (.ifCond .ge 8, 3) := by decide +kernel
theorem dX12_read_285 : decode cX12_read 285 = .ok (.iload 5, 2) := by decide +kernel
theorem dX12_read_287 : decode cX12_read 287 = .ok (.goto 5, 3) := by decide +kernel
theorem dX12_read_290 : decode cX12_read 290 = .ok (.iload 6, 2) := by decide +kernel
theorem dX12_read_292 : decode cX12_read 292 = .ok (.ireturn, 1) := by decide +kernel
theorem dX12_need_0 : decode cX12_need 0 = .ok (.iload_n 1, 1) := by decide +kernel
theorem dX12_need_1 : decode cX12_need 1 = .ok (.invokestatic 160, 3) := by decide +kernel
theorem dX12_need_4 : decode cX12_need 4 = .ok (.ifCond .eq 5, 3) := by decide +kernel
theorem dX12_need_7 : decode cX12_need 7 = .ok (.iconst (-1), 1) := by decide +kernel
theorem dX12_need_8 : decode cX12_need 8 = .ok (.ireturn, 1) := by decide +kernel
theorem dX12_need_9 : decode cX12_need 9 = .ok (.iload_n 2, 1) := by decide +kernel
theorem dX12_need_10 : decode cX12_need 10 = .ok (.i2l, 1) := by decide +kernel
theorem dX12_need_11 : decode cX12_need 11 = .ok (.lconst 0, 1) := by decide +kernel
theorem dX12_need_12 : decode cX12_need 12 = .ok (.ldc2_w 177, 3) := by decide +kernel
theorem dX12_need_15 : decode cX12_need 15 = .ok (.invokestatic 94, 3) := by decide +kernel
theorem dX12_need_18 : decode cX12_need 18 = .ok (.ifCond .ne 6, 3) := by decide +kernel
theorem dX12_need_21 : decode cX12_need 21 = .ok (.bipush (-2), 2) := by decide +kernel
theorem dX12_need_23 : decode cX12_need 23 = .ok (.ireturn, 1) := by decide +kernel
theorem dX12_need_24 : decode cX12_need 24 = .ok (.aload_n 0, 1) := by decide +kernel
theorem dX12_need_25 : decode cX12_need 25 = .ok (.getfield 52, 3) := by decide +kernel
theorem dX12_need_28 : decode cX12_need 28 = .ok (.iload_n 1, 1) := by decide +kernel
theorem dX12_need_29 : decode cX12_need 29 = .ok (.iaload, 1) := by decide +kernel
theorem dX12_need_30 : decode cX12_need 30 = .ok (.istore_n 3, 1) := by decide +kernel
theorem dX12_need_31 : decode cX12_need 31 = .ok (.aload_n 0, 1) := by decide +kernel
theorem dX12_need_32 : decode cX12_need 32 = .ok (.getfield 52, 3) := by decide +kernel
theorem dX12_need_35 : decode cX12_need 35 = .ok (.iload_n 1, 1) := by decide +kernel
theorem dX12_need_36 : decode cX12_need 36 = .ok (.iload_n 2, 1) := by decide +kernel
theorem dX12_need_37 : decode cX12_need 37 = .ok (.iastore, 1) := by decide +kernel
theorem dX12_need_38 : decode cX12_need 38 = .ok (.iload_n 3, 1) := by decide +kernel
theorem dX12_need_39 : decode cX12_need 39 = .ok (.ireturn, 1) := by decide +kernel
theorem dX12_bag_0 : decode cX12_bag 0 = .ok (.iload_n 1, 1) := by decide +kernel
theorem dX12_bag_1 : decode cX12_bag 1 = .ok (.invokestatic 160, 3) := by decide +kernel
theorem dX12_bag_4 : decode cX12_bag 4 = .ok (.ifCond .eq 5, 3) := by decide +kernel
theorem dX12_bag_7 : decode cX12_bag 7 = .ok (.iconst (-1), 1) := by decide +kernel
theorem dX12_bag_8 : decode cX12_bag 8 = .ok (.ireturn, 1) := by decide +kernel
theorem dX12_bag_9 : decode cX12_bag 9 = .ok (.aload_n 0, 1) := by decide +kernel
theorem dX12_bag_10 : decode cX12_bag 10 = .ok (.iload_n 2, 1) := by decide +kernel
theorem dX12_bag_11 : decode cX12_bag 11 = .ok (.invokevirtual 192, 3) := by decide +kernel
theorem dX12_bag_14 : decode cX12_bag 14 = .ok (.ifCond .eq 15, 3) := by decide +kernel
theorem dX12_bag_17 : decode cX12_bag 17 = .ok (.iload_n 3, 1) := by decide +kernel
theorem dX12_bag_18 : decode cX12_bag 18 = .ok (.i2l, 1) := by decide +kernel
theorem dX12_bag_19 : decode cX12_bag 19 = .ok (.lconst 1, 1) := by decide +kernel
theorem dX12_bag_20 : decode cX12_bag 20 = .ok (.ldc2_w 111, 3) := by decide +kernel
theorem dX12_bag_23 : decode cX12_bag 23 = .ok (.invokestatic 94, 3) := by decide +kernel
theorem dX12_bag_26 : decode cX12_bag 26 = .ok (.ifCond .ne 6, 3) := by decide +kernel
theorem dX12_bag_29 : decode cX12_bag 29 = .ok (.bipush (-2), 2) := by decide +kernel
theorem dX12_bag_31 : decode cX12_bag 31 = .ok (.ireturn, 1) := by decide +kernel
theorem dX12_bag_32 : decode cX12_bag 32 = .ok (.aload_n 0, 1) := by decide +kernel
theorem dX12_bag_33 : decode cX12_bag 33 = .ok (.getfield 213, 3) := by decide +kernel
theorem dX12_bag_36 : decode cX12_bag 36 = .ok (.bipush 20, 2) := by decide +kernel
theorem dX12_bag_38 : decode cX12_bag 38 = .ok (.if_icmp .ne 6, 3) := by decide +kernel
theorem dX12_bag_41 : decode cX12_bag 41 = .ok (.bipush (-4), 2) := by decide +kernel
theorem dX12_bag_43 : decode cX12_bag 43 = .ok (.ireturn, 1) := by decide +kernel
theorem dX12_bag_44 : decode cX12_bag 44 = .ok (.aload_n 0, 1) := by decide +kernel
theorem dX12_bag_45 : decode cX12_bag 45 = .ok (.getfield 55, 3) := by decide +kernel
theorem dX12_bag_48 : decode cX12_bag 48 = .ok (.aload_n 0, 1) := by decide +kernel
theorem dX12_bag_49 : decode cX12_bag 49 = .ok (.getfield 213, 3) := by decide +kernel
theorem dX12_bag_52 : decode cX12_bag 52 = .ok (.iload_n 1, 1) := by decide +kernel
theorem dX12_bag_53 : decode cX12_bag 53 = .ok (.iastore, 1) := by decide +kernel
theorem dX12_bag_54 : decode cX12_bag 54 = .ok (.aload_n 0, 1) := by decide +kernel
theorem dX12_bag_55 : decode cX12_bag 55 = .ok (.getfield 58, 3) := by decide +kernel
theorem dX12_bag_58 : decode cX12_bag 58 = .ok (.aload_n 0, 1) := by decide +kernel
