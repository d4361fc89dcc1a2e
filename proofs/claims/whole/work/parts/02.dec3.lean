theorem dX11_next_5 : decode cX11_next 5 = .ok (.astore_n 2, 1) := by decide +kernel
theorem dX11_next_6 : decode cX11_next 6 = .ok (.aload_n 2, 1) := by decide +kernel
theorem dX11_next_7 : decode cX11_next 7 = .ok (.ifnonnull 7, 3) := by decide +kernel
theorem dX11_next_10 : decode cX11_next 10 = .ok (.iconst (-1), 1) := by decide +kernel
theorem dX11_next_11 : decode cX11_next 11 = .ok (.goto 7, 3) := by decide +kernel
theorem dX11_next_14 : decode cX11_next 14 = .ok (.aload_n 2, 1) := by decide +kernel
theorem dX11_next_15 : decode cX11_next 15 = .ok (.invokevirtual 289, 3) := by decide +kernel
theorem dX11_next_18 : decode cX11_next 18 = .ok (.ireturn, 1) := by decide +kernel
theorem dX11_sheet_0 : decode cX11_sheet 0 = .ok (.aload_n 0, 1) := by decide +kernel
theorem dX11_sheet_1 : decode cX11_sheet 1 = .ok (.iconst 0, 1) := by decide +kernel
theorem dX11_sheet_2 : decode cX11_sheet 2 = .ok (.putfield 79, 3) := by decide +kernel
theorem dX11_sheet_5 : decode cX11_sheet 5 = .ok (.aload_n 0, 1) := by decide +kernel
theorem dX11_sheet_6 : decode cX11_sheet 6 = .ok (.iload_n 1, 1) := by decide +kernel
theorem dX11_sheet_7 : decode cX11_sheet 7 = .ok (.invokevirtual 83, 3) := by decide +kernel
theorem dX11_sheet_10 : decode cX11_sheet 10 = .ok (.astore 4, 2) := by decide +kernel
theorem dX11_sheet_12 : decode cX11_sheet 12 = .ok (.aload 4, 2) := by decide +kernel
theorem dX11_sheet_14 : decode cX11_sheet 14 = .ok (.ifnonnull 5, 3) := by decide +kernel
theorem dX11_sheet_17 : decode cX11_sheet 17 = .ok (.iconst (-1), 1) := by decide +kernel
theorem dX11_sheet_18 : decode cX11_sheet 18 = .ok (.ireturn, 1) := by decide +kernel
theorem dX11_sheet_19 : decode cX11_sheet 19 = .ok (.iload_n 2, 1) := by decide +kernel
theorem dX11_sheet_20 : decode cX11_sheet 20 = .ok (.iconst 3, 1) := by decide +kernel
theorem dX11_sheet_21 : decode cX11_sheet 21 = .ok (.invokestatic 58, 3) := by decide +kernel
theorem dX11_sheet_24 : decode cX11_sheet 24 = .ok (.ifCond .eq 9, 3) := by decide +kernel
theorem dX11_sheet_27 : decode cX11_sheet 27 = .ok (.iload_n 3, 1) := by decide +kernel
theorem dX11_sheet_28 : decode cX11_sheet 28 = .ok (.bipush 60, 2) := by decide +kernel
theorem dX11_sheet_30 : decode cX11_sheet 30 = .ok (.if_icmp .le 6, 3) := by decide +kernel
theorem dX11_sheet_33 : decode cX11_sheet 33 = .ok (.bipush (-2), 2) := by decide +kernel
theorem dX11_sheet_35 : decode cX11_sheet 35 = .ok (.ireturn, 1) := by decide +kernel
theorem dX11_sheet_36 : decode cX11_sheet 36 = .ok (.iload_n 3, 1) := by decide +kernel
theorem dX11_sheet_37 : decode cX11_sheet 37 = .ok (.ifCond .ge 9, 3) := by decide +kernel
theorem dX11_sheet_40 : decode cX11_sheet 40 = .ok (.aload_n 0, 1) := by decide +kernel
theorem dX11_sheet_41 : decode cX11_sheet 41 = .ok (.iconst 4, 1) := by decide +kernel
theorem dX11_sheet_42 : decode cX11_sheet 42 = .ok (.invokevirtual 91, 3) := by decide +kernel
theorem dX11_sheet_45 : decode cX11_sheet 45 = .ok (.ireturn, 1) := by decide +kernel
theorem dX11_sheet_46 : decode cX11_sheet 46 = .ok (.aload 4, 2) := by decide +kernel
theorem dX11_sheet_48 : decode cX11_sheet 48 = .ok (.iload_n 2, 1) := by decide +kernel
theorem dX11_sheet_49 : decode cX11_sheet 49 = .ok (.iload_n 3, 1) := by decide +kernel
theorem dX11_sheet_50 : decode cX11_sheet 50 = .ok (.invokevirtual 292, 3) := by decide +kernel
theorem dX11_sheet_53 : decode cX11_sheet 53 = .ok (.iconst 1, 1) := by decide +kernel
theorem dX11_sheet_54 : decode cX11_sheet 54 = .ok (.ireturn, 1) := by decide +kernel
theorem dX11_lose_0 : decode cX11_lose 0 = .ok (.aload_n 0, 1) := by decide +kernel
theorem dX11_lose_1 : decode cX11_lose 1 = .ok (.iload_n 1, 1) := by decide +kernel
theorem dX11_lose_2 : decode cX11_lose 2 = .ok (.invokevirtual 83, 3) := by decide +kernel
theorem dX11_lose_5 : decode cX11_lose 5 = .ok (.astore_n 2, 1) := by decide +kernel
theorem dX11_lose_6 : decode cX11_lose 6 = .ok (.aload_n 2, 1) := by decide +kernel
theorem dX11_lose_7 : decode cX11_lose 7 = .ok (.ifnonnull 5, 3) := by decide +kernel
theorem dX11_lose_10 : decode cX11_lose 10 = .ok (.iconst (-1), 1) := by decide +kernel
theorem dX11_lose_11 : decode cX11_lose 11 = .ok (.ireturn, 1) := by decide +kernel
theorem dX11_lose_12 : decode cX11_lose 12 = .ok (.aload_n 2, 1) := by decide +kernel
theorem dX11_lose_13 : decode cX11_lose 13 = .ok (.invokevirtual 295, 3) := by decide +kernel
theorem dX11_lose_16 : decode cX11_lose 16 = .ok (.istore_n 3, 1) := by decide +kernel
theorem dX11_lose_17 : decode cX11_lose 17 = .ok (.aload_n 2, 1) := by decide +kernel
theorem dX11_lose_18 : decode cX11_lose 18 = .ok (.invokevirtual 298, 3) := by decide +kernel
theorem dX11_lose_21 : decode cX11_lose 21 = .ok (.iload_n 3, 1) := by decide +kernel
theorem dX11_lose_22 : decode cX11_lose 22 = .ok (.ifCond .ne 7, 3) := by decide +kernel
theorem dX11_lose_25 : decode cX11_lose 25 = .ok (.iconst 1, 1) := by decide +kernel
theorem dX11_lose_26 : decode cX11_lose 26 = .ok (.goto 4, 3) := by decide +kernel
theorem dX11_lose_29 : decode cX11_lose 29 = .ok (.iconst 0, 1) := by decide +kernel
theorem dX11_lose_30 : decode cX11_lose 30 = .ok (.invokestatic 117, 3) := by decide +kernel
theorem dX11_lose_33 : decode cX11_lose 33 = .ok (.ireturn, 1) := by decide +kernel
theorem dX11_put_0 : decode cX11_put 0 = .ok (.aload_n 0, 1) := by decide +kernel
theorem dX11_put_1 : decode cX11_put 1 = .ok (.iconst 0, 1) := by decide +kernel
theorem dX11_put_2 : decode cX11_put 2 = .ok (.putfield 79, 3) := by decide +kernel
theorem dX11_put_5 : decode cX11_put 5 = .ok (.aload_n 0, 1) := by decide +kernel
theorem dX11_put_6 : decode cX11_put 6 = .ok (.iload_n 1, 1) := by decide +kernel
theorem dX11_put_7 : decode cX11_put 7 = .ok (.invokevirtual 83, 3) := by decide +kernel
theorem dX11_put_10 : decode cX11_put 10 = .ok (.astore 4, 2) := by decide +kernel
theorem dX11_put_12 : decode cX11_put 12 = .ok (.aload 4, 2) := by decide +kernel
theorem dX11_put_14 : decode cX11_put 14 = .ok (.ifnonnull 5, 3) := by decide +kernel
theorem dX11_put_17 : decode cX11_put 17 = .ok (.iconst (-1), 1) := by decide +kernel
theorem dX11_put_18 : decode cX11_put 18 = .ok (.ireturn, 1) := by decide +kernel
theorem dX11_put_19 : decode cX11_put 19 = .ok (.aload 4, 2) := by decide +kernel
theorem dX11_put_21 : decode cX11_put 21 = .ok (.invokevirtual 295, 3) := by decide +kernel
theorem dX11_put_24 : decode cX11_put 24 = .ok (.ifCond .eq 9, 3) := by decide +kernel
theorem dX11_put_27 : decode cX11_put 27 = .ok (.aload_n 0, 1) := by decide +kernel
theorem dX11_put_28 : decode cX11_put 28 = .ok (.iconst 1, 1) := by decide +kernel
theorem dX11_put_29 : decode cX11_put 29 = .ok (.invokevirtual 91, 3) := by decide +kernel
theorem dX11_put_32 : decode cX11_put 32 = .ok (.ireturn, 1) := by decide +kernel
theorem dX11_put_33 : decode cX11_put 33 = .ok (.aload 4, 2) := by decide +kernel
theorem dX11_put_35 : decode cX11_put 35 = .ok (.iload_n 2, 1) := by decide +kernel
theorem dX11_put_36 : decode cX11_put 36 = .ok (.invokevirtual 301, 3) := by decide +kernel
theorem dX11_put_39 : decode cX11_put 39 = .ok (.ifCond .ne 9, 3) := by decide +kernel
theorem dX11_put_42 : decode cX11_put 42 = .ok (.aload_n 0, 1) := by decide +kernel
theorem dX11_put_43 : decode cX11_put 43 = .ok (.iconst 3, 1) := by decide +kernel
theorem dX11_put_44 : decode cX11_put 44 = .ok (.invokevirtual 91, 3) := by decide +kernel
theorem dX11_put_47 : decode cX11_put 47 = .ok (.ireturn, 1) := by decide +kernel
theorem dX11_put_48 : decode cX11_put 48 = .ok (.aload 4, 2) := by decide +kernel
theorem dX11_put_50 : decode cX11_put 50 = .ok (.iload_n 2, 1) := by decide +kernel
theorem dX11_put_51 : decode cX11_put 51 = .ok (.iload_n 3, 1) := by decide +kernel
theorem dX11_put_52 : decode cX11_put 52 = .ok (.invokevirtual 305, 3) := by decide +kernel
theorem dX11_put_55 : decode cX11_put 55 = .ok (.iconst 1, 1) := by decide +kernel
theorem dX11_put_56 : decode cX11_put 56 = .ok (.ireturn, 1) := by decide +kernel
theorem dX11_cell_0 : decode cX11_cell 0 = .ok (.aload_n 0, 1) := by decide +kernel
theorem dX11_cell_1 : decode cX11_cell 1 = .ok (.iconst 0, 1) := by decide +kernel
theorem dX11_cell_2 : decode cX11_cell 2 = .ok (.putfield 79, 3) := by decide +kernel
theorem dX11_cell_5 : decode cX11_cell 5 = .ok (.aload_n 0, 1) := by decide +kernel
theorem dX11_cell_6 : decode cX11_cell 6 = .ok (.iload_n 1, 1) := by decide +kernel
theorem dX11_cell_7 : decode cX11_cell 7 = .ok (.invokevirtual 83, 3) := by decide +kernel
theorem dX11_cell_10 : decode cX11_cell 10 = .ok (.astore 4, 2) := by decide +kernel
theorem dX11_cell_12 : decode cX11_cell 12 = .ok (.aload 4, 2) := by decide +kernel
theorem dX11_cell_14 : decode cX11_cell 14 = .ok (.ifnull 11, 3) := by decide +kernel
theorem dX11_cell_17 : decode cX11_cell 17 = .ok (.iload_n 3, 1) := by decide +kernel
theorem dX11_cell_18 : decode cX11_cell 18 = .ok (.iconst 3, 1) := by decide +kernel
theorem dX11_cell_19 : decode cX11_cell 19 = .ok (.invokestatic 58, 3) := by decide +kernel
theorem dX11_cell_22 : decode cX11_cell 22 = .ok (.ifCond .ne 7, 3) := by decide +kernel
theorem dX11_cell_25 : decode cX11_cell 25 = .ok (.ldc2_w 239, 3) := by decide +kernel
theorem dX11_cell_28 : decode cX11_cell 28 = .ok (.lreturn, 1) := by decide +kernel
theorem dX11_cell_29 : decode cX11_cell 29 = .ok (.aload 4, 2) := by decide +kernel
theorem dX11_cell_31 : decode cX11_cell 31 = .ok (.iload_n 3, 1) := by decide +kernel
theorem dX11_cell_32 : decode cX11_cell 32 = .ok (.iload_n 2, 1) := by decide +kernel
theorem dX11_cell_33 : decode cX11_cell 33 = .ok (.invokevirtual 308, 3) := by decide +kernel
theorem dX11_cell_36 : decode cX11_cell 36 = .ok (.istore 5, 2) := by decide +kernel
theorem dX11_cell_38 : decode cX11_cell 38 = .ok (.iload 5, 2) := by decide +kernel
theorem dX11_cell_40 : decode cX11_cell 40 = .ok (.ifCond .eq 13, 3) := by decide +kernel
theorem dX11_cell_43 : decode cX11_cell 43 = .ok (.aload_n 0, 1) := by decide +kernel
theorem dX11_cell_44 : decode cX11_cell 44 = .ok (.iload 5, 2) := by decide +kernel
theorem dX11_cell_46 : decode cX11_cell 46 = .ok (.putfield 79, 3) := by decide +kernel
theorem dX11_cell_49 : decode cX11_cell 49 = .ok (.ldc2_w 239, 3) := by decide +kernel
theorem dX11_cell_52 : decode cX11_cell 52 = .ok (.lreturn, 1) := by decide +kernel
theorem dX11_cell_53 : decode cX11_cell 53 = .ok (.aload 4, 2) := by decide +kernel
theorem dX11_cell_55 : decode cX11_cell 55 = .ok (.iload_n 2, 1) := by decide +kernel
theorem dX11_cell_56 : decode cX11_cell 56 = .ok (.invokevirtual 311, 3) := by decide +kernel
theorem dX11_cell_59 : decode cX11_cell 59 = .ok (.i2l, 1) := by decide +kernel
theorem dX11_cell_60 : decode cX11_cell 60 = .ok (.lreturn, 1) := by decide +kernel
theorem dX11_copy_0 : decode cX11_copy 0 = .ok (.aload_n 0, 1) := by decide +kernel
theorem dX11_copy_1 : decode cX11_copy 1 = .ok (.iconst 0, 1) := by decide +kernel
theorem dX11_copy_2 : decode cX11_copy 2 = .ok (.putfield 79, 3) := by decide +kernel
theorem dX11_copy_5 : decode cX11_copy 5 = .ok (.aload_n 0, 1) := by decide +kernel
theorem dX11_copy_6 : decode cX11_copy 6 = .ok (.iload_n 1, 1) := by decide +kernel
theorem dX11_copy_7 : decode cX11_copy 7 = .ok (.invokevirtual 83, 3) := by decide +kernel
theorem dX11_copy_10 : decode cX11_copy 10 = .ok (.astore 6, 2) := by decide +kernel
theorem dX11_copy_12 : decode cX11_copy 12 = .ok (.aload_n 0, 1) := by decide +kernel
theorem dX11_copy_13 : decode cX11_copy 13 = .ok (.iload_n 3, 1) := by decide +kernel
theorem dX11_copy_14 : decode cX11_copy 14 = .ok (.invokevirtual 83, 3) := by decide +kernel
theorem dX11_copy_17 : decode cX11_copy 17 = .ok (.astore 7, 2) := by decide +kernel
theorem dX11_copy_19 : decode cX11_copy 19 = .ok (.aload 6, 2) := by decide +kernel
theorem dX11_copy_21 : decode cX11_copy 21 = .ok (.ifnull 8, 3) := by decide +kernel
theorem dX11_copy_24 : decode cX11_copy 24 = .ok (.aload 7, 2) := by decide +kernel
theorem dX11_copy_26 : decode cX11_copy 26 = .ok (.ifnonnull 5, 3) := by decide +kernel
theorem dX11_copy_29 : decode cX11_copy 29 = .ok (.iconst (-1), 1) := by decide +kernel
theorem dX11_copy_30 : decode cX11_copy 30 = .ok (.ireturn, 1) := by decide +kernel
theorem dX11_copy_31 : decode cX11_copy 31 = .ok (.aload 6, 2) := by decide +kernel
theorem dX11_copy_33 : decode cX11_copy 33 = .ok (.invokevirtual 295, 3) := by decide +kernel
theorem dX11_copy_36 : decode cX11_copy 36 = .ok (.ifCond .ne 11, 3) := by decide +kernel
theorem dX11_copy_39 : decode cX11_copy 39 = .ok (.aload 7, 2) := by decide +kernel
theorem dX11_copy_41 : decode cX11_copy 41 = .ok (.invokevirtual 295, 3) := by decide +kernel
theorem dX11_copy_44 : decode cX11_copy 44 = .ok (.ifCond .eq 9, 3) := by decide +kernel
theorem dX11_copy_47 : decode cX11_copy 47 = .ok (.aload_n 0, 1) := by decide +kernel
theorem dX11_copy_48 : decode cX11_copy 48 = .ok (.iconst 1, 1) := by decide +kernel
theorem dX11_copy_49 : decode cX11_copy 49 = .ok (.invokevirtual 91, 3) := by decide +kernel
theorem dX11_copy_52 : decode cX11_copy 52 = .ok (.ireturn, 1) := by decide +kernel
theorem dX11_copy_53 : decode cX11_copy 53 = .ok (.aload 6, 2) := by decide +kernel
theorem dX11_copy_55 : decode cX11_copy 55 = .ok (.aload 7, 2) := by decide +kernel
theorem dX11_copy_57 : decode cX11_copy 57 = .ok (.invokevirtual 314, 3) := by decide +kernel
theorem dX11_copy_60 : decode cX11_copy 60 = .ok (.ifCond .ne 9, 3) := by decide +kernel
theorem dX11_copy_63 : decode cX11_copy 63 = .ok (.aload_n 0, 1) := by decide +kernel
theorem dX11_copy_64 : decode cX11_copy 64 = .ok (.iconst 2, 1) := by decide +kernel
theorem dX11_copy_65 : decode cX11_copy 65 = .ok (.invokevirtual 91, 3) := by decide +kernel
theorem dX11_copy_68 : decode cX11_copy 68 = .ok (.ireturn, 1) := by decide +kernel
theorem dX11_copy_69 : decode cX11_copy 69 = .ok (.aload 6, 2) := by decide +kernel
theorem dX11_copy_71 : decode cX11_copy 71 = .ok (.iload_n 2, 1) := by decide +kernel
theorem dX11_copy_72 : decode cX11_copy 72 = .ok (.iload 5, 2) := by decide +kernel
theorem dX11_copy_74 : decode cX11_copy 74 = .ok (.invokevirtual 318, 3) := by decide +kernel
theorem dX11_copy_77 : decode cX11_copy 77 = .ok (.ifCond .eq 15, 3) := by decide +kernel
theorem dX11_copy_80 : decode cX11_copy 80 = .ok (.aload 7, 2) := by decide +kernel
theorem dX11_copy_82 : decode cX11_copy 82 = .ok (.iload 4, 2) := by decide +kernel
theorem dX11_copy_84 : decode cX11_copy 84 = .ok (.iload 5, 2) := by decide +kernel
theorem dX11_copy_86 : decode cX11_copy 86 = .ok (.invokevirtual 318, 3) := by decide +kernel
theorem dX11_copy_89 : decode cX11_copy 89 = .ok (.ifCond .ne 9, 3) := by decide +kernel
theorem dX11_copy_92 : decode cX11_copy 92 = .ok (.aload_n 0, 1) := by decide +kernel
theorem dX11_copy_93 : decode cX11_copy 93 = .ok (.iconst 3, 1) := by decide +kernel
theorem dX11_copy_94 : decode cX11_copy 94 = .ok (.invokevirtual 91, 3) := by decide +kernel
theorem dX11_copy_97 : decode cX11_copy 97 = .ok (.ireturn, 1) := by decide +kernel
theorem dX11_copy_98 : decode cX11_copy 98 = .ok (.aload 7, 2) := by decide +kernel
theorem dX11_copy_100 : decode cX11_copy 100 = .ok (.iload 4, 2) := by decide +kernel
theorem dX11_copy_102 : decode cX11_copy 102 = .ok (.aload 6, 2) := by decide +kernel
theorem dX11_copy_104 : decode cX11_copy 104 = .ok (.iload_n 2, 1) := by decide +kernel
theorem dX11_copy_105 : decode cX11_copy 105 = .ok (.iload 5, 2) := by decide +kernel
theorem dX11_copy_107 : decode cX11_copy 107 = .ok (.invokevirtual 321, 3) := by decide +kernel
theorem dX11_copy_110 : decode cX11_copy 110 = .ok (.iload 5, 2) := by decide +kernel
theorem dX11_copy_112 : decode cX11_copy 112 = .ok (.ireturn, 1) := by decide +kernel
theorem dX11_tell_0 : decode cX11_tell 0 = .ok (.aload_n 0, 1) := by decide +kernel
theorem dX11_tell_1 : decode cX11_tell 1 = .ok (.iload_n 1, 1) := by decide +kernel
theorem dX11_tell_2 : decode cX11_tell 2 = .ok (.invokevirtual 138, 3) := by decide +kernel
theorem dX11_tell_5 : decode cX11_tell 5 = .ok (.astore_n 2, 1) := by decide +kernel
theorem dX11_tell_6 : decode cX11_tell 6 = .ok (.aload_n 2, 1) := by decide +kernel
theorem dX11_tell_7 : decode cX11_tell 7 = .ok (.ifnonnull 7, 3) := by decide +kernel
theorem dX11_tell_10 : decode cX11_tell 10 = .ok (.iconst (-1), 1) := by decide +kernel
theorem dX11_tell_11 : decode cX11_tell 11 = .ok (.goto 11, 3) := by decide +kernel
theorem dX11_tell_14 : decode cX11_tell 14 = .ok (.aload_n 2, 1) := by decide +kernel
theorem dX11_tell_15 : decode cX11_tell 15 = .ok (.aload_n 0, 1) := by decide +kernel
theorem dX11_tell_16 : decode cX11_tell 16 = .ok (.getfield 28, 3) := by decide +kernel
theorem dX11_tell_19 : decode cX11_tell 19 = .ok (.invokevirtual 325, 3) := by decide +kernel
theorem dX11_tell_22 : decode cX11_tell 22 = .ok (.ireturn, 1) := by decide +kernel
theorem dX11_mark_0 : decode cX11_mark 0 = .ok (.aload_n 0, 1) := by decide +kernel
theorem dX11_mark_1 : decode cX11_mark 1 = .ok (.iload_n 1, 1) := by decide +kernel
theorem dX11_mark_2 : decode cX11_mark 2 = .ok (.invokevirtual 138, 3) := by decide +kernel
theorem dX11_mark_5 : decode cX11_mark 5 = .ok (.astore_n 2, 1) := by decide +kernel
theorem dX11_mark_6 : decode cX11_mark 6 = .ok (.aload_n 2, 1) := by decide +kernel
theorem dX11_mark_7 : decode cX11_mark 7 = .ok (.ifnonnull 7, 3) := by decide +kernel
theorem dX11_mark_10 : decode cX11_mark 10 = .ok (.iconst (-1), 1) := by decide +kernel
theorem dX11_mark_11 : decode cX11_mark 11 = .ok (.goto 11, 3) := by decide +kernel
theorem dX11_mark_14 : decode cX11_mark 14 = .ok (.aload_n 2, 1) := by decide +kernel
theorem dX11_mark_15 : decode cX11_mark 15 = .ok (.aload_n 0, 1) := by decide +kernel
theorem dX11_mark_16 : decode cX11_mark 16 = .ok (.getfield 28, 3) := by decide +kernel
theorem dX11_mark_19 : decode cX11_mark 19 = .ok (.invokevirtual 329, 3) := by decide +kernel
theorem dX11_mark_22 : decode cX11_mark 22 = .ok (.ireturn, 1) := by decide +kernel
theorem dX11_as_0 : decode cX11_as 0 = .ok (.aload_n 0, 1) := by decide +kernel
theorem dX11_as_1 : decode cX11_as 1 = .ok (.iconst 0, 1) := by decide +kernel
theorem dX11_as_2 : decode cX11_as 2 = .ok (.putfield 79, 3) := by decide +kernel
theorem dX11_as_5 : decode cX11_as 5 = .ok (.aload_n 0, 1) := by decide +kernel
theorem dX11_as_6 : decode cX11_as 6 = .ok (.iload_n 1, 1) := by decide +kernel
theorem dX11_as_7 : decode cX11_as 7 = .ok (.invokevirtual 138, 3) := by decide +kernel
theorem dX11_as_10 : decode cX11_as 10 = .ok (.astore_n 3, 1) := by decide +kernel
theorem dX11_as_11 : decode cX11_as 11 = .ok (.aload_n 3, 1) := by decide +kernel
theorem dX11_as_12 : decode cX11_as 12 = .ok (.ifnonnull 5, 3) := by decide +kernel
theorem dX11_as_15 : decode cX11_as 15 = .ok (.iconst (-1), 1) := by decide +kernel
theorem dX11_as_16 : decode cX11_as 16 = .ok (.ireturn, 1) := by decide +kernel
theorem dX11_as_17 : decode cX11_as 17 = .ok (.iload_n 2, 1) := by decide +kernel
theorem dX11_as_18 : decode cX11_as 18 = .ok (.iconst 3, 1) := by decide +kernel
theorem dX11_as_19 : decode cX11_as 19 = .ok (.invokestatic 58, 3) := by decide +kernel
theorem dX11_as_22 : decode cX11_as 22 = .ok (.ifCond .ne 6, 3) := by decide +kernel
theorem dX11_as_25 : decode cX11_as 25 = .ok (.bipush (-2), 2) := by decide +kernel
theorem dX11_as_27 : decode cX11_as 27 = .ok (.ireturn, 1) := by decide +kernel
theorem dX11_as_28 : decode cX11_as 28 = .ok (.aload_n 3, 1) := by decide +kernel
theorem dX11_as_29 : decode cX11_as 29 = .ok (.invokevirtual 142, 3) := by decide +kernel
theorem dX11_as_32 : decode cX11_as 32 = .ok (.iload_n 2, 1) := by decide +kernel
theorem dX11_as_33 : decode cX11_as 33 = .ok (.if_icmp .ge 11, 3) := by decide +kernel
theorem dX11_as_36 : decode cX11_as 36 = .ok (.aload_n 0, 1) := by decide +kernel
theorem dX11_as_37 : decode cX11_as 37 = .ok (.iconst 2, 1) := by decide +kernel
theorem dX11_as_38 : decode cX11_as 38 = .ok (.invokevirtual 91, 3) := by decide +kernel
theorem dX11_as_41 : decode cX11_as 41 = .ok (.goto 4, 3) := by decide +kernel
theorem dX11_as_44 : decode cX11_as 44 = .ok (.iconst 1, 1) := by decide +kernel
theorem dX11_as_45 : decode cX11_as 45 = .ok (.ireturn, 1) := by decide +kernel
theorem dX11_trace_0 : decode cX11_trace 0 = .ok (.aload_n 0, 1) := by decide +kernel
theorem dX11_trace_1 : decode cX11_trace 1 = .ok (.getfield 28, 3) := by decide +kernel
theorem dX11_trace_4 : decode cX11_trace 4 = .ok (.getfield 332, 3) := by decide +kernel
theorem dX11_trace_7 : decode cX11_trace 7 = .ok (.ireturn, 1) := by decide +kernel
theorem dX11_fault_0 : decode cX11_fault 0 = .ok (.aload_n 0, 1) := by decide +kernel
theorem dX11_fault_1 : decode cX11_fault 1 = .ok (.getfield 79, 3) := by decide +kernel
theorem dX11_fault_4 : decode cX11_fault 4 = .ok (.ireturn, 1) := by decide +kernel
theorem dX11_many_0 : decode cX11_many 0 = .ok (.iload_n 1, 1) := by decide +kernel
theorem dX11_many_1 : decode cX11_many 1 = .ok (.tableswitch 57 0 3 #[31, 39, 44, 49], 31) := by decide +kernel
theorem dX11_many_32 : decode cX11_many 32 = .ok (.aload_n 0, 1) := by decide +kernel
theorem dX11_many_33 : decode cX11_many 33 = .ok (.getfield 12, 3) := by decide +kernel
theorem dX11_many_36 : decode cX11_many 36 = .ok (.invokevirtual 335, 3) := by decide +kernel
theorem dX11_many_39 : decode cX11_many 39 = .ok (.ireturn, 1) := by decide +kernel
theorem dX11_many_40 : decode cX11_many 40 = .ok (.aload_n 0, 1) := by decide +kernel
theorem dX11_many_41 : decode cX11_many 41 = .ok (.getfield 127, 3) := by decide +kernel
theorem dX11_many_44 : decode cX11_many 44 = .ok (.ireturn, 1) := by decide +kernel
theorem dX11_many_45 : decode cX11_many 45 = .ok (.aload_n 0, 1) := by decide +kernel
theorem dX11_many_46 : decode cX11_many 46 = .ok (.getfield 169, 3) := by decide +kernel
theorem dX11_many_49 : decode cX11_many 49 = .ok (.ireturn, 1) := by decide +kernel
theorem dX11_many_50 : decode cX11_many 50 = .ok (.aload_n 0, 1) := by decide +kernel
theorem dX11_many_51 : decode cX11_many 51 = .ok (.getfield 21, 3) := by decide +kernel
theorem dX11_many_54 : decode cX11_many 54 = .ok (.invokevirtual 207, 3) := by decide +kernel
theorem dX11_many_57 : decode cX11_many 57 = .ok (.ireturn, 1) := by decide +kernel
theorem dX11_many_58 : decode cX11_many 58 = .ok (.bipush (-2), 2) := by decide +kernel
theorem dX11_many_60 : decode cX11_many 60 = .ok (.ireturn, 1) := by decide +kernel
theorem dX11_isBelow_0 : decode cX11_isBelow 0 = .ok (.iload_n 0, 1) := by decide +kernel
theorem dX11_isBelow_1 : decode cX11_isBelow 1 = .ok (.ifCond .lt 12, 3) := by decide +kernel
theorem dX11_isBelow_4 : decode cX11_isBelow 4 = .ok (.iload_n 0, 1) := by decide +kernel
theorem dX11_isBelow_5 : decode cX11_isBelow 5 = .ok (.iload_n 1, 1) := by decide +kernel
theorem dX11_isBelow_6 : decode cX11_isBelow 6 = .ok (.if_icmp .ge 7, 3) := by decide +kernel
theorem dX11_isBelow_9 : decode cX11_isBelow 9 = .ok (.iconst 1, 1) := by decide +kernel
theorem dX11_isBelow_10 : decode cX11_isBelow 10 = .ok (.goto 4, 3) := by decide +kernel
theorem dX11_isBelow_13 : decode cX11_isBelow 13 = .ok (.iconst 0, 1) := by decide +kernel
theorem dX11_isBelow_14 : decode cX11_isBelow 14 = .ok (.ireturn, 1) := by decide +kernel
theorem dX11_asNumber_0 : decode cX11_asNumber 0 = .ok (.iload_n 0, 1) := by decide +kernel
theorem dX11_asNumber_1 : decode cX11_asNumber 1 = .ok (.ifCond .eq 7, 3) := by decide +kernel
theorem dX11_asNumber_4 : decode cX11_asNumber 4 = .ok (.iconst 1, 1) := by decide +kernel
theorem dX11_asNumber_5 : decode cX11_asNumber 5 = .ok (.goto 4, 3) := by decide +kernel
theorem dX11_asNumber_8 : decode cX11_asNumber 8 = .ok (.iconst 0, 1) := by decide +kernel
theorem dX11_asNumber_9 : decode cX11_asNumber 9 = .ok (.ireturn, 1) := by decide +kernel
theorem dX11_newPage_0 : decode cX11_newPage 0 = .ok (.iload_n 0, 1) := by decide +kernel
theorem dX11_newPage_1 : decode cX11_newPage 1 = .ok (.lookupswitch 49 #[(1, 27), (2, 38)], 27) := by decide +kernel
theorem dX11_newPage_28 : decode cX11_newPage 28 = .ok (.new 338, 3) := by decide +kernel
theorem dX11_newPage_31 : decode cX11_newPage 31 = .ok (.dup, 1) := by decide +kernel
theorem dX11_newPage_32 : decode cX11_newPage 32 = .ok (.iload_n 1, 1) := by decide +kernel
theorem dX11_newPage_33 : decode cX11_newPage 33 = .ok (.iload_n 2, 1) := by decide +kernel
theorem dX11_newPage_34 : decode cX11_newPage 34 = .ok (.aload_n 3, 1) := by decide +kernel
theorem dX11_newPage_35 : decode cX11_newPage 35 = .ok (.invokespecial 340, 3) := by decide +kernel
theorem dX11_newPage_38 : decode cX11_newPage 38 = .ok (.areturn, 1) := by decide +kernel
theorem dX11_newPage_39 : decode cX11_newPage 39 = .ok (.new 341, 3) := by decide +kernel
theorem dX11_newPage_42 : decode cX11_newPage 42 = .ok (.dup, 1) := by decide +kernel
theorem dX11_newPage_43 : decode cX11_newPage 43 = .ok (.iload_n 1, 1) := by decide +kernel
theorem dX11_newPage_44 : decode cX11_newPage 44 = .ok (.iload_n 2, 1) := by decide +kernel
theorem dX11_newPage_45 : decode cX11_newPage 45 = .ok (.aload_n 3, 1) := by decide +kernel
theorem dX11_newPage_46 : decode cX11_newPage 46 = .ok (.invokespecial 343, 3) := by decide +kernel
theorem dX11_newPage_49 : decode cX11_newPage 49 = .ok (.areturn, 1) := by decide +kernel
theorem dX11_newPage_50 : decode cX11_newPage 50 = .ok (.new 32, 3) := by decide +kernel
theorem dX11_newPage_53 : decode cX11_newPage 53 = .ok (.dup, 1) := by decide +kernel
theorem dX11_newPage_54 : decode cX11_newPage 54 = .ok (.iload_n 1, 1) := by decide +kernel
theorem dX11_newPage_55 : decode cX11_newPage 55 = .ok (.iload_n 2, 1) := by decide +kernel
theorem dX11_newPage_56 : decode cX11_newPage 56 = .ok (.aload_n 3, 1) := by decide +kernel
theorem dX11_newPage_57 : decode cX11_newPage 57 = .ok (.invokespecial 344, 3) := by decide +kernel
theorem dX11_newPage_60 : decode cX11_newPage 60 = .ok (.areturn, 1) := by decide +kernel
theorem dX11_sheetAt_0 : decode cX11_sheetAt 0 = .ok (.iload_n 1, 1) := by decide +kernel
theorem dX11_sheetAt_1 : decode cX11_sheetAt 1 = .ok (.iconst 4, 1) := by decide +kernel
theorem dX11_sheetAt_2 : decode cX11_sheetAt 2 = .ok (.invokestatic 58, 3) := by decide +kernel
theorem dX11_sheetAt_5 : decode cX11_sheetAt 5 = .ok (.ifCond .eq 12, 3) := by decide +kernel
theorem dX11_sheetAt_8 : decode cX11_sheetAt 8 = .ok (.aload_n 0, 1) := by decide +kernel
theorem dX11_sheetAt_9 : decode cX11_sheetAt 9 = .ok (.getfield 46, 3) := by decide +kernel
theorem dX11_sheetAt_12 : decode cX11_sheetAt 12 = .ok (.iload_n 1, 1) := by decide +kernel
theorem dX11_sheetAt_13 : decode cX11_sheetAt 13 = .ok (.aaload, 1) := by decide +kernel
theorem dX11_sheetAt_14 : decode cX11_sheetAt 14 = .ok (.goto 4, 3) := by decide +kernel
theorem dX11_sheetAt_17 : decode cX11_sheetAt 17 = .ok (.aconst_null, 1) := by decide +kernel
theorem dX11_sheetAt_18 : decode cX11_sheetAt 18 = .ok (.areturn, 1) := by decide +kernel
theorem dX11_pageAt_0 : decode cX11_pageAt 0 = .ok (.iload_n 1, 1) := by decide +kernel
theorem dX11_pageAt_1 : decode cX11_pageAt 1 = .ok (.bipush 24, 2) := by decide +kernel
theorem dX11_pageAt_3 : decode cX11_pageAt 3 = .ok (.invokestatic 58, 3) := by decide +kernel
theorem dX11_pageAt_6 : decode cX11_pageAt 6 = .ok (.ifCond .eq 12, 3) := by decide +kernel
theorem dX11_pageAt_9 : decode cX11_pageAt 9 = .ok (.aload_n 0, 1) := by decide +kernel
theorem dX11_pageAt_10 : decode cX11_pageAt 10 = .ok (.getfield 34, 3) := by decide +kernel
theorem dX11_pageAt_13 : decode cX11_pageAt 13 = .ok (.iload_n 1, 1) := by decide +kernel
theorem dX11_pageAt_14 : decode cX11_pageAt 14 = .ok (.aaload, 1) := by decide +kernel
theorem dX11_pageAt_15 : decode cX11_pageAt 15 = .ok (.goto 4, 3) := by decide +kernel
theorem dX11_pageAt_18 : decode cX11_pageAt 18 = .ok (.aconst_null, 1) := by decide +kernel
theorem dX11_pageAt_19 : decode cX11_pageAt 19 = .ok (.areturn, 1) := by decide +kernel
theorem dX11_letterAt_0 : decode cX11_letterAt 0 = .ok (.iload_n 1, 1) := by decide +kernel
theorem dX11_letterAt_1 : decode cX11_letterAt 1 = .ok (.bipush 20, 2) := by decide +kernel
theorem dX11_letterAt_3 : decode cX11_letterAt 3 = .ok (.invokestatic 58, 3) := by decide +kernel
theorem dX11_letterAt_6 : decode cX11_letterAt 6 = .ok (.ifCond .eq 12, 3) := by decide +kernel
theorem dX11_letterAt_9 : decode cX11_letterAt 9 = .ok (.aload_n 0, 1) := by decide +kernel
theorem dX11_letterAt_10 : decode cX11_letterAt 10 = .ok (.getfield 40, 3) := by decide +kernel
theorem dX11_letterAt_13 : decode cX11_letterAt 13 = .ok (.iload_n 1, 1) := by decide +kernel
theorem dX11_letterAt_14 : decode cX11_letterAt 14 = .ok (.aaload, 1) := by decide +kernel
theorem dX11_letterAt_15 : decode cX11_letterAt 15 = .ok (.goto 4, 3) := by decide +kernel
theorem dX11_letterAt_18 : decode cX11_letterAt 18 = .ok (.aconst_null, 1) := by decide +kernel
theorem dX11_letterAt_19 : decode cX11_letterAt 19 = .ok (.areturn, 1) := by decide +kernel
theorem dX11_comeTo_0 : decode cX11_comeTo 0 = .ok (.aload_n 0, 1) := by decide +kernel
theorem dX11_comeTo_1 : decode cX11_comeTo 1 = .ok (.iload_n 1, 1) := by decide +kernel
theorem dX11_comeTo_2 : decode cX11_comeTo 2 = .ok (.putfield 79, 3) := by decide +kernel
theorem dX11_comeTo_5 : decode cX11_comeTo 5 = .ok (.bipush (-10), 2) := by decide +kernel
theorem dX11_comeTo_7 : decode cX11_comeTo 7 = .ok (.iload_n 1, 1) := by decide +kernel
theorem dX11_comeTo_8 : decode cX11_comeTo 8 = .ok (.isub, 1) := by decide +kernel
theorem dX11_comeTo_9 : decode cX11_comeTo 9 = .ok (.ireturn, 1) := by decide +kernel
theorem dX11_isWrong_0 : decode cX11_isWrong 0 = .ok (.aload_n 1, 1) := by decide +kernel
theorem dX11_isWrong_1 : decode cX11_isWrong 1 = .ok (.invokevirtual 193, 3) := by decide +kernel
theorem dX11_isWrong_4 : decode cX11_isWrong 4 = .ok (.istore_n 3, 1) := by decide +kernel
theorem dX11_isWrong_5 : decode cX11_isWrong 5 = .ok (.iload_n 3, 1) := by decide +kernel
theorem dX11_isWrong_6 : decode cX11_isWrong 6 = .ok (.aload_n 2, 1) := by decide +kernel
theorem dX11_isWrong_7 : decode cX11_isWrong 7 = .ok (.invokevirtual 151, 3) := by decide +kernel
theorem dX11_isWrong_10 : decode cX11_isWrong 10 = .ok (.if_icmp .le 5, 3) := by decide +kernel
theorem dX11_isWrong_13 : decode cX11_isWrong 13 = .ok (.iconst 1, 1) := by decide +kernel
theorem dX11_isWrong_14 : decode cX11_isWrong 14 = .ok (.ireturn, 1) := by decide +kernel
theorem dX11_isWrong_15 : decode cX11_isWrong 15 = .ok (.aload_n 0, 1) := by decide +kernel
theorem dX11_isWrong_16 : decode cX11_isWrong 16 = .ok (.getfield 53, 3) := by decide +kernel
theorem dX11_isWrong_19 : decode cX11_isWrong 19 = .ok (.invokevirtual 107, 3) := by decide +kernel
theorem dX11_isWrong_22 : decode cX11_isWrong 22 = .ok (.istore 4, 2) := by decide +kernel
theorem dX11_isWrong_24 : decode cX11_isWrong 24 = .ok (.iload 4, 2) := by decide +kernel
theorem dX11_isWrong_26 : decode cX11_isWrong 26 = .ok (.bipush (-9), 2) := by decide +kernel
theorem dX11_isWrong_28 : decode cX11_isWrong 28 = .ok (.if_icmp .eq 16, 3) := by decide +kernel
theorem dX11_isWrong_31 : decode cX11_isWrong 31 = .ok (.aload_n 2, 1) := by decide +kernel
theorem dX11_isWrong_32 : decode cX11_isWrong 32 = .ok (.aload_n 1, 1) := by decide +kernel
theorem dX11_isWrong_33 : decode cX11_isWrong 33 = .ok (.iconst 0, 1) := by decide +kernel
theorem dX11_isWrong_34 : decode cX11_isWrong 34 = .ok (.invokevirtual 199, 3) := by decide +kernel
theorem dX11_isWrong_37 : decode cX11_isWrong 37 = .ok (.iload 4, 2) := by decide +kernel
theorem dX11_isWrong_39 : decode cX11_isWrong 39 = .ok (.if_icmp .eq 5, 3) := by decide +kernel
theorem dX11_isWrong_42 : decode cX11_isWrong 42 = .ok (.iconst 1, 1) := by decide +kernel
theorem dX11_isWrong_43 : decode cX11_isWrong 43 = .ok (.ireturn, 1) := by decide +kernel
theorem dX11_isWrong_44 : decode cX11_isWrong 44 = .ok (.aload_n 0, 1) := by decide +kernel
theorem dX11_isWrong_45 : decode cX11_isWrong 45 = .ok (.getfield 53, 3) := by decide +kernel
theorem dX11_isWrong_48 : decode cX11_isWrong 48 = .ok (.invokevirtual 113, 3) := by decide +kernel
theorem dX11_isWrong_51 : decode cX11_isWrong 51 = .ok (.ifCond .ne 5, 3) := by decide +kernel
theorem dX11_isWrong_54 : decode cX11_isWrong 54 = .ok (.iconst 0, 1) := by decide +kernel
theorem dX11_isWrong_55 : decode cX11_isWrong 55 = .ok (.ireturn, 1) := by decide +kernel
theorem dX11_isWrong_56 : decode cX11_isWrong 56 = .ok (.iconst 0, 1) := by decide +kernel
theorem dX11_isWrong_57 : decode cX11_isWrong 57 = .ok (.istore 5, 2) := by decide +kernel
theorem dX11_isWrong_59 : decode cX11_isWrong 59 = .ok (.iconst 0, 1) := by decide +kernel
theorem dX11_isWrong_60 : decode cX11_isWrong 60 = .ok (.istore 6, 2) := by decide +kernel
theorem dX11_isWrong_62 : decode cX11_isWrong 62 = .ok (.iload 6, 2) := by decide +kernel
theorem dX11_isWrong_64 : decode cX11_isWrong 64 = .ok (.iload_n 3, 1) := by decide +kernel
theorem dX11_isWrong_65 : decode cX11_isWrong 65 = .ok (.iconst 1, 1) := by decide +kernel
theorem dX11_isWrong_66 : decode cX11_isWrong 66 = .ok (.isub, 1) := by decide +kernel
theorem dX11_isWrong_67 : decode cX11_isWrong 67 = .ok (.if_icmp .ge 26, 3) := by decide +kernel
theorem dX11_isWrong_70 : decode cX11_isWrong 70 = .ok (.iload 5, 2) := by decide +kernel
theorem dX11_isWrong_72 : decode cX11_isWrong 72 = .ok (.aload_n 2, 1) := by decide +kernel
theorem dX11_isWrong_73 : decode cX11_isWrong 73 = .ok (.aload_n 1, 1) := by decide +kernel
theorem dX11_isWrong_74 : decode cX11_isWrong 74 = .ok (.iload 6, 2) := by decide +kernel
theorem dX11_isWrong_76 : decode cX11_isWrong 76 = .ok (.invokevirtual 199, 3) := by decide +kernel
theorem dX11_isWrong_79 : decode cX11_isWrong 79 = .ok (.iload 6, 2) := by decide +kernel
theorem dX11_isWrong_81 : decode cX11_isWrong 81 = .ok (.invokestatic 345, 3) := by decide +kernel
theorem dX11_isWrong_84 : decode cX11_isWrong 84 = .ok (.iadd, 1) := by decide +kernel
theorem dX11_isWrong_85 : decode cX11_isWrong 85 = .ok (.istore 5, 2) := by decide +kernel
theorem dX11_isWrong_87 : decode cX11_isWrong 87 = .ok (.iinc 6 1, 3) := by decide +kernel
theorem dX11_isWrong_90 : decode cX11_isWrong 90 = .ok (.goto (-28), 3) := by decide +kernel
theorem dX11_isWrong_93 : decode cX11_isWrong 93 = .ok (.aload_n 2, 1) := by decide +kernel
theorem dX11_isWrong_94 : decode cX11_isWrong 94 = .ok (.aload_n 1, 1) := by decide +kernel
theorem dX11_isWrong_95 : decode cX11_isWrong 95 = .ok (.iload_n 3, 1) := by decide +kernel
theorem dX11_isWrong_96 : decode cX11_isWrong 96 = .ok (.iconst 1, 1) := by decide +kernel
theorem dX11_isWrong_97 : decode cX11_isWrong 97 = .ok (.isub, 1) := by decide +kernel
theorem dX11_isWrong_98 : decode cX11_isWrong 98 = .ok (.invokevirtual 199, 3) := by decide +kernel
theorem dX11_isWrong_101 : decode cX11_isWrong 101 = .ok (.iload 5, 2) := by decide +kernel
theorem dX11_isWrong_103 : decode cX11_isWrong 103 = .ok (.bipush 100, 2) := by decide +kernel
theorem dX11_isWrong_105 : decode cX11_isWrong 105 = .ok (.irem, 1) := by decide +kernel
theorem dX11_isWrong_106 : decode cX11_isWrong 106 = .ok (.if_icmp .eq 7, 3) := by decide +kernel
theorem dX11_isWrong_109 : decode cX11_isWrong 109 = .ok (.iconst 1, 1) := by decide +kernel
theorem dX11_isWrong_110 : decode cX11_isWrong 110 = .ok (.goto 4, 3) := by decide +kernel
theorem dX11_isWrong_113 : decode cX11_isWrong 113 = .ok (.iconst 0, 1) := by decide +kernel
theorem dX11_isWrong_114 : decode cX11_isWrong 114 = .ok (.ireturn, 1) := by decide +kernel
theorem dX11_lettersUpTo_0 : decode cX11_lettersUpTo 0 = .ok (.iconst 0, 1) := by decide +kernel
theorem dX11_lettersUpTo_1 : decode cX11_lettersUpTo 1 = .ok (.istore_n 3, 1) := by decide +kernel
theorem dX11_lettersUpTo_2 : decode cX11_lettersUpTo 2 = .ok (.iconst 0, 1) := by decide +kernel
theorem dX11_lettersUpTo_3 : decode cX11_lettersUpTo 3 = .ok (.istore 4, 2) := by decide +kernel
theorem dX11_lettersUpTo_5 : decode cX11_lettersUpTo 5 = .ok (.iload 4, 2) := by decide +kernel
theorem dX11_lettersUpTo_7 : decode cX11_lettersUpTo 7 = .ok (.aload_n 0, 1) := by decide +kernel
theorem dX11_lettersUpTo_8 : decode cX11_lettersUpTo 8 = .ok (.getfield 169, 3) := by decide +kernel
theorem dX11_lettersUpTo_11 : decode cX11_lettersUpTo 11 = .ok (.if_icmp .ge 43, 3) := by decide +kernel
theorem dX11_lettersUpTo_14 : decode cX11_lettersUpTo 14 = .ok (.aload_n 0, 1) := by decide +kernel
theorem dX11_lettersUpTo_15 : decode cX11_lettersUpTo 15 = .ok (.iload 4, 2) := by decide +kernel
theorem dX11_lettersUpTo_17 : decode cX11_lettersUpTo 17 = .ok (.invokevirtual 183, 3) := by decide +kernel
theorem dX11_lettersUpTo_20 : decode cX11_lettersUpTo 20 = .ok (.astore 5, 2) := by decide +kernel
theorem dX11_lettersUpTo_22 : decode cX11_lettersUpTo 22 = .ok (.aload 5, 2) := by decide +kernel
theorem dX11_lettersUpTo_24 : decode cX11_lettersUpTo 24 = .ok (.ifnull 24, 3) := by decide +kernel
theorem dX11_lettersUpTo_27 : decode cX11_lettersUpTo 27 = .ok (.aload 5, 2) := by decide +kernel
theorem dX11_lettersUpTo_29 : decode cX11_lettersUpTo 29 = .ok (.getfield 190, 3) := by decide +kernel
theorem dX11_lettersUpTo_32 : decode cX11_lettersUpTo 32 = .ok (.iload_n 1, 1) := by decide +kernel
theorem dX11_lettersUpTo_33 : decode cX11_lettersUpTo 33 = .ok (.if_icmp .gt 15, 3) := by decide +kernel
theorem dX11_lettersUpTo_36 : decode cX11_lettersUpTo 36 = .ok (.aload 5, 2) := by decide +kernel
theorem dX11_lettersUpTo_38 : decode cX11_lettersUpTo 38 = .ok (.getfield 187, 3) := by decide +kernel
theorem dX11_lettersUpTo_41 : decode cX11_lettersUpTo 41 = .ok (.iload_n 2, 1) := by decide +kernel
theorem dX11_lettersUpTo_42 : decode cX11_lettersUpTo 42 = .ok (.if_icmp .ne 6, 3) := by decide +kernel
theorem dX11_lettersUpTo_45 : decode cX11_lettersUpTo 45 = .ok (.iinc 3 1, 3) := by decide +kernel
theorem dX11_lettersUpTo_48 : decode cX11_lettersUpTo 48 = .ok (.iinc 4 1, 3) := by decide +kernel
theorem dX11_lettersUpTo_51 : decode cX11_lettersUpTo 51 = .ok (.goto (-46), 3) := by decide +kernel
theorem dX11_lettersUpTo_54 : decode cX11_lettersUpTo 54 = .ok (.iload_n 3, 1) := by decide +kernel
theorem dX11_lettersUpTo_55 : decode cX11_lettersUpTo 55 = .ok (.ireturn, 1) := by decide +kernel
theorem dX12_init_0 : decode cX12_init 0 = .ok (.aload_n 0, 1) := by decide +kernel
theorem dX12_init_1 : decode cX12_init 1 = .ok (.invokespecial 1, 3) := by decide +kernel
theorem dX12_init_4 : decode cX12_init 4 = .ok (.aload_n 0, 1) := by decide +kernel
theorem dX12_init_5 : decode cX12_init 5 = .ok (.bipush 30, 2) := by decide +kernel
theorem dX12_init_7 : decode cX12_init 7 = .ok (.newarray .int, 2) := by decide +kernel
theorem dX12_init_9 : decode cX12_init 9 = .ok (.putfield 7, 3) := by decide +kernel
theorem dX12_init_12 : decode cX12_init 12 = .ok (.aload_n 0, 1) := by decide +kernel
theorem dX12_init_13 : decode cX12_init 13 = .ok (.bipush 30, 2) := by decide +kernel
theorem dX12_init_15 : decode cX12_init 15 = .ok (.newarray .int, 2) := by decide +kernel
theorem dX12_init_17 : decode cX12_init 17 = .ok (.putfield 13, 3) := by decide +kernel
theorem dX12_init_20 : decode cX12_init 20 = .ok (.aload_n 0, 1) := by decide +kernel
theorem dX12_init_21 : decode cX12_init 21 = .ok (.bipush 100, 2) := by decide +kernel
theorem dX12_init_23 : decode cX12_init 23 = .ok (.newarray .int, 2) := by decide +kernel
theorem dX12_init_25 : decode cX12_init 25 = .ok (.putfield 16, 3) := by decide +kernel
theorem dX12_init_28 : decode cX12_init 28 = .ok (.aload_n 0, 1) := by decide +kernel
theorem dX12_init_29 : decode cX12_init 29 = .ok (.iconst 4, 1) := by decide +kernel
theorem dX12_init_30 : decode cX12_init 30 = .ok (.newarray .int, 2) := by decide +kernel
theorem dX12_init_32 : decode cX12_init 32 = .ok (.putfield 19, 3) := by decide +kernel
theorem dX12_init_35 : decode cX12_init 35 = .ok (.aload_n 0, 1) := by decide +kernel
theorem dX12_init_36 : decode cX12_init 36 = .ok (.bipush 24, 2) := by decide +kernel
theorem dX12_init_38 : decode cX12_init 38 = .ok (.newarray .int, 2) := by decide +kernel
theorem dX12_init_40 : decode cX12_init 40 = .ok (.putfield 22, 3) := by decide +kernel
theorem dX12_init_43 : decode cX12_init 43 = .ok (.aload_n 0, 1) := by decide +kernel
theorem dX12_init_44 : decode cX12_init 44 = .ok (.bipush 24, 2) := by decide +kernel
theorem dX12_init_46 : decode cX12_init 46 = .ok (.newarray .int, 2) := by decide +kernel
theorem dX12_init_48 : decode cX12_init 48 = .ok (.putfield 25, 3) := by decide +kernel
theorem dX12_init_51 : decode cX12_init 51 = .ok (.aload_n 0, 1) := by decide +kernel
theorem dX12_init_52 : decode cX12_init 52 = .ok (.bipush 24, 2) := by decide +kernel
theorem dX12_init_54 : decode cX12_init 54 = .ok (.newarray .int, 2) := by decide +kernel
theorem dX12_init_56 : decode cX12_init 56 = .ok (.putfield 28, 3) := by decide +kernel
theorem dX12_init_59 : decode cX12_init 59 = .ok (.aload_n 0, 1) := by decide +kernel
theorem dX12_init_60 : decode cX12_init 60 = .ok (.sipush 288, 3) := by decide +kernel
theorem dX12_init_63 : decode cX12_init 63 = .ok (.newarray .int, 2) := by decide +kernel
theorem dX12_init_65 : decode cX12_init 65 = .ok (.putfield 31, 3) := by decide +kernel
theorem dX12_init_68 : decode cX12_init 68 = .ok (.aload_n 0, 1) := by decide +kernel
theorem dX12_init_69 : decode cX12_init 69 = .ok (.bipush 24, 2) := by decide +kernel
theorem dX12_init_71 : decode cX12_init 71 = .ok (.newarray .int, 2) := by decide +kernel
theorem dX12_init_73 : decode cX12_init 73 = .ok (.putfield 34, 3) := by decide +kernel
theorem dX12_init_76 : decode cX12_init 76 = .ok (.aload_n 0, 1) := by decide +kernel
theorem dX12_init_77 : decode cX12_init 77 = .ok (.bipush 20, 2) := by decide +kernel
theorem dX12_init_79 : decode cX12_init 79 = .ok (.newarray .int, 2) := by decide +kernel
theorem dX12_init_81 : decode cX12_init 81 = .ok (.putfield 37, 3) := by decide +kernel
theorem dX12_init_84 : decode cX12_init 84 = .ok (.aload_n 0, 1) := by decide +kernel
theorem dX12_init_85 : decode cX12_init 85 = .ok (.bipush 20, 2) := by decide +kernel
theorem dX12_init_87 : decode cX12_init 87 = .ok (.newarray .int, 2) := by decide +kernel
theorem dX12_init_89 : decode cX12_init 89 = .ok (.putfield 40, 3) := by decide +kernel
theorem dX12_init_92 : decode cX12_init 92 = .ok (.aload_n 0, 1) := by decide +kernel
theorem dX12_init_93 : decode cX12_init 93 = .ok (.bipush 20, 2) := by decide +kernel
theorem dX12_init_95 : decode cX12_init 95 = .ok (.newarray .int, 2) := by decide +kernel
theorem dX12_init_97 : decode cX12_init 97 = .ok (.putfield 43, 3) := by decide +kernel
theorem dX12_init_100 : decode cX12_init 100 = .ok (.aload_n 0, 1) := by decide +kernel
theorem dX12_init_101 : decode cX12_init 101 = .ok (.sipush 240, 3) := by decide +kernel
theorem dX12_init_104 : decode cX12_init 104 = .ok (.newarray .int, 2) := by decide +kernel
theorem dX12_init_106 : decode cX12_init 106 = .ok (.putfield 46, 3) := by decide +kernel
theorem dX12_init_109 : decode cX12_init 109 = .ok (.aload_n 0, 1) := by decide +kernel
theorem dX12_init_110 : decode cX12_init 110 = .ok (.bipush 80, 2) := by decide +kernel
theorem dX12_init_112 : decode cX12_init 112 = .ok (.newarray .int, 2) := by decide +kernel
theorem dX12_init_114 : decode cX12_init 114 = .ok (.putfield 49, 3) := by decide +kernel
theorem dX12_init_117 : decode cX12_init 117 = .ok (.aload_n 0, 1) := by decide +kernel
theorem dX12_init_118 : decode cX12_init 118 = .ok (.bipush 6, 2) := by decide +kernel
theorem dX12_init_120 : decode cX12_init 120 = .ok (.newarray .int, 2) := by decide +kernel
theorem dX12_init_122 : decode cX12_init 122 = .ok (.putfield 52, 3) := by decide +kernel
theorem dX12_init_125 : decode cX12_init 125 = .ok (.aload_n 0, 1) := by decide +kernel
theorem dX12_init_126 : decode cX12_init 126 = .ok (.bipush 20, 2) := by decide +kernel
theorem dX12_init_128 : decode cX12_init 128 = .ok (.newarray .int, 2) := by decide +kernel
theorem dX12_init_130 : decode cX12_init 130 = .ok (.putfield 55, 3) := by decide +kernel
theorem dX12_init_133 : decode cX12_init 133 = .ok (.aload_n 0, 1) := by decide +kernel
theorem dX12_init_134 : decode cX12_init 134 = .ok (.bipush 20, 2) := by decide +kernel
theorem dX12_init_136 : decode cX12_init 136 = .ok (.newarray .int, 2) := by decide +kernel
theorem dX12_init_138 : decode cX12_init 138 = .ok (.putfield 58, 3) := by decide +kernel
theorem dX12_init_141 : decode cX12_init 141 = .ok (.aload_n 0, 1) := by decide +kernel
theorem dX12_init_142 : decode cX12_init 142 = .ok (.bipush 20, 2) := by decide +kernel
theorem dX12_init_144 : decode cX12_init 144 = .ok (.newarray .int, 2) := by decide +kernel
theorem dX12_init_146 : decode cX12_init 146 = .ok (.putfield 61, 3) := by decide +kernel
theorem dX12_init_149 : decode cX12_init 149 = .ok (.aload_n 0, 1) := by decide +kernel
theorem dX12_init_150 : decode cX12_init 150 = .ok (.iconst 4, 1) := by decide +kernel
theorem dX12_init_151 : decode cX12_init 151 = .ok (.newarray .int, 2) := by decide +kernel
theorem dX12_init_153 : decode cX12_init 153 = .ok (.putfield 64, 3) := by decide +kernel
theorem dX12_init_156 : decode cX12_init 156 = .ok (.aload_n 0, 1) := by decide +kernel
theorem dX12_init_157 : decode cX12_init 157 = .ok (.iconst 4, 1) := by decide +kernel
theorem dX12_init_158 : decode cX12_init 158 = .ok (.newarray .int, 2) := by decide +kernel
theorem dX12_init_160 : decode cX12_init 160 = .ok (.putfield 67, 3) := by decide +kernel
theorem dX12_init_163 : decode cX12_init 163 = .ok (.aload_n 0, 1) := by decide +kernel
theorem dX12_init_164 : decode cX12_init 164 = .ok (.sipush 240, 3) := by decide +kernel
theorem dX12_init_167 : decode cX12_init 167 = .ok (.newarray .int, 2) := by decide +kernel
theorem dX12_init_169 : decode cX12_init 169 = .ok (.putfield 70, 3) := by decide +kernel
theorem dX12_init_172 : decode cX12_init 172 = .ok (.aload_n 0, 1) := by decide +kernel
theorem dX12_init_173 : decode cX12_init 173 = .ok (.bipush 60, 2) := by decide +kernel
theorem dX12_init_175 : decode cX12_init 175 = .ok (.newarray .int, 2) := by decide +kernel
theorem dX12_init_177 : decode cX12_init 177 = .ok (.putfield 73, 3) := by decide +kernel
theorem dX12_init_180 : decode cX12_init 180 = .ok (.aload_n 0, 1) := by decide +kernel
theorem dX12_init_181 : decode cX12_init 181 = .ok (.bipush (-9), 2) := by decide +kernel
theorem dX12_init_183 : decode cX12_init 183 = .ok (.putfield 76, 3) := by decide +kernel
theorem dX12_init_186 : decode cX12_init 186 = .ok (.aload_n 0, 1) := by decide +kernel
theorem dX12_init_187 : decode cX12_init 187 = .ok (.bipush (-9), 2) := by decide +kernel
theorem dX12_init_189 : decode cX12_init 189 = .ok (.putfield 80, 3) := by decide +kernel
theorem dX12_init_192 : decode cX12_init 192 = .ok (.iconst 0, 1) := by decide +kernel
theorem dX12_init_193 : decode cX12_init 193 = .ok (.istore_n 1, 1) := by decide +kernel
theorem dX12_init_194 : decode cX12_init 194 = .ok (.iload_n 1, 1) := by decide +kernel
theorem dX12_init_195 : decode cX12_init 195 = .ok (.bipush 30, 2) := by decide +kernel
theorem dX12_init_197 : decode cX12_init 197 = .ok (.if_icmp .ge 17, 3) := by decide +kernel
theorem dX12_init_200 : decode cX12_init 200 = .ok (.aload_n 0, 1) := by decide +kernel
theorem dX12_init_201 : decode cX12_init 201 = .ok (.getfield 7, 3) := by decide +kernel
theorem dX12_init_204 : decode cX12_init 204 = .ok (.iload_n 1, 1) := by decide +kernel
theorem dX12_init_205 : decode cX12_init 205 = .ok (.bipush (-9), 2) := by decide +kernel
theorem dX12_init_207 : decode cX12_init 207 = .ok (.iastore, 1) := by decide +kernel
theorem dX12_init_208 : decode cX12_init 208 = .ok (.iinc 1 1, 3) := by decide +kernel
theorem dX12_init_211 : decode cX12_init 211 = .ok (.goto (-17), 3) := by decide +kernel
theorem dX12_init_214 : decode cX12_init 214 = .ok (.iconst 0, 1) := by decide +kernel
theorem dX12_init_215 : decode cX12_init 215 = .ok (.istore_n 1, 1) := by decide +kernel
theorem dX12_init_216 : decode cX12_init 216 = .ok (.iload_n 1, 1) := by decide +kernel
theorem dX12_init_217 : decode cX12_init 217 = .ok (.bipush 100, 2) := by decide +kernel
theorem dX12_init_219 : decode cX12_init 219 = .ok (.if_icmp .ge 17, 3) := by decide +kernel
theorem dX12_init_222 : decode cX12_init 222 = .ok (.aload_n 0, 1) := by decide +kernel
theorem dX12_init_223 : decode cX12_init 223 = .ok (.getfield 16, 3) := by decide +kernel
theorem dX12_init_226 : decode cX12_init 226 = .ok (.iload_n 1, 1) := by decide +kernel
theorem dX12_init_227 : decode cX12_init 227 = .ok (.bipush (-9), 2) := by decide +kernel
theorem dX12_init_229 : decode cX12_init 229 = .ok (.iastore, 1) := by decide +kernel
theorem dX12_init_230 : decode cX12_init 230 = .ok (.iinc 1 1, 3) := by decide +kernel
theorem dX12_init_233 : decode cX12_init 233 = .ok (.goto (-17), 3) := by decide +kernel
theorem dX12_init_236 : decode cX12_init 236 = .ok (.iconst 0, 1) := by decide +kernel
theorem dX12_init_237 : decode cX12_init 237 = .ok (.istore_n 1, 1) := by decide +kernel
theorem dX12_init_238 : decode cX12_init 238 = .ok (.iload_n 1, 1) := by decide +kernel
theorem dX12_init_239 : decode cX12_init 239 = .ok (.iconst 4, 1) := by decide +kernel
theorem dX12_init_240 : decode cX12_init 240 = .ok (.if_icmp .ge 16, 3) := by decide +kernel
theorem dX12_init_243 : decode cX12_init 243 = .ok (.aload_n 0, 1) := by decide +kernel
theorem dX12_init_244 : decode cX12_init 244 = .ok (.getfield 64, 3) := by decide +kernel
theorem dX12_init_247 : decode cX12_init 247 = .ok (.iload_n 1, 1) := by decide +kernel
theorem dX12_init_248 : decode cX12_init 248 = .ok (.iconst (-1), 1) := by decide +kernel
theorem dX12_init_249 : decode cX12_init 249 = .ok (.iastore, 1) := by decide +kernel
theorem dX12_init_250 : decode cX12_init 250 = .ok (.iinc 1 1, 3) := by decide +kernel
theorem dX12_init_253 : decode cX12_init 253 = .ok (.goto (-15), 3) := by decide +kernel
theorem dX12_init_256 : decode cX12_init 256 = .ok (.return_, 1) := by decide +kernel
theorem dX12_in_0 : decode cX12_in 0 = .ok (.lload_n 0, 1) := by decide +kernel
theorem dX12_in_1 : decode cX12_in 1 = .ok (.lload_n 2, 1) := by decide +kernel
theorem dX12_in_2 : decode cX12_in 2 = .ok (.lcmp, 1) := by decide +kernel
theorem dX12_in_3 : decode cX12_in 3 = .ok (.ifCond .lt 14, 3) := by decide +kernel
theorem dX12_in_6 : decode cX12_in 6 = .ok (.lload_n 0, 1) := by decide +kernel
theorem dX12_in_7 : decode cX12_in 7 = .ok (.lload 4, 2) := by decide +kernel
theorem dX12_in_9 : decode cX12_in 9 = .ok (.lcmp, 1) := by decide +kernel
theorem dX12_in_10 : decode cX12_in 10 = .ok (.ifCond .gt 7, 3) := by decide +kernel
theorem dX12_in_13 : decode cX12_in 13 = .ok (.iconst 1, 1) := by decide +kernel
theorem dX12_in_14 : decode cX12_in 14 = .ok (.goto 4, 3) := by decide +kernel
theorem dX12_in_17 : decode cX12_in 17 = .ok (.iconst 0, 1) := by decide +kernel
theorem dX12_in_18 : decode cX12_in 18 = .ok (.ireturn, 1) := by decide +kernel
theorem dX12_lost_0 : decode cX12_lost 0 = .ok (.ldc2_w 83, 3) := by decide +kernel
theorem dX12_lost_3 : decode cX12_lost 3 = .ok (.lreturn, 1) := by decide +kernel
theorem dX12_lesser_0 : decode cX12_lesser 0 = .ok (.iload_n 0, 1) := by decide +kernel
theorem dX12_lesser_1 : decode cX12_lesser 1 = .ok (.iload_n 1, 1) := by decide +kernel
theorem dX12_lesser_2 : decode cX12_lesser 2 = .ok (.if_icmp .ge 7, 3) := by decide +kernel
theorem dX12_lesser_5 : decode cX12_lesser 5 = .ok (.iload_n 0, 1) := by decide +kernel
theorem dX12_lesser_6 : decode cX12_lesser 6 = .ok (.goto 4, 3) := by decide +kernel
theorem dX12_lesser_9 : decode cX12_lesser 9 = .ok (.iload_n 1, 1) := by decide +kernel
theorem dX12_lesser_10 : decode cX12_lesser 10 = .ok (.ireturn, 1) := by decide +kernel
theorem dX12_rest_0 : decode cX12_rest 0 = .ok (.iload_n 0, 1) := by decide +kernel
theorem dX12_rest_1 : decode cX12_rest 1 = .ok (.bipush 100, 2) := by decide +kernel
theorem dX12_rest_3 : decode cX12_rest 3 = .ok (.irem, 1) := by decide +kernel
theorem dX12_rest_4 : decode cX12_rest 4 = .ok (.bipush 100, 2) := by decide +kernel
theorem dX12_rest_6 : decode cX12_rest 6 = .ok (.iadd, 1) := by decide +kernel
theorem dX12_rest_7 : decode cX12_rest 7 = .ok (.bipush 100, 2) := by decide +kernel
theorem dX12_rest_9 : decode cX12_rest 9 = .ok (.irem, 1) := by decide +kernel
theorem dX12_rest_10 : decode cX12_rest 10 = .ok (.ireturn, 1) := by decide +kernel
theorem dX12_share_0 : decode cX12_share 0 = .ok (.lload_n 0, 1) := by decide +kernel
theorem dX12_share_1 : decode cX12_share 1 = .ok (.lstore 5, 2) := by decide +kernel
theorem dX12_share_3 : decode cX12_share 3 = .ok (.lload_n 2, 1) := by decide +kernel
theorem dX12_share_4 : decode cX12_share 4 = .ok (.lstore 7, 2) := by decide +kernel
theorem dX12_share_6 : decode cX12_share 6 = .ok (.lload 7, 2) := by decide +kernel
theorem dX12_share_8 : decode cX12_share 8 = .ok (.lconst 0, 1) := by decide +kernel
theorem dX12_share_9 : decode cX12_share 9 = .ok (.lcmp, 1) := by decide +kernel
theorem dX12_share_10 : decode cX12_share 10 = .ok (.ifCond .eq 21, 3) := by decide +kernel
theorem dX12_share_13 : decode cX12_share 13 = .ok (.lload 5, 2) := by decide +kernel
theorem dX12_share_15 : decode cX12_share 15 = .ok (.lload 7, 2) := by decide +kernel
theorem dX12_share_17 : decode cX12_share 17 = .ok (.lrem, 1) := by decide +kernel
theorem dX12_share_18 : decode cX12_share 18 = .ok (.lstore 9, 2) := by decide +kernel
theorem dX12_share_20 : decode cX12_share 20 = .ok (.lload 7, 2) := by decide +kernel
theorem dX12_share_22 : decode cX12_share 22 = .ok (.lstore 5, 2) := by decide +kernel
theorem dX12_share_24 : decode cX12_share 24 = .ok (.lload 9, 2) := by decide +kernel
theorem dX12_share_26 : decode cX12_share 26 = .ok (.lstore 7, 2) := by decide +kernel
theorem dX12_share_28 : decode cX12_share 28 = .ok (.goto (-22), 3) := by decide +kernel
theorem dX12_share_31 : decode cX12_share 31 = .ok (.iload 4, 2) := by decide +kernel
theorem dX12_share_33 : decode cX12_share 33 = .ok (.ifCond .ne 7, 3) := by decide +kernel
theorem dX12_share_36 : decode cX12_share 36 = .ok (.lload_n 0, 1) := by decide +kernel
theorem dX12_share_37 : decode cX12_share 37 = .ok (.goto 4, 3) := by decide +kernel
theorem dX12_share_40 : decode cX12_share 40 = .ok (.lload_n 2, 1) := by decide +kernel
theorem dX12_share_41 : decode cX12_share 41 = .ok (.lload 5, 2) := by decide +kernel
theorem dX12_share_43 : decode cX12_share 43 = .ok (.ldiv, 1) := by decide +kernel
theorem dX12_share_44 : decode cX12_share 44 = .ok (.lreturn, 1) := by decide +kernel
theorem dX12_refused_0 : decode cX12_refused 0 = .ok (.aload_n 0, 1) := by decide +kernel
theorem dX12_refused_1 : decode cX12_refused 1 = .ok (.iconst 0, 1) := by decide +kernel
theorem dX12_refused_2 : decode cX12_refused 2 = .ok (.putfield 85, 3) := by decide +kernel
theorem dX12_refused_5 : decode cX12_refused 5 = .ok (.iload_n 1, 1) := by decide +kernel
theorem dX12_refused_6 : decode cX12_refused 6 = .ok (.ireturn, 1) := by decide +kernel
theorem dX12_failed_0 : decode cX12_failed 0 = .ok (.aload_n 0, 1) := by decide +kernel
theorem dX12_failed_1 : decode cX12_failed 1 = .ok (.iload_n 1, 1) := by decide +kernel
theorem dX12_failed_2 : decode cX12_failed 2 = .ok (.putfield 85, 3) := by decide +kernel
theorem dX12_failed_5 : decode cX12_failed 5 = .ok (.bipush (-10), 2) := by decide +kernel
theorem dX12_failed_7 : decode cX12_failed 7 = .ok (.iload_n 1, 1) := by decide +kernel
theorem dX12_failed_8 : decode cX12_failed 8 = .ok (.isub, 1) := by decide +kernel
theorem dX12_failed_9 : decode cX12_failed 9 = .ok (.ireturn, 1) := by decide +kernel
theorem dX12_failedLong_0 : decode cX12_failedLong 0 = .ok (.aload_n 0, 1) := by decide +kernel
theorem dX12_failedLong_1 : decode cX12_failedLong 1 = .ok (.iload_n 1, 1) := by decide +kernel
theorem dX12_failedLong_2 : decode cX12_failedLong 2 = .ok (.putfield 85, 3) := by decide +kernel
theorem dX12_failedLong_5 : decode cX12_failedLong 5 = .ok (.invokestatic 88, 3) := by decide +kernel
theorem dX12_failedLong_8 : decode cX12_failedLong 8 = .ok (.lreturn, 1) := by decide +kernel
theorem dX12_barred_0 : decode cX12_barred 0 = .ok (.iload_n 2, 1) := by decide +kernel
theorem dX12_barred_1 : decode cX12_barred 1 = .ok (.i2l, 1) := by decide +kernel
theorem dX12_barred_2 : decode cX12_barred 2 = .ok (.lconst 0, 1) := by decide +kernel
theorem dX12_barred_3 : decode cX12_barred 3 = .ok (.ldc2_w 92, 3) := by decide +kernel
theorem dX12_barred_6 : decode cX12_barred 6 = .ok (.invokestatic 94, 3) := by decide +kernel
theorem dX12_barred_9 : decode cX12_barred 9 = .ok (.ifCond .ne 10, 3) := by decide +kernel
theorem dX12_barred_12 : decode cX12_barred 12 = .ok (.aload_n 0, 1) := by decide +kernel
theorem dX12_barred_13 : decode cX12_barred 13 = .ok (.bipush (-2), 2) := by decide +kernel
theorem dX12_barred_15 : decode cX12_barred 15 = .ok (.invokevirtual 98, 3) := by decide +kernel
theorem dX12_barred_18 : decode cX12_barred 18 = .ok (.ireturn, 1) := by decide +kernel
theorem dX12_barred_19 : decode cX12_barred 19 = .ok (.aload_n 0, 1) := by decide +kernel
theorem dX12_barred_20 : decode cX12_barred 20 = .ok (.getfield 64, 3) := by decide +kernel
theorem dX12_barred_23 : decode cX12_barred 23 = .ok (.iload_n 1, 1) := by decide +kernel
theorem dX12_barred_24 : decode cX12_barred 24 = .ok (.iaload, 1) := by decide +kernel
theorem dX12_barred_25 : decode cX12_barred 25 = .ok (.ifCond .lt 19, 3) := by decide +kernel
theorem dX12_barred_28 : decode cX12_barred 28 = .ok (.aload_n 0, 1) := by decide +kernel
theorem dX12_barred_29 : decode cX12_barred 29 = .ok (.getfield 67, 3) := by decide +kernel
theorem dX12_barred_32 : decode cX12_barred 32 = .ok (.iload_n 1, 1) := by decide +kernel
theorem dX12_barred_33 : decode cX12_barred 33 = .ok (.iaload, 1) := by decide +kernel
theorem dX12_barred_34 : decode cX12_barred 34 = .ok (.iload_n 2, 1) := by decide +kernel
theorem dX12_barred_35 : decode cX12_barred 35 = .ok (.if_icmp .eq 9, 3) := by decide +kernel
theorem dX12_barred_38 : decode cX12_barred 38 = .ok (.aload_n 0, 1) := by decide +kernel
theorem dX12_barred_39 : decode cX12_barred 39 = .ok (.iconst 2, 1) := by decide +kernel
theorem dX12_barred_40 : decode cX12_barred 40 = .ok (.invokevirtual 102, 3) := by decide +kernel
theorem dX12_barred_43 : decode cX12_barred 43 = .ok (.ireturn, 1) := by decide +kernel
theorem dX12_barred_44 : decode cX12_barred 44 = .ok (.aload_n 0, 1) := by decide +kernel
theorem dX12_barred_45 : decode cX12_barred 45 = .ok (.getfield 64, 3) := by decide +kernel
theorem dX12_barred_48 : decode cX12_barred 48 = .ok (.iload_n 1, 1) := by decide +kernel
theorem dX12_barred_49 : decode cX12_barred 49 = .ok (.iaload, 1) := by decide +kernel
theorem dX12_barred_50 : decode cX12_barred 50 = .ok (.ifCond .ge 9, 3) := by decide +kernel
theorem dX12_barred_53 : decode cX12_barred 53 = .ok (.aload_n 0, 1) := by decide +kernel
theorem dX12_barred_54 : decode cX12_barred 54 = .ok (.iconst 1, 1) := by decide +kernel
theorem dX12_barred_55 : decode cX12_barred 55 = .ok (.invokevirtual 102, 3) := by decide +kernel
theorem dX12_barred_58 : decode cX12_barred 58 = .ok (.ireturn, 1) := by decide +kernel
theorem dX12_barred_59 : decode cX12_barred 59 = .ok (.lload 4, 2) := by decide +kernel
theorem dX12_barred_61 : decode cX12_barred 61 = .ok (.lconst 0, 1) := by decide +kernel
theorem dX12_barred_62 : decode cX12_barred 62 = .ok (.lcmp, 1) := by decide +kernel
theorem dX12_barred_63 : decode cX12_barred 63 = .ok (.ifCond .ge 9, 3) := by decide +kernel
theorem dX12_barred_66 : decode cX12_barred 66 = .ok (.aload_n 0, 1) := by decide +kernel
theorem dX12_barred_67 : decode cX12_barred 67 = .ok (.iconst 4, 1) := by decide +kernel
theorem dX12_barred_68 : decode cX12_barred 68 = .ok (.invokevirtual 102, 3) := by decide +kernel
theorem dX12_barred_71 : decode cX12_barred 71 = .ok (.ireturn, 1) := by decide +kernel
theorem dX12_barred_72 : decode cX12_barred 72 = .ok (.iload_n 3, 1) := by decide +kernel
theorem dX12_barred_73 : decode cX12_barred 73 = .ok (.lload 4, 2) := by decide +kernel
theorem dX12_barred_75 : decode cX12_barred 75 = .ok (.aload_n 0, 1) := by decide +kernel
theorem dX12_barred_76 : decode cX12_barred 76 = .ok (.getfield 64, 3) := by decide +kernel
theorem dX12_barred_79 : decode cX12_barred 79 = .ok (.iload_n 1, 1) := by decide +kernel
theorem dX12_barred_80 : decode cX12_barred 80 = .ok (.iaload, 1) := by decide +kernel
theorem dX12_barred_81 : decode cX12_barred 81 = .ok (.invokestatic 105, 3) := by decide +kernel
theorem dX12_barred_84 : decode cX12_barred 84 = .ok (.ifCond .eq 11, 3) := by decide +kernel
theorem dX12_barred_87 : decode cX12_barred 87 = .ok (.aload_n 0, 1) := by decide +kernel
theorem dX12_barred_88 : decode cX12_barred 88 = .ok (.iconst 3, 1) := by decide +kernel
theorem dX12_barred_89 : decode cX12_barred 89 = .ok (.invokevirtual 102, 3) := by decide +kernel
theorem dX12_barred_92 : decode cX12_barred 92 = .ok (.goto 4, 3) := by decide +kernel
theorem dX12_barred_95 : decode cX12_barred 95 = .ok (.iconst 0, 1) := by decide +kernel
theorem dX12_barred_96 : decode cX12_barred 96 = .ok (.ireturn, 1) := by decide +kernel
theorem dX12_noWord_0 : decode cX12_noWord 0 = .ok (.iload_n 0, 1) := by decide +kernel
theorem dX12_noWord_1 : decode cX12_noWord 1 = .ok (.i2l, 1) := by decide +kernel
theorem dX12_noWord_2 : decode cX12_noWord 2 = .ok (.lconst 0, 1) := by decide +kernel
theorem dX12_noWord_3 : decode cX12_noWord 3 = .ok (.ldc2_w 109, 3) := by decide +kernel
theorem dX12_noWord_6 : decode cX12_noWord 6 = .ok (.invokestatic 94, 3) := by decide +kernel
theorem dX12_noWord_9 : decode cX12_noWord 9 = .ok (.ifCond .ne 7, 3) := by decide +kernel
theorem dX12_noWord_12 : decode cX12_noWord 12 = .ok (.iconst 1, 1) := by decide +kernel
theorem dX12_noWord_13 : decode cX12_noWord 13 = .ok (.goto 4, 3) := by decide +kernel
theorem dX12_noWord_16 : decode cX12_noWord 16 = .ok (.iconst 0, 1) := by decide +kernel
theorem dX12_noWord_17 : decode cX12_noWord 17 = .ok (.ireturn, 1) := by decide +kernel
theorem dX12_isGroup_0 : decode cX12_isGroup 0 = .ok (.iload_n 0, 1) := by decide +kernel
theorem dX12_isGroup_1 : decode cX12_isGroup 1 = .ok (.i2l, 1) := by decide +kernel
theorem dX12_isGroup_2 : decode cX12_isGroup 2 = .ok (.lconst 0, 1) := by decide +kernel
theorem dX12_isGroup_3 : decode cX12_isGroup 3 = .ok (.ldc2_w 111, 3) := by decide +kernel
theorem dX12_isGroup_6 : decode cX12_isGroup 6 = .ok (.invokestatic 94, 3) := by decide +kernel
theorem dX12_isGroup_9 : decode cX12_isGroup 9 = .ok (.ireturn, 1) := by decide +kernel
theorem dX12_code_0 : decode cX12_code 0 = .ok (.iload_n 1, 1) := by decide +kernel
theorem dX12_code_1 : decode cX12_code 1 = .ok (.invokestatic 113, 3) := by decide +kernel
theorem dX12_code_4 : decode cX12_code 4 = .ok (.ifCond .eq 5, 3) := by decide +kernel
theorem dX12_code_7 : decode cX12_code 7 = .ok (.iconst (-1), 1) := by decide +kernel
theorem dX12_code_8 : decode cX12_code 8 = .ok (.ireturn, 1) := by decide +kernel
theorem dX12_code_9 : decode cX12_code 9 = .ok (.iload_n 2, 1) := by decide +kernel
theorem dX12_code_10 : decode cX12_code 10 = .ok (.i2l, 1) := by decide +kernel
theorem dX12_code_11 : decode cX12_code 11 = .ok (.ldc2_w 117, 3) := by decide +kernel
theorem dX12_code_14 : decode cX12_code 14 = .ok (.ldc2_w 111, 3) := by decide +kernel
theorem dX12_code_17 : decode cX12_code 17 = .ok (.invokestatic 94, 3) := by decide +kernel
theorem dX12_code_20 : decode cX12_code 20 = .ok (.ifCond .ne 6, 3) := by decide +kernel
theorem dX12_code_23 : decode cX12_code 23 = .ok (.bipush (-2), 2) := by decide +kernel
theorem dX12_code_25 : decode cX12_code 25 = .ok (.ireturn, 1) := by decide +kernel
theorem dX12_code_26 : decode cX12_code 26 = .ok (.iload_n 2, 1) := by decide +kernel
theorem dX12_code_27 : decode cX12_code 27 = .ok (.ifCond .lt 25, 3) := by decide +kernel
theorem dX12_code_30 : decode cX12_code 30 = .ok (.aload_n 0, 1) := by decide +kernel
theorem dX12_code_31 : decode cX12_code 31 = .ok (.getfield 16, 3) := by decide +kernel
theorem dX12_code_34 : decode cX12_code 34 = .ok (.iload_n 2, 1) := by decide +kernel
theorem dX12_code_35 : decode cX12_code 35 = .ok (.iaload, 1) := by decide +kernel
theorem dX12_code_36 : decode cX12_code 36 = .ok (.ifCond .lt 16, 3) := by decide +kernel
theorem dX12_code_39 : decode cX12_code 39 = .ok (.aload_n 0, 1) := by decide +kernel
theorem dX12_code_40 : decode cX12_code 40 = .ok (.getfield 16, 3) := by decide +kernel
theorem dX12_code_43 : decode cX12_code 43 = .ok (.iload_n 2, 1) := by decide +kernel
theorem dX12_code_44 : decode cX12_code 44 = .ok (.iaload, 1) := by decide +kernel
theorem dX12_code_45 : decode cX12_code 45 = .ok (.iload_n 1, 1) := by decide +kernel
theorem dX12_code_46 : decode cX12_code 46 = .ok (.if_icmp .eq 6, 3) := by decide +kernel
theorem dX12_code_49 : decode cX12_code 49 = .ok (.bipush (-3), 2) := by decide +kernel
theorem dX12_code_51 : decode cX12_code 51 = .ok (.ireturn, 1) := by decide +kernel
theorem dX12_code_52 : decode cX12_code 52 = .ok (.aload_n 0, 1) := by decide +kernel
theorem dX12_code_53 : decode cX12_code 53 = .ok (.getfield 7, 3) := by decide +kernel
theorem dX12_code_56 : decode cX12_code 56 = .ok (.iload_n 1, 1) := by decide +kernel
theorem dX12_code_57 : decode cX12_code 57 = .ok (.iaload, 1) := by decide +kernel
theorem dX12_code_58 : decode cX12_code 58 = .ok (.istore_n 3, 1) := by decide +kernel
theorem dX12_code_59 : decode cX12_code 59 = .ok (.iload_n 3, 1) := by decide +kernel
theorem dX12_code_60 : decode cX12_code 60 = .ok (.ifCond .lt 11, 3) := by decide +kernel
theorem dX12_code_63 : decode cX12_code 63 = .ok (.aload_n 0, 1) := by decide +kernel
theorem dX12_code_64 : decode cX12_code 64 = .ok (.getfield 16, 3) := by decide +kernel
theorem dX12_code_67 : decode cX12_code 67 = .ok (.iload_n 3, 1) := by decide +kernel
theorem dX12_code_68 : decode cX12_code 68 = .ok (.bipush (-9), 2) := by decide +kernel
theorem dX12_code_70 : decode cX12_code 70 = .ok (.iastore, 1) := by decide +kernel
theorem dX12_code_71 : decode cX12_code 71 = .ok (.aload_n 0, 1) := by decide +kernel
theorem dX12_code_72 : decode cX12_code 72 = .ok (.getfield 7, 3) := by decide +kernel
theorem dX12_code_75 : decode cX12_code 75 = .ok (.iload_n 1, 1) := by decide +kernel
theorem dX12_code_76 : decode cX12_code 76 = .ok (.iload_n 2, 1) := by decide +kernel
theorem dX12_code_77 : decode cX12_code 77 = .ok (.ifCond .ge 8, 3) := by decide +kernel
theorem dX12_code_80 : decode cX12_code 80 = .ok (.bipush (-9), 2) := by decide +kernel
theorem dX12_code_82 : decode cX12_code 82 = .ok (.goto 4, 3) := by decide +kernel
theorem dX12_code_85 : decode cX12_code 85 = .ok (.iload_n 2, 1) := by decide +kernel
theorem dX12_code_86 : decode cX12_code 86 = .ok (.iastore, 1) := by decide +kernel
theorem dX12_code_87 : decode cX12_code 87 = .ok (.iload_n 2, 1) := by decide +kernel
theorem dX12_code_88 : decode cX12_code 88 = .ok (.ifCond .lt 10, 3) := by decide +kernel
theorem dX12_code_91 : decode cX12_code 91 = .ok (.aload_n 0, 1) := by decide +kernel
theorem dX12_code_92 : decode cX12_code 92 = .ok (.getfield 16, 3) := by decide +kernel
theorem dX12_code_95 : decode cX12_code 95 = .ok (.iload_n 2, 1) := by decide +kernel
theorem dX12_code_96 : decode cX12_code 96 = .ok (.iload_n 1, 1) := by decide +kernel
theorem dX12_code_97 : decode cX12_code 97 = .ok (.iastore, 1) := by decide +kernel
theorem dX12_code_98 : decode cX12_code 98 = .ok (.iload_n 3, 1) := by decide +kernel
theorem dX12_code_99 : decode cX12_code 99 = .ok (.ireturn, 1) := by decide +kernel
theorem dX12_weight_0 : decode cX12_weight 0 = .ok (.iload_n 1, 1) := by decide +kernel
theorem dX12_weight_1 : decode cX12_weight 1 = .ok (.invokestatic 113, 3) := by decide +kernel
theorem dX12_weight_4 : decode cX12_weight 4 = .ok (.ifCond .eq 5, 3) := by decide +kernel
theorem dX12_weight_7 : decode cX12_weight 7 = .ok (.iconst (-1), 1) := by decide +kernel
theorem dX12_weight_8 : decode cX12_weight 8 = .ok (.ireturn, 1) := by decide +kernel
theorem dX12_weight_9 : decode cX12_weight 9 = .ok (.iload_n 2, 1) := by decide +kernel
theorem dX12_weight_10 : decode cX12_weight 10 = .ok (.i2l, 1) := by decide +kernel
theorem dX12_weight_11 : decode cX12_weight 11 = .ok (.lconst 0, 1) := by decide +kernel
theorem dX12_weight_12 : decode cX12_weight 12 = .ok (.ldc2_w 111, 3) := by decide +kernel
theorem dX12_weight_15 : decode cX12_weight 15 = .ok (.invokestatic 94, 3) := by decide +kernel
theorem dX12_weight_18 : decode cX12_weight 18 = .ok (.ifCond .ne 6, 3) := by decide +kernel
theorem dX12_weight_21 : decode cX12_weight 21 = .ok (.bipush (-2), 2) := by decide +kernel
theorem dX12_weight_23 : decode cX12_weight 23 = .ok (.ireturn, 1) := by decide +kernel
theorem dX12_weight_24 : decode cX12_weight 24 = .ok (.aload_n 0, 1) := by decide +kernel
theorem dX12_weight_25 : decode cX12_weight 25 = .ok (.getfield 13, 3) := by decide +kernel
theorem dX12_weight_28 : decode cX12_weight 28 = .ok (.iload_n 1, 1) := by decide +kernel
theorem dX12_weight_29 : decode cX12_weight 29 = .ok (.iaload, 1) := by decide +kernel
theorem dX12_weight_30 : decode cX12_weight 30 = .ok (.istore_n 3, 1) := by decide +kernel
theorem dX12_weight_31 : decode cX12_weight 31 = .ok (.aload_n 0, 1) := by decide +kernel
theorem dX12_weight_32 : decode cX12_weight 32 = .ok (.getfield 13, 3) := by decide +kernel
theorem dX12_weight_35 : decode cX12_weight 35 = .ok (.iload_n 1, 1) := by decide +kernel
theorem dX12_weight_36 : decode cX12_weight 36 = .ok (.iload_n 2, 1) := by decide +kernel
theorem dX12_weight_37 : decode cX12_weight 37 = .ok (.iastore, 1) := by decide +kernel
theorem dX12_weight_38 : decode cX12_weight 38 = .ok (.iload_n 3, 1) := by decide +kernel
theorem dX12_weight_39 : decode cX12_weight 39 = .ok (.ireturn, 1) := by decide +kernel
theorem dX12_letterOf_0 : decode cX12_letterOf 0 = .ok (.iload_n 0, 1) := by decide +kernel
theorem dX12_letterOf_1 : decode cX12_letterOf 1 = .ok (.bipush 98, 2) := by decide +kernel
theorem dX12_letterOf_3 : decode cX12_letterOf 3 = .ok (.if_icmp .ne 7, 3) := by decide +kernel
theorem dX12_letterOf_6 : decode cX12_letterOf 6 = .ok (.iconst 0, 1) := by decide +kernel
theorem dX12_letterOf_7 : decode cX12_letterOf 7 = .ok (.goto 34, 3) := by decide +kernel
theorem dX12_letterOf_10 : decode cX12_letterOf 10 = .ok (.iload_n 0, 1) := by decide +kernel
theorem dX12_letterOf_11 : decode cX12_letterOf 11 = .ok (.bipush 108, 2) := by decide +kernel
theorem dX12_letterOf_13 : decode cX12_letterOf 13 = .ok (.if_icmp .ne 7, 3) := by decide +kernel
theorem dX12_letterOf_16 : decode cX12_letterOf 16 = .ok (.iconst 1, 1) := by decide +kernel
theorem dX12_letterOf_17 : decode cX12_letterOf 17 = .ok (.goto 24, 3) := by decide +kernel
theorem dX12_letterOf_20 : decode cX12_letterOf 20 = .ok (.iload_n 0, 1) := by decide +kernel
theorem dX12_letterOf_21 : decode cX12_letterOf 21 = .ok (.bipush 99, 2) := by decide +kernel
theorem dX12_letterOf_23 : decode cX12_letterOf 23 = .ok (.if_icmp .ne 7, 3) := by decide +kernel
theorem dX12_letterOf_26 : decode cX12_letterOf 26 = .ok (.iconst 2, 1) := by decide +kernel
theorem dX12_letterOf_27 : decode cX12_letterOf 27 = .ok (.goto 14, 3) := by decide +kernel
theorem dX12_letterOf_30 : decode cX12_letterOf 30 = .ok (.iload_n 0, 1) := by decide +kernel
theorem dX12_letterOf_31 : decode cX12_letterOf 31 = .ok (.bipush 114, 2) := by decide +kernel
theorem dX12_letterOf_33 : decode cX12_letterOf 33 = .ok (.if_icmp .ne 7, 3) := by decide +kernel
theorem dX12_letterOf_36 : decode cX12_letterOf 36 = .ok (.iconst 3, 1) := by decide +kernel
theorem dX12_letterOf_37 : decode cX12_letterOf 37 = .ok (.goto 4, 3) := by decide +kernel
theorem dX12_letterOf_40 : decode cX12_letterOf 40 = .ok (.iconst (-1), 1) := by decide +kernel
theorem dX12_letterOf_41 : decode cX12_letterOf 41 = .ok (.ireturn, 1) := by decide +kernel
theorem dX12_readsNumber_0 : decode cX12_readsNumber 0 = .ok (.aload_n 0, 1) := by decide +kernel
theorem dX12_readsNumber_1 : decode cX12_readsNumber 1 = .ok (.getfield 119, 3) := by decide +kernel
theorem dX12_readsNumber_4 : decode cX12_readsNumber 4 = .ok (.istore 4, 2) := by decide +kernel
theorem dX12_readsNumber_6 : decode cX12_readsNumber 6 = .ok (.iconst 0, 1) := by decide +kernel
theorem dX12_readsNumber_7 : decode cX12_readsNumber 7 = .ok (.istore 5, 2) := by decide +kernel
theorem dX12_readsNumber_9 : decode cX12_readsNumber 9 = .ok (.aload_n 0, 1) := by decide +kernel
theorem dX12_readsNumber_10 : decode cX12_readsNumber 10 = .ok (.getfield 119, 3) := by decide +kernel
theorem dX12_readsNumber_13 : decode cX12_readsNumber 13 = .ok (.iload_n 3, 1) := by decide +kernel
theorem dX12_readsNumber_14 : decode cX12_readsNumber 14 = .ok (.if_icmp .ge 73, 3) := by decide +kernel
theorem dX12_readsNumber_17 : decode cX12_readsNumber 17 = .ok (.aload_n 0, 1) := by decide +kernel
theorem dX12_readsNumber_18 : decode cX12_readsNumber 18 = .ok (.getfield 119, 3) := by decide +kernel
theorem dX12_readsNumber_21 : decode cX12_readsNumber 21 = .ok (.iload 4, 2) := by decide +kernel
theorem dX12_readsNumber_23 : decode cX12_readsNumber 23 = .ok (.iconst 2, 1) := by decide +kernel
theorem dX12_readsNumber_24 : decode cX12_readsNumber 24 = .ok (.iadd, 1) := by decide +kernel
theorem dX12_readsNumber_25 : decode cX12_readsNumber 25 = .ok (.if_icmp .ge 62, 3) := by decide +kernel
theorem dX12_readsNumber_28 : decode cX12_readsNumber 28 = .ok (.aload_n 0, 1) := by decide +kernel
theorem dX12_readsNumber_29 : decode cX12_readsNumber 29 = .ok (.getfield 70, 3) := by decide +kernel
theorem dX12_readsNumber_32 : decode cX12_readsNumber 32 = .ok (.iload_n 2, 1) := by decide +kernel
theorem dX12_readsNumber_33 : decode cX12_readsNumber 33 = .ok (.aload_n 0, 1) := by decide +kernel
theorem dX12_readsNumber_34 : decode cX12_readsNumber 34 = .ok (.getfield 119, 3) := by decide +kernel
theorem dX12_readsNumber_37 : decode cX12_readsNumber 37 = .ok (.iadd, 1) := by decide +kernel
theorem dX12_readsNumber_38 : decode cX12_readsNumber 38 = .ok (.iaload, 1) := by decide +kernel
theorem dX12_readsNumber_39 : decode cX12_readsNumber 39 = .ok (.i2l, 1) := by decide +kernel
theorem dX12_readsNumber_40 : decode cX12_readsNumber 40 = .ok (.ldc2_w 122, 3) := by decide +kernel
theorem dX12_readsNumber_43 : decode cX12_readsNumber 43 = .ok (.ldc2_w 124, 3) := by decide +kernel
theorem dX12_readsNumber_46 : decode cX12_readsNumber 46 = .ok (.invokestatic 94, 3) := by decide +kernel
theorem dX12_readsNumber_49 : decode cX12_readsNumber 49 = .ok (.ifCond .eq 38, 3) := by decide +kernel
theorem dX12_readsNumber_52 : decode cX12_readsNumber 52 = .ok (.bipush 10, 2) := by decide +kernel
theorem dX12_readsNumber_54 : decode cX12_readsNumber 54 = .ok (.iload 5, 2) := by decide +kernel
theorem dX12_readsNumber_56 : decode cX12_readsNumber 56 = .ok (.imul, 1) := by decide +kernel
theorem dX12_readsNumber_57 : decode cX12_readsNumber 57 = .ok (.aload_n 0, 1) := by decide +kernel
theorem dX12_readsNumber_58 : decode cX12_readsNumber 58 = .ok (.getfield 70, 3) := by decide +kernel
theorem dX12_readsNumber_61 : decode cX12_readsNumber 61 = .ok (.iload_n 2, 1) := by decide +kernel
theorem dX12_readsNumber_62 : decode cX12_readsNumber 62 = .ok (.aload_n 0, 1) := by decide +kernel
theorem dX12_readsNumber_63 : decode cX12_readsNumber 63 = .ok (.getfield 119, 3) := by decide +kernel
theorem dX12_readsNumber_66 : decode cX12_readsNumber 66 = .ok (.iadd, 1) := by decide +kernel
theorem dX12_readsNumber_67 : decode cX12_readsNumber 67 = .ok (.iaload, 1) := by decide +kernel
theorem dX12_readsNumber_68 : decode cX12_readsNumber 68 = .ok (.iadd, 1) := by decide +kernel
theorem dX12_readsNumber_69 : decode cX12_readsNumber 69 = .ok (.bipush 48, 2) := by decide +kernel
theorem dX12_readsNumber_71 : decode cX12_readsNumber 71 = .ok (.isub, 1) := by decide +kernel
theorem dX12_readsNumber_72 : decode cX12_readsNumber 72 = .ok (.istore 5, 2) := by decide +kernel
theorem dX12_readsNumber_74 : decode cX12_readsNumber 74 = .ok (.aload_n 0, 1) := by decide +kernel
theorem dX12_readsNumber_75 : decode cX12_readsNumber 75 = .ok (.dup, 1) := by decide +kernel
theorem dX12_readsNumber_76 : decode cX12_readsNumber 76 = .ok (.getfield 119, 3) := by decide +kernel
theorem dX12_readsNumber_79 : decode cX12_readsNumber 79 = .ok (.iconst 1, 1) := by decide +kernel
theorem dX12_readsNumber_80 : decode cX12_readsNumber 80 = .ok (.iadd, 1) := by decide +kernel
theorem dX12_readsNumber_81 : decode cX12_readsNumber 81 = .ok (.putfield 119, 3) := by decide +kernel
theorem dX12_readsNumber_84 : decode cX12_readsNumber 84 = .ok (.goto (-75), 3) := by decide +kernel
theorem dX12_readsNumber_87 : decode cX12_readsNumber 87 = .ok (.iload_n 1, 1) := by decide +kernel
theorem dX12_readsNumber_88 : decode cX12_readsNumber 88 = .ok (.ifCond .eq 30, 3) := by decide +kernel
theorem dX12_readsNumber_91 : decode cX12_readsNumber 91 = .ok (.iload_n 1, 1) := by decide +kernel
theorem dX12_readsNumber_92 : decode cX12_readsNumber 92 = .ok (.iconst 1, 1) := by decide +kernel
theorem dX12_readsNumber_93 : decode cX12_readsNumber 93 = .ok (.if_icmp .ne 19, 3) := by decide +kernel
theorem dX12_readsNumber_96 : decode cX12_readsNumber 96 = .ok (.iload 5, 2) := by decide +kernel
theorem dX12_readsNumber_98 : decode cX12_readsNumber 98 = .ok (.i2l, 1) := by decide +kernel
theorem dX12_readsNumber_99 : decode cX12_readsNumber 99 = .ok (.lconst 1, 1) := by decide +kernel
theorem dX12_readsNumber_100 : decode cX12_readsNumber 100 = .ok (.ldc2_w 126, 3) := by decide +kernel
theorem dX12_readsNumber_103 : decode cX12_readsNumber 103 = .ok (.invokestatic 94, 3) := by decide +kernel
theorem dX12_readsNumber_106 : decode cX12_readsNumber 106 = .ok (.ifCond .eq 16, 3) := by decide +kernel
theorem dX12_readsNumber_109 : decode cX12_readsNumber 109 = .ok (.goto 9, 3) := by decide +kernel
theorem dX12_readsNumber_112 : decode cX12_readsNumber 112 = .ok (.iload 5, 2) := by decide +kernel
theorem dX12_readsNumber_114 : decode cX12_readsNumber 114 = .ok (.iconst 2, 1) := by decide +kernel
theorem dX12_readsNumber_115 : decode cX12_readsNumber 115 = .ok (.if_icmp .ge 7, 3) := by decide +kernel
theorem dX12_readsNumber_118 : decode cX12_readsNumber 118 = .ok (.iconst 1, 1) := by decide +kernel
theorem dX12_readsNumber_119 : decode cX12_readsNumber 119 = .ok (.goto 4, 3) := by decide +kernel
theorem dX12_readsNumber_122 : decode cX12_readsNumber 122 = .ok (.iconst 0, 1) := by decide +kernel
theorem dX12_readsNumber_123 : decode cX12_readsNumber 123 = .ok (.istore 6, 2) := by decide +kernel
theorem dX12_readsNumber_125 : decode cX12_readsNumber 125 = .ok (.aload_n 0, 1) := by decide +kernel
theorem dX12_readsNumber_126 : decode cX12_readsNumber 126 = .ok (.getfield 119, 3) := by decide +kernel
theorem dX12_readsNumber_129 : decode cX12_readsNumber 129 = .ok (.iload 4, 2) := by decide +kernel
theorem dX12_readsNumber_131 : decode cX12_readsNumber 131 = .ok (.if_icmp .le 14, 3) := by decide +kernel
theorem dX12_readsNumber_134 : decode cX12_readsNumber 134 = .ok (.iload 6, 2) := by decide +kernel
theorem dX12_readsNumber_136 : decode cX12_readsNumber 136 = .ok (.ifCond .ne 9, 3) := by decide +kernel
theorem dX12_readsNumber_139 : decode cX12_readsNumber 139 = .ok (.aload_n 0, 1) := by decide +kernel
theorem dX12_readsNumber_140 : decode cX12_readsNumber 140 = .ok (.iload 4, 2) := by decide +kernel
theorem dX12_readsNumber_142 : decode cX12_readsNumber 142 = .ok (.putfield 119, 3) := by decide +kernel
theorem dX12_readsNumber_145 : decode cX12_readsNumber 145 = .ok (.aload_n 0, 1) := by decide +kernel
theorem dX12_readsNumber_146 : decode cX12_readsNumber 146 = .ok (.getfield 19, 3) := by decide +kernel
theorem dX12_readsNumber_149 : decode cX12_readsNumber 149 = .ok (.iload_n 1, 1) := by decide +kernel
theorem dX12_readsNumber_150 : decode cX12_readsNumber 150 = .ok (.iload 5, 2) := by decide +kernel
theorem dX12_readsNumber_152 : decode cX12_readsNumber 152 = .ok (.iastore, 1) := by decide +kernel
theorem dX12_readsNumber_153 : decode cX12_readsNumber 153 = .ok (.aload_n 0, 1) := by decide +kernel
theorem dX12_readsNumber_154 : decode cX12_readsNumber 154 = .ok (.getfield 119, 3) := by decide +kernel
theorem dX12_readsNumber_157 : decode cX12_readsNumber 157 = .ok (.iload 4, 2) := by decide +kernel
theorem dX12_readsNumber_159 : decode cX12_readsNumber 159 = .ok (.if_icmp .le 7, 3) := by decide +kernel
theorem dX12_readsNumber_162 : decode cX12_readsNumber 162 = .ok (.iconst 1, 1) := by decide +kernel
theorem dX12_readsNumber_163 : decode cX12_readsNumber 163 = .ok (.goto 4, 3) := by decide +kernel
theorem dX12_readsNumber_166 : decode cX12_readsNumber 166 = .ok (.iconst 0, 1) := by decide +kernel
theorem dX12_readsNumber_167 : decode cX12_readsNumber 167 = .ok (.ireturn, 1) := by decide +kernel
theorem dX12_readDrill_0 : decode cX12_readDrill 0 = .ok (.aload_n 0, 1) := by decide +kernel
theorem dX12_readDrill_1 : decode cX12_readDrill 1 = .ok (.iconst 0, 1) := by decide +kernel
theorem dX12_readDrill_2 : decode cX12_readDrill 2 = .ok (.putfield 119, 3) := by decide +kernel
theorem dX12_readDrill_5 : decode cX12_readDrill 5 = .ok (.iconst 0, 1) := by decide +kernel
theorem dX12_readDrill_6 : decode cX12_readDrill 6 = .ok (.istore_n 3, 1) := by decide +kernel
theorem dX12_readDrill_7 : decode cX12_readDrill 7 = .ok (.iload_n 3, 1) := by decide +kernel
theorem dX12_readDrill_8 : decode cX12_readDrill 8 = .ok (.iconst 4, 1) := by decide +kernel
theorem dX12_readDrill_9 : decode cX12_readDrill 9 = .ok (.if_icmp .ge 17, 3) := by decide +kernel
theorem dX12_readDrill_12 : decode cX12_readDrill 12 = .ok (.aload_n 0, 1) := by decide +kernel
theorem dX12_readDrill_13 : decode cX12_readDrill 13 = .ok (.getfield 19, 3) := by decide +kernel
theorem dX12_readDrill_16 : decode cX12_readDrill 16 = .ok (.iload_n 3, 1) := by decide +kernel
theorem dX12_readDrill_17 : decode cX12_readDrill 17 = .ok (.bipush (-9), 2) := by decide +kernel
theorem dX12_readDrill_19 : decode cX12_readDrill 19 = .ok (.iastore, 1) := by decide +kernel
theorem dX12_readDrill_20 : decode cX12_readDrill 20 = .ok (.iinc 3 1, 3) := by decide +kernel
theorem dX12_readDrill_23 : decode cX12_readDrill 23 = .ok (.goto (-16), 3) := by decide +kernel
theorem dX12_readDrill_26 : decode cX12_readDrill 26 = .ok (.iload_n 2, 1) := by decide +kernel
theorem dX12_readDrill_27 : decode cX12_readDrill 27 = .ok (.ifCond .le 7, 3) := by decide +kernel
theorem dX12_readDrill_30 : decode cX12_readDrill 30 = .ok (.iconst 1, 1) := by decide +kernel
theorem dX12_readDrill_31 : decode cX12_readDrill 31 = .ok (.goto 4, 3) := by decide +kernel
theorem dX12_readDrill_34 : decode cX12_readDrill 34 = .ok (.iconst 0, 1) := by decide +kernel
theorem dX12_readDrill_35 : decode cX12_readDrill 35 = .ok (.istore_n 3, 1) := by decide +kernel
theorem dX12_readDrill_36 : decode cX12_readDrill 36 = .ok (.iload_n 3, 1) := by decide +kernel
theorem dX12_readDrill_37 : decode cX12_readDrill 37 = .ok (.ifCond .eq 181, 3) := by decide +kernel
theorem dX12_readDrill_40 : decode cX12_readDrill 40 = .ok (.aload_n 0, 1) := by decide +kernel
theorem dX12_readDrill_41 : decode cX12_readDrill 41 = .ok (.getfield 119, 3) := by decide +kernel
theorem dX12_readDrill_44 : decode cX12_readDrill 44 = .ok (.iload_n 2, 1) := by decide +kernel
theorem dX12_readDrill_45 : decode cX12_readDrill 45 = .ok (.if_icmp .ge 20, 3) := by decide +kernel
theorem dX12_readDrill_48 : decode cX12_readDrill 48 = .ok (.aload_n 0, 1) := by decide +kernel
theorem dX12_readDrill_49 : decode cX12_readDrill 49 = .ok (.getfield 70, 3) := by decide +kernel
theorem dX12_readDrill_52 : decode cX12_readDrill 52 = .ok (.iload_n 1, 1) := by decide +kernel
theorem dX12_readDrill_53 : decode cX12_readDrill 53 = .ok (.aload_n 0, 1) := by decide +kernel
theorem dX12_readDrill_54 : decode cX12_readDrill 54 = .ok (.getfield 119, 3) := by decide +kernel
theorem dX12_readDrill_57 : decode cX12_readDrill 57 = .ok (.iadd, 1) := by decide +kernel
theorem dX12_readDrill_58 : decode cX12_readDrill 58 = .ok (.iaload, 1) := by decide +kernel
theorem dX12_readDrill_59 : decode cX12_readDrill 59 = .ok (.invokestatic 128, 3) := by decide +kernel
theorem dX12_readDrill_62 : decode cX12_readDrill 62 = .ok (.goto 4, 3) := by decide +kernel
theorem dX12_readDrill_65 : decode cX12_readDrill 65 = .ok (.iconst (-1), 1) := by decide +kernel
theorem dX12_readDrill_66 : decode cX12_readDrill 66 = .ok (.istore 4, 2) := by decide +kernel
theorem dX12_readDrill_68 : decode cX12_readDrill 68 = .ok (.iload 4, 2) := by decide +kernel
theorem dX12_readDrill_70 : decode cX12_readDrill 70 = .ok (.ifCond .lt 13, 3) := by decide +kernel
theorem dX12_readDrill_73 : decode cX12_readDrill 73 = .ok (.aload_n 0, 1) := by decide +kernel
theorem dX12_readDrill_74 : decode cX12_readDrill 74 = .ok (.getfield 19, 3) := by decide +kernel
theorem dX12_readDrill_77 : decode cX12_readDrill 77 = .ok (.iload 4, 2) := by decide +kernel
theorem dX12_readDrill_79 : decode cX12_readDrill 79 = .ok (.iaload, 1) := by decide +kernel
theorem dX12_readDrill_80 : decode cX12_readDrill 80 = .ok (.ifCond .lt 8, 3) := by decide +kernel
theorem dX12_readDrill_83 : decode cX12_readDrill 83 = .ok (.aload_n 0, 1) := by decide +kernel
theorem dX12_readDrill_84 : decode cX12_readDrill 84 = .ok (.getfield 119, 3) := by decide +kernel
theorem dX12_readDrill_87 : decode cX12_readDrill 87 = .ok (.ireturn, 1) := by decide +kernel
theorem dX12_readDrill_88 : decode cX12_readDrill 88 = .ok (.aload_n 0, 1) := by decide +kernel
theorem dX12_readDrill_89 : decode cX12_readDrill 89 = .ok (.dup, 1) := by decide +kernel
theorem dX12_readDrill_90 : decode cX12_readDrill 90 = .ok (.getfield 119, 3) := by decide +kernel
theorem dX12_readDrill_93 : decode cX12_readDrill 93 = .ok (.iconst 1, 1) := by decide +kernel
theorem dX12_readDrill_94 : decode cX12_readDrill 94 = .ok (.iadd, 1) := by decide +kernel
theorem dX12_readDrill_95 : decode cX12_readDrill 95 = .ok (.putfield 119, 3) := by decide +kernel
theorem dX12_readDrill_98 : decode cX12_readDrill 98 = .ok (.iload 4, 2) := by decide +kernel
theorem dX12_readDrill_100 : decode cX12_readDrill 100 = .ok (.iconst 2, 1) := by decide +kernel
theorem dX12_readDrill_101 : decode cX12_readDrill 101 = .ok (.if_icmp .ne 13, 3) := by decide +kernel
theorem dX12_readDrill_104 : decode cX12_readDrill 104 = .ok (.aload_n 0, 1) := by decide +kernel
theorem dX12_readDrill_105 : decode cX12_readDrill 105 = .ok (.getfield 19, 3) := by decide +kernel
theorem dX12_readDrill_108 : decode cX12_readDrill 108 = .ok (.iconst 2, 1) := by decide +kernel
theorem dX12_readDrill_109 : decode cX12_readDrill 109 = .ok (.iconst 1, 1) := by decide +kernel
theorem dX12_readDrill_110 : decode cX12_readDrill 110 = .ok (.iastore, 1) := by decide +kernel
theorem dX12_readDrill_111 : decode cX12_readDrill 111 = .ok (.goto 19, 3) := by decide +kernel
theorem dX12_readDrill_114 : decode cX12_readDrill 114 = .ok (.aload_n 0, 1) := by decide +kernel
theorem dX12_readDrill_115 : decode cX12_readDrill 115 = .ok (.iload 4, 2) := by decide +kernel
theorem dX12_readDrill_117 : decode cX12_readDrill 117 = .ok (.iload_n 1, 1) := by decide +kernel
theorem dX12_readDrill_118 : decode cX12_readDrill 118 = .ok (.iload_n 2, 1) := by decide +kernel
theorem dX12_readDrill_119 : decode cX12_readDrill 119 = .ok (.invokevirtual 131, 3) := by decide +kernel
