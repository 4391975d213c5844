theorem dX7_sheet_44 : decode cX7_sheet 44 = .ok (.aload_n 0, 1) := by decide +kernel
theorem dX7_sheet_45 : decode cX7_sheet 45 = .ok (.getfield 55, 3) := by decide +kernel
theorem dX7_sheet_48 : decode cX7_sheet 48 = .ok (.iload_n 1, 1) := by decide +kernel
theorem dX7_sheet_49 : decode cX7_sheet 49 = .ok (.new 53, 3) := by decide +kernel
theorem dX7_sheet_52 : decode cX7_sheet 52 = .ok (.dup, 1) := by decide +kernel
theorem dX7_sheet_53 : decode cX7_sheet 53 = .ok (.iload_n 2, 1) := by decide +kernel
theorem dX7_sheet_54 : decode cX7_sheet 54 = .ok (.iload_n 3, 1) := by decide +kernel
theorem dX7_sheet_55 : decode cX7_sheet 55 = .ok (.invokespecial 257, 3) := by decide +kernel
theorem dX7_sheet_58 : decode cX7_sheet 58 = .ok (.aastore, 1) := by decide +kernel
theorem dX7_sheet_59 : decode cX7_sheet 59 = .ok (.iconst 1, 1) := by decide +kernel
theorem dX7_sheet_60 : decode cX7_sheet 60 = .ok (.ireturn, 1) := by decide +kernel
theorem dX7_lose_0 : decode cX7_lose 0 = .ok (.iload_n 1, 1) := by decide +kernel
theorem dX7_lose_1 : decode cX7_lose 1 = .ok (.iconst 0, 1) := by decide +kernel
theorem dX7_lose_2 : decode cX7_lose 2 = .ok (.iconst 3, 1) := by decide +kernel
theorem dX7_lose_3 : decode cX7_lose 3 = .ok (.invokestatic 66, 3) := by decide +kernel
theorem dX7_lose_6 : decode cX7_lose 6 = .ok (.ifCond .ne 5, 3) := by decide +kernel
theorem dX7_lose_9 : decode cX7_lose 9 = .ok (.iconst (-1), 1) := by decide +kernel
theorem dX7_lose_10 : decode cX7_lose 10 = .ok (.ireturn, 1) := by decide +kernel
theorem dX7_lose_11 : decode cX7_lose 11 = .ok (.aload_n 0, 1) := by decide +kernel
theorem dX7_lose_12 : decode cX7_lose 12 = .ok (.getfield 55, 3) := by decide +kernel
theorem dX7_lose_15 : decode cX7_lose 15 = .ok (.iload_n 1, 1) := by decide +kernel
theorem dX7_lose_16 : decode cX7_lose 16 = .ok (.aaload, 1) := by decide +kernel
theorem dX7_lose_17 : decode cX7_lose 17 = .ok (.ifnonnull 7, 3) := by decide +kernel
theorem dX7_lose_20 : decode cX7_lose 20 = .ok (.iconst 0, 1) := by decide +kernel
theorem dX7_lose_21 : decode cX7_lose 21 = .ok (.goto 4, 3) := by decide +kernel
theorem dX7_lose_24 : decode cX7_lose 24 = .ok (.iconst 1, 1) := by decide +kernel
theorem dX7_lose_25 : decode cX7_lose 25 = .ok (.istore_n 2, 1) := by decide +kernel
theorem dX7_lose_26 : decode cX7_lose 26 = .ok (.aload_n 0, 1) := by decide +kernel
theorem dX7_lose_27 : decode cX7_lose 27 = .ok (.getfield 55, 3) := by decide +kernel
theorem dX7_lose_30 : decode cX7_lose 30 = .ok (.iload_n 1, 1) := by decide +kernel
theorem dX7_lose_31 : decode cX7_lose 31 = .ok (.aconst_null, 1) := by decide +kernel
theorem dX7_lose_32 : decode cX7_lose 32 = .ok (.aastore, 1) := by decide +kernel
theorem dX7_lose_33 : decode cX7_lose 33 = .ok (.iload_n 2, 1) := by decide +kernel
theorem dX7_lose_34 : decode cX7_lose 34 = .ok (.ireturn, 1) := by decide +kernel
theorem dX7_put_0 : decode cX7_put 0 = .ok (.aload_n 0, 1) := by decide +kernel
theorem dX7_put_1 : decode cX7_put 1 = .ok (.iconst 0, 1) := by decide +kernel
theorem dX7_put_2 : decode cX7_put 2 = .ok (.putfield 62, 3) := by decide +kernel
theorem dX7_put_5 : decode cX7_put 5 = .ok (.iload_n 1, 1) := by decide +kernel
theorem dX7_put_6 : decode cX7_put 6 = .ok (.iconst 0, 1) := by decide +kernel
theorem dX7_put_7 : decode cX7_put 7 = .ok (.iconst 3, 1) := by decide +kernel
theorem dX7_put_8 : decode cX7_put 8 = .ok (.invokestatic 66, 3) := by decide +kernel
theorem dX7_put_11 : decode cX7_put 11 = .ok (.ifCond .ne 5, 3) := by decide +kernel
theorem dX7_put_14 : decode cX7_put 14 = .ok (.iconst (-1), 1) := by decide +kernel
theorem dX7_put_15 : decode cX7_put 15 = .ok (.ireturn, 1) := by decide +kernel
theorem dX7_put_16 : decode cX7_put 16 = .ok (.aload_n 0, 1) := by decide +kernel
theorem dX7_put_17 : decode cX7_put 17 = .ok (.getfield 55, 3) := by decide +kernel
theorem dX7_put_20 : decode cX7_put 20 = .ok (.iload_n 1, 1) := by decide +kernel
theorem dX7_put_21 : decode cX7_put 21 = .ok (.aaload, 1) := by decide +kernel
theorem dX7_put_22 : decode cX7_put 22 = .ok (.astore 4, 2) := by decide +kernel
theorem dX7_put_24 : decode cX7_put 24 = .ok (.aload 4, 2) := by decide +kernel
theorem dX7_put_26 : decode cX7_put 26 = .ok (.ifnonnull 9, 3) := by decide +kernel
theorem dX7_put_29 : decode cX7_put 29 = .ok (.aload_n 0, 1) := by decide +kernel
theorem dX7_put_30 : decode cX7_put 30 = .ok (.iconst 1, 1) := by decide +kernel
theorem dX7_put_31 : decode cX7_put 31 = .ok (.invokevirtual 70, 3) := by decide +kernel
theorem dX7_put_34 : decode cX7_put 34 = .ok (.ireturn, 1) := by decide +kernel
theorem dX7_put_35 : decode cX7_put 35 = .ok (.iload_n 2, 1) := by decide +kernel
theorem dX7_put_36 : decode cX7_put 36 = .ok (.iconst 0, 1) := by decide +kernel
theorem dX7_put_37 : decode cX7_put 37 = .ok (.aload 4, 2) := by decide +kernel
theorem dX7_put_39 : decode cX7_put 39 = .ok (.getfield 81, 3) := by decide +kernel
theorem dX7_put_42 : decode cX7_put 42 = .ok (.arraylength, 1) := by decide +kernel
theorem dX7_put_43 : decode cX7_put 43 = .ok (.iconst 1, 1) := by decide +kernel
theorem dX7_put_44 : decode cX7_put 44 = .ok (.isub, 1) := by decide +kernel
theorem dX7_put_45 : decode cX7_put 45 = .ok (.invokestatic 66, 3) := by decide +kernel
theorem dX7_put_48 : decode cX7_put 48 = .ok (.ifCond .ne 9, 3) := by decide +kernel
theorem dX7_put_51 : decode cX7_put 51 = .ok (.aload_n 0, 1) := by decide +kernel
theorem dX7_put_52 : decode cX7_put 52 = .ok (.iconst 3, 1) := by decide +kernel
theorem dX7_put_53 : decode cX7_put 53 = .ok (.invokevirtual 70, 3) := by decide +kernel
theorem dX7_put_56 : decode cX7_put 56 = .ok (.ireturn, 1) := by decide +kernel
theorem dX7_put_57 : decode cX7_put 57 = .ok (.aload 4, 2) := by decide +kernel
theorem dX7_put_59 : decode cX7_put 59 = .ok (.getfield 81, 3) := by decide +kernel
theorem dX7_put_62 : decode cX7_put 62 = .ok (.iload_n 2, 1) := by decide +kernel
theorem dX7_put_63 : decode cX7_put 63 = .ok (.iload_n 3, 1) := by decide +kernel
theorem dX7_put_64 : decode cX7_put 64 = .ok (.aload 4, 2) := by decide +kernel
theorem dX7_put_66 : decode cX7_put 66 = .ok (.getfield 74, 3) := by decide +kernel
theorem dX7_put_69 : decode cX7_put 69 = .ok (.invokestatic 260, 3) := by decide +kernel
theorem dX7_put_72 : decode cX7_put 72 = .ok (.iastore, 1) := by decide +kernel
theorem dX7_put_73 : decode cX7_put 73 = .ok (.iconst 1, 1) := by decide +kernel
theorem dX7_put_74 : decode cX7_put 74 = .ok (.ireturn, 1) := by decide +kernel
theorem dX7_cell_0 : decode cX7_cell 0 = .ok (.aload_n 0, 1) := by decide +kernel
theorem dX7_cell_1 : decode cX7_cell 1 = .ok (.iconst 0, 1) := by decide +kernel
theorem dX7_cell_2 : decode cX7_cell 2 = .ok (.putfield 62, 3) := by decide +kernel
theorem dX7_cell_5 : decode cX7_cell 5 = .ok (.iload_n 1, 1) := by decide +kernel
theorem dX7_cell_6 : decode cX7_cell 6 = .ok (.iconst 0, 1) := by decide +kernel
theorem dX7_cell_7 : decode cX7_cell 7 = .ok (.iconst 3, 1) := by decide +kernel
theorem dX7_cell_8 : decode cX7_cell 8 = .ok (.invokestatic 66, 3) := by decide +kernel
theorem dX7_cell_11 : decode cX7_cell 11 = .ok (.ifCond .eq 12, 3) := by decide +kernel
theorem dX7_cell_14 : decode cX7_cell 14 = .ok (.iload_n 3, 1) := by decide +kernel
theorem dX7_cell_15 : decode cX7_cell 15 = .ok (.iconst 0, 1) := by decide +kernel
theorem dX7_cell_16 : decode cX7_cell 16 = .ok (.iconst 2, 1) := by decide +kernel
theorem dX7_cell_17 : decode cX7_cell 17 = .ok (.invokestatic 66, 3) := by decide +kernel
theorem dX7_cell_20 : decode cX7_cell 20 = .ok (.ifCond .ne 7, 3) := by decide +kernel
theorem dX7_cell_23 : decode cX7_cell 23 = .ok (.ldc2_w 231, 3) := by decide +kernel
theorem dX7_cell_26 : decode cX7_cell 26 = .ok (.lreturn, 1) := by decide +kernel
theorem dX7_cell_27 : decode cX7_cell 27 = .ok (.aload_n 0, 1) := by decide +kernel
theorem dX7_cell_28 : decode cX7_cell 28 = .ok (.getfield 55, 3) := by decide +kernel
theorem dX7_cell_31 : decode cX7_cell 31 = .ok (.iload_n 1, 1) := by decide +kernel
theorem dX7_cell_32 : decode cX7_cell 32 = .ok (.aaload, 1) := by decide +kernel
theorem dX7_cell_33 : decode cX7_cell 33 = .ok (.astore 4, 2) := by decide +kernel
theorem dX7_cell_35 : decode cX7_cell 35 = .ok (.aload 4, 2) := by decide +kernel
theorem dX7_cell_37 : decode cX7_cell 37 = .ok (.ifnonnull 12, 3) := by decide +kernel
theorem dX7_cell_40 : decode cX7_cell 40 = .ok (.aload_n 0, 1) := by decide +kernel
theorem dX7_cell_41 : decode cX7_cell 41 = .ok (.iconst 1, 1) := by decide +kernel
theorem dX7_cell_42 : decode cX7_cell 42 = .ok (.putfield 62, 3) := by decide +kernel
theorem dX7_cell_45 : decode cX7_cell 45 = .ok (.ldc2_w 231, 3) := by decide +kernel
theorem dX7_cell_48 : decode cX7_cell 48 = .ok (.lreturn, 1) := by decide +kernel
theorem dX7_cell_49 : decode cX7_cell 49 = .ok (.aload 4, 2) := by decide +kernel
theorem dX7_cell_51 : decode cX7_cell 51 = .ok (.getfield 74, 3) := by decide +kernel
theorem dX7_cell_54 : decode cX7_cell 54 = .ok (.iload_n 3, 1) := by decide +kernel
theorem dX7_cell_55 : decode cX7_cell 55 = .ok (.if_icmp .eq 12, 3) := by decide +kernel
theorem dX7_cell_58 : decode cX7_cell 58 = .ok (.aload_n 0, 1) := by decide +kernel
theorem dX7_cell_59 : decode cX7_cell 59 = .ok (.iconst 2, 1) := by decide +kernel
theorem dX7_cell_60 : decode cX7_cell 60 = .ok (.putfield 62, 3) := by decide +kernel
theorem dX7_cell_63 : decode cX7_cell 63 = .ok (.ldc2_w 231, 3) := by decide +kernel
theorem dX7_cell_66 : decode cX7_cell 66 = .ok (.lreturn, 1) := by decide +kernel
theorem dX7_cell_67 : decode cX7_cell 67 = .ok (.iload_n 2, 1) := by decide +kernel
theorem dX7_cell_68 : decode cX7_cell 68 = .ok (.iconst 0, 1) := by decide +kernel
theorem dX7_cell_69 : decode cX7_cell 69 = .ok (.aload 4, 2) := by decide +kernel
theorem dX7_cell_71 : decode cX7_cell 71 = .ok (.getfield 81, 3) := by decide +kernel
theorem dX7_cell_74 : decode cX7_cell 74 = .ok (.arraylength, 1) := by decide +kernel
theorem dX7_cell_75 : decode cX7_cell 75 = .ok (.iconst 1, 1) := by decide +kernel
theorem dX7_cell_76 : decode cX7_cell 76 = .ok (.isub, 1) := by decide +kernel
theorem dX7_cell_77 : decode cX7_cell 77 = .ok (.invokestatic 66, 3) := by decide +kernel
theorem dX7_cell_80 : decode cX7_cell 80 = .ok (.ifCond .ne 12, 3) := by decide +kernel
theorem dX7_cell_83 : decode cX7_cell 83 = .ok (.aload_n 0, 1) := by decide +kernel
theorem dX7_cell_84 : decode cX7_cell 84 = .ok (.iconst 3, 1) := by decide +kernel
theorem dX7_cell_85 : decode cX7_cell 85 = .ok (.putfield 62, 3) := by decide +kernel
theorem dX7_cell_88 : decode cX7_cell 88 = .ok (.ldc2_w 231, 3) := by decide +kernel
theorem dX7_cell_91 : decode cX7_cell 91 = .ok (.lreturn, 1) := by decide +kernel
theorem dX7_cell_92 : decode cX7_cell 92 = .ok (.aload 4, 2) := by decide +kernel
theorem dX7_cell_94 : decode cX7_cell 94 = .ok (.getfield 81, 3) := by decide +kernel
theorem dX7_cell_97 : decode cX7_cell 97 = .ok (.iload_n 2, 1) := by decide +kernel
theorem dX7_cell_98 : decode cX7_cell 98 = .ok (.iaload, 1) := by decide +kernel
theorem dX7_cell_99 : decode cX7_cell 99 = .ok (.i2l, 1) := by decide +kernel
theorem dX7_cell_100 : decode cX7_cell 100 = .ok (.lreturn, 1) := by decide +kernel
theorem dX7_copy_0 : decode cX7_copy 0 = .ok (.aload_n 0, 1) := by decide +kernel
theorem dX7_copy_1 : decode cX7_copy 1 = .ok (.iconst 0, 1) := by decide +kernel
theorem dX7_copy_2 : decode cX7_copy 2 = .ok (.putfield 62, 3) := by decide +kernel
theorem dX7_copy_5 : decode cX7_copy 5 = .ok (.iload_n 1, 1) := by decide +kernel
theorem dX7_copy_6 : decode cX7_copy 6 = .ok (.iconst 0, 1) := by decide +kernel
theorem dX7_copy_7 : decode cX7_copy 7 = .ok (.iconst 3, 1) := by decide +kernel
theorem dX7_copy_8 : decode cX7_copy 8 = .ok (.invokestatic 66, 3) := by decide +kernel
theorem dX7_copy_11 : decode cX7_copy 11 = .ok (.ifCond .eq 12, 3) := by decide +kernel
theorem dX7_copy_14 : decode cX7_copy 14 = .ok (.iload_n 3, 1) := by decide +kernel
theorem dX7_copy_15 : decode cX7_copy 15 = .ok (.iconst 0, 1) := by decide +kernel
theorem dX7_copy_16 : decode cX7_copy 16 = .ok (.iconst 3, 1) := by decide +kernel
theorem dX7_copy_17 : decode cX7_copy 17 = .ok (.invokestatic 66, 3) := by decide +kernel
theorem dX7_copy_20 : decode cX7_copy 20 = .ok (.ifCond .ne 5, 3) := by decide +kernel
theorem dX7_copy_23 : decode cX7_copy 23 = .ok (.iconst (-1), 1) := by decide +kernel
theorem dX7_copy_24 : decode cX7_copy 24 = .ok (.ireturn, 1) := by decide +kernel
theorem dX7_copy_25 : decode cX7_copy 25 = .ok (.aload_n 0, 1) := by decide +kernel
theorem dX7_copy_26 : decode cX7_copy 26 = .ok (.getfield 55, 3) := by decide +kernel
theorem dX7_copy_29 : decode cX7_copy 29 = .ok (.iload_n 1, 1) := by decide +kernel
theorem dX7_copy_30 : decode cX7_copy 30 = .ok (.aaload, 1) := by decide +kernel
theorem dX7_copy_31 : decode cX7_copy 31 = .ok (.astore 6, 2) := by decide +kernel
theorem dX7_copy_33 : decode cX7_copy 33 = .ok (.aload_n 0, 1) := by decide +kernel
theorem dX7_copy_34 : decode cX7_copy 34 = .ok (.getfield 55, 3) := by decide +kernel
theorem dX7_copy_37 : decode cX7_copy 37 = .ok (.iload_n 3, 1) := by decide +kernel
theorem dX7_copy_38 : decode cX7_copy 38 = .ok (.aaload, 1) := by decide +kernel
theorem dX7_copy_39 : decode cX7_copy 39 = .ok (.astore 7, 2) := by decide +kernel
theorem dX7_copy_41 : decode cX7_copy 41 = .ok (.aload 6, 2) := by decide +kernel
theorem dX7_copy_43 : decode cX7_copy 43 = .ok (.ifnull 8, 3) := by decide +kernel
theorem dX7_copy_46 : decode cX7_copy 46 = .ok (.aload 7, 2) := by decide +kernel
theorem dX7_copy_48 : decode cX7_copy 48 = .ok (.ifnonnull 9, 3) := by decide +kernel
theorem dX7_copy_51 : decode cX7_copy 51 = .ok (.aload_n 0, 1) := by decide +kernel
theorem dX7_copy_52 : decode cX7_copy 52 = .ok (.iconst 1, 1) := by decide +kernel
theorem dX7_copy_53 : decode cX7_copy 53 = .ok (.invokevirtual 70, 3) := by decide +kernel
theorem dX7_copy_56 : decode cX7_copy 56 = .ok (.ireturn, 1) := by decide +kernel
theorem dX7_copy_57 : decode cX7_copy 57 = .ok (.aload 6, 2) := by decide +kernel
theorem dX7_copy_59 : decode cX7_copy 59 = .ok (.getfield 74, 3) := by decide +kernel
theorem dX7_copy_62 : decode cX7_copy 62 = .ok (.aload 7, 2) := by decide +kernel
theorem dX7_copy_64 : decode cX7_copy 64 = .ok (.getfield 74, 3) := by decide +kernel
theorem dX7_copy_67 : decode cX7_copy 67 = .ok (.if_icmp .eq 9, 3) := by decide +kernel
theorem dX7_copy_70 : decode cX7_copy 70 = .ok (.aload_n 0, 1) := by decide +kernel
theorem dX7_copy_71 : decode cX7_copy 71 = .ok (.iconst 2, 1) := by decide +kernel
theorem dX7_copy_72 : decode cX7_copy 72 = .ok (.invokevirtual 70, 3) := by decide +kernel
theorem dX7_copy_75 : decode cX7_copy 75 = .ok (.ireturn, 1) := by decide +kernel
theorem dX7_copy_76 : decode cX7_copy 76 = .ok (.aload 6, 2) := by decide +kernel
theorem dX7_copy_78 : decode cX7_copy 78 = .ok (.iload_n 2, 1) := by decide +kernel
theorem dX7_copy_79 : decode cX7_copy 79 = .ok (.iload 5, 2) := by decide +kernel
theorem dX7_copy_81 : decode cX7_copy 81 = .ok (.invokevirtual 77, 3) := by decide +kernel
theorem dX7_copy_84 : decode cX7_copy 84 = .ok (.ifCond .eq 15, 3) := by decide +kernel
theorem dX7_copy_87 : decode cX7_copy 87 = .ok (.aload 7, 2) := by decide +kernel
theorem dX7_copy_89 : decode cX7_copy 89 = .ok (.iload 4, 2) := by decide +kernel
theorem dX7_copy_91 : decode cX7_copy 91 = .ok (.iload 5, 2) := by decide +kernel
theorem dX7_copy_93 : decode cX7_copy 93 = .ok (.invokevirtual 77, 3) := by decide +kernel
theorem dX7_copy_96 : decode cX7_copy 96 = .ok (.ifCond .ne 9, 3) := by decide +kernel
theorem dX7_copy_99 : decode cX7_copy 99 = .ok (.aload_n 0, 1) := by decide +kernel
theorem dX7_copy_100 : decode cX7_copy 100 = .ok (.iconst 3, 1) := by decide +kernel
theorem dX7_copy_101 : decode cX7_copy 101 = .ok (.invokevirtual 70, 3) := by decide +kernel
theorem dX7_copy_104 : decode cX7_copy 104 = .ok (.ireturn, 1) := by decide +kernel
theorem dX7_copy_105 : decode cX7_copy 105 = .ok (.aload 6, 2) := by decide +kernel
theorem dX7_copy_107 : decode cX7_copy 107 = .ok (.getfield 81, 3) := by decide +kernel
theorem dX7_copy_110 : decode cX7_copy 110 = .ok (.iload_n 2, 1) := by decide +kernel
theorem dX7_copy_111 : decode cX7_copy 111 = .ok (.aload 7, 2) := by decide +kernel
theorem dX7_copy_113 : decode cX7_copy 113 = .ok (.getfield 81, 3) := by decide +kernel
theorem dX7_copy_116 : decode cX7_copy 116 = .ok (.iload 4, 2) := by decide +kernel
theorem dX7_copy_118 : decode cX7_copy 118 = .ok (.iload 5, 2) := by decide +kernel
theorem dX7_copy_120 : decode cX7_copy 120 = .ok (.invokestatic 263, 3) := by decide +kernel
theorem dX7_copy_123 : decode cX7_copy 123 = .ok (.iload 5, 2) := by decide +kernel
theorem dX7_copy_125 : decode cX7_copy 125 = .ok (.ireturn, 1) := by decide +kernel
theorem dX7_tell_0 : decode cX7_tell 0 = .ok (.aload_n 0, 1) := by decide +kernel
theorem dX7_tell_1 : decode cX7_tell 1 = .ok (.getfield 12, 3) := by decide +kernel
theorem dX7_tell_4 : decode cX7_tell 4 = .ok (.iload_n 1, 1) := by decide +kernel
theorem dX7_tell_5 : decode cX7_tell 5 = .ok (.invokevirtual 98, 3) := by decide +kernel
theorem dX7_tell_8 : decode cX7_tell 8 = .ok (.ifCond .ne 5, 3) := by decide +kernel
theorem dX7_tell_11 : decode cX7_tell 11 = .ok (.iconst (-1), 1) := by decide +kernel
theorem dX7_tell_12 : decode cX7_tell 12 = .ok (.ireturn, 1) := by decide +kernel
theorem dX7_tell_13 : decode cX7_tell 13 = .ok (.aload_n 0, 1) := by decide +kernel
theorem dX7_tell_14 : decode cX7_tell 14 = .ok (.getfield 12, 3) := by decide +kernel
theorem dX7_tell_17 : decode cX7_tell 17 = .ok (.getfield 102, 3) := by decide +kernel
theorem dX7_tell_20 : decode cX7_tell 20 = .ok (.iload_n 1, 1) := by decide +kernel
theorem dX7_tell_21 : decode cX7_tell 21 = .ok (.iaload, 1) := by decide +kernel
theorem dX7_tell_22 : decode cX7_tell 22 = .ok (.lookupswitch 38 #[(1, 32), (2, 26)], 26) := by decide +kernel
theorem dX7_tell_48 : decode cX7_tell 48 = .ok (.aload_n 0, 1) := by decide +kernel
theorem dX7_tell_49 : decode cX7_tell 49 = .ok (.iload_n 1, 1) := by decide +kernel
theorem dX7_tell_50 : decode cX7_tell 50 = .ok (.invokevirtual 269, 3) := by decide +kernel
theorem dX7_tell_53 : decode cX7_tell 53 = .ok (.ireturn, 1) := by decide +kernel
theorem dX7_tell_54 : decode cX7_tell 54 = .ok (.aload_n 0, 1) := by decide +kernel
theorem dX7_tell_55 : decode cX7_tell 55 = .ok (.iload_n 1, 1) := by decide +kernel
theorem dX7_tell_56 : decode cX7_tell 56 = .ok (.invokevirtual 272, 3) := by decide +kernel
theorem dX7_tell_59 : decode cX7_tell 59 = .ok (.ireturn, 1) := by decide +kernel
theorem dX7_tell_60 : decode cX7_tell 60 = .ok (.aload_n 0, 1) := by decide +kernel
theorem dX7_tell_61 : decode cX7_tell 61 = .ok (.iload_n 1, 1) := by decide +kernel
theorem dX7_tell_62 : decode cX7_tell 62 = .ok (.invokevirtual 275, 3) := by decide +kernel
theorem dX7_tell_65 : decode cX7_tell 65 = .ok (.ireturn, 1) := by decide +kernel
theorem dX7_speak_0 : decode cX7_speak 0 = .ok (.aload_n 0, 1) := by decide +kernel
theorem dX7_speak_1 : decode cX7_speak 1 = .ok (.getfield 12, 3) := by decide +kernel
theorem dX7_speak_4 : decode cX7_speak 4 = .ok (.iload_n 1, 1) := by decide +kernel
theorem dX7_speak_5 : decode cX7_speak 5 = .ok (.invokevirtual 98, 3) := by decide +kernel
theorem dX7_speak_8 : decode cX7_speak 8 = .ok (.ifCond .ne 5, 3) := by decide +kernel
theorem dX7_speak_11 : decode cX7_speak 11 = .ok (.iconst (-1), 1) := by decide +kernel
theorem dX7_speak_12 : decode cX7_speak 12 = .ok (.ireturn, 1) := by decide +kernel
theorem dX7_speak_13 : decode cX7_speak 13 = .ok (.aload_n 0, 1) := by decide +kernel
theorem dX7_speak_14 : decode cX7_speak 14 = .ok (.getfield 12, 3) := by decide +kernel
theorem dX7_speak_17 : decode cX7_speak 17 = .ok (.getfield 102, 3) := by decide +kernel
theorem dX7_speak_20 : decode cX7_speak 20 = .ok (.iload_n 1, 1) := by decide +kernel
theorem dX7_speak_21 : decode cX7_speak 21 = .ok (.iaload, 1) := by decide +kernel
theorem dX7_speak_22 : decode cX7_speak 22 = .ok (.iconst 2, 1) := by decide +kernel
theorem dX7_speak_23 : decode cX7_speak 23 = .ok (.if_icmp .ne 10, 3) := by decide +kernel
theorem dX7_speak_26 : decode cX7_speak 26 = .ok (.aload_n 0, 1) := by decide +kernel
theorem dX7_speak_27 : decode cX7_speak 27 = .ok (.invokevirtual 278, 3) := by decide +kernel
theorem dX7_speak_30 : decode cX7_speak 30 = .ok (.goto 8, 3) := by decide +kernel
theorem dX7_speak_33 : decode cX7_speak 33 = .ok (.aload_n 0, 1) := by decide +kernel
theorem dX7_speak_34 : decode cX7_speak 34 = .ok (.iload_n 1, 1) := by decide +kernel
theorem dX7_speak_35 : decode cX7_speak 35 = .ok (.invokevirtual 281, 3) := by decide +kernel
theorem dX7_speak_38 : decode cX7_speak 38 = .ok (.ireturn, 1) := by decide +kernel
theorem dX7_as_0 : decode cX7_as 0 = .ok (.aload_n 0, 1) := by decide +kernel
theorem dX7_as_1 : decode cX7_as 1 = .ok (.iconst 0, 1) := by decide +kernel
theorem dX7_as_2 : decode cX7_as 2 = .ok (.putfield 62, 3) := by decide +kernel
theorem dX7_as_5 : decode cX7_as 5 = .ok (.aload_n 0, 1) := by decide +kernel
theorem dX7_as_6 : decode cX7_as 6 = .ok (.getfield 12, 3) := by decide +kernel
theorem dX7_as_9 : decode cX7_as 9 = .ok (.iload_n 1, 1) := by decide +kernel
theorem dX7_as_10 : decode cX7_as 10 = .ok (.invokevirtual 98, 3) := by decide +kernel
theorem dX7_as_13 : decode cX7_as 13 = .ok (.ifCond .ne 5, 3) := by decide +kernel
theorem dX7_as_16 : decode cX7_as 16 = .ok (.iconst (-1), 1) := by decide +kernel
theorem dX7_as_17 : decode cX7_as 17 = .ok (.ireturn, 1) := by decide +kernel
theorem dX7_as_18 : decode cX7_as 18 = .ok (.iload_n 2, 1) := by decide +kernel
theorem dX7_as_19 : decode cX7_as 19 = .ok (.iconst 0, 1) := by decide +kernel
theorem dX7_as_20 : decode cX7_as 20 = .ok (.iconst 2, 1) := by decide +kernel
theorem dX7_as_21 : decode cX7_as 21 = .ok (.invokestatic 66, 3) := by decide +kernel
theorem dX7_as_24 : decode cX7_as 24 = .ok (.ifCond .ne 6, 3) := by decide +kernel
theorem dX7_as_27 : decode cX7_as 27 = .ok (.bipush (-2), 2) := by decide +kernel
theorem dX7_as_29 : decode cX7_as 29 = .ok (.ireturn, 1) := by decide +kernel
theorem dX7_as_30 : decode cX7_as 30 = .ok (.aload_n 0, 1) := by decide +kernel
theorem dX7_as_31 : decode cX7_as 31 = .ok (.getfield 12, 3) := by decide +kernel
theorem dX7_as_34 : decode cX7_as 34 = .ok (.getfield 102, 3) := by decide +kernel
theorem dX7_as_37 : decode cX7_as 37 = .ok (.iload_n 1, 1) := by decide +kernel
theorem dX7_as_38 : decode cX7_as 38 = .ok (.iaload, 1) := by decide +kernel
theorem dX7_as_39 : decode cX7_as 39 = .ok (.iload_n 2, 1) := by decide +kernel
theorem dX7_as_40 : decode cX7_as 40 = .ok (.if_icmp .lt 7, 3) := by decide +kernel
theorem dX7_as_43 : decode cX7_as 43 = .ok (.iconst 1, 1) := by decide +kernel
theorem dX7_as_44 : decode cX7_as 44 = .ok (.goto 8, 3) := by decide +kernel
theorem dX7_as_47 : decode cX7_as 47 = .ok (.aload_n 0, 1) := by decide +kernel
theorem dX7_as_48 : decode cX7_as 48 = .ok (.iconst 2, 1) := by decide +kernel
theorem dX7_as_49 : decode cX7_as 49 = .ok (.invokevirtual 70, 3) := by decide +kernel
theorem dX7_as_52 : decode cX7_as 52 = .ok (.ireturn, 1) := by decide +kernel
theorem dX7_trace_0 : decode cX7_trace 0 = .ok (.aload_n 0, 1) := by decide +kernel
theorem dX7_trace_1 : decode cX7_trace 1 = .ok (.getfield 59, 3) := by decide +kernel
theorem dX7_trace_4 : decode cX7_trace 4 = .ok (.ireturn, 1) := by decide +kernel
theorem dX7_fault_0 : decode cX7_fault 0 = .ok (.aload_n 0, 1) := by decide +kernel
theorem dX7_fault_1 : decode cX7_fault 1 = .ok (.getfield 62, 3) := by decide +kernel
theorem dX7_fault_4 : decode cX7_fault 4 = .ok (.ireturn, 1) := by decide +kernel
theorem dX7_many_0 : decode cX7_many 0 = .ok (.iload_n 1, 1) := by decide +kernel
theorem dX7_many_1 : decode cX7_many 1 = .ok (.iconst 0, 1) := by decide +kernel
theorem dX7_many_2 : decode cX7_many 2 = .ok (.iconst 1, 1) := by decide +kernel
theorem dX7_many_3 : decode cX7_many 3 = .ok (.invokestatic 66, 3) := by decide +kernel
theorem dX7_many_6 : decode cX7_many 6 = .ok (.ifCond .ne 6, 3) := by decide +kernel
theorem dX7_many_9 : decode cX7_many 9 = .ok (.bipush (-2), 2) := by decide +kernel
theorem dX7_many_11 : decode cX7_many 11 = .ok (.ireturn, 1) := by decide +kernel
theorem dX7_many_12 : decode cX7_many 12 = .ok (.iload_n 1, 1) := by decide +kernel
theorem dX7_many_13 : decode cX7_many 13 = .ok (.ifCond .ne 13, 3) := by decide +kernel
theorem dX7_many_16 : decode cX7_many 16 = .ok (.aload_n 0, 1) := by decide +kernel
theorem dX7_many_17 : decode cX7_many 17 = .ok (.getfield 12, 3) := by decide +kernel
theorem dX7_many_20 : decode cX7_many 20 = .ok (.getfield 95, 3) := by decide +kernel
theorem dX7_many_23 : decode cX7_many 23 = .ok (.goto 7, 3) := by decide +kernel
theorem dX7_many_26 : decode cX7_many 26 = .ok (.aload_n 0, 1) := by decide +kernel
theorem dX7_many_27 : decode cX7_many 27 = .ok (.getfield 31, 3) := by decide +kernel
theorem dX7_many_30 : decode cX7_many 30 = .ok (.ireturn, 1) := by decide +kernel
theorem dX7_isWithin_0 : decode cX7_isWithin 0 = .ok (.iload_n 0, 1) := by decide +kernel
theorem dX7_isWithin_1 : decode cX7_isWithin 1 = .ok (.iload_n 1, 1) := by decide +kernel
theorem dX7_isWithin_2 : decode cX7_isWithin 2 = .ok (.if_icmp .lt 12, 3) := by decide +kernel
theorem dX7_isWithin_5 : decode cX7_isWithin 5 = .ok (.iload_n 0, 1) := by decide +kernel
theorem dX7_isWithin_6 : decode cX7_isWithin 6 = .ok (.iload_n 2, 1) := by decide +kernel
theorem dX7_isWithin_7 : decode cX7_isWithin 7 = .ok (.if_icmp .gt 7, 3) := by decide +kernel
theorem dX7_isWithin_10 : decode cX7_isWithin 10 = .ok (.iconst 1, 1) := by decide +kernel
theorem dX7_isWithin_11 : decode cX7_isWithin 11 = .ok (.goto 4, 3) := by decide +kernel
theorem dX7_isWithin_14 : decode cX7_isWithin 14 = .ok (.iconst 0, 1) := by decide +kernel
theorem dX7_isWithin_15 : decode cX7_isWithin 15 = .ok (.ireturn, 1) := by decide +kernel
theorem dX7_isPlace_0 : decode cX7_isPlace 0 = .ok (.iload_n 0, 1) := by decide +kernel
theorem dX7_isPlace_1 : decode cX7_isPlace 1 = .ok (.iconst 0, 1) := by decide +kernel
theorem dX7_isPlace_2 : decode cX7_isPlace 2 = .ok (.bipush 11, 2) := by decide +kernel
theorem dX7_isPlace_4 : decode cX7_isPlace 4 = .ok (.invokestatic 66, 3) := by decide +kernel
theorem dX7_isPlace_7 : decode cX7_isPlace 7 = .ok (.ireturn, 1) := by decide +kernel
theorem dX7_isTick_0 : decode cX7_isTick 0 = .ok (.iload_n 0, 1) := by decide +kernel
theorem dX7_isTick_1 : decode cX7_isTick 1 = .ok (.iconst 0, 1) := by decide +kernel
theorem dX7_isTick_2 : decode cX7_isTick 2 = .ok (.sipush 9999, 3) := by decide +kernel
theorem dX7_isTick_5 : decode cX7_isTick 5 = .ok (.invokestatic 66, 3) := by decide +kernel
theorem dX7_isTick_8 : decode cX7_isTick 8 = .ok (.ireturn, 1) := by decide +kernel
theorem dX7_isPerson_0 : decode cX7_isPerson 0 = .ok (.iload_n 1, 1) := by decide +kernel
theorem dX7_isPerson_1 : decode cX7_isPerson 1 = .ok (.iconst 0, 1) := by decide +kernel
theorem dX7_isPerson_2 : decode cX7_isPerson 2 = .ok (.aload_n 0, 1) := by decide +kernel
theorem dX7_isPerson_3 : decode cX7_isPerson 3 = .ok (.getfield 31, 3) := by decide +kernel
theorem dX7_isPerson_6 : decode cX7_isPerson 6 = .ok (.iconst 1, 1) := by decide +kernel
theorem dX7_isPerson_7 : decode cX7_isPerson 7 = .ok (.isub, 1) := by decide +kernel
theorem dX7_isPerson_8 : decode cX7_isPerson 8 = .ok (.invokestatic 66, 3) := by decide +kernel
theorem dX7_isPerson_11 : decode cX7_isPerson 11 = .ok (.ireturn, 1) := by decide +kernel
theorem dX7_isPartOrAll_0 : decode cX7_isPartOrAll 0 = .ok (.iload_n 1, 1) := by decide +kernel
theorem dX7_isPartOrAll_1 : decode cX7_isPartOrAll 1 = .ok (.iconst (-1), 1) := by decide +kernel
theorem dX7_isPartOrAll_2 : decode cX7_isPartOrAll 2 = .ok (.if_icmp .eq 14, 3) := by decide +kernel
theorem dX7_isPartOrAll_5 : decode cX7_isPartOrAll 5 = .ok (.aload_n 0, 1) := by decide +kernel
theorem dX7_isPartOrAll_6 : decode cX7_isPartOrAll 6 = .ok (.getfield 12, 3) := by decide +kernel
theorem dX7_isPartOrAll_9 : decode cX7_isPartOrAll 9 = .ok (.iload_n 1, 1) := by decide +kernel
theorem dX7_isPartOrAll_10 : decode cX7_isPartOrAll 10 = .ok (.invokevirtual 98, 3) := by decide +kernel
theorem dX7_isPartOrAll_13 : decode cX7_isPartOrAll 13 = .ok (.ifCond .eq 7, 3) := by decide +kernel
theorem dX7_isPartOrAll_16 : decode cX7_isPartOrAll 16 = .ok (.iconst 1, 1) := by decide +kernel
theorem dX7_isPartOrAll_17 : decode cX7_isPartOrAll 17 = .ok (.goto 4, 3) := by decide +kernel
theorem dX7_isPartOrAll_20 : decode cX7_isPartOrAll 20 = .ok (.iconst 0, 1) := by decide +kernel
theorem dX7_isPartOrAll_21 : decode cX7_isPartOrAll 21 = .ok (.ireturn, 1) := by decide +kernel
theorem dX7_hasLeave_0 : decode cX7_hasLeave 0 = .ok (.iload_n 1, 1) := by decide +kernel
theorem dX7_hasLeave_1 : decode cX7_hasLeave 1 = .ok (.iload_n 2, 1) := by decide +kernel
theorem dX7_hasLeave_2 : decode cX7_hasLeave 2 = .ok (.if_icmp .eq 23, 3) := by decide +kernel
theorem dX7_hasLeave_5 : decode cX7_hasLeave 5 = .ok (.iload 4, 2) := by decide +kernel
theorem dX7_hasLeave_7 : decode cX7_hasLeave 7 = .ok (.aload_n 0, 1) := by decide +kernel
theorem dX7_hasLeave_8 : decode cX7_hasLeave 8 = .ok (.getfield 27, 3) := by decide +kernel
theorem dX7_hasLeave_11 : decode cX7_hasLeave 11 = .ok (.iload_n 2, 1) := by decide +kernel
theorem dX7_hasLeave_12 : decode cX7_hasLeave 12 = .ok (.aaload, 1) := by decide +kernel
theorem dX7_hasLeave_13 : decode cX7_hasLeave 13 = .ok (.getfield 250, 3) := by decide +kernel
theorem dX7_hasLeave_16 : decode cX7_hasLeave 16 = .ok (.iload_n 3, 1) := by decide +kernel
theorem dX7_hasLeave_17 : decode cX7_hasLeave 17 = .ok (.iconst 4, 1) := by decide +kernel
theorem dX7_hasLeave_18 : decode cX7_hasLeave 18 = .ok (.imul, 1) := by decide +kernel
theorem dX7_hasLeave_19 : decode cX7_hasLeave 19 = .ok (.iload_n 1, 1) := by decide +kernel
theorem dX7_hasLeave_20 : decode cX7_hasLeave 20 = .ok (.iadd, 1) := by decide +kernel
theorem dX7_hasLeave_21 : decode cX7_hasLeave 21 = .ok (.iaload, 1) := by decide +kernel
theorem dX7_hasLeave_22 : decode cX7_hasLeave 22 = .ok (.if_icmp .gt 7, 3) := by decide +kernel
theorem dX7_hasLeave_25 : decode cX7_hasLeave 25 = .ok (.iconst 1, 1) := by decide +kernel
theorem dX7_hasLeave_26 : decode cX7_hasLeave 26 = .ok (.goto 4, 3) := by decide +kernel
theorem dX7_hasLeave_29 : decode cX7_hasLeave 29 = .ok (.iconst 0, 1) := by decide +kernel
theorem dX7_hasLeave_30 : decode cX7_hasLeave 30 = .ok (.ireturn, 1) := by decide +kernel
theorem dX7_faulted_0 : decode cX7_faulted 0 = .ok (.aload_n 0, 1) := by decide +kernel
theorem dX7_faulted_1 : decode cX7_faulted 1 = .ok (.iload_n 1, 1) := by decide +kernel
theorem dX7_faulted_2 : decode cX7_faulted 2 = .ok (.putfield 62, 3) := by decide +kernel
theorem dX7_faulted_5 : decode cX7_faulted 5 = .ok (.bipush (-10), 2) := by decide +kernel
theorem dX7_faulted_7 : decode cX7_faulted 7 = .ok (.iload_n 1, 1) := by decide +kernel
theorem dX7_faulted_8 : decode cX7_faulted 8 = .ok (.isub, 1) := by decide +kernel
theorem dX7_faulted_9 : decode cX7_faulted 9 = .ok (.ireturn, 1) := by decide +kernel
theorem dX7_takeParts_0 : decode cX7_takeParts 0 = .ok (.aload_n 0, 1) := by decide +kernel
theorem dX7_takeParts_1 : decode cX7_takeParts 1 = .ok (.getfield 12, 3) := by decide +kernel
theorem dX7_takeParts_4 : decode cX7_takeParts 4 = .ok (.aload_n 1, 1) := by decide +kernel
theorem dX7_takeParts_5 : decode cX7_takeParts 5 = .ok (.invokevirtual 284, 3) := by decide +kernel
theorem dX7_takeParts_8 : decode cX7_takeParts 8 = .ok (.iconst 0, 1) := by decide +kernel
theorem dX7_takeParts_9 : decode cX7_takeParts 9 = .ok (.istore_n 2, 1) := by decide +kernel
theorem dX7_takeParts_10 : decode cX7_takeParts 10 = .ok (.iload_n 2, 1) := by decide +kernel
theorem dX7_takeParts_11 : decode cX7_takeParts 11 = .ok (.iconst 4, 1) := by decide +kernel
theorem dX7_takeParts_12 : decode cX7_takeParts 12 = .ok (.if_icmp .ge 18, 3) := by decide +kernel
theorem dX7_takeParts_15 : decode cX7_takeParts 15 = .ok (.aload_n 0, 1) := by decide +kernel
theorem dX7_takeParts_16 : decode cX7_takeParts 16 = .ok (.getfield 27, 3) := by decide +kernel
theorem dX7_takeParts_19 : decode cX7_takeParts 19 = .ok (.iload_n 2, 1) := by decide +kernel
theorem dX7_takeParts_20 : decode cX7_takeParts 20 = .ok (.aaload, 1) := by decide +kernel
theorem dX7_takeParts_21 : decode cX7_takeParts 21 = .ok (.invokevirtual 287, 3) := by decide +kernel
theorem dX7_takeParts_24 : decode cX7_takeParts 24 = .ok (.iinc 2 1, 3) := by decide +kernel
theorem dX7_takeParts_27 : decode cX7_takeParts 27 = .ok (.goto (-17), 3) := by decide +kernel
theorem dX7_takeParts_30 : decode cX7_takeParts 30 = .ok (.return_, 1) := by decide +kernel
theorem dX7_pressFor_0 : decode cX7_pressFor 0 = .ok (.bipush (-9), 2) := by decide +kernel
theorem dX7_pressFor_2 : decode cX7_pressFor 2 = .ok (.istore 5, 2) := by decide +kernel
theorem dX7_pressFor_4 : decode cX7_pressFor 4 = .ok (.iconst 0, 1) := by decide +kernel
theorem dX7_pressFor_5 : decode cX7_pressFor 5 = .ok (.istore 6, 2) := by decide +kernel
theorem dX7_pressFor_7 : decode cX7_pressFor 7 = .ok (.iconst 0, 1) := by decide +kernel
theorem dX7_pressFor_8 : decode cX7_pressFor 8 = .ok (.istore 7, 2) := by decide +kernel
theorem dX7_pressFor_10 : decode cX7_pressFor 10 = .ok (.iconst 0, 1) := by decide +kernel
theorem dX7_pressFor_11 : decode cX7_pressFor 11 = .ok (.istore 8, 2) := by decide +kernel
theorem dX7_pressFor_13 : decode cX7_pressFor 13 = .ok (.iload 8, 2) := by decide +kernel
theorem dX7_pressFor_15 : decode cX7_pressFor 15 = .ok (.aload_n 0, 1) := by decide +kernel
theorem dX7_pressFor_16 : decode cX7_pressFor 16 = .ok (.getfield 12, 3) := by decide +kernel
theorem dX7_pressFor_19 : decode cX7_pressFor 19 = .ok (.getfield 95, 3) := by decide +kernel
theorem dX7_pressFor_22 : decode cX7_pressFor 22 = .ok (.if_icmp .ge 42, 3) := by decide +kernel
theorem dX7_pressFor_25 : decode cX7_pressFor 25 = .ok (.aload_n 0, 1) := by decide +kernel
theorem dX7_pressFor_26 : decode cX7_pressFor 26 = .ok (.aload_n 1, 1) := by decide +kernel
theorem dX7_pressFor_27 : decode cX7_pressFor 27 = .ok (.iload 8, 2) := by decide +kernel
theorem dX7_pressFor_29 : decode cX7_pressFor 29 = .ok (.iload_n 2, 1) := by decide +kernel
theorem dX7_pressFor_30 : decode cX7_pressFor 30 = .ok (.iload_n 3, 1) := by decide +kernel
theorem dX7_pressFor_31 : decode cX7_pressFor 31 = .ok (.invokevirtual 290, 3) := by decide +kernel
theorem dX7_pressFor_34 : decode cX7_pressFor 34 = .ok (.istore 9, 2) := by decide +kernel
theorem dX7_pressFor_36 : decode cX7_pressFor 36 = .ok (.iload 7, 2) := by decide +kernel
theorem dX7_pressFor_38 : decode cX7_pressFor 38 = .ok (.iload 9, 2) := by decide +kernel
theorem dX7_pressFor_40 : decode cX7_pressFor 40 = .ok (.iadd, 1) := by decide +kernel
theorem dX7_pressFor_41 : decode cX7_pressFor 41 = .ok (.istore 7, 2) := by decide +kernel
theorem dX7_pressFor_43 : decode cX7_pressFor 43 = .ok (.iload 9, 2) := by decide +kernel
theorem dX7_pressFor_45 : decode cX7_pressFor 45 = .ok (.iload 6, 2) := by decide +kernel
theorem dX7_pressFor_47 : decode cX7_pressFor 47 = .ok (.if_icmp .le 11, 3) := by decide +kernel
theorem dX7_pressFor_50 : decode cX7_pressFor 50 = .ok (.iload 9, 2) := by decide +kernel
theorem dX7_pressFor_52 : decode cX7_pressFor 52 = .ok (.istore 6, 2) := by decide +kernel
theorem dX7_pressFor_54 : decode cX7_pressFor 54 = .ok (.iload 8, 2) := by decide +kernel
theorem dX7_pressFor_56 : decode cX7_pressFor 56 = .ok (.istore 5, 2) := by decide +kernel
theorem dX7_pressFor_58 : decode cX7_pressFor 58 = .ok (.iinc 8 1, 3) := by decide +kernel
theorem dX7_pressFor_61 : decode cX7_pressFor 61 = .ok (.goto (-48), 3) := by decide +kernel
theorem dX7_pressFor_64 : decode cX7_pressFor 64 = .ok (.iload 5, 2) := by decide +kernel
theorem dX7_pressFor_66 : decode cX7_pressFor 66 = .ok (.bipush (-9), 2) := by decide +kernel
theorem dX7_pressFor_68 : decode cX7_pressFor 68 = .ok (.if_icmp .ne 6, 3) := by decide +kernel
theorem dX7_pressFor_71 : decode cX7_pressFor 71 = .ok (.bipush (-9), 2) := by decide +kernel
theorem dX7_pressFor_73 : decode cX7_pressFor 73 = .ok (.ireturn, 1) := by decide +kernel
theorem dX7_pressFor_74 : decode cX7_pressFor 74 = .ok (.aload_n 1, 1) := by decide +kernel
theorem dX7_pressFor_75 : decode cX7_pressFor 75 = .ok (.getfield 147, 3) := by decide +kernel
theorem dX7_pressFor_78 : decode cX7_pressFor 78 = .ok (.iload 5, 2) := by decide +kernel
theorem dX7_pressFor_80 : decode cX7_pressFor 80 = .ok (.iload_n 2, 1) := by decide +kernel
theorem dX7_pressFor_81 : decode cX7_pressFor 81 = .ok (.iload_n 3, 1) := by decide +kernel
theorem dX7_pressFor_82 : decode cX7_pressFor 82 = .ok (.invokevirtual 293, 3) := by decide +kernel
theorem dX7_pressFor_85 : decode cX7_pressFor 85 = .ok (.istore 8, 2) := by decide +kernel
theorem dX7_pressFor_87 : decode cX7_pressFor 87 = .ok (.bipush 10, 2) := by decide +kernel
theorem dX7_pressFor_89 : decode cX7_pressFor 89 = .ok (.iload 6, 2) := by decide +kernel
theorem dX7_pressFor_91 : decode cX7_pressFor 91 = .ok (.imul, 1) := by decide +kernel
theorem dX7_pressFor_92 : decode cX7_pressFor 92 = .ok (.aload_n 0, 1) := by decide +kernel
theorem dX7_pressFor_93 : decode cX7_pressFor 93 = .ok (.getfield 49, 3) := by decide +kernel
theorem dX7_pressFor_96 : decode cX7_pressFor 96 = .ok (.iconst 0, 1) := by decide +kernel
theorem dX7_pressFor_97 : decode cX7_pressFor 97 = .ok (.iaload, 1) := by decide +kernel
theorem dX7_pressFor_98 : decode cX7_pressFor 98 = .ok (.iload 7, 2) := by decide +kernel
theorem dX7_pressFor_100 : decode cX7_pressFor 100 = .ok (.imul, 1) := by decide +kernel
theorem dX7_pressFor_101 : decode cX7_pressFor 101 = .ok (.if_icmp .lt 7, 3) := by decide +kernel
theorem dX7_pressFor_104 : decode cX7_pressFor 104 = .ok (.iconst 1, 1) := by decide +kernel
theorem dX7_pressFor_105 : decode cX7_pressFor 105 = .ok (.goto 4, 3) := by decide +kernel
theorem dX7_pressFor_108 : decode cX7_pressFor 108 = .ok (.iconst 0, 1) := by decide +kernel
theorem dX7_pressFor_109 : decode cX7_pressFor 109 = .ok (.istore 9, 2) := by decide +kernel
theorem dX7_pressFor_111 : decode cX7_pressFor 111 = .ok (.aload_n 0, 1) := by decide +kernel
theorem dX7_pressFor_112 : decode cX7_pressFor 112 = .ok (.getfield 12, 3) := by decide +kernel
theorem dX7_pressFor_115 : decode cX7_pressFor 115 = .ok (.getfield 102, 3) := by decide +kernel
theorem dX7_pressFor_118 : decode cX7_pressFor 118 = .ok (.iload 5, 2) := by decide +kernel
theorem dX7_pressFor_120 : decode cX7_pressFor 120 = .ok (.iaload, 1) := by decide +kernel
theorem dX7_pressFor_121 : decode cX7_pressFor 121 = .ok (.iconst 2, 1) := by decide +kernel
theorem dX7_pressFor_122 : decode cX7_pressFor 122 = .ok (.if_icmp .ne 20, 3) := by decide +kernel
theorem dX7_pressFor_125 : decode cX7_pressFor 125 = .ok (.aload_n 1, 1) := by decide +kernel
theorem dX7_pressFor_126 : decode cX7_pressFor 126 = .ok (.iload 5, 2) := by decide +kernel
theorem dX7_pressFor_128 : decode cX7_pressFor 128 = .ok (.iload 4, 2) := by decide +kernel
theorem dX7_pressFor_130 : decode cX7_pressFor 130 = .ok (.aload_n 0, 1) := by decide +kernel
theorem dX7_pressFor_131 : decode cX7_pressFor 131 = .ok (.getfield 49, 3) := by decide +kernel
theorem dX7_pressFor_134 : decode cX7_pressFor 134 = .ok (.iconst 1, 1) := by decide +kernel
theorem dX7_pressFor_135 : decode cX7_pressFor 135 = .ok (.iaload, 1) := by decide +kernel
theorem dX7_pressFor_136 : decode cX7_pressFor 136 = .ok (.invokevirtual 296, 3) := by decide +kernel
theorem dX7_pressFor_139 : decode cX7_pressFor 139 = .ok (.ifCond .eq 7, 3) := by decide +kernel
theorem dX7_pressFor_142 : decode cX7_pressFor 142 = .ok (.iconst 1, 1) := by decide +kernel
theorem dX7_pressFor_143 : decode cX7_pressFor 143 = .ok (.goto 4, 3) := by decide +kernel
theorem dX7_pressFor_146 : decode cX7_pressFor 146 = .ok (.iconst 0, 1) := by decide +kernel
theorem dX7_pressFor_147 : decode cX7_pressFor 147 = .ok (.istore 10, 2) := by decide +kernel
theorem dX7_pressFor_149 : decode cX7_pressFor 149 = .ok (.iload 9, 2) := by decide +kernel
theorem dX7_pressFor_151 : decode cX7_pressFor 151 = .ok (.ifCond .eq 17, 3) := by decide +kernel
theorem dX7_pressFor_154 : decode cX7_pressFor 154 = .ok (.iload 10, 2) := by decide +kernel
theorem dX7_pressFor_156 : decode cX7_pressFor 156 = .ok (.ifCond .eq 12, 3) := by decide +kernel
theorem dX7_pressFor_159 : decode cX7_pressFor 159 = .ok (.aload_n 1, 1) := by decide +kernel
theorem dX7_pressFor_160 : decode cX7_pressFor 160 = .ok (.iload 8, 2) := by decide +kernel
theorem dX7_pressFor_162 : decode cX7_pressFor 162 = .ok (.invokevirtual 215, 3) := by decide +kernel
theorem dX7_pressFor_165 : decode cX7_pressFor 165 = .ok (.iload 5, 2) := by decide +kernel
theorem dX7_pressFor_167 : decode cX7_pressFor 167 = .ok (.ireturn, 1) := by decide +kernel
theorem dX7_pressFor_168 : decode cX7_pressFor 168 = .ok (.aload_n 1, 1) := by decide +kernel
theorem dX7_pressFor_169 : decode cX7_pressFor 169 = .ok (.iload 5, 2) := by decide +kernel
theorem dX7_pressFor_171 : decode cX7_pressFor 171 = .ok (.iload 8, 2) := by decide +kernel
theorem dX7_pressFor_173 : decode cX7_pressFor 173 = .ok (.iload 4, 2) := by decide +kernel
theorem dX7_pressFor_175 : decode cX7_pressFor 175 = .ok (.invokevirtual 299, 3) := by decide +kernel
theorem dX7_pressFor_178 : decode cX7_pressFor 178 = .ok (.bipush 100, 2) := by decide +kernel
theorem dX7_pressFor_180 : decode cX7_pressFor 180 = .ok (.iload 5, 2) := by decide +kernel
theorem dX7_pressFor_182 : decode cX7_pressFor 182 = .ok (.iadd, 1) := by decide +kernel
theorem dX7_pressFor_183 : decode cX7_pressFor 183 = .ok (.ireturn, 1) := by decide +kernel
theorem dX7_weightOf_0 : decode cX7_weightOf 0 = .ok (.aload_n 1, 1) := by decide +kernel
theorem dX7_weightOf_1 : decode cX7_weightOf 1 = .ok (.getfield 147, 3) := by decide +kernel
theorem dX7_weightOf_4 : decode cX7_weightOf 4 = .ok (.iload_n 2, 1) := by decide +kernel
theorem dX7_weightOf_5 : decode cX7_weightOf 5 = .ok (.iload_n 3, 1) := by decide +kernel
theorem dX7_weightOf_6 : decode cX7_weightOf 6 = .ok (.iload 4, 2) := by decide +kernel
theorem dX7_weightOf_8 : decode cX7_weightOf 8 = .ok (.invokevirtual 293, 3) := by decide +kernel
theorem dX7_weightOf_11 : decode cX7_weightOf 11 = .ok (.istore 5, 2) := by decide +kernel
theorem dX7_weightOf_13 : decode cX7_weightOf 13 = .ok (.iload 5, 2) := by decide +kernel
theorem dX7_weightOf_15 : decode cX7_weightOf 15 = .ok (.iconst 0, 1) := by decide +kernel
theorem dX7_weightOf_16 : decode cX7_weightOf 16 = .ok (.iconst 2, 1) := by decide +kernel
theorem dX7_weightOf_17 : decode cX7_weightOf 17 = .ok (.invokestatic 66, 3) := by decide +kernel
theorem dX7_weightOf_20 : decode cX7_weightOf 20 = .ok (.ifCond .ne 5, 3) := by decide +kernel
theorem dX7_weightOf_23 : decode cX7_weightOf 23 = .ok (.iconst 0, 1) := by decide +kernel
theorem dX7_weightOf_24 : decode cX7_weightOf 24 = .ok (.ireturn, 1) := by decide +kernel
theorem dX7_weightOf_25 : decode cX7_weightOf 25 = .ok (.aload_n 0, 1) := by decide +kernel
theorem dX7_weightOf_26 : decode cX7_weightOf 26 = .ok (.getfield 12, 3) := by decide +kernel
theorem dX7_weightOf_29 : decode cX7_weightOf 29 = .ok (.getfield 105, 3) := by decide +kernel
theorem dX7_weightOf_32 : decode cX7_weightOf 32 = .ok (.iload_n 2, 1) := by decide +kernel
theorem dX7_weightOf_33 : decode cX7_weightOf 33 = .ok (.iaload, 1) := by decide +kernel
theorem dX7_weightOf_34 : decode cX7_weightOf 34 = .ok (.iconst 1, 1) := by decide +kernel
theorem dX7_weightOf_35 : decode cX7_weightOf 35 = .ok (.iadd, 1) := by decide +kernel
theorem dX7_weightOf_36 : decode cX7_weightOf 36 = .ok (.aload_n 1, 1) := by decide +kernel
theorem dX7_weightOf_37 : decode cX7_weightOf 37 = .ok (.getfield 225, 3) := by decide +kernel
theorem dX7_weightOf_40 : decode cX7_weightOf 40 = .ok (.iload 5, 2) := by decide +kernel
theorem dX7_weightOf_42 : decode cX7_weightOf 42 = .ok (.iaload, 1) := by decide +kernel
theorem dX7_weightOf_43 : decode cX7_weightOf 43 = .ok (.iconst 1, 1) := by decide +kernel
theorem dX7_weightOf_44 : decode cX7_weightOf 44 = .ok (.iadd, 1) := by decide +kernel
theorem dX7_weightOf_45 : decode cX7_weightOf 45 = .ok (.imul, 1) := by decide +kernel
theorem dX7_weightOf_46 : decode cX7_weightOf 46 = .ok (.ireturn, 1) := by decide +kernel
theorem dX7_leaveTrace_0 : decode cX7_leaveTrace 0 = .ok (.aload_n 0, 1) := by decide +kernel
theorem dX7_leaveTrace_1 : decode cX7_leaveTrace 1 = .ok (.bipush 31, 2) := by decide +kernel
theorem dX7_leaveTrace_3 : decode cX7_leaveTrace 3 = .ok (.aload_n 0, 1) := by decide +kernel
theorem dX7_leaveTrace_4 : decode cX7_leaveTrace 4 = .ok (.getfield 59, 3) := by decide +kernel
theorem dX7_leaveTrace_7 : decode cX7_leaveTrace 7 = .ok (.imul, 1) := by decide +kernel
theorem dX7_leaveTrace_8 : decode cX7_leaveTrace 8 = .ok (.iload_n 1, 1) := by decide +kernel
theorem dX7_leaveTrace_9 : decode cX7_leaveTrace 9 = .ok (.iadd, 1) := by decide +kernel
theorem dX7_leaveTrace_10 : decode cX7_leaveTrace 10 = .ok (.putfield 59, 3) := by decide +kernel
theorem dX7_leaveTrace_13 : decode cX7_leaveTrace 13 = .ok (.return_, 1) := by decide +kernel
theorem dX7_partBody_0 : decode cX7_partBody 0 = .ok (.aload_n 0, 1) := by decide +kernel
theorem dX7_partBody_1 : decode cX7_partBody 1 = .ok (.iconst 1, 1) := by decide +kernel
theorem dX7_partBody_2 : decode cX7_partBody 2 = .ok (.invokevirtual 303, 3) := by decide +kernel
theorem dX7_partBody_5 : decode cX7_partBody 5 = .ok (.aload_n 0, 1) := by decide +kernel
theorem dX7_partBody_6 : decode cX7_partBody 6 = .ok (.getfield 12, 3) := by decide +kernel
theorem dX7_partBody_9 : decode cX7_partBody 9 = .ok (.getfield 105, 3) := by decide +kernel
theorem dX7_partBody_12 : decode cX7_partBody 12 = .ok (.iload_n 1, 1) := by decide +kernel
theorem dX7_partBody_13 : decode cX7_partBody 13 = .ok (.iaload, 1) := by decide +kernel
theorem dX7_partBody_14 : decode cX7_partBody 14 = .ok (.ireturn, 1) := by decide +kernel
theorem dX7_deedBody_0 : decode cX7_deedBody 0 = .ok (.aload_n 0, 1) := by decide +kernel
theorem dX7_deedBody_1 : decode cX7_deedBody 1 = .ok (.iconst 2, 1) := by decide +kernel
theorem dX7_deedBody_2 : decode cX7_deedBody 2 = .ok (.invokevirtual 303, 3) := by decide +kernel
theorem dX7_deedBody_5 : decode cX7_deedBody 5 = .ok (.aload_n 0, 1) := by decide +kernel
theorem dX7_deedBody_6 : decode cX7_deedBody 6 = .ok (.iload_n 1, 1) := by decide +kernel
theorem dX7_deedBody_7 : decode cX7_deedBody 7 = .ok (.invokevirtual 275, 3) := by decide +kernel
theorem dX7_deedBody_10 : decode cX7_deedBody 10 = .ok (.sipush 1000, 3) := by decide +kernel
theorem dX7_deedBody_13 : decode cX7_deedBody 13 = .ok (.iadd, 1) := by decide +kernel
theorem dX7_deedBody_14 : decode cX7_deedBody 14 = .ok (.ireturn, 1) := by decide +kernel
theorem dX7_dangerBody_0 : decode cX7_dangerBody 0 = .ok (.aload_n 0, 1) := by decide +kernel
theorem dX7_dangerBody_1 : decode cX7_dangerBody 1 = .ok (.iconst 3, 1) := by decide +kernel
theorem dX7_dangerBody_2 : decode cX7_dangerBody 2 = .ok (.invokevirtual 303, 3) := by decide +kernel
theorem dX7_dangerBody_5 : decode cX7_dangerBody 5 = .ok (.aload_n 0, 1) := by decide +kernel
theorem dX7_dangerBody_6 : decode cX7_dangerBody 6 = .ok (.iload_n 1, 1) := by decide +kernel
theorem dX7_dangerBody_7 : decode cX7_dangerBody 7 = .ok (.invokevirtual 272, 3) := by decide +kernel
theorem dX7_dangerBody_10 : decode cX7_dangerBody 10 = .ok (.istore_n 2, 1) := by decide +kernel
theorem dX7_dangerBody_11 : decode cX7_dangerBody 11 = .ok (.iload_n 2, 1) := by decide +kernel
theorem dX7_dangerBody_12 : decode cX7_dangerBody 12 = .ok (.aload_n 0, 1) := by decide +kernel
theorem dX7_dangerBody_13 : decode cX7_dangerBody 13 = .ok (.iload_n 1, 1) := by decide +kernel
theorem dX7_dangerBody_14 : decode cX7_dangerBody 14 = .ok (.invokevirtual 275, 3) := by decide +kernel
theorem dX7_dangerBody_17 : decode cX7_dangerBody 17 = .ok (.iadd, 1) := by decide +kernel
theorem dX7_dangerBody_18 : decode cX7_dangerBody 18 = .ok (.ireturn, 1) := by decide +kernel
theorem dX7_lentBody_0 : decode cX7_lentBody 0 = .ok (.aload_n 0, 1) := by decide +kernel
theorem dX7_lentBody_1 : decode cX7_lentBody 1 = .ok (.iconst 4, 1) := by decide +kernel
theorem dX7_lentBody_2 : decode cX7_lentBody 2 = .ok (.invokevirtual 303, 3) := by decide +kernel
theorem dX7_lentBody_5 : decode cX7_lentBody 5 = .ok (.iload_n 1, 1) := by decide +kernel
theorem dX7_lentBody_6 : decode cX7_lentBody 6 = .ok (.ireturn, 1) := by decide +kernel
theorem dX7_dangerSpokenBody_0 : decode cX7_dangerSpokenBody 0 = .ok (.aload_n 0, 1) := by decide +kernel
theorem dX7_dangerSpokenBody_1 : decode cX7_dangerSpokenBody 1 = .ok (.iconst 5, 1) := by decide +kernel
theorem dX7_dangerSpokenBody_2 : decode cX7_dangerSpokenBody 2 = .ok (.invokevirtual 303, 3) := by decide +kernel
theorem dX7_dangerSpokenBody_5 : decode cX7_dangerSpokenBody 5 = .ok (.bipush 99, 2) := by decide +kernel
theorem dX7_dangerSpokenBody_7 : decode cX7_dangerSpokenBody 7 = .ok (.ireturn, 1) := by decide +kernel
theorem dX7_cutToLane_0 : decode cX7_cutToLane 0 = .ok (.iload_n 1, 1) := by decide +kernel
theorem dX7_cutToLane_1 : decode cX7_cutToLane 1 = .ok (.lookupswitch 33 #[(0, 27), (1, 30)], 27) := by decide +kernel
theorem dX7_cutToLane_28 : decode cX7_cutToLane 28 = .ok (.iload_n 0, 1) := by decide +kernel
theorem dX7_cutToLane_29 : decode cX7_cutToLane 29 = .ok (.i2b, 1) := by decide +kernel
theorem dX7_cutToLane_30 : decode cX7_cutToLane 30 = .ok (.ireturn, 1) := by decide +kernel
theorem dX7_cutToLane_31 : decode cX7_cutToLane 31 = .ok (.iload_n 0, 1) := by decide +kernel
theorem dX7_cutToLane_32 : decode cX7_cutToLane 32 = .ok (.i2s, 1) := by decide +kernel
theorem dX7_cutToLane_33 : decode cX7_cutToLane 33 = .ok (.ireturn, 1) := by decide +kernel
theorem dX7_cutToLane_34 : decode cX7_cutToLane 34 = .ok (.iload_n 0, 1) := by decide +kernel
theorem dX7_cutToLane_35 : decode cX7_cutToLane 35 = .ok (.ireturn, 1) := by decide +kernel
theorem dX7_columnOf_0 : decode cX7_columnOf 0 = .ok (.iload_n 0, 1) := by decide +kernel
theorem dX7_columnOf_1 : decode cX7_columnOf 1 = .ok (.iconst 4, 1) := by decide +kernel
theorem dX7_columnOf_2 : decode cX7_columnOf 2 = .ok (.irem, 1) := by decide +kernel
theorem dX7_columnOf_3 : decode cX7_columnOf 3 = .ok (.ireturn, 1) := by decide +kernel
theorem dX7_rowOf_0 : decode cX7_rowOf 0 = .ok (.iload_n 0, 1) := by decide +kernel
theorem dX7_rowOf_1 : decode cX7_rowOf 1 = .ok (.iconst 4, 1) := by decide +kernel
theorem dX7_rowOf_2 : decode cX7_rowOf 2 = .ok (.idiv, 1) := by decide +kernel
theorem dX7_rowOf_3 : decode cX7_rowOf 3 = .ok (.ireturn, 1) := by decide +kernel
theorem dX7_waysAsGreat_0 : decode cX7_waysAsGreat 0 = .ok (.iload_n 2, 1) := by decide +kernel
theorem dX7_waysAsGreat_1 : decode cX7_waysAsGreat 1 = .ok (.iload_n 1, 1) := by decide +kernel
theorem dX7_waysAsGreat_2 : decode cX7_waysAsGreat 2 = .ok (.if_icmp .ge 9, 3) := by decide +kernel
theorem dX7_waysAsGreat_5 : decode cX7_waysAsGreat 5 = .ok (.iload_n 2, 1) := by decide +kernel
theorem dX7_waysAsGreat_6 : decode cX7_waysAsGreat 6 = .ok (.aload_n 0, 1) := by decide +kernel
theorem dX7_waysAsGreat_7 : decode cX7_waysAsGreat 7 = .ok (.arraylength, 1) := by decide +kernel
theorem dX7_waysAsGreat_8 : decode cX7_waysAsGreat 8 = .ok (.if_icmp .lt 13, 3) := by decide +kernel
theorem dX7_waysAsGreat_11 : decode cX7_waysAsGreat 11 = .ok (.iload_n 3, 1) := by decide +kernel
theorem dX7_waysAsGreat_12 : decode cX7_waysAsGreat 12 = .ok (.ifCond .gt 7, 3) := by decide +kernel
theorem dX7_waysAsGreat_15 : decode cX7_waysAsGreat 15 = .ok (.iconst 1, 1) := by decide +kernel
theorem dX7_waysAsGreat_16 : decode cX7_waysAsGreat 16 = .ok (.goto 4, 3) := by decide +kernel
theorem dX7_waysAsGreat_19 : decode cX7_waysAsGreat 19 = .ok (.iconst 0, 1) := by decide +kernel
theorem dX7_waysAsGreat_20 : decode cX7_waysAsGreat 20 = .ok (.ireturn, 1) := by decide +kernel
theorem dX7_waysAsGreat_21 : decode cX7_waysAsGreat 21 = .ok (.aload_n 0, 1) := by decide +kernel
theorem dX7_waysAsGreat_22 : decode cX7_waysAsGreat 22 = .ok (.iload_n 1, 1) := by decide +kernel
theorem dX7_waysAsGreat_23 : decode cX7_waysAsGreat 23 = .ok (.iload_n 2, 1) := by decide +kernel
theorem dX7_waysAsGreat_24 : decode cX7_waysAsGreat 24 = .ok (.iconst 1, 1) := by decide +kernel
theorem dX7_waysAsGreat_25 : decode cX7_waysAsGreat 25 = .ok (.iadd, 1) := by decide +kernel
theorem dX7_waysAsGreat_26 : decode cX7_waysAsGreat 26 = .ok (.iload_n 3, 1) := by decide +kernel
theorem dX7_waysAsGreat_27 : decode cX7_waysAsGreat 27 = .ok (.invokestatic 246, 3) := by decide +kernel
theorem dX7_waysAsGreat_30 : decode cX7_waysAsGreat 30 = .ok (.aload_n 0, 1) := by decide +kernel
theorem dX7_waysAsGreat_31 : decode cX7_waysAsGreat 31 = .ok (.iload_n 1, 1) := by decide +kernel
theorem dX7_waysAsGreat_32 : decode cX7_waysAsGreat 32 = .ok (.iload_n 2, 1) := by decide +kernel
theorem dX7_waysAsGreat_33 : decode cX7_waysAsGreat 33 = .ok (.iconst 1, 1) := by decide +kernel
theorem dX7_waysAsGreat_34 : decode cX7_waysAsGreat 34 = .ok (.iadd, 1) := by decide +kernel
theorem dX7_waysAsGreat_35 : decode cX7_waysAsGreat 35 = .ok (.iload_n 3, 1) := by decide +kernel
theorem dX7_waysAsGreat_36 : decode cX7_waysAsGreat 36 = .ok (.aload_n 0, 1) := by decide +kernel
theorem dX7_waysAsGreat_37 : decode cX7_waysAsGreat 37 = .ok (.iload_n 2, 1) := by decide +kernel
theorem dX7_waysAsGreat_38 : decode cX7_waysAsGreat 38 = .ok (.iaload, 1) := by decide +kernel
theorem dX7_waysAsGreat_39 : decode cX7_waysAsGreat 39 = .ok (.iadd, 1) := by decide +kernel
theorem dX7_waysAsGreat_40 : decode cX7_waysAsGreat 40 = .ok (.invokestatic 246, 3) := by decide +kernel
theorem dX7_waysAsGreat_43 : decode cX7_waysAsGreat 43 = .ok (.iadd, 1) := by decide +kernel
theorem dX7_waysAsGreat_44 : decode cX7_waysAsGreat 44 = .ok (.ireturn, 1) := by decide +kernel
theorem dX7_shareNumber_0 : decode cX7_shareNumber 0 = .ok (.iconst 1, 1) := by decide +kernel
theorem dX7_shareNumber_1 : decode cX7_shareNumber 1 = .ok (.iload_n 0, 1) := by decide +kernel
theorem dX7_shareNumber_2 : decode cX7_shareNumber 2 = .ok (.iload_n 1, 1) := by decide +kernel
theorem dX7_shareNumber_3 : decode cX7_shareNumber 3 = .ok (.invokestatic 306, 3) := by decide +kernel
theorem dX7_shareNumber_6 : decode cX7_shareNumber 6 = .ok (.invokestatic 187, 3) := by decide +kernel
theorem dX7_shareNumber_9 : decode cX7_shareNumber 9 = .ok (.istore_n 3, 1) := by decide +kernel
theorem dX7_shareNumber_10 : decode cX7_shareNumber 10 = .ok (.iload_n 2, 1) := by decide +kernel
theorem dX7_shareNumber_11 : decode cX7_shareNumber 11 = .ok (.ifCond .ne 7, 3) := by decide +kernel
theorem dX7_shareNumber_14 : decode cX7_shareNumber 14 = .ok (.iload_n 0, 1) := by decide +kernel
theorem dX7_shareNumber_15 : decode cX7_shareNumber 15 = .ok (.goto 4, 3) := by decide +kernel
theorem dX7_shareNumber_18 : decode cX7_shareNumber 18 = .ok (.iload_n 1, 1) := by decide +kernel
theorem dX7_shareNumber_19 : decode cX7_shareNumber 19 = .ok (.iload_n 3, 1) := by decide +kernel
theorem dX7_shareNumber_20 : decode cX7_shareNumber 20 = .ok (.idiv, 1) := by decide +kernel
theorem dX7_shareNumber_21 : decode cX7_shareNumber 21 = .ok (.ireturn, 1) := by decide +kernel
theorem dX7_greatestDivisor_0 : decode cX7_greatestDivisor 0 = .ok (.iload_n 0, 1) := by decide +kernel
theorem dX7_greatestDivisor_1 : decode cX7_greatestDivisor 1 = .ok (.istore_n 2, 1) := by decide +kernel
theorem dX7_greatestDivisor_2 : decode cX7_greatestDivisor 2 = .ok (.iload_n 1, 1) := by decide +kernel
theorem dX7_greatestDivisor_3 : decode cX7_greatestDivisor 3 = .ok (.istore_n 3, 1) := by decide +kernel
theorem dX7_greatestDivisor_4 : decode cX7_greatestDivisor 4 = .ok (.iconst 0, 1) := by decide +kernel
theorem dX7_greatestDivisor_5 : decode cX7_greatestDivisor 5 = .ok (.istore 4, 2) := by decide +kernel
theorem dX7_greatestDivisor_7 : decode cX7_greatestDivisor 7 = .ok (.iload 4, 2) := by decide +kernel
theorem dX7_greatestDivisor_9 : decode cX7_greatestDivisor 9 = .ok (.bipush 100, 2) := by decide +kernel
theorem dX7_greatestDivisor_11 : decode cX7_greatestDivisor 11 = .ok (.if_icmp .ge 23, 3) := by decide +kernel
theorem dX7_greatestDivisor_14 : decode cX7_greatestDivisor 14 = .ok (.iload_n 3, 1) := by decide +kernel
theorem dX7_greatestDivisor_15 : decode cX7_greatestDivisor 15 = .ok (.ifCond .eq 19, 3) := by decide +kernel
theorem dX7_greatestDivisor_18 : decode cX7_greatestDivisor 18 = .ok (.iload_n 2, 1) := by decide +kernel
theorem dX7_greatestDivisor_19 : decode cX7_greatestDivisor 19 = .ok (.iload_n 3, 1) := by decide +kernel
theorem dX7_greatestDivisor_20 : decode cX7_greatestDivisor 20 = .ok (.irem, 1) := by decide +kernel
theorem dX7_greatestDivisor_21 : decode cX7_greatestDivisor 21 = .ok (.istore 5, 2) := by decide +kernel
theorem dX7_greatestDivisor_23 : decode cX7_greatestDivisor 23 = .ok (.iload_n 3, 1) := by decide +kernel
theorem dX7_greatestDivisor_24 : decode cX7_greatestDivisor 24 = .ok (.istore_n 2, 1) := by decide +kernel
theorem dX7_greatestDivisor_25 : decode cX7_greatestDivisor 25 = .ok (.iload 5, 2) := by decide +kernel
theorem dX7_greatestDivisor_27 : decode cX7_greatestDivisor 27 = .ok (.istore_n 3, 1) := by decide +kernel
theorem dX7_greatestDivisor_28 : decode cX7_greatestDivisor 28 = .ok (.iinc 4 1, 3) := by decide +kernel
theorem dX7_greatestDivisor_31 : decode cX7_greatestDivisor 31 = .ok (.goto (-24), 3) := by decide +kernel
theorem dX7_greatestDivisor_34 : decode cX7_greatestDivisor 34 = .ok (.iload_n 2, 1) := by decide +kernel
theorem dX7_greatestDivisor_35 : decode cX7_greatestDivisor 35 = .ok (.ireturn, 1) := by decide +kernel
theorem dX8_init_0 : decode cX8_init 0 = .ok (.aload_n 0, 1) := by decide +kernel
theorem dX8_init_1 : decode cX8_init 1 = .ok (.invokespecial 1, 3) := by decide +kernel
theorem dX8_init_4 : decode cX8_init 4 = .ok (.aload_n 0, 1) := by decide +kernel
theorem dX8_init_5 : decode cX8_init 5 = .ok (.bipush 10, 2) := by decide +kernel
theorem dX8_init_7 : decode cX8_init 7 = .ok (.newarray .int, 2) := by decide +kernel
theorem dX8_init_9 : decode cX8_init 9 = .ok (.putfield 7, 3) := by decide +kernel
theorem dX8_init_12 : decode cX8_init 12 = .ok (.aload_n 0, 1) := by decide +kernel
theorem dX8_init_13 : decode cX8_init 13 = .ok (.bipush 10, 2) := by decide +kernel
theorem dX8_init_15 : decode cX8_init 15 = .ok (.newarray .int, 2) := by decide +kernel
theorem dX8_init_17 : decode cX8_init 17 = .ok (.putfield 13, 3) := by decide +kernel
theorem dX8_init_20 : decode cX8_init 20 = .ok (.aload_n 0, 1) := by decide +kernel
theorem dX8_init_21 : decode cX8_init 21 = .ok (.bipush 100, 2) := by decide +kernel
theorem dX8_init_23 : decode cX8_init 23 = .ok (.newarray .int, 2) := by decide +kernel
theorem dX8_init_25 : decode cX8_init 25 = .ok (.putfield 16, 3) := by decide +kernel
theorem dX8_init_28 : decode cX8_init 28 = .ok (.aload_n 0, 1) := by decide +kernel
theorem dX8_init_29 : decode cX8_init 29 = .ok (.bipush 10, 2) := by decide +kernel
theorem dX8_init_31 : decode cX8_init 31 = .ok (.newarray .int, 2) := by decide +kernel
theorem dX8_init_33 : decode cX8_init 33 = .ok (.putfield 19, 3) := by decide +kernel
theorem dX8_init_36 : decode cX8_init 36 = .ok (.aload_n 0, 1) := by decide +kernel
theorem dX8_init_37 : decode cX8_init 37 = .ok (.bipush 10, 2) := by decide +kernel
theorem dX8_init_39 : decode cX8_init 39 = .ok (.newarray .int, 2) := by decide +kernel
theorem dX8_init_41 : decode cX8_init 41 = .ok (.putfield 22, 3) := by decide +kernel
theorem dX8_init_44 : decode cX8_init 44 = .ok (.aload_n 0, 1) := by decide +kernel
theorem dX8_init_45 : decode cX8_init 45 = .ok (.bipush 100, 2) := by decide +kernel
theorem dX8_init_47 : decode cX8_init 47 = .ok (.newarray .int, 2) := by decide +kernel
theorem dX8_init_49 : decode cX8_init 49 = .ok (.putfield 25, 3) := by decide +kernel
theorem dX8_init_52 : decode cX8_init 52 = .ok (.aload_n 0, 1) := by decide +kernel
theorem dX8_init_53 : decode cX8_init 53 = .ok (.iconst 4, 1) := by decide +kernel
theorem dX8_init_54 : decode cX8_init 54 = .ok (.newarray .int, 2) := by decide +kernel
theorem dX8_init_56 : decode cX8_init 56 = .ok (.putfield 28, 3) := by decide +kernel
theorem dX8_init_59 : decode cX8_init 59 = .ok (.aload_n 0, 1) := by decide +kernel
theorem dX8_init_60 : decode cX8_init 60 = .ok (.iconst 4, 1) := by decide +kernel
theorem dX8_init_61 : decode cX8_init 61 = .ok (.newarray .int, 2) := by decide +kernel
theorem dX8_init_63 : decode cX8_init 63 = .ok (.putfield 31, 3) := by decide +kernel
theorem dX8_init_66 : decode cX8_init 66 = .ok (.aload_n 0, 1) := by decide +kernel
theorem dX8_init_67 : decode cX8_init 67 = .ok (.iconst 4, 1) := by decide +kernel
theorem dX8_init_68 : decode cX8_init 68 = .ok (.newarray .int, 2) := by decide +kernel
theorem dX8_init_70 : decode cX8_init 70 = .ok (.putfield 34, 3) := by decide +kernel
theorem dX8_init_73 : decode cX8_init 73 = .ok (.aload_n 0, 1) := by decide +kernel
theorem dX8_init_74 : decode cX8_init 74 = .ok (.iconst 4, 1) := by decide +kernel
theorem dX8_init_75 : decode cX8_init 75 = .ok (.newarray .boolean, 2) := by decide +kernel
theorem dX8_init_77 : decode cX8_init 77 = .ok (.putfield 37, 3) := by decide +kernel
theorem dX8_init_80 : decode cX8_init 80 = .ok (.aload_n 0, 1) := by decide +kernel
theorem dX8_init_81 : decode cX8_init 81 = .ok (.iconst 4, 1) := by decide +kernel
theorem dX8_init_82 : decode cX8_init 82 = .ok (.newarray .boolean, 2) := by decide +kernel
theorem dX8_init_84 : decode cX8_init 84 = .ok (.putfield 41, 3) := by decide +kernel
theorem dX8_init_87 : decode cX8_init 87 = .ok (.aload_n 0, 1) := by decide +kernel
theorem dX8_init_88 : decode cX8_init 88 = .ok (.bipush 40, 2) := by decide +kernel
theorem dX8_init_90 : decode cX8_init 90 = .ok (.newarray .int, 2) := by decide +kernel
theorem dX8_init_92 : decode cX8_init 92 = .ok (.putfield 44, 3) := by decide +kernel
theorem dX8_init_95 : decode cX8_init 95 = .ok (.aload_n 0, 1) := by decide +kernel
theorem dX8_init_96 : decode cX8_init 96 = .ok (.bipush 40, 2) := by decide +kernel
theorem dX8_init_98 : decode cX8_init 98 = .ok (.newarray .int, 2) := by decide +kernel
theorem dX8_init_100 : decode cX8_init 100 = .ok (.putfield 47, 3) := by decide +kernel
theorem dX8_init_103 : decode cX8_init 103 = .ok (.aload_n 0, 1) := by decide +kernel
theorem dX8_init_104 : decode cX8_init 104 = .ok (.iconst 5, 1) := by decide +kernel
theorem dX8_init_105 : decode cX8_init 105 = .ok (.newarray .int, 2) := by decide +kernel
theorem dX8_init_107 : decode cX8_init 107 = .ok (.putfield 50, 3) := by decide +kernel
theorem dX8_init_110 : decode cX8_init 110 = .ok (.aload_n 0, 1) := by decide +kernel
theorem dX8_init_111 : decode cX8_init 111 = .ok (.iconst 5, 1) := by decide +kernel
theorem dX8_init_112 : decode cX8_init 112 = .ok (.newarray .int, 2) := by decide +kernel
theorem dX8_init_114 : decode cX8_init 114 = .ok (.putfield 53, 3) := by decide +kernel
theorem dX8_init_117 : decode cX8_init 117 = .ok (.aload_n 0, 1) := by decide +kernel
theorem dX8_init_118 : decode cX8_init 118 = .ok (.iconst 5, 1) := by decide +kernel
theorem dX8_init_119 : decode cX8_init 119 = .ok (.newarray .int, 2) := by decide +kernel
theorem dX8_init_121 : decode cX8_init 121 = .ok (.putfield 56, 3) := by decide +kernel
theorem dX8_init_124 : decode cX8_init 124 = .ok (.aload_n 0, 1) := by decide +kernel
theorem dX8_init_125 : decode cX8_init 125 = .ok (.bipush 20, 2) := by decide +kernel
theorem dX8_init_127 : decode cX8_init 127 = .ok (.newarray .int, 2) := by decide +kernel
theorem dX8_init_129 : decode cX8_init 129 = .ok (.putfield 59, 3) := by decide +kernel
theorem dX8_init_132 : decode cX8_init 132 = .ok (.aload_n 0, 1) := by decide +kernel
theorem dX8_init_133 : decode cX8_init 133 = .ok (.bipush 20, 2) := by decide +kernel
theorem dX8_init_135 : decode cX8_init 135 = .ok (.newarray .int, 2) := by decide +kernel
theorem dX8_init_137 : decode cX8_init 137 = .ok (.putfield 62, 3) := by decide +kernel
theorem dX8_init_140 : decode cX8_init 140 = .ok (.aload_n 0, 1) := by decide +kernel
theorem dX8_init_141 : decode cX8_init 141 = .ok (.bipush 10, 2) := by decide +kernel
theorem dX8_init_143 : decode cX8_init 143 = .ok (.newarray .int, 2) := by decide +kernel
theorem dX8_init_145 : decode cX8_init 145 = .ok (.putfield 65, 3) := by decide +kernel
theorem dX8_init_148 : decode cX8_init 148 = .ok (.aload_n 0, 1) := by decide +kernel
theorem dX8_init_149 : decode cX8_init 149 = .ok (.iconst 4, 1) := by decide +kernel
theorem dX8_init_150 : decode cX8_init 150 = .ok (.newarray .int, 2) := by decide +kernel
theorem dX8_init_152 : decode cX8_init 152 = .ok (.putfield 68, 3) := by decide +kernel
theorem dX8_init_155 : decode cX8_init 155 = .ok (.aload_n 0, 1) := by decide +kernel
theorem dX8_init_156 : decode cX8_init 156 = .ok (.iconst 4, 1) := by decide +kernel
theorem dX8_init_157 : decode cX8_init 157 = .ok (.newarray .int, 2) := by decide +kernel
theorem dX8_init_159 : decode cX8_init 159 = .ok (.putfield 71, 3) := by decide +kernel
theorem dX8_init_162 : decode cX8_init 162 = .ok (.aload_n 0, 1) := by decide +kernel
theorem dX8_init_163 : decode cX8_init 163 = .ok (.iconst 4, 1) := by decide +kernel
theorem dX8_init_164 : decode cX8_init 164 = .ok (.newarray .int, 2) := by decide +kernel
theorem dX8_init_166 : decode cX8_init 166 = .ok (.putfield 74, 3) := by decide +kernel
theorem dX8_init_169 : decode cX8_init 169 = .ok (.aload_n 0, 1) := by decide +kernel
theorem dX8_init_170 : decode cX8_init 170 = .ok (.iconst 4, 1) := by decide +kernel
theorem dX8_init_171 : decode cX8_init 171 = .ok (.newarray .int, 2) := by decide +kernel
theorem dX8_init_173 : decode cX8_init 173 = .ok (.putfield 77, 3) := by decide +kernel
theorem dX8_init_176 : decode cX8_init 176 = .ok (.aload_n 0, 1) := by decide +kernel
theorem dX8_init_177 : decode cX8_init 177 = .ok (.bipush 12, 2) := by decide +kernel
theorem dX8_init_179 : decode cX8_init 179 = .ok (.newarray .int, 2) := by decide +kernel
theorem dX8_init_181 : decode cX8_init 181 = .ok (.putfield 80, 3) := by decide +kernel
theorem dX8_init_184 : decode cX8_init 184 = .ok (.aload_n 0, 1) := by decide +kernel
theorem dX8_init_185 : decode cX8_init 185 = .ok (.iconst 4, 1) := by decide +kernel
theorem dX8_init_186 : decode cX8_init 186 = .ok (.newarray .int, 2) := by decide +kernel
theorem dX8_init_188 : decode cX8_init 188 = .ok (.putfield 83, 3) := by decide +kernel
theorem dX8_init_191 : decode cX8_init 191 = .ok (.aload_n 0, 1) := by decide +kernel
theorem dX8_init_192 : decode cX8_init 192 = .ok (.bipush 48, 2) := by decide +kernel
theorem dX8_init_194 : decode cX8_init 194 = .ok (.newarray .int, 2) := by decide +kernel
theorem dX8_init_196 : decode cX8_init 196 = .ok (.putfield 86, 3) := by decide +kernel
theorem dX8_init_199 : decode cX8_init 199 = .ok (.aload_n 0, 1) := by decide +kernel
theorem dX8_init_200 : decode cX8_init 200 = .ok (.iconst 4, 1) := by decide +kernel
theorem dX8_init_201 : decode cX8_init 201 = .ok (.newarray .int, 2) := by decide +kernel
theorem dX8_init_203 : decode cX8_init 203 = .ok (.putfield 89, 3) := by decide +kernel
theorem dX8_init_206 : decode cX8_init 206 = .ok (.aload_n 0, 1) := by decide +kernel
theorem dX8_init_207 : decode cX8_init 207 = .ok (.bipush 40, 2) := by decide +kernel
theorem dX8_init_209 : decode cX8_init 209 = .ok (.newarray .int, 2) := by decide +kernel
theorem dX8_init_211 : decode cX8_init 211 = .ok (.putfield 92, 3) := by decide +kernel
theorem dX8_init_214 : decode cX8_init 214 = .ok (.aload_n 0, 1) := by decide +kernel
theorem dX8_init_215 : decode cX8_init 215 = .ok (.bipush 32, 2) := by decide +kernel
theorem dX8_init_217 : decode cX8_init 217 = .ok (.newarray .int, 2) := by decide +kernel
theorem dX8_init_219 : decode cX8_init 219 = .ok (.putfield 95, 3) := by decide +kernel
theorem dX8_init_222 : decode cX8_init 222 = .ok (.aload_n 0, 1) := by decide +kernel
theorem dX8_init_223 : decode cX8_init 223 = .ok (.iconst 4, 1) := by decide +kernel
theorem dX8_init_224 : decode cX8_init 224 = .ok (.newarray .int, 2) := by decide +kernel
theorem dX8_init_226 : decode cX8_init 226 = .ok (.putfield 98, 3) := by decide +kernel
theorem dX8_init_229 : decode cX8_init 229 = .ok (.aload_n 0, 1) := by decide +kernel
theorem dX8_init_230 : decode cX8_init 230 = .ok (.iconst 4, 1) := by decide +kernel
theorem dX8_init_231 : decode cX8_init 231 = .ok (.newarray .int, 2) := by decide +kernel
theorem dX8_init_233 : decode cX8_init 233 = .ok (.putfield 101, 3) := by decide +kernel
theorem dX8_init_236 : decode cX8_init 236 = .ok (.aload_n 0, 1) := by decide +kernel
theorem dX8_init_237 : decode cX8_init 237 = .ok (.sipush 240, 3) := by decide +kernel
theorem dX8_init_240 : decode cX8_init 240 = .ok (.newarray .int, 2) := by decide +kernel
theorem dX8_init_242 : decode cX8_init 242 = .ok (.putfield 104, 3) := by decide +kernel
theorem dX8_init_245 : decode cX8_init 245 = .ok (.aload_n 0, 1) := by decide +kernel
theorem dX8_init_246 : decode cX8_init 246 = .ok (.bipush 60, 2) := by decide +kernel
theorem dX8_init_248 : decode cX8_init 248 = .ok (.newarray .int, 2) := by decide +kernel
theorem dX8_init_250 : decode cX8_init 250 = .ok (.putfield 107, 3) := by decide +kernel
theorem dX8_init_253 : decode cX8_init 253 = .ok (.aload_n 0, 1) := by decide +kernel
theorem dX8_init_254 : decode cX8_init 254 = .ok (.iconst 5, 1) := by decide +kernel
theorem dX8_init_255 : decode cX8_init 255 = .ok (.putfield 110, 3) := by decide +kernel
theorem dX8_init_258 : decode cX8_init 258 = .ok (.aload_n 0, 1) := by decide +kernel
theorem dX8_init_259 : decode cX8_init 259 = .ok (.bipush 10, 2) := by decide +kernel
theorem dX8_init_261 : decode cX8_init 261 = .ok (.putfield 114, 3) := by decide +kernel
theorem dX8_init_264 : decode cX8_init 264 = .ok (.iconst 0, 1) := by decide +kernel
theorem dX8_init_265 : decode cX8_init 265 = .ok (.istore_n 1, 1) := by decide +kernel
theorem dX8_init_266 : decode cX8_init 266 = .ok (.iload_n 1, 1) := by decide +kernel
theorem dX8_init_267 : decode cX8_init 267 = .ok (.iconst 4, 1) := by decide +kernel
theorem dX8_init_268 : decode cX8_init 268 = .ok (.if_icmp .ge 34, 3) := by decide +kernel
theorem dX8_init_271 : decode cX8_init 271 = .ok (.aload_n 0, 1) := by decide +kernel
theorem dX8_init_272 : decode cX8_init 272 = .ok (.getfield 31, 3) := by decide +kernel
theorem dX8_init_275 : decode cX8_init 275 = .ok (.iload_n 1, 1) := by decide +kernel
theorem dX8_init_276 : decode cX8_init 276 = .ok (.sipush 4095, 3) := by decide +kernel
theorem dX8_init_279 : decode cX8_init 279 = .ok (.iastore, 1) := by decide +kernel
theorem dX8_init_280 : decode cX8_init 280 = .ok (.aload_n 0, 1) := by decide +kernel
theorem dX8_init_281 : decode cX8_init 281 = .ok (.getfield 34, 3) := by decide +kernel
theorem dX8_init_284 : decode cX8_init 284 = .ok (.iload_n 1, 1) := by decide +kernel
theorem dX8_init_285 : decode cX8_init 285 = .ok (.bipush 10, 2) := by decide +kernel
theorem dX8_init_287 : decode cX8_init 287 = .ok (.iastore, 1) := by decide +kernel
theorem dX8_init_288 : decode cX8_init 288 = .ok (.aload_n 0, 1) := by decide +kernel
theorem dX8_init_289 : decode cX8_init 289 = .ok (.getfield 68, 3) := by decide +kernel
theorem dX8_init_292 : decode cX8_init 292 = .ok (.iload_n 1, 1) := by decide +kernel
theorem dX8_init_293 : decode cX8_init 293 = .ok (.bipush (-9), 2) := by decide +kernel
theorem dX8_init_295 : decode cX8_init 295 = .ok (.iastore, 1) := by decide +kernel
theorem dX8_init_296 : decode cX8_init 296 = .ok (.iinc 1 1, 3) := by decide +kernel
theorem dX8_init_299 : decode cX8_init 299 = .ok (.goto (-33), 3) := by decide +kernel
theorem dX8_init_302 : decode cX8_init 302 = .ok (.iconst 0, 1) := by decide +kernel
theorem dX8_init_303 : decode cX8_init 303 = .ok (.istore_n 1, 1) := by decide +kernel
theorem dX8_init_304 : decode cX8_init 304 = .ok (.iload_n 1, 1) := by decide +kernel
theorem dX8_init_305 : decode cX8_init 305 = .ok (.bipush 40, 2) := by decide +kernel
theorem dX8_init_307 : decode cX8_init 307 = .ok (.if_icmp .ge 25, 3) := by decide +kernel
theorem dX8_init_310 : decode cX8_init 310 = .ok (.aload_n 0, 1) := by decide +kernel
theorem dX8_init_311 : decode cX8_init 311 = .ok (.getfield 44, 3) := by decide +kernel
theorem dX8_init_314 : decode cX8_init 314 = .ok (.iload_n 1, 1) := by decide +kernel
theorem dX8_init_315 : decode cX8_init 315 = .ok (.bipush (-9), 2) := by decide +kernel
theorem dX8_init_317 : decode cX8_init 317 = .ok (.iastore, 1) := by decide +kernel
theorem dX8_init_318 : decode cX8_init 318 = .ok (.aload_n 0, 1) := by decide +kernel
theorem dX8_init_319 : decode cX8_init 319 = .ok (.getfield 47, 3) := by decide +kernel
theorem dX8_init_322 : decode cX8_init 322 = .ok (.iload_n 1, 1) := by decide +kernel
theorem dX8_init_323 : decode cX8_init 323 = .ok (.bipush (-9), 2) := by decide +kernel
theorem dX8_init_325 : decode cX8_init 325 = .ok (.iastore, 1) := by decide +kernel
theorem dX8_init_326 : decode cX8_init 326 = .ok (.iinc 1 1, 3) := by decide +kernel
theorem dX8_init_329 : decode cX8_init 329 = .ok (.goto (-25), 3) := by decide +kernel
theorem dX8_init_332 : decode cX8_init 332 = .ok (.iconst 0, 1) := by decide +kernel
theorem dX8_init_333 : decode cX8_init 333 = .ok (.istore_n 1, 1) := by decide +kernel
theorem dX8_init_334 : decode cX8_init 334 = .ok (.iload_n 1, 1) := by decide +kernel
theorem dX8_init_335 : decode cX8_init 335 = .ok (.bipush 32, 2) := by decide +kernel
theorem dX8_init_337 : decode cX8_init 337 = .ok (.if_icmp .ge 17, 3) := by decide +kernel
theorem dX8_init_340 : decode cX8_init 340 = .ok (.aload_n 0, 1) := by decide +kernel
theorem dX8_init_341 : decode cX8_init 341 = .ok (.getfield 95, 3) := by decide +kernel
theorem dX8_init_344 : decode cX8_init 344 = .ok (.iload_n 1, 1) := by decide +kernel
theorem dX8_init_345 : decode cX8_init 345 = .ok (.bipush (-9), 2) := by decide +kernel
theorem dX8_init_347 : decode cX8_init 347 = .ok (.iastore, 1) := by decide +kernel
theorem dX8_init_348 : decode cX8_init 348 = .ok (.iinc 1 1, 3) := by decide +kernel
theorem dX8_init_351 : decode cX8_init 351 = .ok (.goto (-17), 3) := by decide +kernel
theorem dX8_init_354 : decode cX8_init 354 = .ok (.iconst 0, 1) := by decide +kernel
theorem dX8_init_355 : decode cX8_init 355 = .ok (.istore_n 1, 1) := by decide +kernel
theorem dX8_init_356 : decode cX8_init 356 = .ok (.iload_n 1, 1) := by decide +kernel
theorem dX8_init_357 : decode cX8_init 357 = .ok (.iconst 4, 1) := by decide +kernel
theorem dX8_init_358 : decode cX8_init 358 = .ok (.if_icmp .ge 16, 3) := by decide +kernel
theorem dX8_init_361 : decode cX8_init 361 = .ok (.aload_n 0, 1) := by decide +kernel
theorem dX8_init_362 : decode cX8_init 362 = .ok (.getfield 98, 3) := by decide +kernel
theorem dX8_init_365 : decode cX8_init 365 = .ok (.iload_n 1, 1) := by decide +kernel
theorem dX8_init_366 : decode cX8_init 366 = .ok (.iconst (-1), 1) := by decide +kernel
theorem dX8_init_367 : decode cX8_init 367 = .ok (.iastore, 1) := by decide +kernel
theorem dX8_init_368 : decode cX8_init 368 = .ok (.iinc 1 1, 3) := by decide +kernel
theorem dX8_init_371 : decode cX8_init 371 = .ok (.goto (-15), 3) := by decide +kernel
theorem dX8_init_374 : decode cX8_init 374 = .ok (.return_, 1) := by decide +kernel
theorem dX8_in_0 : decode cX8_in 0 = .ok (.lload_n 0, 1) := by decide +kernel
theorem dX8_in_1 : decode cX8_in 1 = .ok (.lload_n 2, 1) := by decide +kernel
theorem dX8_in_2 : decode cX8_in 2 = .ok (.lcmp, 1) := by decide +kernel
theorem dX8_in_3 : decode cX8_in 3 = .ok (.ifCond .lt 14, 3) := by decide +kernel
theorem dX8_in_6 : decode cX8_in 6 = .ok (.lload_n 0, 1) := by decide +kernel
theorem dX8_in_7 : decode cX8_in 7 = .ok (.lload 4, 2) := by decide +kernel
theorem dX8_in_9 : decode cX8_in 9 = .ok (.lcmp, 1) := by decide +kernel
theorem dX8_in_10 : decode cX8_in 10 = .ok (.ifCond .gt 7, 3) := by decide +kernel
theorem dX8_in_13 : decode cX8_in 13 = .ok (.iconst 1, 1) := by decide +kernel
theorem dX8_in_14 : decode cX8_in 14 = .ok (.goto 4, 3) := by decide +kernel
theorem dX8_in_17 : decode cX8_in 17 = .ok (.iconst 0, 1) := by decide +kernel
theorem dX8_in_18 : decode cX8_in 18 = .ok (.ireturn, 1) := by decide +kernel
theorem dX8_lost_0 : decode cX8_lost 0 = .ok (.ldc2_w 117, 3) := by decide +kernel
theorem dX8_lost_3 : decode cX8_lost 3 = .ok (.lreturn, 1) := by decide +kernel
theorem dX8_hasBit_0 : decode cX8_hasBit 0 = .ok (.iload_n 0, 1) := by decide +kernel
theorem dX8_hasBit_1 : decode cX8_hasBit 1 = .ok (.iload_n 1, 1) := by decide +kernel
theorem dX8_hasBit_2 : decode cX8_hasBit 2 = .ok (.ishr, 1) := by decide +kernel
theorem dX8_hasBit_3 : decode cX8_hasBit 3 = .ok (.iconst 1, 1) := by decide +kernel
theorem dX8_hasBit_4 : decode cX8_hasBit 4 = .ok (.iand, 1) := by decide +kernel
theorem dX8_hasBit_5 : decode cX8_hasBit 5 = .ok (.iconst 1, 1) := by decide +kernel
theorem dX8_hasBit_6 : decode cX8_hasBit 6 = .ok (.if_icmp .ne 7, 3) := by decide +kernel
theorem dX8_hasBit_9 : decode cX8_hasBit 9 = .ok (.iconst 1, 1) := by decide +kernel
theorem dX8_hasBit_10 : decode cX8_hasBit 10 = .ok (.goto 4, 3) := by decide +kernel
theorem dX8_hasBit_13 : decode cX8_hasBit 13 = .ok (.iconst 0, 1) := by decide +kernel
theorem dX8_hasBit_14 : decode cX8_hasBit 14 = .ok (.ireturn, 1) := by decide +kernel
theorem dX8_bits_0 : decode cX8_bits 0 = .ok (.iconst 0, 1) := by decide +kernel
theorem dX8_bits_1 : decode cX8_bits 1 = .ok (.istore_n 1, 1) := by decide +kernel
theorem dX8_bits_2 : decode cX8_bits 2 = .ok (.iconst 0, 1) := by decide +kernel
theorem dX8_bits_3 : decode cX8_bits 3 = .ok (.istore_n 2, 1) := by decide +kernel
theorem dX8_bits_4 : decode cX8_bits 4 = .ok (.iload_n 2, 1) := by decide +kernel
theorem dX8_bits_5 : decode cX8_bits 5 = .ok (.bipush 16, 2) := by decide +kernel
theorem dX8_bits_7 : decode cX8_bits 7 = .ok (.if_icmp .ge 17, 3) := by decide +kernel
theorem dX8_bits_10 : decode cX8_bits 10 = .ok (.iload_n 1, 1) := by decide +kernel
theorem dX8_bits_11 : decode cX8_bits 11 = .ok (.iload_n 0, 1) := by decide +kernel
theorem dX8_bits_12 : decode cX8_bits 12 = .ok (.iload_n 2, 1) := by decide +kernel
theorem dX8_bits_13 : decode cX8_bits 13 = .ok (.ishr, 1) := by decide +kernel
theorem dX8_bits_14 : decode cX8_bits 14 = .ok (.iconst 1, 1) := by decide +kernel
theorem dX8_bits_15 : decode cX8_bits 15 = .ok (.iand, 1) := by decide +kernel
theorem dX8_bits_16 : decode cX8_bits 16 = .ok (.iadd, 1) := by decide +kernel
theorem dX8_bits_17 : decode cX8_bits 17 = .ok (.istore_n 1, 1) := by decide +kernel
theorem dX8_bits_18 : decode cX8_bits 18 = .ok (.iinc 2 1, 3) := by decide +kernel
theorem dX8_bits_21 : decode cX8_bits 21 = .ok (.goto (-17), 3) := by decide +kernel
theorem dX8_bits_24 : decode cX8_bits 24 = .ok (.iload_n 1, 1) := by decide +kernel
theorem dX8_bits_25 : decode cX8_bits 25 = .ok (.ireturn, 1) := by decide +kernel
theorem dX8_sizeOf_0 : decode cX8_sizeOf 0 = .ok (.iload_n 0, 1) := by decide +kernel
theorem dX8_sizeOf_1 : decode cX8_sizeOf 1 = .ok (.ifCond .ge 8, 3) := by decide +kernel
theorem dX8_sizeOf_4 : decode cX8_sizeOf 4 = .ok (.iload_n 0, 1) := by decide +kernel
theorem dX8_sizeOf_5 : decode cX8_sizeOf 5 = .ok (.ineg, 1) := by decide +kernel
theorem dX8_sizeOf_6 : decode cX8_sizeOf 6 = .ok (.goto 4, 3) := by decide +kernel
theorem dX8_sizeOf_9 : decode cX8_sizeOf 9 = .ok (.iload_n 0, 1) := by decide +kernel
theorem dX8_sizeOf_10 : decode cX8_sizeOf 10 = .ok (.ireturn, 1) := by decide +kernel
theorem dX8_greater_0 : decode cX8_greater 0 = .ok (.iload_n 0, 1) := by decide +kernel
theorem dX8_greater_1 : decode cX8_greater 1 = .ok (.iload_n 1, 1) := by decide +kernel
theorem dX8_greater_2 : decode cX8_greater 2 = .ok (.if_icmp .le 7, 3) := by decide +kernel
theorem dX8_greater_5 : decode cX8_greater 5 = .ok (.iload_n 0, 1) := by decide +kernel
theorem dX8_greater_6 : decode cX8_greater 6 = .ok (.goto 4, 3) := by decide +kernel
theorem dX8_greater_9 : decode cX8_greater 9 = .ok (.iload_n 1, 1) := by decide +kernel
theorem dX8_greater_10 : decode cX8_greater 10 = .ok (.ireturn, 1) := by decide +kernel
theorem dX8_share_0 : decode cX8_share 0 = .ok (.lload_n 0, 1) := by decide +kernel
theorem dX8_share_1 : decode cX8_share 1 = .ok (.lstore 5, 2) := by decide +kernel
theorem dX8_share_3 : decode cX8_share 3 = .ok (.lload_n 2, 1) := by decide +kernel
theorem dX8_share_4 : decode cX8_share 4 = .ok (.lstore 7, 2) := by decide +kernel
theorem dX8_share_6 : decode cX8_share 6 = .ok (.lload 7, 2) := by decide +kernel
theorem dX8_share_8 : decode cX8_share 8 = .ok (.lconst 0, 1) := by decide +kernel
theorem dX8_share_9 : decode cX8_share 9 = .ok (.lcmp, 1) := by decide +kernel
theorem dX8_share_10 : decode cX8_share 10 = .ok (.ifCond .eq 21, 3) := by decide +kernel
theorem dX8_share_13 : decode cX8_share 13 = .ok (.lload 5, 2) := by decide +kernel
theorem dX8_share_15 : decode cX8_share 15 = .ok (.lload 7, 2) := by decide +kernel
theorem dX8_share_17 : decode cX8_share 17 = .ok (.lrem, 1) := by decide +kernel
theorem dX8_share_18 : decode cX8_share 18 = .ok (.lstore 9, 2) := by decide +kernel
theorem dX8_share_20 : decode cX8_share 20 = .ok (.lload 7, 2) := by decide +kernel
theorem dX8_share_22 : decode cX8_share 22 = .ok (.lstore 5, 2) := by decide +kernel
theorem dX8_share_24 : decode cX8_share 24 = .ok (.lload 9, 2) := by decide +kernel
theorem dX8_share_26 : decode cX8_share 26 = .ok (.lstore 7, 2) := by decide +kernel
theorem dX8_share_28 : decode cX8_share 28 = .ok (.goto (-22), 3) := by decide +kernel
theorem dX8_share_31 : decode cX8_share 31 = .ok (.iload 4, 2) := by decide +kernel
theorem dX8_share_33 : decode cX8_share 33 = .ok (.ifCond .ne 7, 3) := by decide +kernel
theorem dX8_share_36 : decode cX8_share 36 = .ok (.lload_n 0, 1) := by decide +kernel
theorem dX8_share_37 : decode cX8_share 37 = .ok (.goto 4, 3) := by decide +kernel
theorem dX8_share_40 : decode cX8_share 40 = .ok (.lload_n 2, 1) := by decide +kernel
theorem dX8_share_41 : decode cX8_share 41 = .ok (.lload 5, 2) := by decide +kernel
theorem dX8_share_43 : decode cX8_share 43 = .ok (.ldiv, 1) := by decide +kernel
theorem dX8_share_44 : decode cX8_share 44 = .ok (.lreturn, 1) := by decide +kernel
theorem dX8_refused_0 : decode cX8_refused 0 = .ok (.aload_n 0, 1) := by decide +kernel
theorem dX8_refused_1 : decode cX8_refused 1 = .ok (.iconst 0, 1) := by decide +kernel
theorem dX8_refused_2 : decode cX8_refused 2 = .ok (.putfield 119, 3) := by decide +kernel
theorem dX8_refused_5 : decode cX8_refused 5 = .ok (.iload_n 1, 1) := by decide +kernel
theorem dX8_refused_6 : decode cX8_refused 6 = .ok (.ireturn, 1) := by decide +kernel
theorem dX8_failed_0 : decode cX8_failed 0 = .ok (.aload_n 0, 1) := by decide +kernel
theorem dX8_failed_1 : decode cX8_failed 1 = .ok (.iload_n 1, 1) := by decide +kernel
theorem dX8_failed_2 : decode cX8_failed 2 = .ok (.putfield 119, 3) := by decide +kernel
theorem dX8_failed_5 : decode cX8_failed 5 = .ok (.bipush (-10), 2) := by decide +kernel
theorem dX8_failed_7 : decode cX8_failed 7 = .ok (.iload_n 1, 1) := by decide +kernel
theorem dX8_failed_8 : decode cX8_failed 8 = .ok (.isub, 1) := by decide +kernel
theorem dX8_failed_9 : decode cX8_failed 9 = .ok (.ireturn, 1) := by decide +kernel
theorem dX8_failedLong_0 : decode cX8_failedLong 0 = .ok (.aload_n 0, 1) := by decide +kernel
theorem dX8_failedLong_1 : decode cX8_failedLong 1 = .ok (.iload_n 1, 1) := by decide +kernel
theorem dX8_failedLong_2 : decode cX8_failedLong 2 = .ok (.putfield 119, 3) := by decide +kernel
theorem dX8_failedLong_5 : decode cX8_failedLong 5 = .ok (.invokestatic 122, 3) := by decide +kernel
theorem dX8_failedLong_8 : decode cX8_failedLong 8 = .ok (.lreturn, 1) := by decide +kernel
theorem dX8_barred_0 : decode cX8_barred 0 = .ok (.iload_n 2, 1) := by decide +kernel
theorem dX8_barred_1 : decode cX8_barred 1 = .ok (.i2l, 1) := by decide +kernel
theorem dX8_barred_2 : decode cX8_barred 2 = .ok (.lconst 0, 1) := by decide +kernel
theorem dX8_barred_3 : decode cX8_barred 3 = .ok (.ldc2_w 126, 3) := by decide +kernel
theorem dX8_barred_6 : decode cX8_barred 6 = .ok (.invokestatic 128, 3) := by decide +kernel
theorem dX8_barred_9 : decode cX8_barred 9 = .ok (.ifCond .ne 10, 3) := by decide +kernel
theorem dX8_barred_12 : decode cX8_barred 12 = .ok (.aload_n 0, 1) := by decide +kernel
theorem dX8_barred_13 : decode cX8_barred 13 = .ok (.bipush (-2), 2) := by decide +kernel
theorem dX8_barred_15 : decode cX8_barred 15 = .ok (.invokevirtual 132, 3) := by decide +kernel
theorem dX8_barred_18 : decode cX8_barred 18 = .ok (.ireturn, 1) := by decide +kernel
theorem dX8_barred_19 : decode cX8_barred 19 = .ok (.aload_n 0, 1) := by decide +kernel
theorem dX8_barred_20 : decode cX8_barred 20 = .ok (.getfield 98, 3) := by decide +kernel
theorem dX8_barred_23 : decode cX8_barred 23 = .ok (.iload_n 1, 1) := by decide +kernel
theorem dX8_barred_24 : decode cX8_barred 24 = .ok (.iaload, 1) := by decide +kernel
theorem dX8_barred_25 : decode cX8_barred 25 = .ok (.ifCond .lt 19, 3) := by decide +kernel
theorem dX8_barred_28 : decode cX8_barred 28 = .ok (.aload_n 0, 1) := by decide +kernel
theorem dX8_barred_29 : decode cX8_barred 29 = .ok (.getfield 101, 3) := by decide +kernel
theorem dX8_barred_32 : decode cX8_barred 32 = .ok (.iload_n 1, 1) := by decide +kernel
theorem dX8_barred_33 : decode cX8_barred 33 = .ok (.iaload, 1) := by decide +kernel
theorem dX8_barred_34 : decode cX8_barred 34 = .ok (.iload_n 2, 1) := by decide +kernel
theorem dX8_barred_35 : decode cX8_barred 35 = .ok (.if_icmp .eq 9, 3) := by decide +kernel
theorem dX8_barred_38 : decode cX8_barred 38 = .ok (.aload_n 0, 1) := by decide +kernel
theorem dX8_barred_39 : decode cX8_barred 39 = .ok (.iconst 2, 1) := by decide +kernel
theorem dX8_barred_40 : decode cX8_barred 40 = .ok (.invokevirtual 136, 3) := by decide +kernel
theorem dX8_barred_43 : decode cX8_barred 43 = .ok (.ireturn, 1) := by decide +kernel
theorem dX8_barred_44 : decode cX8_barred 44 = .ok (.aload_n 0, 1) := by decide +kernel
theorem dX8_barred_45 : decode cX8_barred 45 = .ok (.getfield 98, 3) := by decide +kernel
theorem dX8_barred_48 : decode cX8_barred 48 = .ok (.iload_n 1, 1) := by decide +kernel
theorem dX8_barred_49 : decode cX8_barred 49 = .ok (.iaload, 1) := by decide +kernel
theorem dX8_barred_50 : decode cX8_barred 50 = .ok (.ifCond .ge 9, 3) := by decide +kernel
theorem dX8_barred_53 : decode cX8_barred 53 = .ok (.aload_n 0, 1) := by decide +kernel
theorem dX8_barred_54 : decode cX8_barred 54 = .ok (.iconst 1, 1) := by decide +kernel
theorem dX8_barred_55 : decode cX8_barred 55 = .ok (.invokevirtual 136, 3) := by decide +kernel
theorem dX8_barred_58 : decode cX8_barred 58 = .ok (.ireturn, 1) := by decide +kernel
theorem dX8_barred_59 : decode cX8_barred 59 = .ok (.lload 4, 2) := by decide +kernel
theorem dX8_barred_61 : decode cX8_barred 61 = .ok (.lconst 0, 1) := by decide +kernel
theorem dX8_barred_62 : decode cX8_barred 62 = .ok (.lcmp, 1) := by decide +kernel
theorem dX8_barred_63 : decode cX8_barred 63 = .ok (.ifCond .ge 9, 3) := by decide +kernel
theorem dX8_barred_66 : decode cX8_barred 66 = .ok (.aload_n 0, 1) := by decide +kernel
theorem dX8_barred_67 : decode cX8_barred 67 = .ok (.iconst 4, 1) := by decide +kernel
theorem dX8_barred_68 : decode cX8_barred 68 = .ok (.invokevirtual 136, 3) := by decide +kernel
theorem dX8_barred_71 : decode cX8_barred 71 = .ok (.ireturn, 1) := by decide +kernel
theorem dX8_barred_72 : decode cX8_barred 72 = .ok (.iload_n 3, 1) := by decide +kernel
theorem dX8_barred_73 : decode cX8_barred 73 = .ok (.lload 4, 2) := by decide +kernel
theorem dX8_barred_75 : decode cX8_barred 75 = .ok (.aload_n 0, 1) := by decide +kernel
theorem dX8_barred_76 : decode cX8_barred 76 = .ok (.getfield 98, 3) := by decide +kernel
theorem dX8_barred_79 : decode cX8_barred 79 = .ok (.iload_n 1, 1) := by decide +kernel
theorem dX8_barred_80 : decode cX8_barred 80 = .ok (.iaload, 1) := by decide +kernel
theorem dX8_barred_81 : decode cX8_barred 81 = .ok (.invokestatic 139, 3) := by decide +kernel
theorem dX8_barred_84 : decode cX8_barred 84 = .ok (.ifCond .eq 11, 3) := by decide +kernel
theorem dX8_barred_87 : decode cX8_barred 87 = .ok (.aload_n 0, 1) := by decide +kernel
theorem dX8_barred_88 : decode cX8_barred 88 = .ok (.iconst 3, 1) := by decide +kernel
theorem dX8_barred_89 : decode cX8_barred 89 = .ok (.invokevirtual 136, 3) := by decide +kernel
theorem dX8_barred_92 : decode cX8_barred 92 = .ok (.goto 4, 3) := by decide +kernel
theorem dX8_barred_95 : decode cX8_barred 95 = .ok (.iconst 0, 1) := by decide +kernel
theorem dX8_barred_96 : decode cX8_barred 96 = .ok (.ireturn, 1) := by decide +kernel
theorem dX8_noPart_0 : decode cX8_noPart 0 = .ok (.iload_n 1, 1) := by decide +kernel
theorem dX8_noPart_1 : decode cX8_noPart 1 = .ok (.i2l, 1) := by decide +kernel
theorem dX8_noPart_2 : decode cX8_noPart 2 = .ok (.lconst 0, 1) := by decide +kernel
theorem dX8_noPart_3 : decode cX8_noPart 3 = .ok (.aload_n 0, 1) := by decide +kernel
theorem dX8_noPart_4 : decode cX8_noPart 4 = .ok (.getfield 143, 3) := by decide +kernel
theorem dX8_noPart_7 : decode cX8_noPart 7 = .ok (.i2l, 1) := by decide +kernel
theorem dX8_noPart_8 : decode cX8_noPart 8 = .ok (.lconst 1, 1) := by decide +kernel
theorem dX8_noPart_9 : decode cX8_noPart 9 = .ok (.lsub, 1) := by decide +kernel
theorem dX8_noPart_10 : decode cX8_noPart 10 = .ok (.invokestatic 128, 3) := by decide +kernel
theorem dX8_noPart_13 : decode cX8_noPart 13 = .ok (.ifCond .ne 7, 3) := by decide +kernel
theorem dX8_noPart_16 : decode cX8_noPart 16 = .ok (.iconst 1, 1) := by decide +kernel
theorem dX8_noPart_17 : decode cX8_noPart 17 = .ok (.goto 4, 3) := by decide +kernel
theorem dX8_noPart_20 : decode cX8_noPart 20 = .ok (.iconst 0, 1) := by decide +kernel
theorem dX8_noPart_21 : decode cX8_noPart 21 = .ok (.ireturn, 1) := by decide +kernel
theorem dX8_read_0 : decode cX8_read 0 = .ok (.iconst 0, 1) := by decide +kernel
theorem dX8_read_1 : decode cX8_read 1 = .ok (.istore_n 3, 1) := by decide +kernel
theorem dX8_read_2 : decode cX8_read 2 = .ok (.iload_n 3, 1) := by decide +kernel
theorem dX8_read_3 : decode cX8_read 3 = .ok (.bipush 100, 2) := by decide +kernel
theorem dX8_read_5 : decode cX8_read 5 = .ok (.if_icmp .ge 16, 3) := by decide +kernel
theorem dX8_read_8 : decode cX8_read 8 = .ok (.aload_n 0, 1) := by decide +kernel
theorem dX8_read_9 : decode cX8_read 9 = .ok (.getfield 25, 3) := by decide +kernel
theorem dX8_read_12 : decode cX8_read 12 = .ok (.iload_n 3, 1) := by decide +kernel
theorem dX8_read_13 : decode cX8_read 13 = .ok (.iconst 0, 1) := by decide +kernel
theorem dX8_read_14 : decode cX8_read 14 = .ok (.iastore, 1) := by decide +kernel
theorem dX8_read_15 : decode cX8_read 15 = .ok (.iinc 3 1, 3) := by decide +kernel
theorem dX8_read_18 : decode cX8_read 18 = .ok (.goto (-16), 3) := by decide +kernel
theorem dX8_read_21 : decode cX8_read 21 = .ok (.aload_n 0, 1) := by decide +kernel
theorem dX8_read_22 : decode cX8_read 22 = .ok (.iconst 0, 1) := by decide +kernel
theorem dX8_read_23 : decode cX8_read 23 = .ok (.putfield 146, 3) := by decide +kernel
theorem dX8_read_26 : decode cX8_read 26 = .ok (.iconst 0, 1) := by decide +kernel
theorem dX8_read_27 : decode cX8_read 27 = .ok (.istore_n 3, 1) := by decide +kernel
theorem dX8_read_28 : decode cX8_read 28 = .ok (.iconst 0, 1) := by decide +kernel
theorem dX8_read_29 : decode cX8_read 29 = .ok (.istore 4, 2) := by decide +kernel
theorem dX8_read_31 : decode cX8_read 31 = .ok (.iload 4, 2) := by decide +kernel
theorem dX8_read_33 : decode cX8_read 33 = .ok (.iload_n 2, 1) := by decide +kernel
theorem dX8_read_34 : decode cX8_read 34 = .ok (.if_icmp .ge 267, 3) := by decide +kernel
theorem dX8_read_37 : decode cX8_read 37 = .ok (.aload_n 0, 1) := by decide +kernel
theorem dX8_read_38 : decode cX8_read 38 = .ok (.getfield 104, 3) := by decide +kernel
theorem dX8_read_41 : decode cX8_read 41 = .ok (.iload_n 1, 1) := by decide +kernel
theorem dX8_read_42 : decode cX8_read 42 = .ok (.iload 4, 2) := by decide +kernel
theorem dX8_read_44 : decode cX8_read 44 = .ok (.iadd, 1) := by decide +kernel
theorem dX8_read_45 : decode cX8_read 45 = .ok (.iaload, 1) := by decide +kernel
theorem dX8_read_46 : decode cX8_read 46 = .ok (.istore 5, 2) := by decide +kernel
theorem dX8_read_48 : decode cX8_read 48 = .ok (.iload 5, 2) := by decide +kernel
theorem dX8_read_50 : decode cX8_read 50 = .ok (.i2l, 1) := by decide +kernel
theorem dX8_read_51 : decode cX8_read 51 = .ok (.ldc2_w 149, 3) := by decide +kernel
theorem dX8_read_54 : decode cX8_read 54 = .ok (.ldc2_w 151, 3) := by decide +kernel
theorem dX8_read_57 : decode cX8_read 57 = .ok (.invokestatic 128, 3) := by decide +kernel
theorem dX8_read_60 : decode cX8_read 60 = .ok (.istore 6, 2) := by decide +kernel
theorem dX8_read_62 : decode cX8_read 62 = .ok (.iload 5, 2) := by decide +kernel
theorem dX8_read_64 : decode cX8_read 64 = .ok (.bipush 112, 2) := by decide +kernel
theorem dX8_read_66 : decode cX8_read 66 = .ok (.if_icmp .ne 7, 3) := by decide +kernel
theorem dX8_read_69 : decode cX8_read 69 = .ok (.iconst 0, 1) := by decide +kernel
theorem dX8_read_70 : decode cX8_read 70 = .ok (.goto 26, 3) := by decide +kernel
theorem dX8_read_73 : decode cX8_read 73 = .ok (.iload 5, 2) := by decide +kernel
theorem dX8_read_75 : decode cX8_read 75 = .ok (.bipush 100, 2) := by decide +kernel
theorem dX8_read_77 : decode cX8_read 77 = .ok (.if_icmp .ne 7, 3) := by decide +kernel
theorem dX8_read_80 : decode cX8_read 80 = .ok (.iconst 1, 1) := by decide +kernel
theorem dX8_read_81 : decode cX8_read 81 = .ok (.goto 15, 3) := by decide +kernel
theorem dX8_read_84 : decode cX8_read 84 = .ok (.iload 5, 2) := by decide +kernel
theorem dX8_read_86 : decode cX8_read 86 = .ok (.bipush 120, 2) := by decide +kernel
theorem dX8_read_88 : decode cX8_read 88 = .ok (.if_icmp .ne 7, 3) := by decide +kernel
theorem dX8_read_91 : decode cX8_read 91 = .ok (.iconst 2, 1) := by decide +kernel
theorem dX8_read_92 : decode cX8_read 92 = .ok (.goto 4, 3) := by decide +kernel
theorem dX8_read_95 : decode cX8_read 95 = .ok (.iconst (-1), 1) := by decide +kernel
theorem dX8_read_96 : decode cX8_read 96 = .ok (.istore 7, 2) := by decide +kernel
theorem dX8_read_98 : decode cX8_read 98 = .ok (.iload_n 3, 1) := by decide +kernel
theorem dX8_read_99 : decode cX8_read 99 = .ok (.ifCond .ne 34, 3) := by decide +kernel
theorem dX8_read_102 : decode cX8_read 102 = .ok (.iload 7, 2) := by decide +kernel
theorem dX8_read_104 : decode cX8_read 104 = .ok (.ifCond .lt 29, 3) := by decide +kernel
theorem dX8_read_107 : decode cX8_read 107 = .ok (.aload_n 0, 1) := by decide +kernel
theorem dX8_read_108 : decode cX8_read 108 = .ok (.getfield 19, 3) := by decide +kernel
theorem dX8_read_111 : decode cX8_read 111 = .ok (.aload_n 0, 1) := by decide +kernel
theorem dX8_read_112 : decode cX8_read 112 = .ok (.getfield 146, 3) := by decide +kernel
theorem dX8_read_115 : decode cX8_read 115 = .ok (.iload 7, 2) := by decide +kernel
theorem dX8_read_117 : decode cX8_read 117 = .ok (.iastore, 1) := by decide +kernel
theorem dX8_read_118 : decode cX8_read 118 = .ok (.aload_n 0, 1) := by decide +kernel
theorem dX8_read_119 : decode cX8_read 119 = .ok (.getfield 22, 3) := by decide +kernel
theorem dX8_read_122 : decode cX8_read 122 = .ok (.aload_n 0, 1) := by decide +kernel
theorem dX8_read_123 : decode cX8_read 123 = .ok (.getfield 146, 3) := by decide +kernel
theorem dX8_read_126 : decode cX8_read 126 = .ok (.iconst 0, 1) := by decide +kernel
theorem dX8_read_127 : decode cX8_read 127 = .ok (.iastore, 1) := by decide +kernel
theorem dX8_read_128 : decode cX8_read 128 = .ok (.iconst 1, 1) := by decide +kernel
theorem dX8_read_129 : decode cX8_read 129 = .ok (.istore_n 3, 1) := by decide +kernel
theorem dX8_read_130 : decode cX8_read 130 = .ok (.goto 165, 3) := by decide +kernel
theorem dX8_read_133 : decode cX8_read 133 = .ok (.iload_n 3, 1) := by decide +kernel
theorem dX8_read_134 : decode cX8_read 134 = .ok (.ifCond .le 46, 3) := by decide +kernel
theorem dX8_read_137 : decode cX8_read 137 = .ok (.iload_n 3, 1) := by decide +kernel
theorem dX8_read_138 : decode cX8_read 138 = .ok (.iconst 4, 1) := by decide +kernel
theorem dX8_read_139 : decode cX8_read 139 = .ok (.if_icmp .ge 41, 3) := by decide +kernel
theorem dX8_read_142 : decode cX8_read 142 = .ok (.iload 6, 2) := by decide +kernel
theorem dX8_read_144 : decode cX8_read 144 = .ok (.ifCond .eq 36, 3) := by decide +kernel
theorem dX8_read_147 : decode cX8_read 147 = .ok (.aload_n 0, 1) := by decide +kernel
theorem dX8_read_148 : decode cX8_read 148 = .ok (.getfield 22, 3) := by decide +kernel
theorem dX8_read_151 : decode cX8_read 151 = .ok (.aload_n 0, 1) := by decide +kernel
theorem dX8_read_152 : decode cX8_read 152 = .ok (.getfield 146, 3) := by decide +kernel
theorem dX8_read_155 : decode cX8_read 155 = .ok (.bipush 10, 2) := by decide +kernel
theorem dX8_read_157 : decode cX8_read 157 = .ok (.aload_n 0, 1) := by decide +kernel
theorem dX8_read_158 : decode cX8_read 158 = .ok (.getfield 22, 3) := by decide +kernel
theorem dX8_read_161 : decode cX8_read 161 = .ok (.aload_n 0, 1) := by decide +kernel
theorem dX8_read_162 : decode cX8_read 162 = .ok (.getfield 146, 3) := by decide +kernel
theorem dX8_read_165 : decode cX8_read 165 = .ok (.iaload, 1) := by decide +kernel
theorem dX8_read_166 : decode cX8_read 166 = .ok (.imul, 1) := by decide +kernel
theorem dX8_read_167 : decode cX8_read 167 = .ok (.iload 5, 2) := by decide +kernel
theorem dX8_read_169 : decode cX8_read 169 = .ok (.iadd, 1) := by decide +kernel
theorem dX8_read_170 : decode cX8_read 170 = .ok (.bipush 48, 2) := by decide +kernel
theorem dX8_read_172 : decode cX8_read 172 = .ok (.isub, 1) := by decide +kernel
theorem dX8_read_173 : decode cX8_read 173 = .ok (.iastore, 1) := by decide +kernel
theorem dX8_read_174 : decode cX8_read 174 = .ok (.iinc 3 1, 3) := by decide +kernel
theorem dX8_read_177 : decode cX8_read 177 = .ok (.goto 118, 3) := by decide +kernel
theorem dX8_read_180 : decode cX8_read 180 = .ok (.iload_n 3, 1) := by decide +kernel
theorem dX8_read_181 : decode cX8_read 181 = .ok (.iconst 1, 1) := by decide +kernel
theorem dX8_read_182 : decode cX8_read 182 = .ok (.if_icmp .le 20, 3) := by decide +kernel
theorem dX8_read_185 : decode cX8_read 185 = .ok (.iload_n 3, 1) := by decide +kernel
theorem dX8_read_186 : decode cX8_read 186 = .ok (.iconst 5, 1) := by decide +kernel
theorem dX8_read_187 : decode cX8_read 187 = .ok (.if_icmp .ge 15, 3) := by decide +kernel
theorem dX8_read_190 : decode cX8_read 190 = .ok (.iload 5, 2) := by decide +kernel
theorem dX8_read_192 : decode cX8_read 192 = .ok (.bipush 62, 2) := by decide +kernel
theorem dX8_read_194 : decode cX8_read 194 = .ok (.if_icmp .ne 8, 3) := by decide +kernel
theorem dX8_read_197 : decode cX8_read 197 = .ok (.iconst 5, 1) := by decide +kernel
theorem dX8_read_198 : decode cX8_read 198 = .ok (.istore_n 3, 1) := by decide +kernel
theorem dX8_read_199 : decode cX8_read 199 = .ok (.goto 96, 3) := by decide +kernel
theorem dX8_read_202 : decode cX8_read 202 = .ok (.iload_n 3, 1) := by decide +kernel
theorem dX8_read_203 : decode cX8_read 203 = .ok (.iconst 5, 1) := by decide +kernel
theorem dX8_read_204 : decode cX8_read 204 = .ok (.if_icmp .ne 47, 3) := by decide +kernel
theorem dX8_read_207 : decode cX8_read 207 = .ok (.iload 6, 2) := by decide +kernel
theorem dX8_read_209 : decode cX8_read 209 = .ok (.ifCond .eq 42, 3) := by decide +kernel
theorem dX8_read_212 : decode cX8_read 212 = .ok (.iload 5, 2) := by decide +kernel
theorem dX8_read_214 : decode cX8_read 214 = .ok (.bipush 48, 2) := by decide +kernel
theorem dX8_read_216 : decode cX8_read 216 = .ok (.isub, 1) := by decide +kernel
theorem dX8_read_217 : decode cX8_read 217 = .ok (.aload_n 0, 1) := by decide +kernel
theorem dX8_read_218 : decode cX8_read 218 = .ok (.getfield 146, 3) := by decide +kernel
theorem dX8_read_221 : decode cX8_read 221 = .ok (.if_icmp .ge 30, 3) := by decide +kernel
theorem dX8_read_224 : decode cX8_read 224 = .ok (.aload_n 0, 1) := by decide +kernel
theorem dX8_read_225 : decode cX8_read 225 = .ok (.getfield 25, 3) := by decide +kernel
theorem dX8_read_228 : decode cX8_read 228 = .ok (.bipush 10, 2) := by decide +kernel
theorem dX8_read_230 : decode cX8_read 230 = .ok (.aload_n 0, 1) := by decide +kernel
theorem dX8_read_231 : decode cX8_read 231 = .ok (.getfield 146, 3) := by decide +kernel
theorem dX8_read_234 : decode cX8_read 234 = .ok (.imul, 1) := by decide +kernel
theorem dX8_read_235 : decode cX8_read 235 = .ok (.iload 5, 2) := by decide +kernel
theorem dX8_read_237 : decode cX8_read 237 = .ok (.iadd, 1) := by decide +kernel
theorem dX8_read_238 : decode cX8_read 238 = .ok (.bipush 48, 2) := by decide +kernel
theorem dX8_read_240 : decode cX8_read 240 = .ok (.isub, 1) := by decide +kernel
theorem dX8_read_241 : decode cX8_read 241 = .ok (.dup2, 1) := by decide +kernel
theorem dX8_read_242 : decode cX8_read 242 = .ok (.iaload, 1) := by decide +kernel
theorem dX8_read_243 : decode cX8_read 243 = .ok (.iconst 1, 1) := by decide +kernel
theorem dX8_read_244 : decode cX8_read 244 = .ok (.iadd, 1) := by decide +kernel
theorem dX8_read_245 : decode cX8_read 245 = .ok (.iastore, 1) := by decide +kernel
theorem dX8_read_246 : decode cX8_read 246 = .ok (.iconst 4, 1) := by decide +kernel
theorem dX8_read_247 : decode cX8_read 247 = .ok (.istore_n 3, 1) := by decide +kernel
theorem dX8_read_248 : decode cX8_read 248 = .ok (.goto 47, 3) := by decide +kernel
theorem dX8_read_251 : decode cX8_read 251 = .ok (.iload_n 3, 1) := by decide +kernel
theorem dX8_read_252 : decode cX8_read 252 = .ok (.iconst 1, 1) := by decide +kernel
theorem dX8_read_253 : decode cX8_read 253 = .ok (.if_icmp .le 39, 3) := by decide +kernel
theorem dX8_read_256 : decode cX8_read 256 = .ok (.iload_n 3, 1) := by decide +kernel
theorem dX8_read_257 : decode cX8_read 257 = .ok (.iconst 5, 1) := by decide +kernel
theorem dX8_read_258 : decode cX8_read 258 = .ok (.if_icmp .ge 34, 3) := by decide +kernel
theorem dX8_read_261 : decode cX8_read 261 = .ok (.iload 5, 2) := by decide +kernel
theorem dX8_read_263 : decode cX8_read 263 = .ok (.bipush 59, 2) := by decide +kernel
theorem dX8_read_265 : decode cX8_read 265 = .ok (.if_icmp .ne 27, 3) := by decide +kernel
theorem dX8_read_268 : decode cX8_read 268 = .ok (.aload_n 0, 1) := by decide +kernel
theorem dX8_read_269 : decode cX8_read 269 = .ok (.getfield 146, 3) := by decide +kernel
theorem dX8_read_272 : decode cX8_read 272 = .ok (.bipush 9, 2) := by decide +kernel
theorem dX8_read_274 : decode cX8_read 274 = .ok (.if_icmp .ge 18, 3) := by decide +kernel
theorem dX8_read_277 : decode cX8_read 277 = .ok (.aload_n 0, 1) := by decide +kernel
theorem dX8_read_278 : decode cX8_read 278 = .ok (.dup, 1) := by decide +kernel
theorem dX8_read_279 : decode cX8_read 279 = .ok (.getfield 146, 3) := by decide +kernel
theorem dX8_read_282 : decode cX8_read 282 = .ok (.iconst 1, 1) := by decide +kernel
theorem dX8_read_283 : decode cX8_read 283 = .ok (.iadd, 1) := by decide +kernel
theorem dX8_read_284 : decode cX8_read 284 = .ok (.putfield 146, 3) := by decide +kernel
theorem dX8_read_287 : decode cX8_read 287 = .ok (.iconst 0, 1) := by decide +kernel
theorem dX8_read_288 : decode cX8_read 288 = .ok (.istore_n 3, 1) := by decide +kernel
theorem dX8_read_289 : decode cX8_read 289 = .ok (.goto 6, 3) := by decide +kernel
theorem dX8_read_292 : decode cX8_read 292 = .ok (.iload 4, 2) := by decide +kernel
theorem dX8_read_294 : decode cX8_read 294 = .ok (.ireturn, 1) := by decide +kernel
theorem dX8_read_295 : decode cX8_read 295 = .ok (.iinc 4 1, 3) := by decide +kernel
theorem dX8_read_298 : decode cX8_read 298 = .ok (.goto (-267), 3) := by decide +kernel
theorem dX8_read_301 : decode cX8_read 301 = .ok (.aload_n 0, 1) := by decide +kernel
theorem dX8_read_302 : decode cX8_read 302 = .ok (.dup, 1) := by decide +kernel
theorem dX8_read_303 : decode cX8_read 303 = .ok (.getfield 146, 3) := by decide +kernel
theorem dX8_read_306 : decode cX8_read 306 = .ok (.iconst 1, 1) := by decide +kernel
theorem dX8_read_307 : decode cX8_read 307 = .ok (.iadd, 1) := by decide +kernel
theorem dX8_read_308 : decode cX8_read 308 = .ok (.putfield 146, 3) := by decide +kernel
theorem dX8_read_311 : decode cX8_read 311 = .ok (.iload_n 3, 1) := by decide +kernel
theorem dX8_read_312 : decode cX8_read 312 = .ok (.iconst 1, 1) := by decide +kernel
theorem dX8_read_313 : decode cX8_read 313 = .ok (.if_icmp .le 12, 3) := by decide +kernel
theorem dX8_read_316 : decode cX8_read 316 = .ok (.iload_n 3, 1) := by decide +kernel
theorem dX8_read_317 : decode cX8_read 317 = .ok (.iconst 5, 1) := by decide +kernel
theorem dX8_read_318 : decode cX8_read 318 = .ok (.if_icmp .ge 7, 3) := by decide +kernel
theorem dX8_read_321 : decode cX8_read 321 = .ok (.iconst (-1), 1) := by decide +kernel
theorem dX8_read_322 : decode cX8_read 322 = .ok (.goto 4, 3) := by decide +kernel
theorem dX8_read_325 : decode cX8_read 325 = .ok (.iload_n 2, 1) := by decide +kernel
theorem dX8_read_326 : decode cX8_read 326 = .ok (.ireturn, 1) := by decide +kernel
theorem dX8_text_0 : decode cX8_text 0 = .ok (.iload_n 1, 1) := by decide +kernel
theorem dX8_text_1 : decode cX8_text 1 = .ok (.invokestatic 153, 3) := by decide +kernel
theorem dX8_text_4 : decode cX8_text 4 = .ok (.ifCond .eq 9, 3) := by decide +kernel
theorem dX8_text_7 : decode cX8_text 7 = .ok (.aload_n 0, 1) := by decide +kernel
theorem dX8_text_8 : decode cX8_text 8 = .ok (.iconst (-1), 1) := by decide +kernel
theorem dX8_text_9 : decode cX8_text 9 = .ok (.invokevirtual 132, 3) := by decide +kernel
theorem dX8_text_12 : decode cX8_text 12 = .ok (.ireturn, 1) := by decide +kernel
theorem dX8_text_13 : decode cX8_text 13 = .ok (.aload_n 0, 1) := by decide +kernel
theorem dX8_text_14 : decode cX8_text 14 = .ok (.iload_n 1, 1) := by decide +kernel
theorem dX8_text_15 : decode cX8_text 15 = .ok (.iload_n 2, 1) := by decide +kernel
theorem dX8_text_16 : decode cX8_text 16 = .ok (.iload_n 3, 1) := by decide +kernel
theorem dX8_text_17 : decode cX8_text 17 = .ok (.iload 4, 2) := by decide +kernel
theorem dX8_text_19 : decode cX8_text 19 = .ok (.i2l, 1) := by decide +kernel
theorem dX8_text_20 : decode cX8_text 20 = .ok (.invokevirtual 157, 3) := by decide +kernel
theorem dX8_text_23 : decode cX8_text 23 = .ok (.istore 5, 2) := by decide +kernel
theorem dX8_text_25 : decode cX8_text 25 = .ok (.iload 5, 2) := by decide +kernel
theorem dX8_text_27 : decode cX8_text 27 = .ok (.ifCond .ge 6, 3) := by decide +kernel
theorem dX8_text_30 : decode cX8_text 30 = .ok (.iload 5, 2) := by decide +kernel
theorem dX8_text_32 : decode cX8_text 32 = .ok (.ireturn, 1) := by decide +kernel
theorem dX8_text_33 : decode cX8_text 33 = .ok (.aload_n 0, 1) := by decide +kernel
theorem dX8_text_34 : decode cX8_text 34 = .ok (.bipush 60, 2) := by decide +kernel
theorem dX8_text_36 : decode cX8_text 36 = .ok (.iload_n 1, 1) := by decide +kernel
theorem dX8_text_37 : decode cX8_text 37 = .ok (.imul, 1) := by decide +kernel
theorem dX8_text_38 : decode cX8_text 38 = .ok (.iload_n 3, 1) := by decide +kernel
theorem dX8_text_39 : decode cX8_text 39 = .ok (.iadd, 1) := by decide +kernel
theorem dX8_text_40 : decode cX8_text 40 = .ok (.iload 4, 2) := by decide +kernel
theorem dX8_text_42 : decode cX8_text 42 = .ok (.invokevirtual 161, 3) := by decide +kernel
theorem dX8_text_45 : decode cX8_text 45 = .ok (.istore 6, 2) := by decide +kernel
theorem dX8_text_47 : decode cX8_text 47 = .ok (.iload 6, 2) := by decide +kernel
theorem dX8_text_49 : decode cX8_text 49 = .ok (.ifCond .lt 13, 3) := by decide +kernel
theorem dX8_text_52 : decode cX8_text 52 = .ok (.aload_n 0, 1) := by decide +kernel
theorem dX8_text_53 : decode cX8_text 53 = .ok (.bipush (-100), 2) := by decide +kernel
theorem dX8_text_55 : decode cX8_text 55 = .ok (.iload 6, 2) := by decide +kernel
theorem dX8_text_57 : decode cX8_text 57 = .ok (.isub, 1) := by decide +kernel
theorem dX8_text_58 : decode cX8_text 58 = .ok (.invokevirtual 132, 3) := by decide +kernel
theorem dX8_text_61 : decode cX8_text 61 = .ok (.ireturn, 1) := by decide +kernel
theorem dX8_text_62 : decode cX8_text 62 = .ok (.aload_n 0, 1) := by decide +kernel
theorem dX8_text_63 : decode cX8_text 63 = .ok (.aload_n 0, 1) := by decide +kernel
theorem dX8_text_64 : decode cX8_text 64 = .ok (.getfield 146, 3) := by decide +kernel
theorem dX8_text_67 : decode cX8_text 67 = .ok (.putfield 143, 3) := by decide +kernel
theorem dX8_text_70 : decode cX8_text 70 = .ok (.iconst 0, 1) := by decide +kernel
theorem dX8_text_71 : decode cX8_text 71 = .ok (.istore 7, 2) := by decide +kernel
theorem dX8_text_73 : decode cX8_text 73 = .ok (.iload 7, 2) := by decide +kernel
theorem dX8_text_75 : decode cX8_text 75 = .ok (.aload_n 0, 1) := by decide +kernel
theorem dX8_text_76 : decode cX8_text 76 = .ok (.getfield 143, 3) := by decide +kernel
theorem dX8_text_79 : decode cX8_text 79 = .ok (.if_icmp .ge 37, 3) := by decide +kernel
theorem dX8_text_82 : decode cX8_text 82 = .ok (.aload_n 0, 1) := by decide +kernel
theorem dX8_text_83 : decode cX8_text 83 = .ok (.getfield 7, 3) := by decide +kernel
theorem dX8_text_86 : decode cX8_text 86 = .ok (.iload 7, 2) := by decide +kernel
theorem dX8_text_88 : decode cX8_text 88 = .ok (.aload_n 0, 1) := by decide +kernel
theorem dX8_text_89 : decode cX8_text 89 = .ok (.getfield 19, 3) := by decide +kernel
theorem dX8_text_92 : decode cX8_text 92 = .ok (.iload 7, 2) := by decide +kernel
theorem dX8_text_94 : decode cX8_text 94 = .ok (.iaload, 1) := by decide +kernel
theorem dX8_text_95 : decode cX8_text 95 = .ok (.iastore, 1) := by decide +kernel
theorem dX8_text_96 : decode cX8_text 96 = .ok (.aload_n 0, 1) := by decide +kernel
theorem dX8_text_97 : decode cX8_text 97 = .ok (.getfield 13, 3) := by decide +kernel
theorem dX8_text_100 : decode cX8_text 100 = .ok (.iload 7, 2) := by decide +kernel
theorem dX8_text_102 : decode cX8_text 102 = .ok (.aload_n 0, 1) := by decide +kernel
theorem dX8_text_103 : decode cX8_text 103 = .ok (.getfield 22, 3) := by decide +kernel
theorem dX8_text_106 : decode cX8_text 106 = .ok (.iload 7, 2) := by decide +kernel
theorem dX8_text_108 : decode cX8_text 108 = .ok (.iaload, 1) := by decide +kernel
theorem dX8_text_109 : decode cX8_text 109 = .ok (.iastore, 1) := by decide +kernel
theorem dX8_text_110 : decode cX8_text 110 = .ok (.iinc 7 1, 3) := by decide +kernel
theorem dX8_text_113 : decode cX8_text 113 = .ok (.goto (-40), 3) := by decide +kernel
theorem dX8_text_116 : decode cX8_text 116 = .ok (.iconst 0, 1) := by decide +kernel
theorem dX8_text_117 : decode cX8_text 117 = .ok (.istore 7, 2) := by decide +kernel
theorem dX8_text_119 : decode cX8_text 119 = .ok (.iload 7, 2) := by decide +kernel
theorem dX8_text_121 : decode cX8_text 121 = .ok (.bipush 100, 2) := by decide +kernel
theorem dX8_text_123 : decode cX8_text 123 = .ok (.if_icmp .ge 23, 3) := by decide +kernel
theorem dX8_text_126 : decode cX8_text 126 = .ok (.aload_n 0, 1) := by decide +kernel
theorem dX8_text_127 : decode cX8_text 127 = .ok (.getfield 16, 3) := by decide +kernel
theorem dX8_text_130 : decode cX8_text 130 = .ok (.iload 7, 2) := by decide +kernel
theorem dX8_text_132 : decode cX8_text 132 = .ok (.aload_n 0, 1) := by decide +kernel
theorem dX8_text_133 : decode cX8_text 133 = .ok (.getfield 25, 3) := by decide +kernel
theorem dX8_text_136 : decode cX8_text 136 = .ok (.iload 7, 2) := by decide +kernel
theorem dX8_text_138 : decode cX8_text 138 = .ok (.iaload, 1) := by decide +kernel
theorem dX8_text_139 : decode cX8_text 139 = .ok (.iastore, 1) := by decide +kernel
theorem dX8_text_140 : decode cX8_text 140 = .ok (.iinc 7 1, 3) := by decide +kernel
theorem dX8_text_143 : decode cX8_text 143 = .ok (.goto (-24), 3) := by decide +kernel
theorem dX8_text_146 : decode cX8_text 146 = .ok (.iconst 0, 1) := by decide +kernel
theorem dX8_text_147 : decode cX8_text 147 = .ok (.istore 7, 2) := by decide +kernel
theorem dX8_text_149 : decode cX8_text 149 = .ok (.iload 7, 2) := by decide +kernel
theorem dX8_text_151 : decode cX8_text 151 = .ok (.bipush 40, 2) := by decide +kernel
theorem dX8_text_153 : decode cX8_text 153 = .ok (.if_icmp .ge 27, 3) := by decide +kernel
theorem dX8_text_156 : decode cX8_text 156 = .ok (.aload_n 0, 1) := by decide +kernel
theorem dX8_text_157 : decode cX8_text 157 = .ok (.getfield 44, 3) := by decide +kernel
theorem dX8_text_160 : decode cX8_text 160 = .ok (.iload 7, 2) := by decide +kernel
theorem dX8_text_162 : decode cX8_text 162 = .ok (.bipush (-9), 2) := by decide +kernel
theorem dX8_text_164 : decode cX8_text 164 = .ok (.iastore, 1) := by decide +kernel
theorem dX8_text_165 : decode cX8_text 165 = .ok (.aload_n 0, 1) := by decide +kernel
theorem dX8_text_166 : decode cX8_text 166 = .ok (.getfield 47, 3) := by decide +kernel
theorem dX8_text_169 : decode cX8_text 169 = .ok (.iload 7, 2) := by decide +kernel
theorem dX8_text_171 : decode cX8_text 171 = .ok (.bipush (-9), 2) := by decide +kernel
theorem dX8_text_173 : decode cX8_text 173 = .ok (.iastore, 1) := by decide +kernel
theorem dX8_text_174 : decode cX8_text 174 = .ok (.iinc 7 1, 3) := by decide +kernel
theorem dX8_text_177 : decode cX8_text 177 = .ok (.goto (-28), 3) := by decide +kernel
theorem dX8_text_180 : decode cX8_text 180 = .ok (.iconst 0, 1) := by decide +kernel
theorem dX8_text_181 : decode cX8_text 181 = .ok (.istore 7, 2) := by decide +kernel
theorem dX8_text_183 : decode cX8_text 183 = .ok (.iload 7, 2) := by decide +kernel
theorem dX8_text_185 : decode cX8_text 185 = .ok (.iconst 4, 1) := by decide +kernel
theorem dX8_text_186 : decode cX8_text 186 = .ok (.if_icmp .ge 34, 3) := by decide +kernel
