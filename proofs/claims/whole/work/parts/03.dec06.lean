theorem dX8_rule_29 : decode cX8_rule 29 = .ok (.ifCond .ne 6, 3) := by decide +kernel
theorem dX8_rule_32 : decode cX8_rule 32 = .ok (.bipush (-2), 2) := by decide +kernel
theorem dX8_rule_34 : decode cX8_rule 34 = .ok (.ireturn, 1) := by decide +kernel
theorem dX8_rule_35 : decode cX8_rule 35 = .ok (.iload_n 1, 1) := by decide +kernel
theorem dX8_rule_36 : decode cX8_rule 36 = .ok (.ifCond .ne 10, 3) := by decide +kernel
theorem dX8_rule_39 : decode cX8_rule 39 = .ok (.aload_n 0, 1) := by decide +kernel
theorem dX8_rule_40 : decode cX8_rule 40 = .ok (.getfield 110, 3) := by decide +kernel
theorem dX8_rule_43 : decode cX8_rule 43 = .ok (.goto 7, 3) := by decide +kernel
theorem dX8_rule_46 : decode cX8_rule 46 = .ok (.aload_n 0, 1) := by decide +kernel
theorem dX8_rule_47 : decode cX8_rule 47 = .ok (.getfield 114, 3) := by decide +kernel
theorem dX8_rule_50 : decode cX8_rule 50 = .ok (.istore_n 3, 1) := by decide +kernel
theorem dX8_rule_51 : decode cX8_rule 51 = .ok (.iload_n 1, 1) := by decide +kernel
theorem dX8_rule_52 : decode cX8_rule 52 = .ok (.ifCond .ne 11, 3) := by decide +kernel
theorem dX8_rule_55 : decode cX8_rule 55 = .ok (.aload_n 0, 1) := by decide +kernel
theorem dX8_rule_56 : decode cX8_rule 56 = .ok (.iload_n 2, 1) := by decide +kernel
theorem dX8_rule_57 : decode cX8_rule 57 = .ok (.putfield 110, 3) := by decide +kernel
theorem dX8_rule_60 : decode cX8_rule 60 = .ok (.goto 8, 3) := by decide +kernel
theorem dX8_rule_63 : decode cX8_rule 63 = .ok (.aload_n 0, 1) := by decide +kernel
theorem dX8_rule_64 : decode cX8_rule 64 = .ok (.iload_n 2, 1) := by decide +kernel
theorem dX8_rule_65 : decode cX8_rule 65 = .ok (.putfield 114, 3) := by decide +kernel
theorem dX8_rule_68 : decode cX8_rule 68 = .ok (.iload_n 3, 1) := by decide +kernel
theorem dX8_rule_69 : decode cX8_rule 69 = .ok (.ireturn, 1) := by decide +kernel
theorem dX8_errorOf_0 : decode cX8_errorOf 0 = .ok (.aload_n 0, 1) := by decide +kernel
theorem dX8_errorOf_1 : decode cX8_errorOf 1 = .ok (.getfield 44, 3) := by decide +kernel
theorem dX8_errorOf_4 : decode cX8_errorOf 4 = .ok (.bipush 10, 2) := by decide +kernel
theorem dX8_errorOf_6 : decode cX8_errorOf 6 = .ok (.iload_n 1, 1) := by decide +kernel
theorem dX8_errorOf_7 : decode cX8_errorOf 7 = .ok (.imul, 1) := by decide +kernel
theorem dX8_errorOf_8 : decode cX8_errorOf 8 = .ok (.iload_n 2, 1) := by decide +kernel
theorem dX8_errorOf_9 : decode cX8_errorOf 9 = .ok (.iadd, 1) := by decide +kernel
theorem dX8_errorOf_10 : decode cX8_errorOf 10 = .ok (.iaload, 1) := by decide +kernel
theorem dX8_errorOf_11 : decode cX8_errorOf 11 = .ok (.istore 5, 2) := by decide +kernel
theorem dX8_errorOf_13 : decode cX8_errorOf 13 = .ok (.iload_n 3, 1) := by decide +kernel
theorem dX8_errorOf_14 : decode cX8_errorOf 14 = .ok (.bipush 10, 2) := by decide +kernel
theorem dX8_errorOf_16 : decode cX8_errorOf 16 = .ok (.iload 5, 2) := by decide +kernel
theorem dX8_errorOf_18 : decode cX8_errorOf 18 = .ok (.iconst 4, 1) := by decide +kernel
theorem dX8_errorOf_19 : decode cX8_errorOf 19 = .ok (.irem, 1) := by decide +kernel
theorem dX8_errorOf_20 : decode cX8_errorOf 20 = .ok (.imul, 1) := by decide +kernel
theorem dX8_errorOf_21 : decode cX8_errorOf 21 = .ok (.isub, 1) := by decide +kernel
theorem dX8_errorOf_22 : decode cX8_errorOf 22 = .ok (.iconst 5, 1) := by decide +kernel
theorem dX8_errorOf_23 : decode cX8_errorOf 23 = .ok (.isub, 1) := by decide +kernel
theorem dX8_errorOf_24 : decode cX8_errorOf 24 = .ok (.invokestatic 182, 3) := by decide +kernel
theorem dX8_errorOf_27 : decode cX8_errorOf 27 = .ok (.istore 6, 2) := by decide +kernel
theorem dX8_errorOf_29 : decode cX8_errorOf 29 = .ok (.iload 4, 2) := by decide +kernel
theorem dX8_errorOf_31 : decode cX8_errorOf 31 = .ok (.bipush 10, 2) := by decide +kernel
theorem dX8_errorOf_33 : decode cX8_errorOf 33 = .ok (.iload 5, 2) := by decide +kernel
theorem dX8_errorOf_35 : decode cX8_errorOf 35 = .ok (.iconst 4, 1) := by decide +kernel
theorem dX8_errorOf_36 : decode cX8_errorOf 36 = .ok (.idiv, 1) := by decide +kernel
theorem dX8_errorOf_37 : decode cX8_errorOf 37 = .ok (.imul, 1) := by decide +kernel
theorem dX8_errorOf_38 : decode cX8_errorOf 38 = .ok (.isub, 1) := by decide +kernel
theorem dX8_errorOf_39 : decode cX8_errorOf 39 = .ok (.iconst 5, 1) := by decide +kernel
theorem dX8_errorOf_40 : decode cX8_errorOf 40 = .ok (.isub, 1) := by decide +kernel
theorem dX8_errorOf_41 : decode cX8_errorOf 41 = .ok (.invokestatic 182, 3) := by decide +kernel
theorem dX8_errorOf_44 : decode cX8_errorOf 44 = .ok (.istore 7, 2) := by decide +kernel
theorem dX8_errorOf_46 : decode cX8_errorOf 46 = .ok (.iload 5, 2) := by decide +kernel
theorem dX8_errorOf_48 : decode cX8_errorOf 48 = .ok (.ifCond .ge 8, 3) := by decide +kernel
theorem dX8_errorOf_51 : decode cX8_errorOf 51 = .ok (.bipush 99, 2) := by decide +kernel
theorem dX8_errorOf_53 : decode cX8_errorOf 53 = .ok (.goto 12, 3) := by decide +kernel
theorem dX8_errorOf_56 : decode cX8_errorOf 56 = .ok (.iload 6, 2) := by decide +kernel
theorem dX8_errorOf_58 : decode cX8_errorOf 58 = .ok (.iload 7, 2) := by decide +kernel
theorem dX8_errorOf_60 : decode cX8_errorOf 60 = .ok (.invokestatic 195, 3) := by decide +kernel
theorem dX8_errorOf_63 : decode cX8_errorOf 63 = .ok (.iconst 5, 1) := by decide +kernel
theorem dX8_errorOf_64 : decode cX8_errorOf 64 = .ok (.idiv, 1) := by decide +kernel
theorem dX8_errorOf_65 : decode cX8_errorOf 65 = .ok (.ireturn, 1) := by decide +kernel
theorem dX8_takePress_0 : decode cX8_takePress 0 = .ok (.aload_n 0, 1) := by decide +kernel
theorem dX8_takePress_1 : decode cX8_takePress 1 = .ok (.getfield 80, 3) := by decide +kernel
theorem dX8_takePress_4 : decode cX8_takePress 4 = .ok (.iconst 3, 1) := by decide +kernel
theorem dX8_takePress_5 : decode cX8_takePress 5 = .ok (.iload_n 1, 1) := by decide +kernel
theorem dX8_takePress_6 : decode cX8_takePress 6 = .ok (.imul, 1) := by decide +kernel
theorem dX8_takePress_7 : decode cX8_takePress 7 = .ok (.iload_n 2, 1) := by decide +kernel
theorem dX8_takePress_8 : decode cX8_takePress 8 = .ok (.iadd, 1) := by decide +kernel
theorem dX8_takePress_9 : decode cX8_takePress 9 = .ok (.dup2, 1) := by decide +kernel
theorem dX8_takePress_10 : decode cX8_takePress 10 = .ok (.iaload, 1) := by decide +kernel
theorem dX8_takePress_11 : decode cX8_takePress 11 = .ok (.iconst 1, 1) := by decide +kernel
theorem dX8_takePress_12 : decode cX8_takePress 12 = .ok (.iadd, 1) := by decide +kernel
theorem dX8_takePress_13 : decode cX8_takePress 13 = .ok (.iastore, 1) := by decide +kernel
theorem dX8_takePress_14 : decode cX8_takePress 14 = .ok (.aload_n 0, 1) := by decide +kernel
theorem dX8_takePress_15 : decode cX8_takePress 15 = .ok (.getfield 83, 3) := by decide +kernel
theorem dX8_takePress_18 : decode cX8_takePress 18 = .ok (.iload_n 1, 1) := by decide +kernel
theorem dX8_takePress_19 : decode cX8_takePress 19 = .ok (.iaload, 1) := by decide +kernel
theorem dX8_takePress_20 : decode cX8_takePress 20 = .ok (.bipush 12, 2) := by decide +kernel
theorem dX8_takePress_22 : decode cX8_takePress 22 = .ok (.if_icmp .ne 51, 3) := by decide +kernel
theorem dX8_takePress_25 : decode cX8_takePress 25 = .ok (.iconst 0, 1) := by decide +kernel
theorem dX8_takePress_26 : decode cX8_takePress 26 = .ok (.istore_n 3, 1) := by decide +kernel
theorem dX8_takePress_27 : decode cX8_takePress 27 = .ok (.iload_n 3, 1) := by decide +kernel
theorem dX8_takePress_28 : decode cX8_takePress 28 = .ok (.bipush 11, 2) := by decide +kernel
theorem dX8_takePress_30 : decode cX8_takePress 30 = .ok (.if_icmp .ge 33, 3) := by decide +kernel
theorem dX8_takePress_33 : decode cX8_takePress 33 = .ok (.aload_n 0, 1) := by decide +kernel
theorem dX8_takePress_34 : decode cX8_takePress 34 = .ok (.getfield 86, 3) := by decide +kernel
theorem dX8_takePress_37 : decode cX8_takePress 37 = .ok (.bipush 12, 2) := by decide +kernel
theorem dX8_takePress_39 : decode cX8_takePress 39 = .ok (.iload_n 1, 1) := by decide +kernel
theorem dX8_takePress_40 : decode cX8_takePress 40 = .ok (.imul, 1) := by decide +kernel
theorem dX8_takePress_41 : decode cX8_takePress 41 = .ok (.iload_n 3, 1) := by decide +kernel
theorem dX8_takePress_42 : decode cX8_takePress 42 = .ok (.iadd, 1) := by decide +kernel
theorem dX8_takePress_43 : decode cX8_takePress 43 = .ok (.aload_n 0, 1) := by decide +kernel
theorem dX8_takePress_44 : decode cX8_takePress 44 = .ok (.getfield 86, 3) := by decide +kernel
theorem dX8_takePress_47 : decode cX8_takePress 47 = .ok (.bipush 12, 2) := by decide +kernel
theorem dX8_takePress_49 : decode cX8_takePress 49 = .ok (.iload_n 1, 1) := by decide +kernel
theorem dX8_takePress_50 : decode cX8_takePress 50 = .ok (.imul, 1) := by decide +kernel
theorem dX8_takePress_51 : decode cX8_takePress 51 = .ok (.iload_n 3, 1) := by decide +kernel
theorem dX8_takePress_52 : decode cX8_takePress 52 = .ok (.iadd, 1) := by decide +kernel
theorem dX8_takePress_53 : decode cX8_takePress 53 = .ok (.iconst 1, 1) := by decide +kernel
theorem dX8_takePress_54 : decode cX8_takePress 54 = .ok (.iadd, 1) := by decide +kernel
theorem dX8_takePress_55 : decode cX8_takePress 55 = .ok (.iaload, 1) := by decide +kernel
theorem dX8_takePress_56 : decode cX8_takePress 56 = .ok (.iastore, 1) := by decide +kernel
theorem dX8_takePress_57 : decode cX8_takePress 57 = .ok (.iinc 3 1, 3) := by decide +kernel
theorem dX8_takePress_60 : decode cX8_takePress 60 = .ok (.goto (-33), 3) := by decide +kernel
theorem dX8_takePress_63 : decode cX8_takePress 63 = .ok (.aload_n 0, 1) := by decide +kernel
theorem dX8_takePress_64 : decode cX8_takePress 64 = .ok (.getfield 83, 3) := by decide +kernel
theorem dX8_takePress_67 : decode cX8_takePress 67 = .ok (.iload_n 1, 1) := by decide +kernel
theorem dX8_takePress_68 : decode cX8_takePress 68 = .ok (.dup2, 1) := by decide +kernel
theorem dX8_takePress_69 : decode cX8_takePress 69 = .ok (.iaload, 1) := by decide +kernel
theorem dX8_takePress_70 : decode cX8_takePress 70 = .ok (.iconst 1, 1) := by decide +kernel
theorem dX8_takePress_71 : decode cX8_takePress 71 = .ok (.isub, 1) := by decide +kernel
theorem dX8_takePress_72 : decode cX8_takePress 72 = .ok (.iastore, 1) := by decide +kernel
theorem dX8_takePress_73 : decode cX8_takePress 73 = .ok (.aload_n 0, 1) := by decide +kernel
theorem dX8_takePress_74 : decode cX8_takePress 74 = .ok (.getfield 86, 3) := by decide +kernel
theorem dX8_takePress_77 : decode cX8_takePress 77 = .ok (.bipush 12, 2) := by decide +kernel
theorem dX8_takePress_79 : decode cX8_takePress 79 = .ok (.iload_n 1, 1) := by decide +kernel
theorem dX8_takePress_80 : decode cX8_takePress 80 = .ok (.imul, 1) := by decide +kernel
theorem dX8_takePress_81 : decode cX8_takePress 81 = .ok (.aload_n 0, 1) := by decide +kernel
theorem dX8_takePress_82 : decode cX8_takePress 82 = .ok (.getfield 83, 3) := by decide +kernel
theorem dX8_takePress_85 : decode cX8_takePress 85 = .ok (.iload_n 1, 1) := by decide +kernel
theorem dX8_takePress_86 : decode cX8_takePress 86 = .ok (.iaload, 1) := by decide +kernel
theorem dX8_takePress_87 : decode cX8_takePress 87 = .ok (.iadd, 1) := by decide +kernel
theorem dX8_takePress_88 : decode cX8_takePress 88 = .ok (.iload_n 2, 1) := by decide +kernel
theorem dX8_takePress_89 : decode cX8_takePress 89 = .ok (.iastore, 1) := by decide +kernel
theorem dX8_takePress_90 : decode cX8_takePress 90 = .ok (.aload_n 0, 1) := by decide +kernel
theorem dX8_takePress_91 : decode cX8_takePress 91 = .ok (.getfield 83, 3) := by decide +kernel
theorem dX8_takePress_94 : decode cX8_takePress 94 = .ok (.iload_n 1, 1) := by decide +kernel
theorem dX8_takePress_95 : decode cX8_takePress 95 = .ok (.dup2, 1) := by decide +kernel
theorem dX8_takePress_96 : decode cX8_takePress 96 = .ok (.iaload, 1) := by decide +kernel
theorem dX8_takePress_97 : decode cX8_takePress 97 = .ok (.iconst 1, 1) := by decide +kernel
theorem dX8_takePress_98 : decode cX8_takePress 98 = .ok (.iadd, 1) := by decide +kernel
theorem dX8_takePress_99 : decode cX8_takePress 99 = .ok (.iastore, 1) := by decide +kernel
theorem dX8_takePress_100 : decode cX8_takePress 100 = .ok (.aload_n 0, 1) := by decide +kernel
theorem dX8_takePress_101 : decode cX8_takePress 101 = .ok (.getfield 68, 3) := by decide +kernel
theorem dX8_takePress_104 : decode cX8_takePress 104 = .ok (.iload_n 1, 1) := by decide +kernel
theorem dX8_takePress_105 : decode cX8_takePress 105 = .ok (.bipush (-9), 2) := by decide +kernel
theorem dX8_takePress_107 : decode cX8_takePress 107 = .ok (.iastore, 1) := by decide +kernel
theorem dX8_takePress_108 : decode cX8_takePress 108 = .ok (.return_, 1) := by decide +kernel
theorem dX8_press_0 : decode cX8_press 0 = .ok (.aload_n 0, 1) := by decide +kernel
theorem dX8_press_1 : decode cX8_press 1 = .ok (.iload_n 1, 1) := by decide +kernel
theorem dX8_press_2 : decode cX8_press 2 = .ok (.invokevirtual 175, 3) := by decide +kernel
theorem dX8_press_5 : decode cX8_press 5 = .ok (.ifCond .eq 5, 3) := by decide +kernel
theorem dX8_press_8 : decode cX8_press 8 = .ok (.iconst (-1), 1) := by decide +kernel
theorem dX8_press_9 : decode cX8_press 9 = .ok (.ireturn, 1) := by decide +kernel
theorem dX8_press_10 : decode cX8_press 10 = .ok (.iload_n 2, 1) := by decide +kernel
theorem dX8_press_11 : decode cX8_press 11 = .ok (.i2l, 1) := by decide +kernel
theorem dX8_press_12 : decode cX8_press 12 = .ok (.lconst 0, 1) := by decide +kernel
theorem dX8_press_13 : decode cX8_press 13 = .ok (.ldc2_w 267, 3) := by decide +kernel
theorem dX8_press_16 : decode cX8_press 16 = .ok (.invokestatic 128, 3) := by decide +kernel
theorem dX8_press_19 : decode cX8_press 19 = .ok (.ifCond .eq 28, 3) := by decide +kernel
theorem dX8_press_22 : decode cX8_press 22 = .ok (.iload_n 3, 1) := by decide +kernel
theorem dX8_press_23 : decode cX8_press 23 = .ok (.i2l, 1) := by decide +kernel
theorem dX8_press_24 : decode cX8_press 24 = .ok (.lconst 0, 1) := by decide +kernel
theorem dX8_press_25 : decode cX8_press 25 = .ok (.ldc2_w 269, 3) := by decide +kernel
theorem dX8_press_28 : decode cX8_press 28 = .ok (.invokestatic 128, 3) := by decide +kernel
theorem dX8_press_31 : decode cX8_press 31 = .ok (.ifCond .eq 16, 3) := by decide +kernel
theorem dX8_press_34 : decode cX8_press 34 = .ok (.iload 4, 2) := by decide +kernel
theorem dX8_press_36 : decode cX8_press 36 = .ok (.i2l, 1) := by decide +kernel
theorem dX8_press_37 : decode cX8_press 37 = .ok (.lconst 0, 1) := by decide +kernel
theorem dX8_press_38 : decode cX8_press 38 = .ok (.ldc2_w 233, 3) := by decide +kernel
theorem dX8_press_41 : decode cX8_press 41 = .ok (.invokestatic 128, 3) := by decide +kernel
theorem dX8_press_44 : decode cX8_press 44 = .ok (.ifCond .ne 6, 3) := by decide +kernel
theorem dX8_press_47 : decode cX8_press 47 = .ok (.bipush (-2), 2) := by decide +kernel
theorem dX8_press_49 : decode cX8_press 49 = .ok (.ireturn, 1) := by decide +kernel
theorem dX8_press_50 : decode cX8_press 50 = .ok (.iload 4, 2) := by decide +kernel
theorem dX8_press_52 : decode cX8_press 52 = .ok (.aload_n 0, 1) := by decide +kernel
theorem dX8_press_53 : decode cX8_press 53 = .ok (.getfield 77, 3) := by decide +kernel
theorem dX8_press_56 : decode cX8_press 56 = .ok (.iload_n 1, 1) := by decide +kernel
theorem dX8_press_57 : decode cX8_press 57 = .ok (.iaload, 1) := by decide +kernel
theorem dX8_press_58 : decode cX8_press 58 = .ok (.if_icmp .ge 6, 3) := by decide +kernel
theorem dX8_press_61 : decode cX8_press 61 = .ok (.bipush (-3), 2) := by decide +kernel
theorem dX8_press_63 : decode cX8_press 63 = .ok (.ireturn, 1) := by decide +kernel
theorem dX8_press_64 : decode cX8_press 64 = .ok (.aload_n 0, 1) := by decide +kernel
theorem dX8_press_65 : decode cX8_press 65 = .ok (.getfield 77, 3) := by decide +kernel
theorem dX8_press_68 : decode cX8_press 68 = .ok (.iload_n 1, 1) := by decide +kernel
theorem dX8_press_69 : decode cX8_press 69 = .ok (.iload 4, 2) := by decide +kernel
theorem dX8_press_71 : decode cX8_press 71 = .ok (.iastore, 1) := by decide +kernel
theorem dX8_press_72 : decode cX8_press 72 = .ok (.bipush (-9), 2) := by decide +kernel
theorem dX8_press_74 : decode cX8_press 74 = .ok (.istore 5, 2) := by decide +kernel
theorem dX8_press_76 : decode cX8_press 76 = .ok (.lconst 0, 1) := by decide +kernel
theorem dX8_press_77 : decode cX8_press 77 = .ok (.lstore 6, 2) := by decide +kernel
theorem dX8_press_79 : decode cX8_press 79 = .ok (.lconst 0, 1) := by decide +kernel
theorem dX8_press_80 : decode cX8_press 80 = .ok (.lstore 8, 2) := by decide +kernel
theorem dX8_press_82 : decode cX8_press 82 = .ok (.iconst 0, 1) := by decide +kernel
theorem dX8_press_83 : decode cX8_press 83 = .ok (.istore 10, 2) := by decide +kernel
theorem dX8_press_85 : decode cX8_press 85 = .ok (.iload 10, 2) := by decide +kernel
theorem dX8_press_87 : decode cX8_press 87 = .ok (.aload_n 0, 1) := by decide +kernel
theorem dX8_press_88 : decode cX8_press 88 = .ok (.getfield 143, 3) := by decide +kernel
theorem dX8_press_91 : decode cX8_press 91 = .ok (.if_icmp .ge 94, 3) := by decide +kernel
theorem dX8_press_94 : decode cX8_press 94 = .ok (.aload_n 0, 1) := by decide +kernel
theorem dX8_press_95 : decode cX8_press 95 = .ok (.iload_n 1, 1) := by decide +kernel
theorem dX8_press_96 : decode cX8_press 96 = .ok (.iload 10, 2) := by decide +kernel
theorem dX8_press_98 : decode cX8_press 98 = .ok (.iload_n 2, 1) := by decide +kernel
theorem dX8_press_99 : decode cX8_press 99 = .ok (.iload_n 3, 1) := by decide +kernel
theorem dX8_press_100 : decode cX8_press 100 = .ok (.invokevirtual 271, 3) := by decide +kernel
theorem dX8_press_103 : decode cX8_press 103 = .ok (.istore 11, 2) := by decide +kernel
theorem dX8_press_105 : decode cX8_press 105 = .ok (.iload 11, 2) := by decide +kernel
theorem dX8_press_107 : decode cX8_press 107 = .ok (.iconst 3, 1) := by decide +kernel
theorem dX8_press_108 : decode cX8_press 108 = .ok (.if_icmp .ge 71, 3) := by decide +kernel
theorem dX8_press_111 : decode cX8_press 111 = .ok (.aload_n 0, 1) := by decide +kernel
theorem dX8_press_112 : decode cX8_press 112 = .ok (.getfield 13, 3) := by decide +kernel
theorem dX8_press_115 : decode cX8_press 115 = .ok (.iload 10, 2) := by decide +kernel
theorem dX8_press_117 : decode cX8_press 117 = .ok (.iaload, 1) := by decide +kernel
theorem dX8_press_118 : decode cX8_press 118 = .ok (.i2l, 1) := by decide +kernel
theorem dX8_press_119 : decode cX8_press 119 = .ok (.lconst 1, 1) := by decide +kernel
theorem dX8_press_120 : decode cX8_press 120 = .ok (.ladd, 1) := by decide +kernel
theorem dX8_press_121 : decode cX8_press 121 = .ok (.aload_n 0, 1) := by decide +kernel
theorem dX8_press_122 : decode cX8_press 122 = .ok (.getfield 80, 3) := by decide +kernel
theorem dX8_press_125 : decode cX8_press 125 = .ok (.iconst 3, 1) := by decide +kernel
theorem dX8_press_126 : decode cX8_press 126 = .ok (.iload_n 1, 1) := by decide +kernel
theorem dX8_press_127 : decode cX8_press 127 = .ok (.imul, 1) := by decide +kernel
theorem dX8_press_128 : decode cX8_press 128 = .ok (.iload 11, 2) := by decide +kernel
theorem dX8_press_130 : decode cX8_press 130 = .ok (.iadd, 1) := by decide +kernel
theorem dX8_press_131 : decode cX8_press 131 = .ok (.iaload, 1) := by decide +kernel
theorem dX8_press_132 : decode cX8_press 132 = .ok (.i2l, 1) := by decide +kernel
theorem dX8_press_133 : decode cX8_press 133 = .ok (.lconst 1, 1) := by decide +kernel
theorem dX8_press_134 : decode cX8_press 134 = .ok (.ladd, 1) := by decide +kernel
theorem dX8_press_135 : decode cX8_press 135 = .ok (.lmul, 1) := by decide +kernel
theorem dX8_press_136 : decode cX8_press 136 = .ok (.lstore 12, 2) := by decide +kernel
theorem dX8_press_138 : decode cX8_press 138 = .ok (.lload 8, 2) := by decide +kernel
theorem dX8_press_140 : decode cX8_press 140 = .ok (.lload 12, 2) := by decide +kernel
theorem dX8_press_142 : decode cX8_press 142 = .ok (.ladd, 1) := by decide +kernel
theorem dX8_press_143 : decode cX8_press 143 = .ok (.lstore 8, 2) := by decide +kernel
theorem dX8_press_145 : decode cX8_press 145 = .ok (.lload 12, 2) := by decide +kernel
theorem dX8_press_147 : decode cX8_press 147 = .ok (.lload 6, 2) := by decide +kernel
theorem dX8_press_149 : decode cX8_press 149 = .ok (.lcmp, 1) := by decide +kernel
theorem dX8_press_150 : decode cX8_press 150 = .ok (.ifCond .le 8, 3) := by decide +kernel
theorem dX8_press_153 : decode cX8_press 153 = .ok (.iload 10, 2) := by decide +kernel
theorem dX8_press_155 : decode cX8_press 155 = .ok (.goto 5, 3) := by decide +kernel
theorem dX8_press_158 : decode cX8_press 158 = .ok (.iload 5, 2) := by decide +kernel
theorem dX8_press_160 : decode cX8_press 160 = .ok (.istore 5, 2) := by decide +kernel
theorem dX8_press_162 : decode cX8_press 162 = .ok (.lload 12, 2) := by decide +kernel
theorem dX8_press_164 : decode cX8_press 164 = .ok (.lload 6, 2) := by decide +kernel
theorem dX8_press_166 : decode cX8_press 166 = .ok (.lcmp, 1) := by decide +kernel
theorem dX8_press_167 : decode cX8_press 167 = .ok (.ifCond .le 8, 3) := by decide +kernel
theorem dX8_press_170 : decode cX8_press 170 = .ok (.lload 12, 2) := by decide +kernel
theorem dX8_press_172 : decode cX8_press 172 = .ok (.goto 5, 3) := by decide +kernel
theorem dX8_press_175 : decode cX8_press 175 = .ok (.lload 6, 2) := by decide +kernel
theorem dX8_press_177 : decode cX8_press 177 = .ok (.lstore 6, 2) := by decide +kernel
theorem dX8_press_179 : decode cX8_press 179 = .ok (.iinc 10 1, 3) := by decide +kernel
theorem dX8_press_182 : decode cX8_press 182 = .ok (.goto (-97), 3) := by decide +kernel
theorem dX8_press_185 : decode cX8_press 185 = .ok (.iload 5, 2) := by decide +kernel
theorem dX8_press_187 : decode cX8_press 187 = .ok (.ifCond .ge 6, 3) := by decide +kernel
theorem dX8_press_190 : decode cX8_press 190 = .ok (.bipush (-9), 2) := by decide +kernel
theorem dX8_press_192 : decode cX8_press 192 = .ok (.ireturn, 1) := by decide +kernel
theorem dX8_press_193 : decode cX8_press 193 = .ok (.aload_n 0, 1) := by decide +kernel
theorem dX8_press_194 : decode cX8_press 194 = .ok (.iload_n 1, 1) := by decide +kernel
theorem dX8_press_195 : decode cX8_press 195 = .ok (.iload 5, 2) := by decide +kernel
theorem dX8_press_197 : decode cX8_press 197 = .ok (.iload_n 2, 1) := by decide +kernel
theorem dX8_press_198 : decode cX8_press 198 = .ok (.iload_n 3, 1) := by decide +kernel
theorem dX8_press_199 : decode cX8_press 199 = .ok (.invokevirtual 271, 3) := by decide +kernel
theorem dX8_press_202 : decode cX8_press 202 = .ok (.istore 10, 2) := by decide +kernel
theorem dX8_press_204 : decode cX8_press 204 = .ok (.aload_n 0, 1) := by decide +kernel
theorem dX8_press_205 : decode cX8_press 205 = .ok (.getfield 68, 3) := by decide +kernel
theorem dX8_press_208 : decode cX8_press 208 = .ok (.iload_n 1, 1) := by decide +kernel
theorem dX8_press_209 : decode cX8_press 209 = .ok (.iaload, 1) := by decide +kernel
theorem dX8_press_210 : decode cX8_press 210 = .ok (.iload 5, 2) := by decide +kernel
theorem dX8_press_212 : decode cX8_press 212 = .ok (.if_icmp .ne 23, 3) := by decide +kernel
theorem dX8_press_215 : decode cX8_press 215 = .ok (.iload 4, 2) := by decide +kernel
theorem dX8_press_217 : decode cX8_press 217 = .ok (.aload_n 0, 1) := by decide +kernel
theorem dX8_press_218 : decode cX8_press 218 = .ok (.getfield 71, 3) := by decide +kernel
theorem dX8_press_221 : decode cX8_press 221 = .ok (.iload_n 1, 1) := by decide +kernel
theorem dX8_press_222 : decode cX8_press 222 = .ok (.iaload, 1) := by decide +kernel
theorem dX8_press_223 : decode cX8_press 223 = .ok (.isub, 1) := by decide +kernel
theorem dX8_press_224 : decode cX8_press 224 = .ok (.aload_n 0, 1) := by decide +kernel
theorem dX8_press_225 : decode cX8_press 225 = .ok (.getfield 114, 3) := by decide +kernel
theorem dX8_press_228 : decode cX8_press 228 = .ok (.if_icmp .gt 7, 3) := by decide +kernel
theorem dX8_press_231 : decode cX8_press 231 = .ok (.iconst 1, 1) := by decide +kernel
theorem dX8_press_232 : decode cX8_press 232 = .ok (.goto 4, 3) := by decide +kernel
theorem dX8_press_235 : decode cX8_press 235 = .ok (.iconst 0, 1) := by decide +kernel
theorem dX8_press_236 : decode cX8_press 236 = .ok (.istore 11, 2) := by decide +kernel
theorem dX8_press_238 : decode cX8_press 238 = .ok (.ldc2_w 180, 3) := by decide +kernel
theorem dX8_press_241 : decode cX8_press 241 = .ok (.lload 6, 2) := by decide +kernel
theorem dX8_press_243 : decode cX8_press 243 = .ok (.lmul, 1) := by decide +kernel
theorem dX8_press_244 : decode cX8_press 244 = .ok (.aload_n 0, 1) := by decide +kernel
theorem dX8_press_245 : decode cX8_press 245 = .ok (.getfield 110, 3) := by decide +kernel
theorem dX8_press_248 : decode cX8_press 248 = .ok (.i2l, 1) := by decide +kernel
theorem dX8_press_249 : decode cX8_press 249 = .ok (.lload 8, 2) := by decide +kernel
theorem dX8_press_251 : decode cX8_press 251 = .ok (.lmul, 1) := by decide +kernel
theorem dX8_press_252 : decode cX8_press 252 = .ok (.lcmp, 1) := by decide +kernel
theorem dX8_press_253 : decode cX8_press 253 = .ok (.ifCond .lt 19, 3) := by decide +kernel
theorem dX8_press_256 : decode cX8_press 256 = .ok (.aload_n 0, 1) := by decide +kernel
theorem dX8_press_257 : decode cX8_press 257 = .ok (.getfield 7, 3) := by decide +kernel
theorem dX8_press_260 : decode cX8_press 260 = .ok (.iload 5, 2) := by decide +kernel
theorem dX8_press_262 : decode cX8_press 262 = .ok (.iaload, 1) := by decide +kernel
theorem dX8_press_263 : decode cX8_press 263 = .ok (.iconst 2, 1) := by decide +kernel
theorem dX8_press_264 : decode cX8_press 264 = .ok (.if_icmp .ne 38, 3) := by decide +kernel
theorem dX8_press_267 : decode cX8_press 267 = .ok (.iload 11, 2) := by decide +kernel
theorem dX8_press_269 : decode cX8_press 269 = .ok (.ifCond .ne 33, 3) := by decide +kernel
theorem dX8_press_272 : decode cX8_press 272 = .ok (.aload_n 0, 1) := by decide +kernel
theorem dX8_press_273 : decode cX8_press 273 = .ok (.getfield 68, 3) := by decide +kernel
theorem dX8_press_276 : decode cX8_press 276 = .ok (.iload_n 1, 1) := by decide +kernel
theorem dX8_press_277 : decode cX8_press 277 = .ok (.iload 5, 2) := by decide +kernel
theorem dX8_press_279 : decode cX8_press 279 = .ok (.iastore, 1) := by decide +kernel
theorem dX8_press_280 : decode cX8_press 280 = .ok (.aload_n 0, 1) := by decide +kernel
theorem dX8_press_281 : decode cX8_press 281 = .ok (.getfield 71, 3) := by decide +kernel
theorem dX8_press_284 : decode cX8_press 284 = .ok (.iload_n 1, 1) := by decide +kernel
theorem dX8_press_285 : decode cX8_press 285 = .ok (.iload 4, 2) := by decide +kernel
theorem dX8_press_287 : decode cX8_press 287 = .ok (.iastore, 1) := by decide +kernel
theorem dX8_press_288 : decode cX8_press 288 = .ok (.aload_n 0, 1) := by decide +kernel
theorem dX8_press_289 : decode cX8_press 289 = .ok (.getfield 74, 3) := by decide +kernel
theorem dX8_press_292 : decode cX8_press 292 = .ok (.iload_n 1, 1) := by decide +kernel
theorem dX8_press_293 : decode cX8_press 293 = .ok (.iload 10, 2) := by decide +kernel
theorem dX8_press_295 : decode cX8_press 295 = .ok (.iastore, 1) := by decide +kernel
theorem dX8_press_296 : decode cX8_press 296 = .ok (.bipush 100, 2) := by decide +kernel
theorem dX8_press_298 : decode cX8_press 298 = .ok (.iload 5, 2) := by decide +kernel
theorem dX8_press_300 : decode cX8_press 300 = .ok (.iadd, 1) := by decide +kernel
theorem dX8_press_301 : decode cX8_press 301 = .ok (.ireturn, 1) := by decide +kernel
theorem dX8_press_302 : decode cX8_press 302 = .ok (.aload_n 0, 1) := by decide +kernel
theorem dX8_press_303 : decode cX8_press 303 = .ok (.iload_n 1, 1) := by decide +kernel
theorem dX8_press_304 : decode cX8_press 304 = .ok (.iload 10, 2) := by decide +kernel
theorem dX8_press_306 : decode cX8_press 306 = .ok (.invokevirtual 275, 3) := by decide +kernel
theorem dX8_press_309 : decode cX8_press 309 = .ok (.iload 5, 2) := by decide +kernel
theorem dX8_press_311 : decode cX8_press 311 = .ok (.ireturn, 1) := by decide +kernel
theorem dX8_confirm_0 : decode cX8_confirm 0 = .ok (.aload_n 0, 1) := by decide +kernel
theorem dX8_confirm_1 : decode cX8_confirm 1 = .ok (.iload_n 1, 1) := by decide +kernel
theorem dX8_confirm_2 : decode cX8_confirm 2 = .ok (.invokevirtual 175, 3) := by decide +kernel
theorem dX8_confirm_5 : decode cX8_confirm 5 = .ok (.ifCond .eq 5, 3) := by decide +kernel
theorem dX8_confirm_8 : decode cX8_confirm 8 = .ok (.iconst (-1), 1) := by decide +kernel
theorem dX8_confirm_9 : decode cX8_confirm 9 = .ok (.ireturn, 1) := by decide +kernel
theorem dX8_confirm_10 : decode cX8_confirm 10 = .ok (.iload_n 2, 1) := by decide +kernel
theorem dX8_confirm_11 : decode cX8_confirm 11 = .ok (.i2l, 1) := by decide +kernel
theorem dX8_confirm_12 : decode cX8_confirm 12 = .ok (.lconst 0, 1) := by decide +kernel
theorem dX8_confirm_13 : decode cX8_confirm 13 = .ok (.ldc2_w 233, 3) := by decide +kernel
theorem dX8_confirm_16 : decode cX8_confirm 16 = .ok (.invokestatic 128, 3) := by decide +kernel
theorem dX8_confirm_19 : decode cX8_confirm 19 = .ok (.ifCond .ne 6, 3) := by decide +kernel
theorem dX8_confirm_22 : decode cX8_confirm 22 = .ok (.bipush (-2), 2) := by decide +kernel
theorem dX8_confirm_24 : decode cX8_confirm 24 = .ok (.ireturn, 1) := by decide +kernel
theorem dX8_confirm_25 : decode cX8_confirm 25 = .ok (.aload_n 0, 1) := by decide +kernel
theorem dX8_confirm_26 : decode cX8_confirm 26 = .ok (.getfield 68, 3) := by decide +kernel
theorem dX8_confirm_29 : decode cX8_confirm 29 = .ok (.iload_n 1, 1) := by decide +kernel
theorem dX8_confirm_30 : decode cX8_confirm 30 = .ok (.iaload, 1) := by decide +kernel
theorem dX8_confirm_31 : decode cX8_confirm 31 = .ok (.ifCond .lt 13, 3) := by decide +kernel
theorem dX8_confirm_34 : decode cX8_confirm 34 = .ok (.iload_n 2, 1) := by decide +kernel
theorem dX8_confirm_35 : decode cX8_confirm 35 = .ok (.aload_n 0, 1) := by decide +kernel
theorem dX8_confirm_36 : decode cX8_confirm 36 = .ok (.getfield 77, 3) := by decide +kernel
theorem dX8_confirm_39 : decode cX8_confirm 39 = .ok (.iload_n 1, 1) := by decide +kernel
theorem dX8_confirm_40 : decode cX8_confirm 40 = .ok (.iaload, 1) := by decide +kernel
theorem dX8_confirm_41 : decode cX8_confirm 41 = .ok (.if_icmp .ge 6, 3) := by decide +kernel
theorem dX8_confirm_44 : decode cX8_confirm 44 = .ok (.bipush (-3), 2) := by decide +kernel
theorem dX8_confirm_46 : decode cX8_confirm 46 = .ok (.ireturn, 1) := by decide +kernel
theorem dX8_confirm_47 : decode cX8_confirm 47 = .ok (.aload_n 0, 1) := by decide +kernel
theorem dX8_confirm_48 : decode cX8_confirm 48 = .ok (.getfield 77, 3) := by decide +kernel
theorem dX8_confirm_51 : decode cX8_confirm 51 = .ok (.iload_n 1, 1) := by decide +kernel
theorem dX8_confirm_52 : decode cX8_confirm 52 = .ok (.iload_n 2, 1) := by decide +kernel
theorem dX8_confirm_53 : decode cX8_confirm 53 = .ok (.iastore, 1) := by decide +kernel
theorem dX8_confirm_54 : decode cX8_confirm 54 = .ok (.aload_n 0, 1) := by decide +kernel
theorem dX8_confirm_55 : decode cX8_confirm 55 = .ok (.getfield 68, 3) := by decide +kernel
theorem dX8_confirm_58 : decode cX8_confirm 58 = .ok (.iload_n 1, 1) := by decide +kernel
theorem dX8_confirm_59 : decode cX8_confirm 59 = .ok (.iaload, 1) := by decide +kernel
theorem dX8_confirm_60 : decode cX8_confirm 60 = .ok (.istore_n 3, 1) := by decide +kernel
theorem dX8_confirm_61 : decode cX8_confirm 61 = .ok (.aload_n 0, 1) := by decide +kernel
theorem dX8_confirm_62 : decode cX8_confirm 62 = .ok (.iload_n 1, 1) := by decide +kernel
theorem dX8_confirm_63 : decode cX8_confirm 63 = .ok (.aload_n 0, 1) := by decide +kernel
theorem dX8_confirm_64 : decode cX8_confirm 64 = .ok (.getfield 74, 3) := by decide +kernel
theorem dX8_confirm_67 : decode cX8_confirm 67 = .ok (.iload_n 1, 1) := by decide +kernel
theorem dX8_confirm_68 : decode cX8_confirm 68 = .ok (.iaload, 1) := by decide +kernel
theorem dX8_confirm_69 : decode cX8_confirm 69 = .ok (.invokevirtual 275, 3) := by decide +kernel
theorem dX8_confirm_72 : decode cX8_confirm 72 = .ok (.iload_n 3, 1) := by decide +kernel
theorem dX8_confirm_73 : decode cX8_confirm 73 = .ok (.ireturn, 1) := by decide +kernel
theorem dX8_asked_0 : decode cX8_asked 0 = .ok (.aload_n 0, 1) := by decide +kernel
theorem dX8_asked_1 : decode cX8_asked 1 = .ok (.iload_n 1, 1) := by decide +kernel
theorem dX8_asked_2 : decode cX8_asked 2 = .ok (.invokevirtual 175, 3) := by decide +kernel
theorem dX8_asked_5 : decode cX8_asked 5 = .ok (.ifCond .eq 7, 3) := by decide +kernel
theorem dX8_asked_8 : decode cX8_asked 8 = .ok (.iconst (-1), 1) := by decide +kernel
theorem dX8_asked_9 : decode cX8_asked 9 = .ok (.goto 9, 3) := by decide +kernel
theorem dX8_asked_12 : decode cX8_asked 12 = .ok (.aload_n 0, 1) := by decide +kernel
theorem dX8_asked_13 : decode cX8_asked 13 = .ok (.getfield 68, 3) := by decide +kernel
theorem dX8_asked_16 : decode cX8_asked 16 = .ok (.iload_n 1, 1) := by decide +kernel
theorem dX8_asked_17 : decode cX8_asked 17 = .ok (.iaload, 1) := by decide +kernel
theorem dX8_asked_18 : decode cX8_asked 18 = .ok (.ireturn, 1) := by decide +kernel
theorem dX8_undo_0 : decode cX8_undo 0 = .ok (.aload_n 0, 1) := by decide +kernel
theorem dX8_undo_1 : decode cX8_undo 1 = .ok (.iload_n 1, 1) := by decide +kernel
theorem dX8_undo_2 : decode cX8_undo 2 = .ok (.invokevirtual 175, 3) := by decide +kernel
theorem dX8_undo_5 : decode cX8_undo 5 = .ok (.ifCond .eq 5, 3) := by decide +kernel
theorem dX8_undo_8 : decode cX8_undo 8 = .ok (.iconst (-1), 1) := by decide +kernel
theorem dX8_undo_9 : decode cX8_undo 9 = .ok (.ireturn, 1) := by decide +kernel
theorem dX8_undo_10 : decode cX8_undo 10 = .ok (.aload_n 0, 1) := by decide +kernel
theorem dX8_undo_11 : decode cX8_undo 11 = .ok (.getfield 83, 3) := by decide +kernel
theorem dX8_undo_14 : decode cX8_undo 14 = .ok (.iload_n 1, 1) := by decide +kernel
theorem dX8_undo_15 : decode cX8_undo 15 = .ok (.iaload, 1) := by decide +kernel
theorem dX8_undo_16 : decode cX8_undo 16 = .ok (.ifCond .ne 6, 3) := by decide +kernel
theorem dX8_undo_19 : decode cX8_undo 19 = .ok (.bipush (-3), 2) := by decide +kernel
theorem dX8_undo_21 : decode cX8_undo 21 = .ok (.ireturn, 1) := by decide +kernel
theorem dX8_undo_22 : decode cX8_undo 22 = .ok (.aload_n 0, 1) := by decide +kernel
theorem dX8_undo_23 : decode cX8_undo 23 = .ok (.getfield 83, 3) := by decide +kernel
theorem dX8_undo_26 : decode cX8_undo 26 = .ok (.iload_n 1, 1) := by decide +kernel
theorem dX8_undo_27 : decode cX8_undo 27 = .ok (.dup2, 1) := by decide +kernel
theorem dX8_undo_28 : decode cX8_undo 28 = .ok (.iaload, 1) := by decide +kernel
theorem dX8_undo_29 : decode cX8_undo 29 = .ok (.iconst 1, 1) := by decide +kernel
theorem dX8_undo_30 : decode cX8_undo 30 = .ok (.isub, 1) := by decide +kernel
theorem dX8_undo_31 : decode cX8_undo 31 = .ok (.iastore, 1) := by decide +kernel
theorem dX8_undo_32 : decode cX8_undo 32 = .ok (.aload_n 0, 1) := by decide +kernel
theorem dX8_undo_33 : decode cX8_undo 33 = .ok (.getfield 86, 3) := by decide +kernel
theorem dX8_undo_36 : decode cX8_undo 36 = .ok (.bipush 12, 2) := by decide +kernel
theorem dX8_undo_38 : decode cX8_undo 38 = .ok (.iload_n 1, 1) := by decide +kernel
theorem dX8_undo_39 : decode cX8_undo 39 = .ok (.imul, 1) := by decide +kernel
theorem dX8_undo_40 : decode cX8_undo 40 = .ok (.aload_n 0, 1) := by decide +kernel
theorem dX8_undo_41 : decode cX8_undo 41 = .ok (.getfield 83, 3) := by decide +kernel
theorem dX8_undo_44 : decode cX8_undo 44 = .ok (.iload_n 1, 1) := by decide +kernel
theorem dX8_undo_45 : decode cX8_undo 45 = .ok (.iaload, 1) := by decide +kernel
theorem dX8_undo_46 : decode cX8_undo 46 = .ok (.iadd, 1) := by decide +kernel
theorem dX8_undo_47 : decode cX8_undo 47 = .ok (.iaload, 1) := by decide +kernel
theorem dX8_undo_48 : decode cX8_undo 48 = .ok (.istore_n 2, 1) := by decide +kernel
theorem dX8_undo_49 : decode cX8_undo 49 = .ok (.aload_n 0, 1) := by decide +kernel
theorem dX8_undo_50 : decode cX8_undo 50 = .ok (.getfield 80, 3) := by decide +kernel
theorem dX8_undo_53 : decode cX8_undo 53 = .ok (.iconst 3, 1) := by decide +kernel
theorem dX8_undo_54 : decode cX8_undo 54 = .ok (.iload_n 1, 1) := by decide +kernel
theorem dX8_undo_55 : decode cX8_undo 55 = .ok (.imul, 1) := by decide +kernel
theorem dX8_undo_56 : decode cX8_undo 56 = .ok (.iload_n 2, 1) := by decide +kernel
theorem dX8_undo_57 : decode cX8_undo 57 = .ok (.iadd, 1) := by decide +kernel
theorem dX8_undo_58 : decode cX8_undo 58 = .ok (.dup2, 1) := by decide +kernel
theorem dX8_undo_59 : decode cX8_undo 59 = .ok (.iaload, 1) := by decide +kernel
theorem dX8_undo_60 : decode cX8_undo 60 = .ok (.iconst 1, 1) := by decide +kernel
theorem dX8_undo_61 : decode cX8_undo 61 = .ok (.isub, 1) := by decide +kernel
theorem dX8_undo_62 : decode cX8_undo 62 = .ok (.iastore, 1) := by decide +kernel
theorem dX8_undo_63 : decode cX8_undo 63 = .ok (.iload_n 2, 1) := by decide +kernel
theorem dX8_undo_64 : decode cX8_undo 64 = .ok (.ireturn, 1) := by decide +kernel
theorem dX8_counted_0 : decode cX8_counted 0 = .ok (.aload_n 0, 1) := by decide +kernel
theorem dX8_counted_1 : decode cX8_counted 1 = .ok (.iload_n 1, 1) := by decide +kernel
theorem dX8_counted_2 : decode cX8_counted 2 = .ok (.invokevirtual 175, 3) := by decide +kernel
theorem dX8_counted_5 : decode cX8_counted 5 = .ok (.ifCond .eq 5, 3) := by decide +kernel
theorem dX8_counted_8 : decode cX8_counted 8 = .ok (.iconst (-1), 1) := by decide +kernel
theorem dX8_counted_9 : decode cX8_counted 9 = .ok (.ireturn, 1) := by decide +kernel
theorem dX8_counted_10 : decode cX8_counted 10 = .ok (.iload_n 2, 1) := by decide +kernel
theorem dX8_counted_11 : decode cX8_counted 11 = .ok (.i2l, 1) := by decide +kernel
theorem dX8_counted_12 : decode cX8_counted 12 = .ok (.lconst 0, 1) := by decide +kernel
theorem dX8_counted_13 : decode cX8_counted 13 = .ok (.ldc2_w 126, 3) := by decide +kernel
theorem dX8_counted_16 : decode cX8_counted 16 = .ok (.invokestatic 128, 3) := by decide +kernel
theorem dX8_counted_19 : decode cX8_counted 19 = .ok (.ifCond .eq 16, 3) := by decide +kernel
theorem dX8_counted_22 : decode cX8_counted 22 = .ok (.aload_n 0, 1) := by decide +kernel
theorem dX8_counted_23 : decode cX8_counted 23 = .ok (.getfield 80, 3) := by decide +kernel
theorem dX8_counted_26 : decode cX8_counted 26 = .ok (.iconst 3, 1) := by decide +kernel
theorem dX8_counted_27 : decode cX8_counted 27 = .ok (.iload_n 1, 1) := by decide +kernel
theorem dX8_counted_28 : decode cX8_counted 28 = .ok (.imul, 1) := by decide +kernel
theorem dX8_counted_29 : decode cX8_counted 29 = .ok (.iload_n 2, 1) := by decide +kernel
theorem dX8_counted_30 : decode cX8_counted 30 = .ok (.iadd, 1) := by decide +kernel
theorem dX8_counted_31 : decode cX8_counted 31 = .ok (.iaload, 1) := by decide +kernel
theorem dX8_counted_32 : decode cX8_counted 32 = .ok (.goto 5, 3) := by decide +kernel
theorem dX8_counted_35 : decode cX8_counted 35 = .ok (.bipush (-2), 2) := by decide +kernel
theorem dX8_counted_37 : decode cX8_counted 37 = .ok (.ireturn, 1) := by decide +kernel
theorem dX8_spanOf_0 : decode cX8_spanOf 0 = .ok (.aload_n 0, 1) := by decide +kernel
theorem dX8_spanOf_1 : decode cX8_spanOf 1 = .ok (.getfield 80, 3) := by decide +kernel
theorem dX8_spanOf_4 : decode cX8_spanOf 4 = .ok (.iconst 3, 1) := by decide +kernel
theorem dX8_spanOf_5 : decode cX8_spanOf 5 = .ok (.iload_n 1, 1) := by decide +kernel
theorem dX8_spanOf_6 : decode cX8_spanOf 6 = .ok (.imul, 1) := by decide +kernel
theorem dX8_spanOf_7 : decode cX8_spanOf 7 = .ok (.iaload, 1) := by decide +kernel
theorem dX8_spanOf_8 : decode cX8_spanOf 8 = .ok (.aload_n 0, 1) := by decide +kernel
theorem dX8_spanOf_9 : decode cX8_spanOf 9 = .ok (.getfield 80, 3) := by decide +kernel
theorem dX8_spanOf_12 : decode cX8_spanOf 12 = .ok (.iconst 3, 1) := by decide +kernel
theorem dX8_spanOf_13 : decode cX8_spanOf 13 = .ok (.iload_n 1, 1) := by decide +kernel
theorem dX8_spanOf_14 : decode cX8_spanOf 14 = .ok (.imul, 1) := by decide +kernel
theorem dX8_spanOf_15 : decode cX8_spanOf 15 = .ok (.iconst 1, 1) := by decide +kernel
theorem dX8_spanOf_16 : decode cX8_spanOf 16 = .ok (.iadd, 1) := by decide +kernel
theorem dX8_spanOf_17 : decode cX8_spanOf 17 = .ok (.iaload, 1) := by decide +kernel
theorem dX8_spanOf_18 : decode cX8_spanOf 18 = .ok (.iadd, 1) := by decide +kernel
theorem dX8_spanOf_19 : decode cX8_spanOf 19 = .ok (.aload_n 0, 1) := by decide +kernel
theorem dX8_spanOf_20 : decode cX8_spanOf 20 = .ok (.getfield 80, 3) := by decide +kernel
theorem dX8_spanOf_23 : decode cX8_spanOf 23 = .ok (.iconst 3, 1) := by decide +kernel
theorem dX8_spanOf_24 : decode cX8_spanOf 24 = .ok (.iload_n 1, 1) := by decide +kernel
theorem dX8_spanOf_25 : decode cX8_spanOf 25 = .ok (.imul, 1) := by decide +kernel
theorem dX8_spanOf_26 : decode cX8_spanOf 26 = .ok (.iconst 2, 1) := by decide +kernel
theorem dX8_spanOf_27 : decode cX8_spanOf 27 = .ok (.iadd, 1) := by decide +kernel
theorem dX8_spanOf_28 : decode cX8_spanOf 28 = .ok (.iaload, 1) := by decide +kernel
theorem dX8_spanOf_29 : decode cX8_spanOf 29 = .ok (.iadd, 1) := by decide +kernel
theorem dX8_spanOf_30 : decode cX8_spanOf 30 = .ok (.istore_n 3, 1) := by decide +kernel
theorem dX8_spanOf_31 : decode cX8_spanOf 31 = .ok (.iconst 0, 1) := by decide +kernel
theorem dX8_spanOf_32 : decode cX8_spanOf 32 = .ok (.istore 4, 2) := by decide +kernel
theorem dX8_spanOf_34 : decode cX8_spanOf 34 = .ok (.iconst 0, 1) := by decide +kernel
theorem dX8_spanOf_35 : decode cX8_spanOf 35 = .ok (.istore 5, 2) := by decide +kernel
theorem dX8_spanOf_37 : decode cX8_spanOf 37 = .ok (.iload 5, 2) := by decide +kernel
theorem dX8_spanOf_39 : decode cX8_spanOf 39 = .ok (.iconst 3, 1) := by decide +kernel
theorem dX8_spanOf_40 : decode cX8_spanOf 40 = .ok (.if_icmp .ge 43, 3) := by decide +kernel
theorem dX8_spanOf_43 : decode cX8_spanOf 43 = .ok (.iload_n 3, 1) := by decide +kernel
theorem dX8_spanOf_44 : decode cX8_spanOf 44 = .ok (.ifCond .le 39, 3) := by decide +kernel
theorem dX8_spanOf_47 : decode cX8_spanOf 47 = .ok (.iload 4, 2) := by decide +kernel
theorem dX8_spanOf_49 : decode cX8_spanOf 49 = .ok (.aload_n 0, 1) := by decide +kernel
theorem dX8_spanOf_50 : decode cX8_spanOf 50 = .ok (.getfield 80, 3) := by decide +kernel
theorem dX8_spanOf_53 : decode cX8_spanOf 53 = .ok (.iconst 3, 1) := by decide +kernel
theorem dX8_spanOf_54 : decode cX8_spanOf 54 = .ok (.iload_n 1, 1) := by decide +kernel
theorem dX8_spanOf_55 : decode cX8_spanOf 55 = .ok (.imul, 1) := by decide +kernel
theorem dX8_spanOf_56 : decode cX8_spanOf 56 = .ok (.iload 5, 2) := by decide +kernel
theorem dX8_spanOf_58 : decode cX8_spanOf 58 = .ok (.iadd, 1) := by decide +kernel
theorem dX8_spanOf_59 : decode cX8_spanOf 59 = .ok (.iaload, 1) := by decide +kernel
theorem dX8_spanOf_60 : decode cX8_spanOf 60 = .ok (.iadd, 1) := by decide +kernel
theorem dX8_spanOf_61 : decode cX8_spanOf 61 = .ok (.istore 4, 2) := by decide +kernel
theorem dX8_spanOf_63 : decode cX8_spanOf 63 = .ok (.bipush 10, 2) := by decide +kernel
theorem dX8_spanOf_65 : decode cX8_spanOf 65 = .ok (.iload 4, 2) := by decide +kernel
theorem dX8_spanOf_67 : decode cX8_spanOf 67 = .ok (.imul, 1) := by decide +kernel
theorem dX8_spanOf_68 : decode cX8_spanOf 68 = .ok (.iload_n 2, 1) := by decide +kernel
theorem dX8_spanOf_69 : decode cX8_spanOf 69 = .ok (.iload_n 3, 1) := by decide +kernel
theorem dX8_spanOf_70 : decode cX8_spanOf 70 = .ok (.imul, 1) := by decide +kernel
theorem dX8_spanOf_71 : decode cX8_spanOf 71 = .ok (.if_icmp .lt 6, 3) := by decide +kernel
theorem dX8_spanOf_74 : decode cX8_spanOf 74 = .ok (.iload 5, 2) := by decide +kernel
theorem dX8_spanOf_76 : decode cX8_spanOf 76 = .ok (.ireturn, 1) := by decide +kernel
theorem dX8_spanOf_77 : decode cX8_spanOf 77 = .ok (.iinc 5 1, 3) := by decide +kernel
theorem dX8_spanOf_80 : decode cX8_spanOf 80 = .ok (.goto (-43), 3) := by decide +kernel
theorem dX8_spanOf_83 : decode cX8_spanOf 83 = .ok (.bipush (-9), 2) := by decide +kernel
theorem dX8_spanOf_85 : decode cX8_spanOf 85 = .ok (.ireturn, 1) := by decide +kernel
theorem dX8_span_0 : decode cX8_span 0 = .ok (.aload_n 0, 1) := by decide +kernel
theorem dX8_span_1 : decode cX8_span 1 = .ok (.iload_n 1, 1) := by decide +kernel
theorem dX8_span_2 : decode cX8_span 2 = .ok (.invokevirtual 175, 3) := by decide +kernel
theorem dX8_span_5 : decode cX8_span 5 = .ok (.ifCond .eq 5, 3) := by decide +kernel
theorem dX8_span_8 : decode cX8_span 8 = .ok (.iconst (-1), 1) := by decide +kernel
theorem dX8_span_9 : decode cX8_span 9 = .ok (.ireturn, 1) := by decide +kernel
theorem dX8_span_10 : decode cX8_span 10 = .ok (.iload_n 2, 1) := by decide +kernel
theorem dX8_span_11 : decode cX8_span 11 = .ok (.i2l, 1) := by decide +kernel
theorem dX8_span_12 : decode cX8_span 12 = .ok (.lconst 1, 1) := by decide +kernel
theorem dX8_span_13 : decode cX8_span 13 = .ok (.ldc2_w 180, 3) := by decide +kernel
theorem dX8_span_16 : decode cX8_span 16 = .ok (.invokestatic 128, 3) := by decide +kernel
theorem dX8_span_19 : decode cX8_span 19 = .ok (.ifCond .eq 12, 3) := by decide +kernel
theorem dX8_span_22 : decode cX8_span 22 = .ok (.aload_n 0, 1) := by decide +kernel
theorem dX8_span_23 : decode cX8_span 23 = .ok (.iload_n 1, 1) := by decide +kernel
theorem dX8_span_24 : decode cX8_span 24 = .ok (.iload_n 2, 1) := by decide +kernel
theorem dX8_span_25 : decode cX8_span 25 = .ok (.invokevirtual 278, 3) := by decide +kernel
theorem dX8_span_28 : decode cX8_span 28 = .ok (.goto 5, 3) := by decide +kernel
theorem dX8_span_31 : decode cX8_span 31 = .ok (.bipush (-2), 2) := by decide +kernel
theorem dX8_span_33 : decode cX8_span 33 = .ok (.ireturn, 1) := by decide +kernel
theorem dX8_worse_0 : decode cX8_worse 0 = .ok (.aload_n 0, 1) := by decide +kernel
theorem dX8_worse_1 : decode cX8_worse 1 = .ok (.iload_n 1, 1) := by decide +kernel
theorem dX8_worse_2 : decode cX8_worse 2 = .ok (.invokevirtual 175, 3) := by decide +kernel
theorem dX8_worse_5 : decode cX8_worse 5 = .ok (.ifCond .ne 13, 3) := by decide +kernel
theorem dX8_worse_8 : decode cX8_worse 8 = .ok (.iload_n 2, 1) := by decide +kernel
theorem dX8_worse_9 : decode cX8_worse 9 = .ok (.i2l, 1) := by decide +kernel
theorem dX8_worse_10 : decode cX8_worse 10 = .ok (.lconst 0, 1) := by decide +kernel
theorem dX8_worse_11 : decode cX8_worse 11 = .ok (.lconst 1, 1) := by decide +kernel
theorem dX8_worse_12 : decode cX8_worse 12 = .ok (.invokestatic 128, 3) := by decide +kernel
theorem dX8_worse_15 : decode cX8_worse 15 = .ok (.ifCond .ne 7, 3) := by decide +kernel
theorem dX8_worse_18 : decode cX8_worse 18 = .ok (.invokestatic 122, 3) := by decide +kernel
theorem dX8_worse_21 : decode cX8_worse 21 = .ok (.lreturn, 1) := by decide +kernel
theorem dX8_worse_22 : decode cX8_worse 22 = .ok (.lconst 0, 1) := by decide +kernel
theorem dX8_worse_23 : decode cX8_worse 23 = .ok (.lstore_n 3, 1) := by decide +kernel
theorem dX8_worse_24 : decode cX8_worse 24 = .ok (.lconst 0, 1) := by decide +kernel
theorem dX8_worse_25 : decode cX8_worse 25 = .ok (.lstore 5, 2) := by decide +kernel
theorem dX8_worse_27 : decode cX8_worse 27 = .ok (.iconst 0, 1) := by decide +kernel
theorem dX8_worse_28 : decode cX8_worse 28 = .ok (.istore 7, 2) := by decide +kernel
theorem dX8_worse_30 : decode cX8_worse 30 = .ok (.iload 7, 2) := by decide +kernel
theorem dX8_worse_32 : decode cX8_worse 32 = .ok (.aload_n 0, 1) := by decide +kernel
theorem dX8_worse_33 : decode cX8_worse 33 = .ok (.getfield 83, 3) := by decide +kernel
theorem dX8_worse_36 : decode cX8_worse 36 = .ok (.iload_n 1, 1) := by decide +kernel
theorem dX8_worse_37 : decode cX8_worse 37 = .ok (.iaload, 1) := by decide +kernel
theorem dX8_worse_38 : decode cX8_worse 38 = .ok (.if_icmp .ge 80, 3) := by decide +kernel
theorem dX8_worse_41 : decode cX8_worse 41 = .ok (.iconst 0, 1) := by decide +kernel
theorem dX8_worse_42 : decode cX8_worse 42 = .ok (.istore 8, 2) := by decide +kernel
theorem dX8_worse_44 : decode cX8_worse 44 = .ok (.iload 8, 2) := by decide +kernel
theorem dX8_worse_46 : decode cX8_worse 46 = .ok (.iload 7, 2) := by decide +kernel
theorem dX8_worse_48 : decode cX8_worse 48 = .ok (.if_icmp .ge 64, 3) := by decide +kernel
theorem dX8_worse_51 : decode cX8_worse 51 = .ok (.aload_n 0, 1) := by decide +kernel
theorem dX8_worse_52 : decode cX8_worse 52 = .ok (.getfield 86, 3) := by decide +kernel
theorem dX8_worse_55 : decode cX8_worse 55 = .ok (.bipush 12, 2) := by decide +kernel
theorem dX8_worse_57 : decode cX8_worse 57 = .ok (.iload_n 1, 1) := by decide +kernel
theorem dX8_worse_58 : decode cX8_worse 58 = .ok (.imul, 1) := by decide +kernel
theorem dX8_worse_59 : decode cX8_worse 59 = .ok (.iload 7, 2) := by decide +kernel
theorem dX8_worse_61 : decode cX8_worse 61 = .ok (.iadd, 1) := by decide +kernel
theorem dX8_worse_62 : decode cX8_worse 62 = .ok (.iaload, 1) := by decide +kernel
theorem dX8_worse_63 : decode cX8_worse 63 = .ok (.aload_n 0, 1) := by decide +kernel
theorem dX8_worse_64 : decode cX8_worse 64 = .ok (.getfield 86, 3) := by decide +kernel
theorem dX8_worse_67 : decode cX8_worse 67 = .ok (.bipush 12, 2) := by decide +kernel
theorem dX8_worse_69 : decode cX8_worse 69 = .ok (.iload_n 1, 1) := by decide +kernel
theorem dX8_worse_70 : decode cX8_worse 70 = .ok (.imul, 1) := by decide +kernel
theorem dX8_worse_71 : decode cX8_worse 71 = .ok (.iload 8, 2) := by decide +kernel
theorem dX8_worse_73 : decode cX8_worse 73 = .ok (.iadd, 1) := by decide +kernel
theorem dX8_worse_74 : decode cX8_worse 74 = .ok (.iaload, 1) := by decide +kernel
theorem dX8_worse_75 : decode cX8_worse 75 = .ok (.isub, 1) := by decide +kernel
theorem dX8_worse_76 : decode cX8_worse 76 = .ok (.istore 9, 2) := by decide +kernel
theorem dX8_worse_78 : decode cX8_worse 78 = .ok (.lload 5, 2) := by decide +kernel
theorem dX8_worse_80 : decode cX8_worse 80 = .ok (.iload 9, 2) := by decide +kernel
theorem dX8_worse_82 : decode cX8_worse 82 = .ok (.ifCond .eq 7, 3) := by decide +kernel
theorem dX8_worse_85 : decode cX8_worse 85 = .ok (.lconst 1, 1) := by decide +kernel
theorem dX8_worse_86 : decode cX8_worse 86 = .ok (.goto 4, 3) := by decide +kernel
theorem dX8_worse_89 : decode cX8_worse 89 = .ok (.lconst 0, 1) := by decide +kernel
theorem dX8_worse_90 : decode cX8_worse 90 = .ok (.ladd, 1) := by decide +kernel
theorem dX8_worse_91 : decode cX8_worse 91 = .ok (.lstore 5, 2) := by decide +kernel
theorem dX8_worse_93 : decode cX8_worse 93 = .ok (.lload_n 3, 1) := by decide +kernel
theorem dX8_worse_94 : decode cX8_worse 94 = .ok (.iload 9, 2) := by decide +kernel
theorem dX8_worse_96 : decode cX8_worse 96 = .ok (.ifCond .le 7, 3) := by decide +kernel
theorem dX8_worse_99 : decode cX8_worse 99 = .ok (.lconst 1, 1) := by decide +kernel
theorem dX8_worse_100 : decode cX8_worse 100 = .ok (.goto 4, 3) := by decide +kernel
theorem dX8_worse_103 : decode cX8_worse 103 = .ok (.lconst 0, 1) := by decide +kernel
theorem dX8_worse_104 : decode cX8_worse 104 = .ok (.ladd, 1) := by decide +kernel
theorem dX8_worse_105 : decode cX8_worse 105 = .ok (.lstore_n 3, 1) := by decide +kernel
theorem dX8_worse_106 : decode cX8_worse 106 = .ok (.iinc 8 1, 3) := by decide +kernel
theorem dX8_worse_109 : decode cX8_worse 109 = .ok (.goto (-65), 3) := by decide +kernel
theorem dX8_worse_112 : decode cX8_worse 112 = .ok (.iinc 7 1, 3) := by decide +kernel
theorem dX8_worse_115 : decode cX8_worse 115 = .ok (.goto (-85), 3) := by decide +kernel
theorem dX8_worse_118 : decode cX8_worse 118 = .ok (.lload 5, 2) := by decide +kernel
theorem dX8_worse_120 : decode cX8_worse 120 = .ok (.lconst 0, 1) := by decide +kernel
theorem dX8_worse_121 : decode cX8_worse 121 = .ok (.lcmp, 1) := by decide +kernel
theorem dX8_worse_122 : decode cX8_worse 122 = .ok (.ifCond .ne 9, 3) := by decide +kernel
theorem dX8_worse_125 : decode cX8_worse 125 = .ok (.invokestatic 122, 3) := by decide +kernel
theorem dX8_worse_128 : decode cX8_worse 128 = .ok (.goto 10, 3) := by decide +kernel
theorem dX8_worse_131 : decode cX8_worse 131 = .ok (.lload_n 3, 1) := by decide +kernel
theorem dX8_worse_132 : decode cX8_worse 132 = .ok (.lload 5, 2) := by decide +kernel
theorem dX8_worse_134 : decode cX8_worse 134 = .ok (.iload_n 2, 1) := by decide +kernel
theorem dX8_worse_135 : decode cX8_worse 135 = .ok (.invokestatic 281, 3) := by decide +kernel
theorem dX8_worse_138 : decode cX8_worse 138 = .ok (.lreturn, 1) := by decide +kernel
theorem dX8_trial_0 : decode cX8_trial 0 = .ok (.aload_n 0, 1) := by decide +kernel
theorem dX8_trial_1 : decode cX8_trial 1 = .ok (.iload_n 1, 1) := by decide +kernel
theorem dX8_trial_2 : decode cX8_trial 2 = .ok (.invokevirtual 175, 3) := by decide +kernel
theorem dX8_trial_5 : decode cX8_trial 5 = .ok (.ifCond .eq 5, 3) := by decide +kernel
theorem dX8_trial_8 : decode cX8_trial 8 = .ok (.iconst (-1), 1) := by decide +kernel
theorem dX8_trial_9 : decode cX8_trial 9 = .ok (.ireturn, 1) := by decide +kernel
theorem dX8_trial_10 : decode cX8_trial 10 = .ok (.iload_n 2, 1) := by decide +kernel
theorem dX8_trial_11 : decode cX8_trial 11 = .ok (.i2l, 1) := by decide +kernel
theorem dX8_trial_12 : decode cX8_trial 12 = .ok (.lconst 0, 1) := by decide +kernel
theorem dX8_trial_13 : decode cX8_trial 13 = .ok (.ldc2_w 170, 3) := by decide +kernel
theorem dX8_trial_16 : decode cX8_trial 16 = .ok (.invokestatic 128, 3) := by decide +kernel
theorem dX8_trial_19 : decode cX8_trial 19 = .ok (.ifCond .eq 15, 3) := by decide +kernel
theorem dX8_trial_22 : decode cX8_trial 22 = .ok (.iload_n 3, 1) := by decide +kernel
theorem dX8_trial_23 : decode cX8_trial 23 = .ok (.i2l, 1) := by decide +kernel
theorem dX8_trial_24 : decode cX8_trial 24 = .ok (.lconst 0, 1) := by decide +kernel
theorem dX8_trial_25 : decode cX8_trial 25 = .ok (.ldc2_w 170, 3) := by decide +kernel
theorem dX8_trial_28 : decode cX8_trial 28 = .ok (.invokestatic 128, 3) := by decide +kernel
theorem dX8_trial_31 : decode cX8_trial 31 = .ok (.ifCond .ne 6, 3) := by decide +kernel
theorem dX8_trial_34 : decode cX8_trial 34 = .ok (.bipush (-2), 2) := by decide +kernel
theorem dX8_trial_36 : decode cX8_trial 36 = .ok (.ireturn, 1) := by decide +kernel
theorem dX8_trial_37 : decode cX8_trial 37 = .ok (.aload_n 0, 1) := by decide +kernel
theorem dX8_trial_38 : decode cX8_trial 38 = .ok (.getfield 89, 3) := by decide +kernel
theorem dX8_trial_41 : decode cX8_trial 41 = .ok (.iload_n 1, 1) := by decide +kernel
theorem dX8_trial_42 : decode cX8_trial 42 = .ok (.iaload, 1) := by decide +kernel
theorem dX8_trial_43 : decode cX8_trial 43 = .ok (.bipush 10, 2) := by decide +kernel
theorem dX8_trial_45 : decode cX8_trial 45 = .ok (.if_icmp .ne 6, 3) := by decide +kernel
theorem dX8_trial_48 : decode cX8_trial 48 = .ok (.bipush (-4), 2) := by decide +kernel
theorem dX8_trial_50 : decode cX8_trial 50 = .ok (.ireturn, 1) := by decide +kernel
theorem dX8_trial_51 : decode cX8_trial 51 = .ok (.aload_n 0, 1) := by decide +kernel
theorem dX8_trial_52 : decode cX8_trial 52 = .ok (.getfield 92, 3) := by decide +kernel
theorem dX8_trial_55 : decode cX8_trial 55 = .ok (.bipush 10, 2) := by decide +kernel
theorem dX8_trial_57 : decode cX8_trial 57 = .ok (.iload_n 1, 1) := by decide +kernel
theorem dX8_trial_58 : decode cX8_trial 58 = .ok (.imul, 1) := by decide +kernel
theorem dX8_trial_59 : decode cX8_trial 59 = .ok (.aload_n 0, 1) := by decide +kernel
theorem dX8_trial_60 : decode cX8_trial 60 = .ok (.getfield 89, 3) := by decide +kernel
theorem dX8_trial_63 : decode cX8_trial 63 = .ok (.iload_n 1, 1) := by decide +kernel
theorem dX8_trial_64 : decode cX8_trial 64 = .ok (.iaload, 1) := by decide +kernel
theorem dX8_trial_65 : decode cX8_trial 65 = .ok (.iadd, 1) := by decide +kernel
theorem dX8_trial_66 : decode cX8_trial 66 = .ok (.iload_n 2, 1) := by decide +kernel
theorem dX8_trial_67 : decode cX8_trial 67 = .ok (.iload_n 3, 1) := by decide +kernel
theorem dX8_trial_68 : decode cX8_trial 68 = .ok (.isub, 1) := by decide +kernel
theorem dX8_trial_69 : decode cX8_trial 69 = .ok (.iastore, 1) := by decide +kernel
theorem dX8_trial_70 : decode cX8_trial 70 = .ok (.aload_n 0, 1) := by decide +kernel
theorem dX8_trial_71 : decode cX8_trial 71 = .ok (.getfield 89, 3) := by decide +kernel
theorem dX8_trial_74 : decode cX8_trial 74 = .ok (.iload_n 1, 1) := by decide +kernel
theorem dX8_trial_75 : decode cX8_trial 75 = .ok (.dup2, 1) := by decide +kernel
theorem dX8_trial_76 : decode cX8_trial 76 = .ok (.iaload, 1) := by decide +kernel
theorem dX8_trial_77 : decode cX8_trial 77 = .ok (.iconst 1, 1) := by decide +kernel
theorem dX8_trial_78 : decode cX8_trial 78 = .ok (.iadd, 1) := by decide +kernel
theorem dX8_trial_79 : decode cX8_trial 79 = .ok (.iastore, 1) := by decide +kernel
theorem dX8_trial_80 : decode cX8_trial 80 = .ok (.aload_n 0, 1) := by decide +kernel
theorem dX8_trial_81 : decode cX8_trial 81 = .ok (.getfield 89, 3) := by decide +kernel
theorem dX8_trial_84 : decode cX8_trial 84 = .ok (.iload_n 1, 1) := by decide +kernel
theorem dX8_trial_85 : decode cX8_trial 85 = .ok (.iaload, 1) := by decide +kernel
theorem dX8_trial_86 : decode cX8_trial 86 = .ok (.ireturn, 1) := by decide +kernel
theorem dX8_sumBy_0 : decode cX8_sumBy 0 = .ok (.iconst 0, 1) := by decide +kernel
theorem dX8_sumBy_1 : decode cX8_sumBy 1 = .ok (.istore_n 3, 1) := by decide +kernel
theorem dX8_sumBy_2 : decode cX8_sumBy 2 = .ok (.iconst 0, 1) := by decide +kernel
theorem dX8_sumBy_3 : decode cX8_sumBy 3 = .ok (.istore 4, 2) := by decide +kernel
theorem dX8_sumBy_5 : decode cX8_sumBy 5 = .ok (.iload 4, 2) := by decide +kernel
theorem dX8_sumBy_7 : decode cX8_sumBy 7 = .ok (.aload_n 0, 1) := by decide +kernel
theorem dX8_sumBy_8 : decode cX8_sumBy 8 = .ok (.getfield 89, 3) := by decide +kernel
theorem dX8_sumBy_11 : decode cX8_sumBy 11 = .ok (.iload_n 1, 1) := by decide +kernel
theorem dX8_sumBy_12 : decode cX8_sumBy 12 = .ok (.iaload, 1) := by decide +kernel
theorem dX8_sumBy_13 : decode cX8_sumBy 13 = .ok (.if_icmp .ge 49, 3) := by decide +kernel
theorem dX8_sumBy_16 : decode cX8_sumBy 16 = .ok (.iload_n 3, 1) := by decide +kernel
theorem dX8_sumBy_17 : decode cX8_sumBy 17 = .ok (.iload_n 2, 1) := by decide +kernel
theorem dX8_sumBy_18 : decode cX8_sumBy 18 = .ok (.iload 4, 2) := by decide +kernel
theorem dX8_sumBy_20 : decode cX8_sumBy 20 = .ok (.invokestatic 185, 3) := by decide +kernel
theorem dX8_sumBy_23 : decode cX8_sumBy 23 = .ok (.ifCond .eq 19, 3) := by decide +kernel
theorem dX8_sumBy_26 : decode cX8_sumBy 26 = .ok (.aload_n 0, 1) := by decide +kernel
theorem dX8_sumBy_27 : decode cX8_sumBy 27 = .ok (.getfield 92, 3) := by decide +kernel
theorem dX8_sumBy_30 : decode cX8_sumBy 30 = .ok (.bipush 10, 2) := by decide +kernel
theorem dX8_sumBy_32 : decode cX8_sumBy 32 = .ok (.iload_n 1, 1) := by decide +kernel
theorem dX8_sumBy_33 : decode cX8_sumBy 33 = .ok (.imul, 1) := by decide +kernel
theorem dX8_sumBy_34 : decode cX8_sumBy 34 = .ok (.iload 4, 2) := by decide +kernel
theorem dX8_sumBy_36 : decode cX8_sumBy 36 = .ok (.iadd, 1) := by decide +kernel
theorem dX8_sumBy_37 : decode cX8_sumBy 37 = .ok (.iaload, 1) := by decide +kernel
theorem dX8_sumBy_38 : decode cX8_sumBy 38 = .ok (.ineg, 1) := by decide +kernel
theorem dX8_sumBy_39 : decode cX8_sumBy 39 = .ok (.goto 15, 3) := by decide +kernel
theorem dX8_sumBy_42 : decode cX8_sumBy 42 = .ok (.aload_n 0, 1) := by decide +kernel
theorem dX8_sumBy_43 : decode cX8_sumBy 43 = .ok (.getfield 92, 3) := by decide +kernel
theorem dX8_sumBy_46 : decode cX8_sumBy 46 = .ok (.bipush 10, 2) := by decide +kernel
theorem dX8_sumBy_48 : decode cX8_sumBy 48 = .ok (.iload_n 1, 1) := by decide +kernel
theorem dX8_sumBy_49 : decode cX8_sumBy 49 = .ok (.imul, 1) := by decide +kernel
theorem dX8_sumBy_50 : decode cX8_sumBy 50 = .ok (.iload 4, 2) := by decide +kernel
theorem dX8_sumBy_52 : decode cX8_sumBy 52 = .ok (.iadd, 1) := by decide +kernel
theorem dX8_sumBy_53 : decode cX8_sumBy 53 = .ok (.iaload, 1) := by decide +kernel
theorem dX8_sumBy_54 : decode cX8_sumBy 54 = .ok (.iadd, 1) := by decide +kernel
theorem dX8_sumBy_55 : decode cX8_sumBy 55 = .ok (.istore_n 3, 1) := by decide +kernel
theorem dX8_sumBy_56 : decode cX8_sumBy 56 = .ok (.iinc 4 1, 3) := by decide +kernel
theorem dX8_sumBy_59 : decode cX8_sumBy 59 = .ok (.goto (-54), 3) := by decide +kernel
theorem dX8_sumBy_62 : decode cX8_sumBy 62 = .ok (.iload_n 3, 1) := by decide +kernel
theorem dX8_sumBy_63 : decode cX8_sumBy 63 = .ok (.ireturn, 1) := by decide +kernel
theorem dX8_odds_0 : decode cX8_odds 0 = .ok (.aload_n 0, 1) := by decide +kernel
theorem dX8_odds_1 : decode cX8_odds 1 = .ok (.iload_n 1, 1) := by decide +kernel
theorem dX8_odds_2 : decode cX8_odds 2 = .ok (.invokevirtual 175, 3) := by decide +kernel
theorem dX8_odds_5 : decode cX8_odds 5 = .ok (.ifCond .ne 22, 3) := by decide +kernel
theorem dX8_odds_8 : decode cX8_odds 8 = .ok (.iload_n 2, 1) := by decide +kernel
theorem dX8_odds_9 : decode cX8_odds 9 = .ok (.i2l, 1) := by decide +kernel
theorem dX8_odds_10 : decode cX8_odds 10 = .ok (.lconst 0, 1) := by decide +kernel
theorem dX8_odds_11 : decode cX8_odds 11 = .ok (.lconst 1, 1) := by decide +kernel
theorem dX8_odds_12 : decode cX8_odds 12 = .ok (.invokestatic 128, 3) := by decide +kernel
theorem dX8_odds_15 : decode cX8_odds 15 = .ok (.ifCond .eq 12, 3) := by decide +kernel
theorem dX8_odds_18 : decode cX8_odds 18 = .ok (.aload_n 0, 1) := by decide +kernel
theorem dX8_odds_19 : decode cX8_odds 19 = .ok (.getfield 89, 3) := by decide +kernel
theorem dX8_odds_22 : decode cX8_odds 22 = .ok (.iload_n 1, 1) := by decide +kernel
theorem dX8_odds_23 : decode cX8_odds 23 = .ok (.iaload, 1) := by decide +kernel
theorem dX8_odds_24 : decode cX8_odds 24 = .ok (.ifCond .ne 7, 3) := by decide +kernel
theorem dX8_odds_27 : decode cX8_odds 27 = .ok (.invokestatic 122, 3) := by decide +kernel
theorem dX8_odds_30 : decode cX8_odds 30 = .ok (.lreturn, 1) := by decide +kernel
theorem dX8_odds_31 : decode cX8_odds 31 = .ok (.iconst 1, 1) := by decide +kernel
theorem dX8_odds_32 : decode cX8_odds 32 = .ok (.aload_n 0, 1) := by decide +kernel
theorem dX8_odds_33 : decode cX8_odds 33 = .ok (.getfield 89, 3) := by decide +kernel
theorem dX8_odds_36 : decode cX8_odds 36 = .ok (.iload_n 1, 1) := by decide +kernel
theorem dX8_odds_37 : decode cX8_odds 37 = .ok (.iaload, 1) := by decide +kernel
theorem dX8_odds_38 : decode cX8_odds 38 = .ok (.ishl, 1) := by decide +kernel
theorem dX8_odds_39 : decode cX8_odds 39 = .ok (.istore_n 3, 1) := by decide +kernel
theorem dX8_odds_40 : decode cX8_odds 40 = .ok (.iconst 0, 1) := by decide +kernel
theorem dX8_odds_41 : decode cX8_odds 41 = .ok (.istore 4, 2) := by decide +kernel
theorem dX8_odds_43 : decode cX8_odds 43 = .ok (.iconst 0, 1) := by decide +kernel
theorem dX8_odds_44 : decode cX8_odds 44 = .ok (.istore 5, 2) := by decide +kernel
theorem dX8_odds_46 : decode cX8_odds 46 = .ok (.iload 5, 2) := by decide +kernel
theorem dX8_odds_48 : decode cX8_odds 48 = .ok (.iload_n 3, 1) := by decide +kernel
theorem dX8_odds_49 : decode cX8_odds 49 = .ok (.if_icmp .ge 35, 3) := by decide +kernel
theorem dX8_odds_52 : decode cX8_odds 52 = .ok (.iload 4, 2) := by decide +kernel
theorem dX8_odds_54 : decode cX8_odds 54 = .ok (.aload_n 0, 1) := by decide +kernel
theorem dX8_odds_55 : decode cX8_odds 55 = .ok (.iload_n 1, 1) := by decide +kernel
theorem dX8_odds_56 : decode cX8_odds 56 = .ok (.iload 5, 2) := by decide +kernel
theorem dX8_odds_58 : decode cX8_odds 58 = .ok (.invokevirtual 285, 3) := by decide +kernel
theorem dX8_odds_61 : decode cX8_odds 61 = .ok (.aload_n 0, 1) := by decide +kernel
theorem dX8_odds_62 : decode cX8_odds 62 = .ok (.iload_n 1, 1) := by decide +kernel
theorem dX8_odds_63 : decode cX8_odds 63 = .ok (.iconst 0, 1) := by decide +kernel
theorem dX8_odds_64 : decode cX8_odds 64 = .ok (.invokevirtual 285, 3) := by decide +kernel
theorem dX8_odds_67 : decode cX8_odds 67 = .ok (.if_icmp .lt 7, 3) := by decide +kernel
theorem dX8_odds_70 : decode cX8_odds 70 = .ok (.iconst 1, 1) := by decide +kernel
theorem dX8_odds_71 : decode cX8_odds 71 = .ok (.goto 4, 3) := by decide +kernel
theorem dX8_odds_74 : decode cX8_odds 74 = .ok (.iconst 0, 1) := by decide +kernel
theorem dX8_odds_75 : decode cX8_odds 75 = .ok (.iadd, 1) := by decide +kernel
theorem dX8_odds_76 : decode cX8_odds 76 = .ok (.istore 4, 2) := by decide +kernel
theorem dX8_odds_78 : decode cX8_odds 78 = .ok (.iinc 5 1, 3) := by decide +kernel
theorem dX8_odds_81 : decode cX8_odds 81 = .ok (.goto (-35), 3) := by decide +kernel
theorem dX8_odds_84 : decode cX8_odds 84 = .ok (.iload 4, 2) := by decide +kernel
theorem dX8_odds_86 : decode cX8_odds 86 = .ok (.i2l, 1) := by decide +kernel
theorem dX8_odds_87 : decode cX8_odds 87 = .ok (.iload_n 3, 1) := by decide +kernel
theorem dX8_odds_88 : decode cX8_odds 88 = .ok (.i2l, 1) := by decide +kernel
theorem dX8_odds_89 : decode cX8_odds 89 = .ok (.iload_n 2, 1) := by decide +kernel
theorem dX8_odds_90 : decode cX8_odds 90 = .ok (.invokestatic 281, 3) := by decide +kernel
theorem dX8_odds_93 : decode cX8_odds 93 = .ok (.lreturn, 1) := by decide +kernel
theorem dX8_leave_0 : decode cX8_leave 0 = .ok (.aload_n 0, 1) := by decide +kernel
theorem dX8_leave_1 : decode cX8_leave 1 = .ok (.iload_n 1, 1) := by decide +kernel
theorem dX8_leave_2 : decode cX8_leave 2 = .ok (.invokevirtual 175, 3) := by decide +kernel
theorem dX8_leave_5 : decode cX8_leave 5 = .ok (.ifCond .ne 11, 3) := by decide +kernel
theorem dX8_leave_8 : decode cX8_leave 8 = .ok (.aload_n 0, 1) := by decide +kernel
theorem dX8_leave_9 : decode cX8_leave 9 = .ok (.iload_n 2, 1) := by decide +kernel
theorem dX8_leave_10 : decode cX8_leave 10 = .ok (.invokevirtual 175, 3) := by decide +kernel
theorem dX8_leave_13 : decode cX8_leave 13 = .ok (.ifCond .eq 5, 3) := by decide +kernel
theorem dX8_leave_16 : decode cX8_leave 16 = .ok (.iconst (-1), 1) := by decide +kernel
theorem dX8_leave_17 : decode cX8_leave 17 = .ok (.ireturn, 1) := by decide +kernel
theorem dX8_leave_18 : decode cX8_leave 18 = .ok (.iload_n 1, 1) := by decide +kernel
theorem dX8_leave_19 : decode cX8_leave 19 = .ok (.iload_n 2, 1) := by decide +kernel
theorem dX8_leave_20 : decode cX8_leave 20 = .ok (.if_icmp .eq 28, 3) := by decide +kernel
theorem dX8_leave_23 : decode cX8_leave 23 = .ok (.iload_n 3, 1) := by decide +kernel
theorem dX8_leave_24 : decode cX8_leave 24 = .ok (.i2l, 1) := by decide +kernel
theorem dX8_leave_25 : decode cX8_leave 25 = .ok (.lconst 0, 1) := by decide +kernel
theorem dX8_leave_26 : decode cX8_leave 26 = .ok (.lconst 1, 1) := by decide +kernel
theorem dX8_leave_27 : decode cX8_leave 27 = .ok (.invokestatic 128, 3) := by decide +kernel
theorem dX8_leave_30 : decode cX8_leave 30 = .ok (.ifCond .eq 18, 3) := by decide +kernel
theorem dX8_leave_33 : decode cX8_leave 33 = .ok (.iload 4, 2) := by decide +kernel
theorem dX8_leave_35 : decode cX8_leave 35 = .ok (.i2l, 1) := by decide +kernel
theorem dX8_leave_36 : decode cX8_leave 36 = .ok (.ldc2_w 221, 3) := by decide +kernel
theorem dX8_leave_39 : decode cX8_leave 39 = .ok (.ldc2_w 233, 3) := by decide +kernel
theorem dX8_leave_42 : decode cX8_leave 42 = .ok (.invokestatic 128, 3) := by decide +kernel
theorem dX8_leave_45 : decode cX8_leave 45 = .ok (.ifCond .ne 6, 3) := by decide +kernel
theorem dX8_leave_48 : decode cX8_leave 48 = .ok (.bipush (-2), 2) := by decide +kernel
theorem dX8_leave_50 : decode cX8_leave 50 = .ok (.ireturn, 1) := by decide +kernel
theorem dX8_leave_51 : decode cX8_leave 51 = .ok (.bipush 8, 2) := by decide +kernel
theorem dX8_leave_53 : decode cX8_leave 53 = .ok (.iload_n 1, 1) := by decide +kernel
theorem dX8_leave_54 : decode cX8_leave 54 = .ok (.imul, 1) := by decide +kernel
theorem dX8_leave_55 : decode cX8_leave 55 = .ok (.iconst 2, 1) := by decide +kernel
theorem dX8_leave_56 : decode cX8_leave 56 = .ok (.iload_n 2, 1) := by decide +kernel
theorem dX8_leave_57 : decode cX8_leave 57 = .ok (.imul, 1) := by decide +kernel
theorem dX8_leave_58 : decode cX8_leave 58 = .ok (.iadd, 1) := by decide +kernel
theorem dX8_leave_59 : decode cX8_leave 59 = .ok (.iload_n 3, 1) := by decide +kernel
theorem dX8_leave_60 : decode cX8_leave 60 = .ok (.iadd, 1) := by decide +kernel
theorem dX8_leave_61 : decode cX8_leave 61 = .ok (.istore 5, 2) := by decide +kernel
theorem dX8_leave_63 : decode cX8_leave 63 = .ok (.aload_n 0, 1) := by decide +kernel
theorem dX8_leave_64 : decode cX8_leave 64 = .ok (.getfield 95, 3) := by decide +kernel
theorem dX8_leave_67 : decode cX8_leave 67 = .ok (.iload 5, 2) := by decide +kernel
theorem dX8_leave_69 : decode cX8_leave 69 = .ok (.iaload, 1) := by decide +kernel
theorem dX8_leave_70 : decode cX8_leave 70 = .ok (.istore 6, 2) := by decide +kernel
theorem dX8_leave_72 : decode cX8_leave 72 = .ok (.aload_n 0, 1) := by decide +kernel
theorem dX8_leave_73 : decode cX8_leave 73 = .ok (.getfield 95, 3) := by decide +kernel
theorem dX8_leave_76 : decode cX8_leave 76 = .ok (.iload 5, 2) := by decide +kernel
theorem dX8_leave_78 : decode cX8_leave 78 = .ok (.iload 4, 2) := by decide +kernel
theorem dX8_leave_80 : decode cX8_leave 80 = .ok (.ifCond .ge 8, 3) := by decide +kernel
theorem dX8_leave_83 : decode cX8_leave 83 = .ok (.bipush (-9), 2) := by decide +kernel
theorem dX8_leave_85 : decode cX8_leave 85 = .ok (.goto 5, 3) := by decide +kernel
theorem dX8_leave_88 : decode cX8_leave 88 = .ok (.iload 4, 2) := by decide +kernel
theorem dX8_leave_90 : decode cX8_leave 90 = .ok (.iastore, 1) := by decide +kernel
theorem dX8_leave_91 : decode cX8_leave 91 = .ok (.iload 6, 2) := by decide +kernel
theorem dX8_leave_93 : decode cX8_leave 93 = .ok (.ireturn, 1) := by decide +kernel
theorem dX8_maySee_0 : decode cX8_maySee 0 = .ok (.iload_n 2, 1) := by decide +kernel
theorem dX8_maySee_1 : decode cX8_maySee 1 = .ok (.iload_n 1, 1) := by decide +kernel
theorem dX8_maySee_2 : decode cX8_maySee 2 = .ok (.if_icmp .eq 23, 3) := by decide +kernel
theorem dX8_maySee_5 : decode cX8_maySee 5 = .ok (.iload 4, 2) := by decide +kernel
theorem dX8_maySee_7 : decode cX8_maySee 7 = .ok (.aload_n 0, 1) := by decide +kernel
theorem dX8_maySee_8 : decode cX8_maySee 8 = .ok (.getfield 95, 3) := by decide +kernel
theorem dX8_maySee_11 : decode cX8_maySee 11 = .ok (.bipush 8, 2) := by decide +kernel
theorem dX8_maySee_13 : decode cX8_maySee 13 = .ok (.iload_n 2, 1) := by decide +kernel
theorem dX8_maySee_14 : decode cX8_maySee 14 = .ok (.imul, 1) := by decide +kernel
theorem dX8_maySee_15 : decode cX8_maySee 15 = .ok (.iconst 2, 1) := by decide +kernel
theorem dX8_maySee_16 : decode cX8_maySee 16 = .ok (.iload_n 1, 1) := by decide +kernel
theorem dX8_maySee_17 : decode cX8_maySee 17 = .ok (.imul, 1) := by decide +kernel
theorem dX8_maySee_18 : decode cX8_maySee 18 = .ok (.iadd, 1) := by decide +kernel
theorem dX8_maySee_19 : decode cX8_maySee 19 = .ok (.iload_n 3, 1) := by decide +kernel
theorem dX8_maySee_20 : decode cX8_maySee 20 = .ok (.iadd, 1) := by decide +kernel
theorem dX8_maySee_21 : decode cX8_maySee 21 = .ok (.iaload, 1) := by decide +kernel
theorem dX8_maySee_22 : decode cX8_maySee 22 = .ok (.if_icmp .gt 7, 3) := by decide +kernel
theorem dX8_maySee_25 : decode cX8_maySee 25 = .ok (.iconst 1, 1) := by decide +kernel
theorem dX8_maySee_26 : decode cX8_maySee 26 = .ok (.goto 4, 3) := by decide +kernel
theorem dX8_maySee_29 : decode cX8_maySee 29 = .ok (.iconst 0, 1) := by decide +kernel
theorem dX8_maySee_30 : decode cX8_maySee 30 = .ok (.ireturn, 1) := by decide +kernel
theorem dX8_see_0 : decode cX8_see 0 = .ok (.aload_n 0, 1) := by decide +kernel
theorem dX8_see_1 : decode cX8_see 1 = .ok (.iload_n 1, 1) := by decide +kernel
theorem dX8_see_2 : decode cX8_see 2 = .ok (.invokevirtual 175, 3) := by decide +kernel
theorem dX8_see_5 : decode cX8_see 5 = .ok (.ifCond .ne 18, 3) := by decide +kernel
theorem dX8_see_8 : decode cX8_see 8 = .ok (.aload_n 0, 1) := by decide +kernel
theorem dX8_see_9 : decode cX8_see 9 = .ok (.iload_n 2, 1) := by decide +kernel
theorem dX8_see_10 : decode cX8_see 10 = .ok (.invokevirtual 175, 3) := by decide +kernel
theorem dX8_see_13 : decode cX8_see 13 = .ok (.ifCond .ne 10, 3) := by decide +kernel
theorem dX8_see_16 : decode cX8_see 16 = .ok (.iload_n 3, 1) := by decide +kernel
theorem dX8_see_17 : decode cX8_see 17 = .ok (.invokestatic 243, 3) := by decide +kernel
theorem dX8_see_20 : decode cX8_see 20 = .ok (.ifCond .ne 5, 3) := by decide +kernel
theorem dX8_see_23 : decode cX8_see 23 = .ok (.iconst (-1), 1) := by decide +kernel
theorem dX8_see_24 : decode cX8_see 24 = .ok (.ireturn, 1) := by decide +kernel
theorem dX8_see_25 : decode cX8_see 25 = .ok (.iload 4, 2) := by decide +kernel
theorem dX8_see_27 : decode cX8_see 27 = .ok (.i2l, 1) := by decide +kernel
theorem dX8_see_28 : decode cX8_see 28 = .ok (.lconst 0, 1) := by decide +kernel
theorem dX8_see_29 : decode cX8_see 29 = .ok (.ldc2_w 233, 3) := by decide +kernel
theorem dX8_see_32 : decode cX8_see 32 = .ok (.invokestatic 128, 3) := by decide +kernel
theorem dX8_see_35 : decode cX8_see 35 = .ok (.ifCond .ne 6, 3) := by decide +kernel
theorem dX8_see_38 : decode cX8_see 38 = .ok (.bipush (-2), 2) := by decide +kernel
theorem dX8_see_40 : decode cX8_see 40 = .ok (.ireturn, 1) := by decide +kernel
theorem dX8_see_41 : decode cX8_see 41 = .ok (.aload_n 0, 1) := by decide +kernel
theorem dX8_see_42 : decode cX8_see 42 = .ok (.iload_n 1, 1) := by decide +kernel
theorem dX8_see_43 : decode cX8_see 43 = .ok (.iload_n 2, 1) := by decide +kernel
theorem dX8_see_44 : decode cX8_see 44 = .ok (.iconst 0, 1) := by decide +kernel
theorem dX8_see_45 : decode cX8_see 45 = .ok (.iload 4, 2) := by decide +kernel
theorem dX8_see_47 : decode cX8_see 47 = .ok (.invokevirtual 288, 3) := by decide +kernel
theorem dX8_see_50 : decode cX8_see 50 = .ok (.ifCond .eq 12, 3) := by decide +kernel
theorem dX8_see_53 : decode cX8_see 53 = .ok (.aload_n 0, 1) := by decide +kernel
theorem dX8_see_54 : decode cX8_see 54 = .ok (.iload_n 2, 1) := by decide +kernel
theorem dX8_see_55 : decode cX8_see 55 = .ok (.iload_n 3, 1) := by decide +kernel
theorem dX8_see_56 : decode cX8_see 56 = .ok (.invokevirtual 246, 3) := by decide +kernel
theorem dX8_see_59 : decode cX8_see 59 = .ok (.goto 5, 3) := by decide +kernel
theorem dX8_see_62 : decode cX8_see 62 = .ok (.bipush (-3), 2) := by decide +kernel
theorem dX8_see_64 : decode cX8_see 64 = .ok (.ireturn, 1) := by decide +kernel
theorem dX8_told_0 : decode cX8_told 0 = .ok (.aload_n 0, 1) := by decide +kernel
theorem dX8_told_1 : decode cX8_told 1 = .ok (.iload_n 1, 1) := by decide +kernel
theorem dX8_told_2 : decode cX8_told 2 = .ok (.invokevirtual 175, 3) := by decide +kernel
theorem dX8_told_5 : decode cX8_told 5 = .ok (.ifCond .ne 11, 3) := by decide +kernel
theorem dX8_told_8 : decode cX8_told 8 = .ok (.aload_n 0, 1) := by decide +kernel
theorem dX8_told_9 : decode cX8_told 9 = .ok (.iload_n 2, 1) := by decide +kernel
theorem dX8_told_10 : decode cX8_told 10 = .ok (.invokevirtual 175, 3) := by decide +kernel
theorem dX8_told_13 : decode cX8_told 13 = .ok (.ifCond .eq 5, 3) := by decide +kernel
theorem dX8_told_16 : decode cX8_told 16 = .ok (.iconst (-1), 1) := by decide +kernel
theorem dX8_told_17 : decode cX8_told 17 = .ok (.ireturn, 1) := by decide +kernel
theorem dX8_told_18 : decode cX8_told 18 = .ok (.iload_n 3, 1) := by decide +kernel
theorem dX8_told_19 : decode cX8_told 19 = .ok (.i2l, 1) := by decide +kernel
theorem dX8_told_20 : decode cX8_told 20 = .ok (.lconst 1, 1) := by decide +kernel
theorem dX8_told_21 : decode cX8_told 21 = .ok (.ldc2_w 180, 3) := by decide +kernel
theorem dX8_told_24 : decode cX8_told 24 = .ok (.invokestatic 128, 3) := by decide +kernel
theorem dX8_told_27 : decode cX8_told 27 = .ok (.ifCond .eq 16, 3) := by decide +kernel
theorem dX8_told_30 : decode cX8_told 30 = .ok (.iload 4, 2) := by decide +kernel
theorem dX8_told_32 : decode cX8_told 32 = .ok (.i2l, 1) := by decide +kernel
theorem dX8_told_33 : decode cX8_told 33 = .ok (.lconst 0, 1) := by decide +kernel
theorem dX8_told_34 : decode cX8_told 34 = .ok (.ldc2_w 233, 3) := by decide +kernel
theorem dX8_told_37 : decode cX8_told 37 = .ok (.invokestatic 128, 3) := by decide +kernel
theorem dX8_told_40 : decode cX8_told 40 = .ok (.ifCond .ne 6, 3) := by decide +kernel
theorem dX8_told_43 : decode cX8_told 43 = .ok (.bipush (-2), 2) := by decide +kernel
theorem dX8_told_45 : decode cX8_told 45 = .ok (.ireturn, 1) := by decide +kernel
theorem dX8_told_46 : decode cX8_told 46 = .ok (.aload_n 0, 1) := by decide +kernel
theorem dX8_told_47 : decode cX8_told 47 = .ok (.iload_n 1, 1) := by decide +kernel
theorem dX8_told_48 : decode cX8_told 48 = .ok (.iload_n 2, 1) := by decide +kernel
theorem dX8_told_49 : decode cX8_told 49 = .ok (.iconst 1, 1) := by decide +kernel
theorem dX8_told_50 : decode cX8_told 50 = .ok (.iload 4, 2) := by decide +kernel
theorem dX8_told_52 : decode cX8_told 52 = .ok (.invokevirtual 288, 3) := by decide +kernel
theorem dX8_told_55 : decode cX8_told 55 = .ok (.ifCond .eq 12, 3) := by decide +kernel
theorem dX8_told_58 : decode cX8_told 58 = .ok (.aload_n 0, 1) := by decide +kernel
theorem dX8_told_59 : decode cX8_told 59 = .ok (.iload_n 2, 1) := by decide +kernel
theorem dX8_told_60 : decode cX8_told 60 = .ok (.iload_n 3, 1) := by decide +kernel
theorem dX8_told_61 : decode cX8_told 61 = .ok (.invokevirtual 278, 3) := by decide +kernel
theorem dX8_told_64 : decode cX8_told 64 = .ok (.goto 5, 3) := by decide +kernel
theorem dX8_told_67 : decode cX8_told 67 = .ok (.bipush (-3), 2) := by decide +kernel
theorem dX8_told_69 : decode cX8_told 69 = .ok (.ireturn, 1) := by decide +kernel
theorem dX8_noSheet_0 : decode cX8_noSheet 0 = .ok (.iload_n 0, 1) := by decide +kernel
theorem dX8_noSheet_1 : decode cX8_noSheet 1 = .ok (.i2l, 1) := by decide +kernel
theorem dX8_noSheet_2 : decode cX8_noSheet 2 = .ok (.lconst 0, 1) := by decide +kernel
theorem dX8_noSheet_3 : decode cX8_noSheet 3 = .ok (.ldc2_w 292, 3) := by decide +kernel
theorem dX8_noSheet_6 : decode cX8_noSheet 6 = .ok (.invokestatic 128, 3) := by decide +kernel
theorem dX8_noSheet_9 : decode cX8_noSheet 9 = .ok (.ifCond .ne 7, 3) := by decide +kernel
theorem dX8_noSheet_12 : decode cX8_noSheet 12 = .ok (.iconst 1, 1) := by decide +kernel
theorem dX8_noSheet_13 : decode cX8_noSheet 13 = .ok (.goto 4, 3) := by decide +kernel
theorem dX8_noSheet_16 : decode cX8_noSheet 16 = .ok (.iconst 0, 1) := by decide +kernel
theorem dX8_noSheet_17 : decode cX8_noSheet 17 = .ok (.ireturn, 1) := by decide +kernel
theorem dX8_sheet_0 : decode cX8_sheet 0 = .ok (.iload_n 1, 1) := by decide +kernel
theorem dX8_sheet_1 : decode cX8_sheet 1 = .ok (.invokestatic 153, 3) := by decide +kernel
theorem dX8_sheet_4 : decode cX8_sheet 4 = .ok (.ifCond .eq 9, 3) := by decide +kernel
theorem dX8_sheet_7 : decode cX8_sheet 7 = .ok (.aload_n 0, 1) := by decide +kernel
theorem dX8_sheet_8 : decode cX8_sheet 8 = .ok (.iconst (-1), 1) := by decide +kernel
theorem dX8_sheet_9 : decode cX8_sheet 9 = .ok (.invokevirtual 132, 3) := by decide +kernel
theorem dX8_sheet_12 : decode cX8_sheet 12 = .ok (.ireturn, 1) := by decide +kernel
theorem dX8_sheet_13 : decode cX8_sheet 13 = .ok (.iload_n 2, 1) := by decide +kernel
theorem dX8_sheet_14 : decode cX8_sheet 14 = .ok (.i2l, 1) := by decide +kernel
theorem dX8_sheet_15 : decode cX8_sheet 15 = .ok (.lconst 0, 1) := by decide +kernel
theorem dX8_sheet_16 : decode cX8_sheet 16 = .ok (.ldc2_w 126, 3) := by decide +kernel
theorem dX8_sheet_19 : decode cX8_sheet 19 = .ok (.invokestatic 128, 3) := by decide +kernel
theorem dX8_sheet_22 : decode cX8_sheet 22 = .ok (.ifCond .eq 9, 3) := by decide +kernel
theorem dX8_sheet_25 : decode cX8_sheet 25 = .ok (.iload_n 3, 1) := by decide +kernel
theorem dX8_sheet_26 : decode cX8_sheet 26 = .ok (.bipush 60, 2) := by decide +kernel
theorem dX8_sheet_28 : decode cX8_sheet 28 = .ok (.if_icmp .le 10, 3) := by decide +kernel
theorem dX8_sheet_31 : decode cX8_sheet 31 = .ok (.aload_n 0, 1) := by decide +kernel
theorem dX8_sheet_32 : decode cX8_sheet 32 = .ok (.bipush (-2), 2) := by decide +kernel
theorem dX8_sheet_34 : decode cX8_sheet 34 = .ok (.invokevirtual 132, 3) := by decide +kernel
theorem dX8_sheet_37 : decode cX8_sheet 37 = .ok (.ireturn, 1) := by decide +kernel
theorem dX8_sheet_38 : decode cX8_sheet 38 = .ok (.iload_n 3, 1) := by decide +kernel
theorem dX8_sheet_39 : decode cX8_sheet 39 = .ok (.ifCond .ge 9, 3) := by decide +kernel
theorem dX8_sheet_42 : decode cX8_sheet 42 = .ok (.aload_n 0, 1) := by decide +kernel
theorem dX8_sheet_43 : decode cX8_sheet 43 = .ok (.iconst 4, 1) := by decide +kernel
theorem dX8_sheet_44 : decode cX8_sheet 44 = .ok (.invokevirtual 136, 3) := by decide +kernel
theorem dX8_sheet_47 : decode cX8_sheet 47 = .ok (.ireturn, 1) := by decide +kernel
theorem dX8_sheet_48 : decode cX8_sheet 48 = .ok (.aload_n 0, 1) := by decide +kernel
theorem dX8_sheet_49 : decode cX8_sheet 49 = .ok (.getfield 98, 3) := by decide +kernel
theorem dX8_sheet_52 : decode cX8_sheet 52 = .ok (.iload_n 1, 1) := by decide +kernel
theorem dX8_sheet_53 : decode cX8_sheet 53 = .ok (.iload_n 3, 1) := by decide +kernel
theorem dX8_sheet_54 : decode cX8_sheet 54 = .ok (.iastore, 1) := by decide +kernel
theorem dX8_sheet_55 : decode cX8_sheet 55 = .ok (.aload_n 0, 1) := by decide +kernel
theorem dX8_sheet_56 : decode cX8_sheet 56 = .ok (.getfield 101, 3) := by decide +kernel
theorem dX8_sheet_59 : decode cX8_sheet 59 = .ok (.iload_n 1, 1) := by decide +kernel
theorem dX8_sheet_60 : decode cX8_sheet 60 = .ok (.iload_n 2, 1) := by decide +kernel
theorem dX8_sheet_61 : decode cX8_sheet 61 = .ok (.iastore, 1) := by decide +kernel
theorem dX8_sheet_62 : decode cX8_sheet 62 = .ok (.iconst 0, 1) := by decide +kernel
theorem dX8_sheet_63 : decode cX8_sheet 63 = .ok (.istore 4, 2) := by decide +kernel
theorem dX8_sheet_65 : decode cX8_sheet 65 = .ok (.iload 4, 2) := by decide +kernel
theorem dX8_sheet_67 : decode cX8_sheet 67 = .ok (.iload_n 3, 1) := by decide +kernel
theorem dX8_sheet_68 : decode cX8_sheet 68 = .ok (.if_icmp .ge 22, 3) := by decide +kernel
theorem dX8_sheet_71 : decode cX8_sheet 71 = .ok (.aload_n 0, 1) := by decide +kernel
theorem dX8_sheet_72 : decode cX8_sheet 72 = .ok (.getfield 104, 3) := by decide +kernel
theorem dX8_sheet_75 : decode cX8_sheet 75 = .ok (.bipush 60, 2) := by decide +kernel
theorem dX8_sheet_77 : decode cX8_sheet 77 = .ok (.iload_n 1, 1) := by decide +kernel
theorem dX8_sheet_78 : decode cX8_sheet 78 = .ok (.imul, 1) := by decide +kernel
theorem dX8_sheet_79 : decode cX8_sheet 79 = .ok (.iload 4, 2) := by decide +kernel
theorem dX8_sheet_81 : decode cX8_sheet 81 = .ok (.iadd, 1) := by decide +kernel
theorem dX8_sheet_82 : decode cX8_sheet 82 = .ok (.iconst 0, 1) := by decide +kernel
theorem dX8_sheet_83 : decode cX8_sheet 83 = .ok (.iastore, 1) := by decide +kernel
theorem dX8_sheet_84 : decode cX8_sheet 84 = .ok (.iinc 4 1, 3) := by decide +kernel
theorem dX8_sheet_87 : decode cX8_sheet 87 = .ok (.goto (-22), 3) := by decide +kernel
theorem dX8_sheet_90 : decode cX8_sheet 90 = .ok (.aload_n 0, 1) := by decide +kernel
theorem dX8_sheet_91 : decode cX8_sheet 91 = .ok (.iconst 1, 1) := by decide +kernel
theorem dX8_sheet_92 : decode cX8_sheet 92 = .ok (.invokevirtual 132, 3) := by decide +kernel
theorem dX8_sheet_95 : decode cX8_sheet 95 = .ok (.ireturn, 1) := by decide +kernel
theorem dX8_lose_0 : decode cX8_lose 0 = .ok (.iload_n 1, 1) := by decide +kernel
theorem dX8_lose_1 : decode cX8_lose 1 = .ok (.invokestatic 153, 3) := by decide +kernel
theorem dX8_lose_4 : decode cX8_lose 4 = .ok (.ifCond .eq 5, 3) := by decide +kernel
theorem dX8_lose_7 : decode cX8_lose 7 = .ok (.iconst (-1), 1) := by decide +kernel
theorem dX8_lose_8 : decode cX8_lose 8 = .ok (.ireturn, 1) := by decide +kernel
theorem dX8_lose_9 : decode cX8_lose 9 = .ok (.aload_n 0, 1) := by decide +kernel
theorem dX8_lose_10 : decode cX8_lose 10 = .ok (.getfield 98, 3) := by decide +kernel
theorem dX8_lose_13 : decode cX8_lose 13 = .ok (.iload_n 1, 1) := by decide +kernel
theorem dX8_lose_14 : decode cX8_lose 14 = .ok (.iaload, 1) := by decide +kernel
theorem dX8_lose_15 : decode cX8_lose 15 = .ok (.ifCond .ge 7, 3) := by decide +kernel
theorem dX8_lose_18 : decode cX8_lose 18 = .ok (.iconst 0, 1) := by decide +kernel
theorem dX8_lose_19 : decode cX8_lose 19 = .ok (.goto 4, 3) := by decide +kernel
theorem dX8_lose_22 : decode cX8_lose 22 = .ok (.iconst 1, 1) := by decide +kernel
theorem dX8_lose_23 : decode cX8_lose 23 = .ok (.istore_n 2, 1) := by decide +kernel
theorem dX8_lose_24 : decode cX8_lose 24 = .ok (.aload_n 0, 1) := by decide +kernel
theorem dX8_lose_25 : decode cX8_lose 25 = .ok (.getfield 98, 3) := by decide +kernel
theorem dX8_lose_28 : decode cX8_lose 28 = .ok (.iload_n 1, 1) := by decide +kernel
theorem dX8_lose_29 : decode cX8_lose 29 = .ok (.iconst (-1), 1) := by decide +kernel
theorem dX8_lose_30 : decode cX8_lose 30 = .ok (.iastore, 1) := by decide +kernel
theorem dX8_lose_31 : decode cX8_lose 31 = .ok (.iload_n 2, 1) := by decide +kernel
theorem dX8_lose_32 : decode cX8_lose 32 = .ok (.ireturn, 1) := by decide +kernel
theorem dX8_noCell_0 : decode cX8_noCell 0 = .ok (.aload_n 0, 1) := by decide +kernel
theorem dX8_noCell_1 : decode cX8_noCell 1 = .ok (.getfield 98, 3) := by decide +kernel
theorem dX8_noCell_4 : decode cX8_noCell 4 = .ok (.iload_n 1, 1) := by decide +kernel
theorem dX8_noCell_5 : decode cX8_noCell 5 = .ok (.iaload, 1) := by decide +kernel
theorem dX8_noCell_6 : decode cX8_noCell 6 = .ok (.ifCond .ge 7, 3) := by decide +kernel
theorem dX8_noCell_9 : decode cX8_noCell 9 = .ok (.iconst 1, 1) := by decide +kernel
theorem dX8_noCell_10 : decode cX8_noCell 10 = .ok (.goto 26, 3) := by decide +kernel
theorem dX8_noCell_13 : decode cX8_noCell 13 = .ok (.iload_n 2, 1) := by decide +kernel
theorem dX8_noCell_14 : decode cX8_noCell 14 = .ok (.i2l, 1) := by decide +kernel
theorem dX8_noCell_15 : decode cX8_noCell 15 = .ok (.lconst 0, 1) := by decide +kernel
theorem dX8_noCell_16 : decode cX8_noCell 16 = .ok (.aload_n 0, 1) := by decide +kernel
theorem dX8_noCell_17 : decode cX8_noCell 17 = .ok (.getfield 98, 3) := by decide +kernel
theorem dX8_noCell_20 : decode cX8_noCell 20 = .ok (.iload_n 1, 1) := by decide +kernel
theorem dX8_noCell_21 : decode cX8_noCell 21 = .ok (.iaload, 1) := by decide +kernel
theorem dX8_noCell_22 : decode cX8_noCell 22 = .ok (.i2l, 1) := by decide +kernel
theorem dX8_noCell_23 : decode cX8_noCell 23 = .ok (.lconst 1, 1) := by decide +kernel
theorem dX8_noCell_24 : decode cX8_noCell 24 = .ok (.lsub, 1) := by decide +kernel
theorem dX8_noCell_25 : decode cX8_noCell 25 = .ok (.invokestatic 128, 3) := by decide +kernel
theorem dX8_noCell_28 : decode cX8_noCell 28 = .ok (.ifCond .eq 7, 3) := by decide +kernel
theorem dX8_noCell_31 : decode cX8_noCell 31 = .ok (.iconst 0, 1) := by decide +kernel
theorem dX8_noCell_32 : decode cX8_noCell 32 = .ok (.goto 4, 3) := by decide +kernel
theorem dX8_noCell_35 : decode cX8_noCell 35 = .ok (.iconst 3, 1) := by decide +kernel
theorem dX8_noCell_36 : decode cX8_noCell 36 = .ok (.ireturn, 1) := by decide +kernel
theorem dX8_put_0 : decode cX8_put 0 = .ok (.iload_n 1, 1) := by decide +kernel
theorem dX8_put_1 : decode cX8_put 1 = .ok (.invokestatic 153, 3) := by decide +kernel
theorem dX8_put_4 : decode cX8_put 4 = .ok (.ifCond .eq 9, 3) := by decide +kernel
theorem dX8_put_7 : decode cX8_put 7 = .ok (.aload_n 0, 1) := by decide +kernel
theorem dX8_put_8 : decode cX8_put 8 = .ok (.iconst (-1), 1) := by decide +kernel
theorem dX8_put_9 : decode cX8_put 9 = .ok (.invokevirtual 132, 3) := by decide +kernel
theorem dX8_put_12 : decode cX8_put 12 = .ok (.ireturn, 1) := by decide +kernel
theorem dX8_put_13 : decode cX8_put 13 = .ok (.aload_n 0, 1) := by decide +kernel
theorem dX8_put_14 : decode cX8_put 14 = .ok (.iload_n 1, 1) := by decide +kernel
theorem dX8_put_15 : decode cX8_put 15 = .ok (.iload_n 2, 1) := by decide +kernel
theorem dX8_put_16 : decode cX8_put 16 = .ok (.invokevirtual 294, 3) := by decide +kernel
theorem dX8_put_19 : decode cX8_put 19 = .ok (.ifCond .le 14, 3) := by decide +kernel
theorem dX8_put_22 : decode cX8_put 22 = .ok (.aload_n 0, 1) := by decide +kernel
theorem dX8_put_23 : decode cX8_put 23 = .ok (.aload_n 0, 1) := by decide +kernel
theorem dX8_put_24 : decode cX8_put 24 = .ok (.iload_n 1, 1) := by decide +kernel
theorem dX8_put_25 : decode cX8_put 25 = .ok (.iload_n 2, 1) := by decide +kernel
theorem dX8_put_26 : decode cX8_put 26 = .ok (.invokevirtual 294, 3) := by decide +kernel
theorem dX8_put_29 : decode cX8_put 29 = .ok (.invokevirtual 136, 3) := by decide +kernel
theorem dX8_put_32 : decode cX8_put 32 = .ok (.ireturn, 1) := by decide +kernel
theorem dX8_put_33 : decode cX8_put 33 = .ok (.aload_n 0, 1) := by decide +kernel
theorem dX8_put_34 : decode cX8_put 34 = .ok (.getfield 104, 3) := by decide +kernel
theorem dX8_put_37 : decode cX8_put 37 = .ok (.bipush 60, 2) := by decide +kernel
theorem dX8_put_39 : decode cX8_put 39 = .ok (.iload_n 1, 1) := by decide +kernel
theorem dX8_put_40 : decode cX8_put 40 = .ok (.imul, 1) := by decide +kernel
theorem dX8_put_41 : decode cX8_put 41 = .ok (.iload_n 2, 1) := by decide +kernel
theorem dX8_put_42 : decode cX8_put 42 = .ok (.iadd, 1) := by decide +kernel
theorem dX8_put_43 : decode cX8_put 43 = .ok (.aload_n 0, 1) := by decide +kernel
theorem dX8_put_44 : decode cX8_put 44 = .ok (.getfield 101, 3) := by decide +kernel
theorem dX8_put_47 : decode cX8_put 47 = .ok (.iload_n 1, 1) := by decide +kernel
theorem dX8_put_48 : decode cX8_put 48 = .ok (.iaload, 1) := by decide +kernel
theorem dX8_put_49 : decode cX8_put 49 = .ok (.ifCond .ne 8, 3) := by decide +kernel
theorem dX8_put_52 : decode cX8_put 52 = .ok (.iload_n 3, 1) := by decide +kernel
theorem dX8_put_53 : decode cX8_put 53 = .ok (.i2b, 1) := by decide +kernel
theorem dX8_put_54 : decode cX8_put 54 = .ok (.goto 19, 3) := by decide +kernel
theorem dX8_put_57 : decode cX8_put 57 = .ok (.aload_n 0, 1) := by decide +kernel
theorem dX8_put_58 : decode cX8_put 58 = .ok (.getfield 101, 3) := by decide +kernel
theorem dX8_put_61 : decode cX8_put 61 = .ok (.iload_n 1, 1) := by decide +kernel
theorem dX8_put_62 : decode cX8_put 62 = .ok (.iaload, 1) := by decide +kernel
theorem dX8_put_63 : decode cX8_put 63 = .ok (.iconst 1, 1) := by decide +kernel
theorem dX8_put_64 : decode cX8_put 64 = .ok (.if_icmp .ne 8, 3) := by decide +kernel
theorem dX8_put_67 : decode cX8_put 67 = .ok (.iload_n 3, 1) := by decide +kernel
theorem dX8_put_68 : decode cX8_put 68 = .ok (.i2s, 1) := by decide +kernel
theorem dX8_put_69 : decode cX8_put 69 = .ok (.goto 4, 3) := by decide +kernel
theorem dX8_put_72 : decode cX8_put 72 = .ok (.iload_n 3, 1) := by decide +kernel
theorem dX8_put_73 : decode cX8_put 73 = .ok (.iastore, 1) := by decide +kernel
theorem dX8_put_74 : decode cX8_put 74 = .ok (.aload_n 0, 1) := by decide +kernel
theorem dX8_put_75 : decode cX8_put 75 = .ok (.iconst 1, 1) := by decide +kernel
theorem dX8_put_76 : decode cX8_put 76 = .ok (.invokevirtual 132, 3) := by decide +kernel
theorem dX8_put_79 : decode cX8_put 79 = .ok (.ireturn, 1) := by decide +kernel
theorem dX8_cell_0 : decode cX8_cell 0 = .ok (.aload_n 0, 1) := by decide +kernel
theorem dX8_cell_1 : decode cX8_cell 1 = .ok (.iconst 0, 1) := by decide +kernel
theorem dX8_cell_2 : decode cX8_cell 2 = .ok (.putfield 119, 3) := by decide +kernel
theorem dX8_cell_5 : decode cX8_cell 5 = .ok (.iload_n 1, 1) := by decide +kernel
theorem dX8_cell_6 : decode cX8_cell 6 = .ok (.invokestatic 153, 3) := by decide +kernel
theorem dX8_cell_9 : decode cX8_cell 9 = .ok (.ifCond .ne 15, 3) := by decide +kernel
theorem dX8_cell_12 : decode cX8_cell 12 = .ok (.iload_n 3, 1) := by decide +kernel
theorem dX8_cell_13 : decode cX8_cell 13 = .ok (.i2l, 1) := by decide +kernel
theorem dX8_cell_14 : decode cX8_cell 14 = .ok (.lconst 0, 1) := by decide +kernel
theorem dX8_cell_15 : decode cX8_cell 15 = .ok (.ldc2_w 126, 3) := by decide +kernel
theorem dX8_cell_18 : decode cX8_cell 18 = .ok (.invokestatic 128, 3) := by decide +kernel
theorem dX8_cell_21 : decode cX8_cell 21 = .ok (.ifCond .ne 7, 3) := by decide +kernel
theorem dX8_cell_24 : decode cX8_cell 24 = .ok (.invokestatic 122, 3) := by decide +kernel
theorem dX8_cell_27 : decode cX8_cell 27 = .ok (.lreturn, 1) := by decide +kernel
theorem dX8_cell_28 : decode cX8_cell 28 = .ok (.aload_n 0, 1) := by decide +kernel
theorem dX8_cell_29 : decode cX8_cell 29 = .ok (.getfield 98, 3) := by decide +kernel
theorem dX8_cell_32 : decode cX8_cell 32 = .ok (.iload_n 1, 1) := by decide +kernel
theorem dX8_cell_33 : decode cX8_cell 33 = .ok (.iaload, 1) := by decide +kernel
theorem dX8_cell_34 : decode cX8_cell 34 = .ok (.ifCond .lt 19, 3) := by decide +kernel
theorem dX8_cell_37 : decode cX8_cell 37 = .ok (.aload_n 0, 1) := by decide +kernel
theorem dX8_cell_38 : decode cX8_cell 38 = .ok (.getfield 101, 3) := by decide +kernel
theorem dX8_cell_41 : decode cX8_cell 41 = .ok (.iload_n 1, 1) := by decide +kernel
theorem dX8_cell_42 : decode cX8_cell 42 = .ok (.iaload, 1) := by decide +kernel
theorem dX8_cell_43 : decode cX8_cell 43 = .ok (.iload_n 3, 1) := by decide +kernel
theorem dX8_cell_44 : decode cX8_cell 44 = .ok (.if_icmp .eq 9, 3) := by decide +kernel
theorem dX8_cell_47 : decode cX8_cell 47 = .ok (.aload_n 0, 1) := by decide +kernel
theorem dX8_cell_48 : decode cX8_cell 48 = .ok (.iconst 2, 1) := by decide +kernel
theorem dX8_cell_49 : decode cX8_cell 49 = .ok (.invokevirtual 297, 3) := by decide +kernel
theorem dX8_cell_52 : decode cX8_cell 52 = .ok (.lreturn, 1) := by decide +kernel
theorem dX8_cell_53 : decode cX8_cell 53 = .ok (.aload_n 0, 1) := by decide +kernel
theorem dX8_cell_54 : decode cX8_cell 54 = .ok (.iload_n 1, 1) := by decide +kernel
theorem dX8_cell_55 : decode cX8_cell 55 = .ok (.iload_n 2, 1) := by decide +kernel
theorem dX8_cell_56 : decode cX8_cell 56 = .ok (.invokevirtual 294, 3) := by decide +kernel
theorem dX8_cell_59 : decode cX8_cell 59 = .ok (.ifCond .le 16, 3) := by decide +kernel
theorem dX8_cell_62 : decode cX8_cell 62 = .ok (.aload_n 0, 1) := by decide +kernel
theorem dX8_cell_63 : decode cX8_cell 63 = .ok (.aload_n 0, 1) := by decide +kernel
theorem dX8_cell_64 : decode cX8_cell 64 = .ok (.iload_n 1, 1) := by decide +kernel
theorem dX8_cell_65 : decode cX8_cell 65 = .ok (.iload_n 2, 1) := by decide +kernel
theorem dX8_cell_66 : decode cX8_cell 66 = .ok (.invokevirtual 294, 3) := by decide +kernel
theorem dX8_cell_69 : decode cX8_cell 69 = .ok (.invokevirtual 297, 3) := by decide +kernel
theorem dX8_cell_72 : decode cX8_cell 72 = .ok (.goto 15, 3) := by decide +kernel
theorem dX8_cell_75 : decode cX8_cell 75 = .ok (.aload_n 0, 1) := by decide +kernel
theorem dX8_cell_76 : decode cX8_cell 76 = .ok (.getfield 104, 3) := by decide +kernel
theorem dX8_cell_79 : decode cX8_cell 79 = .ok (.bipush 60, 2) := by decide +kernel
theorem dX8_cell_81 : decode cX8_cell 81 = .ok (.iload_n 1, 1) := by decide +kernel
theorem dX8_cell_82 : decode cX8_cell 82 = .ok (.imul, 1) := by decide +kernel
theorem dX8_cell_83 : decode cX8_cell 83 = .ok (.iload_n 2, 1) := by decide +kernel
theorem dX8_cell_84 : decode cX8_cell 84 = .ok (.iadd, 1) := by decide +kernel
theorem dX8_cell_85 : decode cX8_cell 85 = .ok (.iaload, 1) := by decide +kernel
theorem dX8_cell_86 : decode cX8_cell 86 = .ok (.i2l, 1) := by decide +kernel
theorem dX8_cell_87 : decode cX8_cell 87 = .ok (.lreturn, 1) := by decide +kernel
theorem dX8_isBeyond_0 : decode cX8_isBeyond 0 = .ok (.iload_n 0, 1) := by decide +kernel
theorem dX8_isBeyond_1 : decode cX8_isBeyond 1 = .ok (.ifCond .lt 19, 3) := by decide +kernel
theorem dX8_isBeyond_4 : decode cX8_isBeyond 4 = .ok (.lload_n 1, 1) := by decide +kernel
theorem dX8_isBeyond_5 : decode cX8_isBeyond 5 = .ok (.lconst 0, 1) := by decide +kernel
theorem dX8_isBeyond_6 : decode cX8_isBeyond 6 = .ok (.lcmp, 1) := by decide +kernel
theorem dX8_isBeyond_7 : decode cX8_isBeyond 7 = .ok (.ifCond .lt 13, 3) := by decide +kernel
theorem dX8_isBeyond_10 : decode cX8_isBeyond 10 = .ok (.iload_n 0, 1) := by decide +kernel
theorem dX8_isBeyond_11 : decode cX8_isBeyond 11 = .ok (.i2l, 1) := by decide +kernel
theorem dX8_isBeyond_12 : decode cX8_isBeyond 12 = .ok (.lload_n 1, 1) := by decide +kernel
theorem dX8_isBeyond_13 : decode cX8_isBeyond 13 = .ok (.ladd, 1) := by decide +kernel
theorem dX8_isBeyond_14 : decode cX8_isBeyond 14 = .ok (.iload_n 3, 1) := by decide +kernel
theorem dX8_isBeyond_15 : decode cX8_isBeyond 15 = .ok (.i2l, 1) := by decide +kernel
theorem dX8_isBeyond_16 : decode cX8_isBeyond 16 = .ok (.lcmp, 1) := by decide +kernel
theorem dX8_isBeyond_17 : decode cX8_isBeyond 17 = .ok (.ifCond .le 7, 3) := by decide +kernel
theorem dX8_isBeyond_20 : decode cX8_isBeyond 20 = .ok (.iconst 1, 1) := by decide +kernel
theorem dX8_isBeyond_21 : decode cX8_isBeyond 21 = .ok (.goto 4, 3) := by decide +kernel
theorem dX8_isBeyond_24 : decode cX8_isBeyond 24 = .ok (.iconst 0, 1) := by decide +kernel
theorem dX8_isBeyond_25 : decode cX8_isBeyond 25 = .ok (.ireturn, 1) := by decide +kernel
theorem dX8_copy_0 : decode cX8_copy 0 = .ok (.iload_n 1, 1) := by decide +kernel
theorem dX8_copy_1 : decode cX8_copy 1 = .ok (.invokestatic 153, 3) := by decide +kernel
theorem dX8_copy_4 : decode cX8_copy 4 = .ok (.ifCond .ne 10, 3) := by decide +kernel
theorem dX8_copy_7 : decode cX8_copy 7 = .ok (.iload_n 3, 1) := by decide +kernel
theorem dX8_copy_8 : decode cX8_copy 8 = .ok (.invokestatic 153, 3) := by decide +kernel
theorem dX8_copy_11 : decode cX8_copy 11 = .ok (.ifCond .eq 9, 3) := by decide +kernel
theorem dX8_copy_14 : decode cX8_copy 14 = .ok (.aload_n 0, 1) := by decide +kernel
theorem dX8_copy_15 : decode cX8_copy 15 = .ok (.iconst (-1), 1) := by decide +kernel
theorem dX8_copy_16 : decode cX8_copy 16 = .ok (.invokevirtual 132, 3) := by decide +kernel
theorem dX8_copy_19 : decode cX8_copy 19 = .ok (.ireturn, 1) := by decide +kernel
theorem dX8_copy_20 : decode cX8_copy 20 = .ok (.aload_n 0, 1) := by decide +kernel
theorem dX8_copy_21 : decode cX8_copy 21 = .ok (.getfield 98, 3) := by decide +kernel
theorem dX8_copy_24 : decode cX8_copy 24 = .ok (.iload_n 1, 1) := by decide +kernel
theorem dX8_copy_25 : decode cX8_copy 25 = .ok (.iaload, 1) := by decide +kernel
theorem dX8_copy_26 : decode cX8_copy 26 = .ok (.ifCond .lt 12, 3) := by decide +kernel
theorem dX8_copy_29 : decode cX8_copy 29 = .ok (.aload_n 0, 1) := by decide +kernel
theorem dX8_copy_30 : decode cX8_copy 30 = .ok (.getfield 98, 3) := by decide +kernel
theorem dX8_copy_33 : decode cX8_copy 33 = .ok (.iload_n 3, 1) := by decide +kernel
theorem dX8_copy_34 : decode cX8_copy 34 = .ok (.iaload, 1) := by decide +kernel
theorem dX8_copy_35 : decode cX8_copy 35 = .ok (.ifCond .ge 9, 3) := by decide +kernel
theorem dX8_copy_38 : decode cX8_copy 38 = .ok (.aload_n 0, 1) := by decide +kernel
theorem dX8_copy_39 : decode cX8_copy 39 = .ok (.iconst 1, 1) := by decide +kernel
theorem dX8_copy_40 : decode cX8_copy 40 = .ok (.invokevirtual 136, 3) := by decide +kernel
theorem dX8_copy_43 : decode cX8_copy 43 = .ok (.ireturn, 1) := by decide +kernel
theorem dX8_copy_44 : decode cX8_copy 44 = .ok (.aload_n 0, 1) := by decide +kernel
theorem dX8_copy_45 : decode cX8_copy 45 = .ok (.getfield 101, 3) := by decide +kernel
theorem dX8_copy_48 : decode cX8_copy 48 = .ok (.iload_n 1, 1) := by decide +kernel
theorem dX8_copy_49 : decode cX8_copy 49 = .ok (.iaload, 1) := by decide +kernel
theorem dX8_copy_50 : decode cX8_copy 50 = .ok (.aload_n 0, 1) := by decide +kernel
theorem dX8_copy_51 : decode cX8_copy 51 = .ok (.getfield 101, 3) := by decide +kernel
theorem dX8_copy_54 : decode cX8_copy 54 = .ok (.iload_n 3, 1) := by decide +kernel
theorem dX8_copy_55 : decode cX8_copy 55 = .ok (.iaload, 1) := by decide +kernel
theorem dX8_copy_56 : decode cX8_copy 56 = .ok (.if_icmp .eq 9, 3) := by decide +kernel
theorem dX8_copy_59 : decode cX8_copy 59 = .ok (.aload_n 0, 1) := by decide +kernel
theorem dX8_copy_60 : decode cX8_copy 60 = .ok (.iconst 2, 1) := by decide +kernel
theorem dX8_copy_61 : decode cX8_copy 61 = .ok (.invokevirtual 136, 3) := by decide +kernel
theorem dX8_copy_64 : decode cX8_copy 64 = .ok (.ireturn, 1) := by decide +kernel
theorem dX8_copy_65 : decode cX8_copy 65 = .ok (.iload_n 2, 1) := by decide +kernel
theorem dX8_copy_66 : decode cX8_copy 66 = .ok (.iload 5, 2) := by decide +kernel
theorem dX8_copy_68 : decode cX8_copy 68 = .ok (.i2l, 1) := by decide +kernel
theorem dX8_copy_69 : decode cX8_copy 69 = .ok (.aload_n 0, 1) := by decide +kernel
theorem dX8_copy_70 : decode cX8_copy 70 = .ok (.getfield 98, 3) := by decide +kernel
theorem dX8_copy_73 : decode cX8_copy 73 = .ok (.iload_n 1, 1) := by decide +kernel
theorem dX8_copy_74 : decode cX8_copy 74 = .ok (.iaload, 1) := by decide +kernel
theorem dX8_copy_75 : decode cX8_copy 75 = .ok (.invokestatic 139, 3) := by decide +kernel
theorem dX8_copy_78 : decode cX8_copy 78 = .ok (.ifCond .ne 20, 3) := by decide +kernel
theorem dX8_copy_81 : decode cX8_copy 81 = .ok (.iload 4, 2) := by decide +kernel
theorem dX8_copy_83 : decode cX8_copy 83 = .ok (.iload 5, 2) := by decide +kernel
theorem dX8_copy_85 : decode cX8_copy 85 = .ok (.i2l, 1) := by decide +kernel
theorem dX8_copy_86 : decode cX8_copy 86 = .ok (.aload_n 0, 1) := by decide +kernel
theorem dX8_copy_87 : decode cX8_copy 87 = .ok (.getfield 98, 3) := by decide +kernel
theorem dX8_copy_90 : decode cX8_copy 90 = .ok (.iload_n 3, 1) := by decide +kernel
theorem dX8_copy_91 : decode cX8_copy 91 = .ok (.iaload, 1) := by decide +kernel
theorem dX8_copy_92 : decode cX8_copy 92 = .ok (.invokestatic 139, 3) := by decide +kernel
theorem dX8_copy_95 : decode cX8_copy 95 = .ok (.ifCond .eq 9, 3) := by decide +kernel
theorem dX8_copy_98 : decode cX8_copy 98 = .ok (.aload_n 0, 1) := by decide +kernel
theorem dX8_copy_99 : decode cX8_copy 99 = .ok (.iconst 3, 1) := by decide +kernel
theorem dX8_copy_100 : decode cX8_copy 100 = .ok (.invokevirtual 136, 3) := by decide +kernel
theorem dX8_copy_103 : decode cX8_copy 103 = .ok (.ireturn, 1) := by decide +kernel
theorem dX8_copy_104 : decode cX8_copy 104 = .ok (.iconst 0, 1) := by decide +kernel
theorem dX8_copy_105 : decode cX8_copy 105 = .ok (.istore 6, 2) := by decide +kernel
theorem dX8_copy_107 : decode cX8_copy 107 = .ok (.iload 6, 2) := by decide +kernel
theorem dX8_copy_109 : decode cX8_copy 109 = .ok (.iload 5, 2) := by decide +kernel
theorem dX8_copy_111 : decode cX8_copy 111 = .ok (.if_icmp .ge 30, 3) := by decide +kernel
theorem dX8_copy_114 : decode cX8_copy 114 = .ok (.aload_n 0, 1) := by decide +kernel
theorem dX8_copy_115 : decode cX8_copy 115 = .ok (.getfield 107, 3) := by decide +kernel
theorem dX8_copy_118 : decode cX8_copy 118 = .ok (.iload 6, 2) := by decide +kernel
theorem dX8_copy_120 : decode cX8_copy 120 = .ok (.aload_n 0, 1) := by decide +kernel
theorem dX8_copy_121 : decode cX8_copy 121 = .ok (.getfield 104, 3) := by decide +kernel
theorem dX8_copy_124 : decode cX8_copy 124 = .ok (.bipush 60, 2) := by decide +kernel
theorem dX8_copy_126 : decode cX8_copy 126 = .ok (.iload_n 1, 1) := by decide +kernel
theorem dX8_copy_127 : decode cX8_copy 127 = .ok (.imul, 1) := by decide +kernel
theorem dX8_copy_128 : decode cX8_copy 128 = .ok (.iload_n 2, 1) := by decide +kernel
theorem dX8_copy_129 : decode cX8_copy 129 = .ok (.iadd, 1) := by decide +kernel
theorem dX8_copy_130 : decode cX8_copy 130 = .ok (.iload 6, 2) := by decide +kernel
theorem dX8_copy_132 : decode cX8_copy 132 = .ok (.iadd, 1) := by decide +kernel
theorem dX8_copy_133 : decode cX8_copy 133 = .ok (.iaload, 1) := by decide +kernel
theorem dX8_copy_134 : decode cX8_copy 134 = .ok (.iastore, 1) := by decide +kernel
theorem dX8_copy_135 : decode cX8_copy 135 = .ok (.iinc 6 1, 3) := by decide +kernel
theorem dX8_copy_138 : decode cX8_copy 138 = .ok (.goto (-31), 3) := by decide +kernel
theorem dX8_copy_141 : decode cX8_copy 141 = .ok (.iconst 0, 1) := by decide +kernel
theorem dX8_copy_142 : decode cX8_copy 142 = .ok (.istore 6, 2) := by decide +kernel
theorem dX8_copy_144 : decode cX8_copy 144 = .ok (.iload 6, 2) := by decide +kernel
theorem dX8_copy_146 : decode cX8_copy 146 = .ok (.iload 5, 2) := by decide +kernel
theorem dX8_copy_148 : decode cX8_copy 148 = .ok (.if_icmp .ge 31, 3) := by decide +kernel
theorem dX8_copy_151 : decode cX8_copy 151 = .ok (.aload_n 0, 1) := by decide +kernel
theorem dX8_copy_152 : decode cX8_copy 152 = .ok (.getfield 104, 3) := by decide +kernel
theorem dX8_copy_155 : decode cX8_copy 155 = .ok (.bipush 60, 2) := by decide +kernel
theorem dX8_copy_157 : decode cX8_copy 157 = .ok (.iload_n 3, 1) := by decide +kernel
theorem dX8_copy_158 : decode cX8_copy 158 = .ok (.imul, 1) := by decide +kernel
theorem dX8_copy_159 : decode cX8_copy 159 = .ok (.iload 4, 2) := by decide +kernel
theorem dX8_copy_161 : decode cX8_copy 161 = .ok (.iadd, 1) := by decide +kernel
theorem dX8_copy_162 : decode cX8_copy 162 = .ok (.iload 6, 2) := by decide +kernel
theorem dX8_copy_164 : decode cX8_copy 164 = .ok (.iadd, 1) := by decide +kernel
theorem dX8_copy_165 : decode cX8_copy 165 = .ok (.aload_n 0, 1) := by decide +kernel
theorem dX8_copy_166 : decode cX8_copy 166 = .ok (.getfield 107, 3) := by decide +kernel
theorem dX8_copy_169 : decode cX8_copy 169 = .ok (.iload 6, 2) := by decide +kernel
theorem dX8_copy_171 : decode cX8_copy 171 = .ok (.iaload, 1) := by decide +kernel
theorem dX8_copy_172 : decode cX8_copy 172 = .ok (.iastore, 1) := by decide +kernel
theorem dX8_copy_173 : decode cX8_copy 173 = .ok (.iinc 6 1, 3) := by decide +kernel
theorem dX8_copy_176 : decode cX8_copy 176 = .ok (.goto (-32), 3) := by decide +kernel
theorem dX8_copy_179 : decode cX8_copy 179 = .ok (.aload_n 0, 1) := by decide +kernel
theorem dX8_copy_180 : decode cX8_copy 180 = .ok (.iload 5, 2) := by decide +kernel
theorem dX8_copy_182 : decode cX8_copy 182 = .ok (.invokevirtual 132, 3) := by decide +kernel
theorem dX8_copy_185 : decode cX8_copy 185 = .ok (.ireturn, 1) := by decide +kernel
theorem dX8_traced_0 : decode cX8_traced 0 = .ok (.aload_n 0, 1) := by decide +kernel
theorem dX8_traced_1 : decode cX8_traced 1 = .ok (.bipush 31, 2) := by decide +kernel
theorem dX8_traced_3 : decode cX8_traced 3 = .ok (.aload_n 0, 1) := by decide +kernel
theorem dX8_traced_4 : decode cX8_traced 4 = .ok (.getfield 301, 3) := by decide +kernel
theorem dX8_traced_7 : decode cX8_traced 7 = .ok (.imul, 1) := by decide +kernel
theorem dX8_traced_8 : decode cX8_traced 8 = .ok (.iload_n 1, 1) := by decide +kernel
theorem dX8_traced_9 : decode cX8_traced 9 = .ok (.iadd, 1) := by decide +kernel
theorem dX8_traced_10 : decode cX8_traced 10 = .ok (.putfield 301, 3) := by decide +kernel
theorem dX8_traced_13 : decode cX8_traced 13 = .ok (.return_, 1) := by decide +kernel
theorem dX8_tell_0 : decode cX8_tell 0 = .ok (.aload_n 0, 1) := by decide +kernel
theorem dX8_tell_1 : decode cX8_tell 1 = .ok (.iload_n 1, 1) := by decide +kernel
theorem dX8_tell_2 : decode cX8_tell 2 = .ok (.invokevirtual 165, 3) := by decide +kernel
theorem dX8_tell_5 : decode cX8_tell 5 = .ok (.ifCond .eq 5, 3) := by decide +kernel
theorem dX8_tell_8 : decode cX8_tell 8 = .ok (.iconst (-1), 1) := by decide +kernel
theorem dX8_tell_9 : decode cX8_tell 9 = .ok (.ireturn, 1) := by decide +kernel
theorem dX8_tell_10 : decode cX8_tell 10 = .ok (.aload_n 0, 1) := by decide +kernel
theorem dX8_tell_11 : decode cX8_tell 11 = .ok (.getfield 7, 3) := by decide +kernel
theorem dX8_tell_14 : decode cX8_tell 14 = .ok (.iload_n 1, 1) := by decide +kernel
theorem dX8_tell_15 : decode cX8_tell 15 = .ok (.iaload, 1) := by decide +kernel
theorem dX8_tell_16 : decode cX8_tell 16 = .ok (.istore_n 2, 1) := by decide +kernel
theorem dX8_tell_17 : decode cX8_tell 17 = .ok (.iload_n 2, 1) := by decide +kernel
theorem dX8_tell_18 : decode cX8_tell 18 = .ok (.iconst 2, 1) := by decide +kernel
theorem dX8_tell_19 : decode cX8_tell 19 = .ok (.if_icmp .ne 8, 3) := by decide +kernel
theorem dX8_tell_22 : decode cX8_tell 22 = .ok (.aload_n 0, 1) := by decide +kernel
theorem dX8_tell_23 : decode cX8_tell 23 = .ok (.iconst 3, 1) := by decide +kernel
theorem dX8_tell_24 : decode cX8_tell 24 = .ok (.invokevirtual 304, 3) := by decide +kernel
theorem dX8_tell_27 : decode cX8_tell 27 = .ok (.iload_n 2, 1) := by decide +kernel
theorem dX8_tell_28 : decode cX8_tell 28 = .ok (.ifCond .le 8, 3) := by decide +kernel
theorem dX8_tell_31 : decode cX8_tell 31 = .ok (.aload_n 0, 1) := by decide +kernel
theorem dX8_tell_32 : decode cX8_tell 32 = .ok (.iconst 2, 1) := by decide +kernel
theorem dX8_tell_33 : decode cX8_tell 33 = .ok (.invokevirtual 304, 3) := by decide +kernel
theorem dX8_tell_36 : decode cX8_tell 36 = .ok (.aload_n 0, 1) := by decide +kernel
theorem dX8_tell_37 : decode cX8_tell 37 = .ok (.iconst 1, 1) := by decide +kernel
theorem dX8_tell_38 : decode cX8_tell 38 = .ok (.invokevirtual 304, 3) := by decide +kernel
theorem dX8_tell_41 : decode cX8_tell 41 = .ok (.iload_n 2, 1) := by decide +kernel
theorem dX8_tell_42 : decode cX8_tell 42 = .ok (.iconst 2, 1) := by decide +kernel
theorem dX8_tell_43 : decode cX8_tell 43 = .ok (.if_icmp .ne 8, 3) := by decide +kernel
theorem dX8_tell_46 : decode cX8_tell 46 = .ok (.aload_n 0, 1) := by decide +kernel
theorem dX8_tell_47 : decode cX8_tell 47 = .ok (.iconst 1, 1) := by decide +kernel
theorem dX8_tell_48 : decode cX8_tell 48 = .ok (.invokevirtual 304, 3) := by decide +kernel
theorem dX8_tell_51 : decode cX8_tell 51 = .ok (.iload_n 2, 1) := by decide +kernel
theorem dX8_tell_52 : decode cX8_tell 52 = .ok (.ifCond .ne 12, 3) := by decide +kernel
theorem dX8_tell_55 : decode cX8_tell 55 = .ok (.aload_n 0, 1) := by decide +kernel
theorem dX8_tell_56 : decode cX8_tell 56 = .ok (.getfield 13, 3) := by decide +kernel
theorem dX8_tell_59 : decode cX8_tell 59 = .ok (.iload_n 1, 1) := by decide +kernel
theorem dX8_tell_60 : decode cX8_tell 60 = .ok (.iaload, 1) := by decide +kernel
theorem dX8_tell_61 : decode cX8_tell 61 = .ok (.goto 33, 3) := by decide +kernel
theorem dX8_tell_64 : decode cX8_tell 64 = .ok (.iload_n 2, 1) := by decide +kernel
theorem dX8_tell_65 : decode cX8_tell 65 = .ok (.iconst 1, 1) := by decide +kernel
theorem dX8_tell_66 : decode cX8_tell 66 = .ok (.if_icmp .ne 16, 3) := by decide +kernel
theorem dX8_tell_69 : decode cX8_tell 69 = .ok (.aload_n 0, 1) := by decide +kernel
theorem dX8_tell_70 : decode cX8_tell 70 = .ok (.getfield 13, 3) := by decide +kernel
theorem dX8_tell_73 : decode cX8_tell 73 = .ok (.iload_n 1, 1) := by decide +kernel
theorem dX8_tell_74 : decode cX8_tell 74 = .ok (.iaload, 1) := by decide +kernel
theorem dX8_tell_75 : decode cX8_tell 75 = .ok (.sipush 1000, 3) := by decide +kernel
theorem dX8_tell_78 : decode cX8_tell 78 = .ok (.iadd, 1) := by decide +kernel
theorem dX8_tell_79 : decode cX8_tell 79 = .ok (.goto 15, 3) := by decide +kernel
theorem dX8_tell_82 : decode cX8_tell 82 = .ok (.iconst 2, 1) := by decide +kernel
theorem dX8_tell_83 : decode cX8_tell 83 = .ok (.aload_n 0, 1) := by decide +kernel
theorem dX8_tell_84 : decode cX8_tell 84 = .ok (.getfield 13, 3) := by decide +kernel
theorem dX8_tell_87 : decode cX8_tell 87 = .ok (.iload_n 1, 1) := by decide +kernel
theorem dX8_tell_88 : decode cX8_tell 88 = .ok (.iaload, 1) := by decide +kernel
theorem dX8_tell_89 : decode cX8_tell 89 = .ok (.imul, 1) := by decide +kernel
theorem dX8_tell_90 : decode cX8_tell 90 = .ok (.sipush 1000, 3) := by decide +kernel
theorem dX8_tell_93 : decode cX8_tell 93 = .ok (.iadd, 1) := by decide +kernel
theorem dX8_tell_94 : decode cX8_tell 94 = .ok (.ireturn, 1) := by decide +kernel
theorem dX8_speak_0 : decode cX8_speak 0 = .ok (.aload_n 0, 1) := by decide +kernel
theorem dX8_speak_1 : decode cX8_speak 1 = .ok (.iload_n 1, 1) := by decide +kernel
theorem dX8_speak_2 : decode cX8_speak 2 = .ok (.invokevirtual 165, 3) := by decide +kernel
theorem dX8_speak_5 : decode cX8_speak 5 = .ok (.ifCond .eq 5, 3) := by decide +kernel
theorem dX8_speak_8 : decode cX8_speak 8 = .ok (.iconst (-1), 1) := by decide +kernel
theorem dX8_speak_9 : decode cX8_speak 9 = .ok (.ireturn, 1) := by decide +kernel
theorem dX8_speak_10 : decode cX8_speak 10 = .ok (.aload_n 0, 1) := by decide +kernel
