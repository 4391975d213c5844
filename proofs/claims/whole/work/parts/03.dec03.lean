theorem dX5_weighPairs_96 : decode cX5_weighPairs 96 = .ok (.getfield 46, 3) := by decide +kernel
theorem dX5_weighPairs_99 : decode cX5_weighPairs 99 = .ok (.iconst 1, 1) := by decide +kernel
theorem dX5_weighPairs_100 : decode cX5_weighPairs 100 = .ok (.iadd, 1) := by decide +kernel
theorem dX5_weighPairs_101 : decode cX5_weighPairs 101 = .ok (.imul, 1) := by decide +kernel
theorem dX5_weighPairs_102 : decode cX5_weighPairs 102 = .ok (.iadd, 1) := by decide +kernel
theorem dX5_weighPairs_103 : decode cX5_weighPairs 103 = .ok (.iastore, 1) := by decide +kernel
theorem dX5_weighPairs_104 : decode cX5_weighPairs 104 = .ok (.iinc 2 (-1), 3) := by decide +kernel
theorem dX5_weighPairs_107 : decode cX5_weighPairs 107 = .ok (.goto (-90), 3) := by decide +kernel
theorem dX5_weighPairs_110 : decode cX5_weighPairs 110 = .ok (.return_, 1) := by decide +kernel
theorem dX5_layFrom_0 : decode cX5_layFrom 0 = .ok (.iload_n 1, 1) := by decide +kernel
theorem dX5_layFrom_1 : decode cX5_layFrom 1 = .ok (.aload_n 0, 1) := by decide +kernel
theorem dX5_layFrom_2 : decode cX5_layFrom 2 = .ok (.getfield 42, 3) := by decide +kernel
theorem dX5_layFrom_5 : decode cX5_layFrom 5 = .ok (.if_icmp .lt 9, 3) := by decide +kernel
theorem dX5_layFrom_8 : decode cX5_layFrom 8 = .ok (.aload_n 0, 1) := by decide +kernel
theorem dX5_layFrom_9 : decode cX5_layFrom 9 = .ok (.iload_n 2, 1) := by decide +kernel
theorem dX5_layFrom_10 : decode cX5_layFrom 10 = .ok (.invokevirtual 89, 3) := by decide +kernel
theorem dX5_layFrom_13 : decode cX5_layFrom 13 = .ok (.return_, 1) := by decide +kernel
theorem dX5_layFrom_14 : decode cX5_layFrom 14 = .ok (.iconst 0, 1) := by decide +kernel
theorem dX5_layFrom_15 : decode cX5_layFrom 15 = .ok (.istore 4, 2) := by decide +kernel
theorem dX5_layFrom_17 : decode cX5_layFrom 17 = .ok (.iload 4, 2) := by decide +kernel
theorem dX5_layFrom_19 : decode cX5_layFrom 19 = .ok (.bipush 12, 2) := by decide +kernel
theorem dX5_layFrom_21 : decode cX5_layFrom 21 = .ok (.if_icmp .ge 91, 3) := by decide +kernel
theorem dX5_layFrom_24 : decode cX5_layFrom 24 = .ok (.iload_n 3, 1) := by decide +kernel
theorem dX5_layFrom_25 : decode cX5_layFrom 25 = .ok (.iload 4, 2) := by decide +kernel
theorem dX5_layFrom_27 : decode cX5_layFrom 27 = .ok (.ishr, 1) := by decide +kernel
theorem dX5_layFrom_28 : decode cX5_layFrom 28 = .ok (.iconst 1, 1) := by decide +kernel
theorem dX5_layFrom_29 : decode cX5_layFrom 29 = .ok (.iand, 1) := by decide +kernel
theorem dX5_layFrom_30 : decode cX5_layFrom 30 = .ok (.iconst 1, 1) := by decide +kernel
theorem dX5_layFrom_31 : decode cX5_layFrom 31 = .ok (.if_icmp .ne 75, 3) := by decide +kernel
theorem dX5_layFrom_34 : decode cX5_layFrom 34 = .ok (.aload_n 0, 1) := by decide +kernel
theorem dX5_layFrom_35 : decode cX5_layFrom 35 = .ok (.getfield 22, 3) := by decide +kernel
theorem dX5_layFrom_38 : decode cX5_layFrom 38 = .ok (.iload_n 1, 1) := by decide +kernel
theorem dX5_layFrom_39 : decode cX5_layFrom 39 = .ok (.iload 4, 2) := by decide +kernel
theorem dX5_layFrom_41 : decode cX5_layFrom 41 = .ok (.iastore, 1) := by decide +kernel
theorem dX5_layFrom_42 : decode cX5_layFrom 42 = .ok (.iload_n 2, 1) := by decide +kernel
theorem dX5_layFrom_43 : decode cX5_layFrom 43 = .ok (.aload_n 0, 1) := by decide +kernel
theorem dX5_layFrom_44 : decode cX5_layFrom 44 = .ok (.getfield 33, 3) := by decide +kernel
theorem dX5_layFrom_47 : decode cX5_layFrom 47 = .ok (.iload_n 1, 1) := by decide +kernel
theorem dX5_layFrom_48 : decode cX5_layFrom 48 = .ok (.aaload, 1) := by decide +kernel
theorem dX5_layFrom_49 : decode cX5_layFrom 49 = .ok (.iload_n 1, 1) := by decide +kernel
theorem dX5_layFrom_50 : decode cX5_layFrom 50 = .ok (.bipush 12, 2) := by decide +kernel
theorem dX5_layFrom_52 : decode cX5_layFrom 52 = .ok (.imul, 1) := by decide +kernel
theorem dX5_layFrom_53 : decode cX5_layFrom 53 = .ok (.iload 4, 2) := by decide +kernel
theorem dX5_layFrom_55 : decode cX5_layFrom 55 = .ok (.iadd, 1) := by decide +kernel
theorem dX5_layFrom_56 : decode cX5_layFrom 56 = .ok (.iaload, 1) := by decide +kernel
theorem dX5_layFrom_57 : decode cX5_layFrom 57 = .ok (.iadd, 1) := by decide +kernel
theorem dX5_layFrom_58 : decode cX5_layFrom 58 = .ok (.istore 5, 2) := by decide +kernel
theorem dX5_layFrom_60 : decode cX5_layFrom 60 = .ok (.iload_n 3, 1) := by decide +kernel
theorem dX5_layFrom_61 : decode cX5_layFrom 61 = .ok (.aload_n 0, 1) := by decide +kernel
theorem dX5_layFrom_62 : decode cX5_layFrom 62 = .ok (.getfield 39, 3) := by decide +kernel
theorem dX5_layFrom_65 : decode cX5_layFrom 65 = .ok (.aload_n 0, 1) := by decide +kernel
theorem dX5_layFrom_66 : decode cX5_layFrom 66 = .ok (.getfield 46, 3) := by decide +kernel
theorem dX5_layFrom_69 : decode cX5_layFrom 69 = .ok (.aaload, 1) := by decide +kernel
theorem dX5_layFrom_70 : decode cX5_layFrom 70 = .ok (.iload 4, 2) := by decide +kernel
theorem dX5_layFrom_72 : decode cX5_layFrom 72 = .ok (.iaload, 1) := by decide +kernel
theorem dX5_layFrom_73 : decode cX5_layFrom 73 = .ok (.iconst (-1), 1) := by decide +kernel
theorem dX5_layFrom_74 : decode cX5_layFrom 74 = .ok (.ixor, 1) := by decide +kernel
theorem dX5_layFrom_75 : decode cX5_layFrom 75 = .ok (.iand, 1) := by decide +kernel
theorem dX5_layFrom_76 : decode cX5_layFrom 76 = .ok (.istore 6, 2) := by decide +kernel
theorem dX5_layFrom_78 : decode cX5_layFrom 78 = .ok (.iload 5, 2) := by decide +kernel
theorem dX5_layFrom_80 : decode cX5_layFrom 80 = .ok (.aload_n 0, 1) := by decide +kernel
theorem dX5_layFrom_81 : decode cX5_layFrom 81 = .ok (.iload_n 1, 1) := by decide +kernel
theorem dX5_layFrom_82 : decode cX5_layFrom 82 = .ok (.iload 6, 2) := by decide +kernel
theorem dX5_layFrom_84 : decode cX5_layFrom 84 = .ok (.invokevirtual 92, 3) := by decide +kernel
theorem dX5_layFrom_87 : decode cX5_layFrom 87 = .ok (.iadd, 1) := by decide +kernel
theorem dX5_layFrom_88 : decode cX5_layFrom 88 = .ok (.aload_n 0, 1) := by decide +kernel
theorem dX5_layFrom_89 : decode cX5_layFrom 89 = .ok (.getfield 50, 3) := by decide +kernel
theorem dX5_layFrom_92 : decode cX5_layFrom 92 = .ok (.if_icmp .ge 14, 3) := by decide +kernel
theorem dX5_layFrom_95 : decode cX5_layFrom 95 = .ok (.aload_n 0, 1) := by decide +kernel
theorem dX5_layFrom_96 : decode cX5_layFrom 96 = .ok (.iload_n 1, 1) := by decide +kernel
theorem dX5_layFrom_97 : decode cX5_layFrom 97 = .ok (.iconst 1, 1) := by decide +kernel
theorem dX5_layFrom_98 : decode cX5_layFrom 98 = .ok (.iadd, 1) := by decide +kernel
theorem dX5_layFrom_99 : decode cX5_layFrom 99 = .ok (.iload 5, 2) := by decide +kernel
theorem dX5_layFrom_101 : decode cX5_layFrom 101 = .ok (.iload 6, 2) := by decide +kernel
theorem dX5_layFrom_103 : decode cX5_layFrom 103 = .ok (.invokevirtual 76, 3) := by decide +kernel
theorem dX5_layFrom_106 : decode cX5_layFrom 106 = .ok (.iinc 4 1, 3) := by decide +kernel
theorem dX5_layFrom_109 : decode cX5_layFrom 109 = .ok (.goto (-92), 3) := by decide +kernel
theorem dX5_layFrom_112 : decode cX5_layFrom 112 = .ok (.return_, 1) := by decide +kernel
theorem dX5_leastRest_0 : decode cX5_leastRest 0 = .ok (.aload_n 0, 1) := by decide +kernel
theorem dX5_leastRest_1 : decode cX5_leastRest 1 = .ok (.getfield 30, 3) := by decide +kernel
theorem dX5_leastRest_4 : decode cX5_leastRest 4 = .ok (.iload_n 1, 1) := by decide +kernel
theorem dX5_leastRest_5 : decode cX5_leastRest 5 = .ok (.iconst 1, 1) := by decide +kernel
theorem dX5_leastRest_6 : decode cX5_leastRest 6 = .ok (.iadd, 1) := by decide +kernel
theorem dX5_leastRest_7 : decode cX5_leastRest 7 = .ok (.iaload, 1) := by decide +kernel
theorem dX5_leastRest_8 : decode cX5_leastRest 8 = .ok (.istore_n 3, 1) := by decide +kernel
theorem dX5_leastRest_9 : decode cX5_leastRest 9 = .ok (.iload_n 1, 1) := by decide +kernel
theorem dX5_leastRest_10 : decode cX5_leastRest 10 = .ok (.iconst 1, 1) := by decide +kernel
theorem dX5_leastRest_11 : decode cX5_leastRest 11 = .ok (.iadd, 1) := by decide +kernel
theorem dX5_leastRest_12 : decode cX5_leastRest 12 = .ok (.istore 4, 2) := by decide +kernel
theorem dX5_leastRest_14 : decode cX5_leastRest 14 = .ok (.iload 4, 2) := by decide +kernel
theorem dX5_leastRest_16 : decode cX5_leastRest 16 = .ok (.aload_n 0, 1) := by decide +kernel
theorem dX5_leastRest_17 : decode cX5_leastRest 17 = .ok (.getfield 42, 3) := by decide +kernel
theorem dX5_leastRest_20 : decode cX5_leastRest 20 = .ok (.if_icmp .ge 20, 3) := by decide +kernel
theorem dX5_leastRest_23 : decode cX5_leastRest 23 = .ok (.iload_n 3, 1) := by decide +kernel
theorem dX5_leastRest_24 : decode cX5_leastRest 24 = .ok (.aload_n 0, 1) := by decide +kernel
theorem dX5_leastRest_25 : decode cX5_leastRest 25 = .ok (.iload_n 1, 1) := by decide +kernel
theorem dX5_leastRest_26 : decode cX5_leastRest 26 = .ok (.iload 4, 2) := by decide +kernel
theorem dX5_leastRest_28 : decode cX5_leastRest 28 = .ok (.iload_n 2, 1) := by decide +kernel
theorem dX5_leastRest_29 : decode cX5_leastRest 29 = .ok (.invokevirtual 95, 3) := by decide +kernel
theorem dX5_leastRest_32 : decode cX5_leastRest 32 = .ok (.iadd, 1) := by decide +kernel
theorem dX5_leastRest_33 : decode cX5_leastRest 33 = .ok (.istore_n 3, 1) := by decide +kernel
theorem dX5_leastRest_34 : decode cX5_leastRest 34 = .ok (.iinc 4 1, 3) := by decide +kernel
theorem dX5_leastRest_37 : decode cX5_leastRest 37 = .ok (.goto (-23), 3) := by decide +kernel
theorem dX5_leastRest_40 : decode cX5_leastRest 40 = .ok (.iload_n 3, 1) := by decide +kernel
theorem dX5_leastRest_41 : decode cX5_leastRest 41 = .ok (.ireturn, 1) := by decide +kernel
theorem dX5_leastDue_0 : decode cX5_leastDue 0 = .ok (.aload_n 0, 1) := by decide +kernel
theorem dX5_leastDue_1 : decode cX5_leastDue 1 = .ok (.getfield 36, 3) := by decide +kernel
theorem dX5_leastDue_4 : decode cX5_leastDue 4 = .ok (.aload_n 0, 1) := by decide +kernel
theorem dX5_leastDue_5 : decode cX5_leastDue 5 = .ok (.getfield 22, 3) := by decide +kernel
theorem dX5_leastDue_8 : decode cX5_leastDue 8 = .ok (.iload_n 1, 1) := by decide +kernel
theorem dX5_leastDue_9 : decode cX5_leastDue 9 = .ok (.iaload, 1) := by decide +kernel
theorem dX5_leastDue_10 : decode cX5_leastDue 10 = .ok (.aaload, 1) := by decide +kernel
theorem dX5_leastDue_11 : decode cX5_leastDue 11 = .ok (.astore 4, 2) := by decide +kernel
theorem dX5_leastDue_13 : decode cX5_leastDue 13 = .ok (.ldc 49, 2) := by decide +kernel
theorem dX5_leastDue_15 : decode cX5_leastDue 15 = .ok (.istore 5, 2) := by decide +kernel
theorem dX5_leastDue_17 : decode cX5_leastDue 17 = .ok (.iconst 0, 1) := by decide +kernel
theorem dX5_leastDue_18 : decode cX5_leastDue 18 = .ok (.istore 6, 2) := by decide +kernel
theorem dX5_leastDue_20 : decode cX5_leastDue 20 = .ok (.iload 6, 2) := by decide +kernel
theorem dX5_leastDue_22 : decode cX5_leastDue 22 = .ok (.bipush 12, 2) := by decide +kernel
theorem dX5_leastDue_24 : decode cX5_leastDue 24 = .ok (.if_icmp .ge 77, 3) := by decide +kernel
theorem dX5_leastDue_27 : decode cX5_leastDue 27 = .ok (.iload_n 3, 1) := by decide +kernel
theorem dX5_leastDue_28 : decode cX5_leastDue 28 = .ok (.iload 6, 2) := by decide +kernel
theorem dX5_leastDue_30 : decode cX5_leastDue 30 = .ok (.ishr, 1) := by decide +kernel
theorem dX5_leastDue_31 : decode cX5_leastDue 31 = .ok (.iconst 1, 1) := by decide +kernel
theorem dX5_leastDue_32 : decode cX5_leastDue 32 = .ok (.iand, 1) := by decide +kernel
theorem dX5_leastDue_33 : decode cX5_leastDue 33 = .ok (.iconst 1, 1) := by decide +kernel
theorem dX5_leastDue_34 : decode cX5_leastDue 34 = .ok (.if_icmp .ne 61, 3) := by decide +kernel
theorem dX5_leastDue_37 : decode cX5_leastDue 37 = .ok (.aload_n 0, 1) := by decide +kernel
theorem dX5_leastDue_38 : decode cX5_leastDue 38 = .ok (.getfield 33, 3) := by decide +kernel
theorem dX5_leastDue_41 : decode cX5_leastDue 41 = .ok (.iload_n 1, 1) := by decide +kernel
theorem dX5_leastDue_42 : decode cX5_leastDue 42 = .ok (.aaload, 1) := by decide +kernel
theorem dX5_leastDue_43 : decode cX5_leastDue 43 = .ok (.iload_n 2, 1) := by decide +kernel
theorem dX5_leastDue_44 : decode cX5_leastDue 44 = .ok (.bipush 12, 2) := by decide +kernel
theorem dX5_leastDue_46 : decode cX5_leastDue 46 = .ok (.imul, 1) := by decide +kernel
theorem dX5_leastDue_47 : decode cX5_leastDue 47 = .ok (.iload 6, 2) := by decide +kernel
theorem dX5_leastDue_49 : decode cX5_leastDue 49 = .ok (.iadd, 1) := by decide +kernel
theorem dX5_leastDue_50 : decode cX5_leastDue 50 = .ok (.iaload, 1) := by decide +kernel
theorem dX5_leastDue_51 : decode cX5_leastDue 51 = .ok (.aload_n 0, 1) := by decide +kernel
theorem dX5_leastDue_52 : decode cX5_leastDue 52 = .ok (.getfield 27, 3) := by decide +kernel
theorem dX5_leastDue_55 : decode cX5_leastDue 55 = .ok (.iload_n 1, 1) := by decide +kernel
theorem dX5_leastDue_56 : decode cX5_leastDue 56 = .ok (.aaload, 1) := by decide +kernel
theorem dX5_leastDue_57 : decode cX5_leastDue 57 = .ok (.iload_n 2, 1) := by decide +kernel
theorem dX5_leastDue_58 : decode cX5_leastDue 58 = .ok (.iaload, 1) := by decide +kernel
theorem dX5_leastDue_59 : decode cX5_leastDue 59 = .ok (.aload 4, 2) := by decide +kernel
theorem dX5_leastDue_61 : decode cX5_leastDue 61 = .ok (.iload 6, 2) := by decide +kernel
theorem dX5_leastDue_63 : decode cX5_leastDue 63 = .ok (.iaload, 1) := by decide +kernel
theorem dX5_leastDue_64 : decode cX5_leastDue 64 = .ok (.imul, 1) := by decide +kernel
theorem dX5_leastDue_65 : decode cX5_leastDue 65 = .ok (.iadd, 1) := by decide +kernel
theorem dX5_leastDue_66 : decode cX5_leastDue 66 = .ok (.istore 7, 2) := by decide +kernel
theorem dX5_leastDue_68 : decode cX5_leastDue 68 = .ok (.aload_n 0, 1) := by decide +kernel
theorem dX5_leastDue_69 : decode cX5_leastDue 69 = .ok (.getfield 33, 3) := by decide +kernel
theorem dX5_leastDue_72 : decode cX5_leastDue 72 = .ok (.iload_n 1, 1) := by decide +kernel
theorem dX5_leastDue_73 : decode cX5_leastDue 73 = .ok (.iconst 1, 1) := by decide +kernel
theorem dX5_leastDue_74 : decode cX5_leastDue 74 = .ok (.iadd, 1) := by decide +kernel
theorem dX5_leastDue_75 : decode cX5_leastDue 75 = .ok (.aaload, 1) := by decide +kernel
theorem dX5_leastDue_76 : decode cX5_leastDue 76 = .ok (.iload_n 2, 1) := by decide +kernel
theorem dX5_leastDue_77 : decode cX5_leastDue 77 = .ok (.bipush 12, 2) := by decide +kernel
theorem dX5_leastDue_79 : decode cX5_leastDue 79 = .ok (.imul, 1) := by decide +kernel
theorem dX5_leastDue_80 : decode cX5_leastDue 80 = .ok (.iload 6, 2) := by decide +kernel
theorem dX5_leastDue_82 : decode cX5_leastDue 82 = .ok (.iadd, 1) := by decide +kernel
theorem dX5_leastDue_83 : decode cX5_leastDue 83 = .ok (.iload 7, 2) := by decide +kernel
theorem dX5_leastDue_85 : decode cX5_leastDue 85 = .ok (.iastore, 1) := by decide +kernel
theorem dX5_leastDue_86 : decode cX5_leastDue 86 = .ok (.iload 5, 2) := by decide +kernel
theorem dX5_leastDue_88 : decode cX5_leastDue 88 = .ok (.iload 7, 2) := by decide +kernel
theorem dX5_leastDue_90 : decode cX5_leastDue 90 = .ok (.invokestatic 99, 3) := by decide +kernel
theorem dX5_leastDue_93 : decode cX5_leastDue 93 = .ok (.istore 5, 2) := by decide +kernel
theorem dX5_leastDue_95 : decode cX5_leastDue 95 = .ok (.iinc 6 1, 3) := by decide +kernel
theorem dX5_leastDue_98 : decode cX5_leastDue 98 = .ok (.goto (-78), 3) := by decide +kernel
theorem dX5_leastDue_101 : decode cX5_leastDue 101 = .ok (.iload 5, 2) := by decide +kernel
theorem dX5_leastDue_103 : decode cX5_leastDue 103 = .ok (.ireturn, 1) := by decide +kernel
theorem dX5_keepAsBest_0 : decode cX5_keepAsBest 0 = .ok (.aload_n 0, 1) := by decide +kernel
theorem dX5_keepAsBest_1 : decode cX5_keepAsBest 1 = .ok (.iload_n 1, 1) := by decide +kernel
theorem dX5_keepAsBest_2 : decode cX5_keepAsBest 2 = .ok (.putfield 50, 3) := by decide +kernel
theorem dX5_keepAsBest_5 : decode cX5_keepAsBest 5 = .ok (.iconst 0, 1) := by decide +kernel
theorem dX5_keepAsBest_6 : decode cX5_keepAsBest 6 = .ok (.istore_n 2, 1) := by decide +kernel
theorem dX5_keepAsBest_7 : decode cX5_keepAsBest 7 = .ok (.iload_n 2, 1) := by decide +kernel
theorem dX5_keepAsBest_8 : decode cX5_keepAsBest 8 = .ok (.aload_n 0, 1) := by decide +kernel
theorem dX5_keepAsBest_9 : decode cX5_keepAsBest 9 = .ok (.getfield 42, 3) := by decide +kernel
theorem dX5_keepAsBest_12 : decode cX5_keepAsBest 12 = .ok (.if_icmp .ge 28, 3) := by decide +kernel
theorem dX5_keepAsBest_15 : decode cX5_keepAsBest 15 = .ok (.aload_n 0, 1) := by decide +kernel
theorem dX5_keepAsBest_16 : decode cX5_keepAsBest 16 = .ok (.getfield 12, 3) := by decide +kernel
theorem dX5_keepAsBest_19 : decode cX5_keepAsBest 19 = .ok (.aload_n 0, 1) := by decide +kernel
theorem dX5_keepAsBest_20 : decode cX5_keepAsBest 20 = .ok (.getfield 18, 3) := by decide +kernel
theorem dX5_keepAsBest_23 : decode cX5_keepAsBest 23 = .ok (.iload_n 2, 1) := by decide +kernel
theorem dX5_keepAsBest_24 : decode cX5_keepAsBest 24 = .ok (.iaload, 1) := by decide +kernel
theorem dX5_keepAsBest_25 : decode cX5_keepAsBest 25 = .ok (.aload_n 0, 1) := by decide +kernel
theorem dX5_keepAsBest_26 : decode cX5_keepAsBest 26 = .ok (.getfield 22, 3) := by decide +kernel
theorem dX5_keepAsBest_29 : decode cX5_keepAsBest 29 = .ok (.iload_n 2, 1) := by decide +kernel
theorem dX5_keepAsBest_30 : decode cX5_keepAsBest 30 = .ok (.iaload, 1) := by decide +kernel
theorem dX5_keepAsBest_31 : decode cX5_keepAsBest 31 = .ok (.invokevirtual 104, 3) := by decide +kernel
theorem dX5_keepAsBest_34 : decode cX5_keepAsBest 34 = .ok (.iinc 2 1, 3) := by decide +kernel
theorem dX5_keepAsBest_37 : decode cX5_keepAsBest 37 = .ok (.goto (-30), 3) := by decide +kernel
theorem dX5_keepAsBest_40 : decode cX5_keepAsBest 40 = .ok (.return_, 1) := by decide +kernel
theorem dX6_init_0 : decode cX6_init 0 = .ok (.aload_n 0, 1) := by decide +kernel
theorem dX6_init_1 : decode cX6_init 1 = .ok (.invokespecial 1, 3) := by decide +kernel
theorem dX6_init_4 : decode cX6_init 4 = .ok (.aload_n 0, 1) := by decide +kernel
theorem dX6_init_5 : decode cX6_init 5 = .ok (.iload_n 1, 1) := by decide +kernel
theorem dX6_init_6 : decode cX6_init 6 = .ok (.putfield 7, 3) := by decide +kernel
theorem dX6_init_9 : decode cX6_init 9 = .ok (.aload_n 0, 1) := by decide +kernel
theorem dX6_init_10 : decode cX6_init 10 = .ok (.iconst 0, 1) := by decide +kernel
theorem dX6_init_11 : decode cX6_init 11 = .ok (.iload_n 2, 1) := by decide +kernel
theorem dX6_init_12 : decode cX6_init 12 = .ok (.invokestatic 13, 3) := by decide +kernel
theorem dX6_init_15 : decode cX6_init 15 = .ok (.newarray .int, 2) := by decide +kernel
theorem dX6_init_17 : decode cX6_init 17 = .ok (.putfield 19, 3) := by decide +kernel
theorem dX6_init_20 : decode cX6_init 20 = .ok (.return_, 1) := by decide +kernel
theorem dX6_hasCells_0 : decode cX6_hasCells 0 = .ok (.iload_n 1, 1) := by decide +kernel
theorem dX6_hasCells_1 : decode cX6_hasCells 1 = .ok (.ifCond .lt 31, 3) := by decide +kernel
theorem dX6_hasCells_4 : decode cX6_hasCells 4 = .ok (.iload_n 1, 1) := by decide +kernel
theorem dX6_hasCells_5 : decode cX6_hasCells 5 = .ok (.aload_n 0, 1) := by decide +kernel
theorem dX6_hasCells_6 : decode cX6_hasCells 6 = .ok (.getfield 19, 3) := by decide +kernel
theorem dX6_hasCells_9 : decode cX6_hasCells 9 = .ok (.arraylength, 1) := by decide +kernel
theorem dX6_hasCells_10 : decode cX6_hasCells 10 = .ok (.if_icmp .gt 22, 3) := by decide +kernel
theorem dX6_hasCells_13 : decode cX6_hasCells 13 = .ok (.iload_n 2, 1) := by decide +kernel
theorem dX6_hasCells_14 : decode cX6_hasCells 14 = .ok (.ifCond .lt 18, 3) := by decide +kernel
theorem dX6_hasCells_17 : decode cX6_hasCells 17 = .ok (.iload_n 2, 1) := by decide +kernel
theorem dX6_hasCells_18 : decode cX6_hasCells 18 = .ok (.aload_n 0, 1) := by decide +kernel
theorem dX6_hasCells_19 : decode cX6_hasCells 19 = .ok (.getfield 19, 3) := by decide +kernel
theorem dX6_hasCells_22 : decode cX6_hasCells 22 = .ok (.arraylength, 1) := by decide +kernel
theorem dX6_hasCells_23 : decode cX6_hasCells 23 = .ok (.iload_n 1, 1) := by decide +kernel
theorem dX6_hasCells_24 : decode cX6_hasCells 24 = .ok (.isub, 1) := by decide +kernel
theorem dX6_hasCells_25 : decode cX6_hasCells 25 = .ok (.if_icmp .gt 7, 3) := by decide +kernel
theorem dX6_hasCells_28 : decode cX6_hasCells 28 = .ok (.iconst 1, 1) := by decide +kernel
theorem dX6_hasCells_29 : decode cX6_hasCells 29 = .ok (.goto 4, 3) := by decide +kernel
theorem dX6_hasCells_32 : decode cX6_hasCells 32 = .ok (.iconst 0, 1) := by decide +kernel
theorem dX6_hasCells_33 : decode cX6_hasCells 33 = .ok (.ireturn, 1) := by decide +kernel
theorem dX7_init_0 : decode cX7_init 0 = .ok (.aload_n 0, 1) := by decide +kernel
theorem dX7_init_1 : decode cX7_init 1 = .ok (.invokespecial 3, 3) := by decide +kernel
theorem dX7_init_4 : decode cX7_init 4 = .ok (.aload_n 0, 1) := by decide +kernel
theorem dX7_init_5 : decode cX7_init 5 = .ok (.new 9, 3) := by decide +kernel
theorem dX7_init_8 : decode cX7_init 8 = .ok (.dup, 1) := by decide +kernel
theorem dX7_init_9 : decode cX7_init 9 = .ok (.invokespecial 11, 3) := by decide +kernel
theorem dX7_init_12 : decode cX7_init 12 = .ok (.putfield 12, 3) := by decide +kernel
theorem dX7_init_15 : decode cX7_init 15 = .ok (.aload_n 0, 1) := by decide +kernel
theorem dX7_init_16 : decode cX7_init 16 = .ok (.new 18, 3) := by decide +kernel
theorem dX7_init_19 : decode cX7_init 19 = .ok (.dup, 1) := by decide +kernel
theorem dX7_init_20 : decode cX7_init 20 = .ok (.invokespecial 20, 3) := by decide +kernel
theorem dX7_init_23 : decode cX7_init 23 = .ok (.putfield 21, 3) := by decide +kernel
theorem dX7_init_26 : decode cX7_init 26 = .ok (.aload_n 0, 1) := by decide +kernel
theorem dX7_init_27 : decode cX7_init 27 = .ok (.iconst 4, 1) := by decide +kernel
theorem dX7_init_28 : decode cX7_init 28 = .ok (.anewarray 25, 3) := by decide +kernel
theorem dX7_init_31 : decode cX7_init 31 = .ok (.putfield 27, 3) := by decide +kernel
theorem dX7_init_34 : decode cX7_init 34 = .ok (.aload_n 0, 1) := by decide +kernel
theorem dX7_init_35 : decode cX7_init 35 = .ok (.iconst 0, 1) := by decide +kernel
theorem dX7_init_36 : decode cX7_init 36 = .ok (.putfield 31, 3) := by decide +kernel
theorem dX7_init_39 : decode cX7_init 39 = .ok (.aload_n 0, 1) := by decide +kernel
theorem dX7_init_40 : decode cX7_init 40 = .ok (.new 35, 3) := by decide +kernel
theorem dX7_init_43 : decode cX7_init 43 = .ok (.dup, 1) := by decide +kernel
theorem dX7_init_44 : decode cX7_init 44 = .ok (.invokespecial 37, 3) := by decide +kernel
theorem dX7_init_47 : decode cX7_init 47 = .ok (.putfield 38, 3) := by decide +kernel
theorem dX7_init_50 : decode cX7_init 50 = .ok (.aload_n 0, 1) := by decide +kernel
theorem dX7_init_51 : decode cX7_init 51 = .ok (.new 42, 3) := by decide +kernel
theorem dX7_init_54 : decode cX7_init 54 = .ok (.dup, 1) := by decide +kernel
theorem dX7_init_55 : decode cX7_init 55 = .ok (.invokespecial 44, 3) := by decide +kernel
theorem dX7_init_58 : decode cX7_init 58 = .ok (.putfield 45, 3) := by decide +kernel
theorem dX7_init_61 : decode cX7_init 61 = .ok (.aload_n 0, 1) := by decide +kernel
theorem dX7_init_62 : decode cX7_init 62 = .ok (.iconst 2, 1) := by decide +kernel
theorem dX7_init_63 : decode cX7_init 63 = .ok (.newarray .int, 2) := by decide +kernel
theorem dX7_init_65 : decode cX7_init 65 = .ok (.putfield 49, 3) := by decide +kernel
theorem dX7_init_68 : decode cX7_init 68 = .ok (.aload_n 0, 1) := by decide +kernel
theorem dX7_init_69 : decode cX7_init 69 = .ok (.iconst 4, 1) := by decide +kernel
theorem dX7_init_70 : decode cX7_init 70 = .ok (.anewarray 53, 3) := by decide +kernel
theorem dX7_init_73 : decode cX7_init 73 = .ok (.putfield 55, 3) := by decide +kernel
theorem dX7_init_76 : decode cX7_init 76 = .ok (.aload_n 0, 1) := by decide +kernel
theorem dX7_init_77 : decode cX7_init 77 = .ok (.iconst 0, 1) := by decide +kernel
theorem dX7_init_78 : decode cX7_init 78 = .ok (.putfield 59, 3) := by decide +kernel
theorem dX7_init_81 : decode cX7_init 81 = .ok (.aload_n 0, 1) := by decide +kernel
theorem dX7_init_82 : decode cX7_init 82 = .ok (.iconst 0, 1) := by decide +kernel
theorem dX7_init_83 : decode cX7_init 83 = .ok (.putfield 62, 3) := by decide +kernel
theorem dX7_init_86 : decode cX7_init 86 = .ok (.aload_n 0, 1) := by decide +kernel
theorem dX7_init_87 : decode cX7_init 87 = .ok (.getfield 49, 3) := by decide +kernel
theorem dX7_init_90 : decode cX7_init 90 = .ok (.iconst 0, 1) := by decide +kernel
theorem dX7_init_91 : decode cX7_init 91 = .ok (.iconst 5, 1) := by decide +kernel
theorem dX7_init_92 : decode cX7_init 92 = .ok (.iastore, 1) := by decide +kernel
theorem dX7_init_93 : decode cX7_init 93 = .ok (.aload_n 0, 1) := by decide +kernel
theorem dX7_init_94 : decode cX7_init 94 = .ok (.getfield 49, 3) := by decide +kernel
theorem dX7_init_97 : decode cX7_init 97 = .ok (.iconst 1, 1) := by decide +kernel
theorem dX7_init_98 : decode cX7_init 98 = .ok (.bipush 10, 2) := by decide +kernel
theorem dX7_init_100 : decode cX7_init 100 = .ok (.iastore, 1) := by decide +kernel
theorem dX7_init_101 : decode cX7_init 101 = .ok (.iconst 0, 1) := by decide +kernel
theorem dX7_init_102 : decode cX7_init 102 = .ok (.istore_n 1, 1) := by decide +kernel
theorem dX7_init_103 : decode cX7_init 103 = .ok (.iload_n 1, 1) := by decide +kernel
theorem dX7_init_104 : decode cX7_init 104 = .ok (.iconst 4, 1) := by decide +kernel
theorem dX7_init_105 : decode cX7_init 105 = .ok (.if_icmp .ge 22, 3) := by decide +kernel
theorem dX7_init_108 : decode cX7_init 108 = .ok (.aload_n 0, 1) := by decide +kernel
theorem dX7_init_109 : decode cX7_init 109 = .ok (.getfield 27, 3) := by decide +kernel
theorem dX7_init_112 : decode cX7_init 112 = .ok (.iload_n 1, 1) := by decide +kernel
theorem dX7_init_113 : decode cX7_init 113 = .ok (.new 25, 3) := by decide +kernel
theorem dX7_init_116 : decode cX7_init 116 = .ok (.dup, 1) := by decide +kernel
theorem dX7_init_117 : decode cX7_init 117 = .ok (.invokespecial 65, 3) := by decide +kernel
theorem dX7_init_120 : decode cX7_init 120 = .ok (.aastore, 1) := by decide +kernel
theorem dX7_init_121 : decode cX7_init 121 = .ok (.iinc 1 1, 3) := by decide +kernel
theorem dX7_init_124 : decode cX7_init 124 = .ok (.goto (-21), 3) := by decide +kernel
theorem dX7_init_127 : decode cX7_init 127 = .ok (.return_, 1) := by decide +kernel
theorem dX7_text_0 : decode cX7_text 0 = .ok (.aload_n 0, 1) := by decide +kernel
theorem dX7_text_1 : decode cX7_text 1 = .ok (.iconst 0, 1) := by decide +kernel
theorem dX7_text_2 : decode cX7_text 2 = .ok (.putfield 62, 3) := by decide +kernel
theorem dX7_text_5 : decode cX7_text 5 = .ok (.iload_n 1, 1) := by decide +kernel
theorem dX7_text_6 : decode cX7_text 6 = .ok (.iconst 0, 1) := by decide +kernel
theorem dX7_text_7 : decode cX7_text 7 = .ok (.iconst 3, 1) := by decide +kernel
theorem dX7_text_8 : decode cX7_text 8 = .ok (.invokestatic 66, 3) := by decide +kernel
theorem dX7_text_11 : decode cX7_text 11 = .ok (.ifCond .ne 5, 3) := by decide +kernel
theorem dX7_text_14 : decode cX7_text 14 = .ok (.iconst (-1), 1) := by decide +kernel
theorem dX7_text_15 : decode cX7_text 15 = .ok (.ireturn, 1) := by decide +kernel
theorem dX7_text_16 : decode cX7_text 16 = .ok (.iload_n 2, 1) := by decide +kernel
theorem dX7_text_17 : decode cX7_text 17 = .ok (.iconst 0, 1) := by decide +kernel
theorem dX7_text_18 : decode cX7_text 18 = .ok (.iconst 2, 1) := by decide +kernel
theorem dX7_text_19 : decode cX7_text 19 = .ok (.invokestatic 66, 3) := by decide +kernel
theorem dX7_text_22 : decode cX7_text 22 = .ok (.ifCond .ne 6, 3) := by decide +kernel
theorem dX7_text_25 : decode cX7_text 25 = .ok (.bipush (-2), 2) := by decide +kernel
theorem dX7_text_27 : decode cX7_text 27 = .ok (.ireturn, 1) := by decide +kernel
theorem dX7_text_28 : decode cX7_text 28 = .ok (.aload_n 0, 1) := by decide +kernel
theorem dX7_text_29 : decode cX7_text 29 = .ok (.getfield 55, 3) := by decide +kernel
theorem dX7_text_32 : decode cX7_text 32 = .ok (.iload_n 1, 1) := by decide +kernel
theorem dX7_text_33 : decode cX7_text 33 = .ok (.aaload, 1) := by decide +kernel
theorem dX7_text_34 : decode cX7_text 34 = .ok (.astore 5, 2) := by decide +kernel
theorem dX7_text_36 : decode cX7_text 36 = .ok (.aload 5, 2) := by decide +kernel
theorem dX7_text_38 : decode cX7_text 38 = .ok (.ifnonnull 9, 3) := by decide +kernel
theorem dX7_text_41 : decode cX7_text 41 = .ok (.aload_n 0, 1) := by decide +kernel
theorem dX7_text_42 : decode cX7_text 42 = .ok (.iconst 1, 1) := by decide +kernel
theorem dX7_text_43 : decode cX7_text 43 = .ok (.invokevirtual 70, 3) := by decide +kernel
theorem dX7_text_46 : decode cX7_text 46 = .ok (.ireturn, 1) := by decide +kernel
theorem dX7_text_47 : decode cX7_text 47 = .ok (.aload 5, 2) := by decide +kernel
theorem dX7_text_49 : decode cX7_text 49 = .ok (.getfield 74, 3) := by decide +kernel
theorem dX7_text_52 : decode cX7_text 52 = .ok (.iload_n 2, 1) := by decide +kernel
theorem dX7_text_53 : decode cX7_text 53 = .ok (.if_icmp .eq 9, 3) := by decide +kernel
theorem dX7_text_56 : decode cX7_text 56 = .ok (.aload_n 0, 1) := by decide +kernel
theorem dX7_text_57 : decode cX7_text 57 = .ok (.iconst 2, 1) := by decide +kernel
theorem dX7_text_58 : decode cX7_text 58 = .ok (.invokevirtual 70, 3) := by decide +kernel
theorem dX7_text_61 : decode cX7_text 61 = .ok (.ireturn, 1) := by decide +kernel
theorem dX7_text_62 : decode cX7_text 62 = .ok (.iload 4, 2) := by decide +kernel
theorem dX7_text_64 : decode cX7_text 64 = .ok (.ifCond .ge 9, 3) := by decide +kernel
theorem dX7_text_67 : decode cX7_text 67 = .ok (.aload_n 0, 1) := by decide +kernel
theorem dX7_text_68 : decode cX7_text 68 = .ok (.iconst 4, 1) := by decide +kernel
theorem dX7_text_69 : decode cX7_text 69 = .ok (.invokevirtual 70, 3) := by decide +kernel
theorem dX7_text_72 : decode cX7_text 72 = .ok (.ireturn, 1) := by decide +kernel
theorem dX7_text_73 : decode cX7_text 73 = .ok (.aload 5, 2) := by decide +kernel
theorem dX7_text_75 : decode cX7_text 75 = .ok (.iload_n 3, 1) := by decide +kernel
theorem dX7_text_76 : decode cX7_text 76 = .ok (.iload 4, 2) := by decide +kernel
theorem dX7_text_78 : decode cX7_text 78 = .ok (.invokevirtual 77, 3) := by decide +kernel
theorem dX7_text_81 : decode cX7_text 81 = .ok (.ifCond .ne 9, 3) := by decide +kernel
theorem dX7_text_84 : decode cX7_text 84 = .ok (.aload_n 0, 1) := by decide +kernel
theorem dX7_text_85 : decode cX7_text 85 = .ok (.iconst 3, 1) := by decide +kernel
theorem dX7_text_86 : decode cX7_text 86 = .ok (.invokevirtual 70, 3) := by decide +kernel
theorem dX7_text_89 : decode cX7_text 89 = .ok (.ireturn, 1) := by decide +kernel
theorem dX7_text_90 : decode cX7_text 90 = .ok (.aload_n 0, 1) := by decide +kernel
theorem dX7_text_91 : decode cX7_text 91 = .ok (.getfield 21, 3) := by decide +kernel
theorem dX7_text_94 : decode cX7_text 94 = .ok (.aload 5, 2) := by decide +kernel
theorem dX7_text_96 : decode cX7_text 96 = .ok (.getfield 81, 3) := by decide +kernel
theorem dX7_text_99 : decode cX7_text 99 = .ok (.iload_n 3, 1) := by decide +kernel
theorem dX7_text_100 : decode cX7_text 100 = .ok (.iload 4, 2) := by decide +kernel
theorem dX7_text_102 : decode cX7_text 102 = .ok (.invokevirtual 84, 3) := by decide +kernel
theorem dX7_text_105 : decode cX7_text 105 = .ok (.istore 6, 2) := by decide +kernel
theorem dX7_text_107 : decode cX7_text 107 = .ok (.iload 6, 2) := by decide +kernel
theorem dX7_text_109 : decode cX7_text 109 = .ok (.bipush (-9), 2) := by decide +kernel
theorem dX7_text_111 : decode cX7_text 111 = .ok (.if_icmp .eq 9, 3) := by decide +kernel
theorem dX7_text_114 : decode cX7_text 114 = .ok (.bipush (-100), 2) := by decide +kernel
theorem dX7_text_116 : decode cX7_text 116 = .ok (.iload 6, 2) := by decide +kernel
theorem dX7_text_118 : decode cX7_text 118 = .ok (.isub, 1) := by decide +kernel
theorem dX7_text_119 : decode cX7_text 119 = .ok (.ireturn, 1) := by decide +kernel
theorem dX7_text_120 : decode cX7_text 120 = .ok (.aload_n 0, 1) := by decide +kernel
theorem dX7_text_121 : decode cX7_text 121 = .ok (.aload_n 0, 1) := by decide +kernel
theorem dX7_text_122 : decode cX7_text 122 = .ok (.getfield 21, 3) := by decide +kernel
theorem dX7_text_125 : decode cX7_text 125 = .ok (.getfield 88, 3) := by decide +kernel
theorem dX7_text_128 : decode cX7_text 128 = .ok (.invokevirtual 91, 3) := by decide +kernel
theorem dX7_text_131 : decode cX7_text 131 = .ok (.aload_n 0, 1) := by decide +kernel
theorem dX7_text_132 : decode cX7_text 132 = .ok (.getfield 12, 3) := by decide +kernel
theorem dX7_text_135 : decode cX7_text 135 = .ok (.getfield 95, 3) := by decide +kernel
theorem dX7_text_138 : decode cX7_text 138 = .ok (.ireturn, 1) := by decide +kernel
theorem dX7_part_0 : decode cX7_part 0 = .ok (.aload_n 0, 1) := by decide +kernel
theorem dX7_part_1 : decode cX7_part 1 = .ok (.getfield 12, 3) := by decide +kernel
theorem dX7_part_4 : decode cX7_part 4 = .ok (.iload_n 1, 1) := by decide +kernel
theorem dX7_part_5 : decode cX7_part 5 = .ok (.invokevirtual 98, 3) := by decide +kernel
theorem dX7_part_8 : decode cX7_part 8 = .ok (.ifCond .ne 5, 3) := by decide +kernel
theorem dX7_part_11 : decode cX7_part 11 = .ok (.iconst (-1), 1) := by decide +kernel
theorem dX7_part_12 : decode cX7_part 12 = .ok (.ireturn, 1) := by decide +kernel
theorem dX7_part_13 : decode cX7_part 13 = .ok (.iload_n 2, 1) := by decide +kernel
theorem dX7_part_14 : decode cX7_part 14 = .ok (.iconst 0, 1) := by decide +kernel
theorem dX7_part_15 : decode cX7_part 15 = .ok (.iconst 1, 1) := by decide +kernel
theorem dX7_part_16 : decode cX7_part 16 = .ok (.invokestatic 66, 3) := by decide +kernel
theorem dX7_part_19 : decode cX7_part 19 = .ok (.ifCond .ne 6, 3) := by decide +kernel
theorem dX7_part_22 : decode cX7_part 22 = .ok (.bipush (-2), 2) := by decide +kernel
theorem dX7_part_24 : decode cX7_part 24 = .ok (.ireturn, 1) := by decide +kernel
theorem dX7_part_25 : decode cX7_part 25 = .ok (.iload_n 2, 1) := by decide +kernel
theorem dX7_part_26 : decode cX7_part 26 = .ok (.ifCond .ne 15, 3) := by decide +kernel
theorem dX7_part_29 : decode cX7_part 29 = .ok (.aload_n 0, 1) := by decide +kernel
theorem dX7_part_30 : decode cX7_part 30 = .ok (.getfield 12, 3) := by decide +kernel
theorem dX7_part_33 : decode cX7_part 33 = .ok (.getfield 102, 3) := by decide +kernel
theorem dX7_part_36 : decode cX7_part 36 = .ok (.iload_n 1, 1) := by decide +kernel
theorem dX7_part_37 : decode cX7_part 37 = .ok (.iaload, 1) := by decide +kernel
theorem dX7_part_38 : decode cX7_part 38 = .ok (.goto 12, 3) := by decide +kernel
theorem dX7_part_41 : decode cX7_part 41 = .ok (.aload_n 0, 1) := by decide +kernel
theorem dX7_part_42 : decode cX7_part 42 = .ok (.getfield 12, 3) := by decide +kernel
theorem dX7_part_45 : decode cX7_part 45 = .ok (.getfield 105, 3) := by decide +kernel
theorem dX7_part_48 : decode cX7_part 48 = .ok (.iload_n 1, 1) := by decide +kernel
theorem dX7_part_49 : decode cX7_part 49 = .ok (.iaload, 1) := by decide +kernel
theorem dX7_part_50 : decode cX7_part 50 = .ok (.ireturn, 1) := by decide +kernel
theorem dX7_wish_0 : decode cX7_wish 0 = .ok (.aload_n 0, 1) := by decide +kernel
theorem dX7_wish_1 : decode cX7_wish 1 = .ok (.getfield 12, 3) := by decide +kernel
theorem dX7_wish_4 : decode cX7_wish 4 = .ok (.iload_n 1, 1) := by decide +kernel
theorem dX7_wish_5 : decode cX7_wish 5 = .ok (.invokevirtual 98, 3) := by decide +kernel
theorem dX7_wish_8 : decode cX7_wish 8 = .ok (.ifCond .ne 5, 3) := by decide +kernel
theorem dX7_wish_11 : decode cX7_wish 11 = .ok (.iconst (-1), 1) := by decide +kernel
theorem dX7_wish_12 : decode cX7_wish 12 = .ok (.ireturn, 1) := by decide +kernel
theorem dX7_wish_13 : decode cX7_wish 13 = .ok (.iload_n 2, 1) := by decide +kernel
theorem dX7_wish_14 : decode cX7_wish 14 = .ok (.iconst 0, 1) := by decide +kernel
theorem dX7_wish_15 : decode cX7_wish 15 = .ok (.sipush 999, 3) := by decide +kernel
theorem dX7_wish_18 : decode cX7_wish 18 = .ok (.invokestatic 66, 3) := by decide +kernel
theorem dX7_wish_21 : decode cX7_wish 21 = .ok (.ifCond .ne 6, 3) := by decide +kernel
theorem dX7_wish_24 : decode cX7_wish 24 = .ok (.bipush (-2), 2) := by decide +kernel
theorem dX7_wish_26 : decode cX7_wish 26 = .ok (.ireturn, 1) := by decide +kernel
theorem dX7_wish_27 : decode cX7_wish 27 = .ok (.aload_n 0, 1) := by decide +kernel
theorem dX7_wish_28 : decode cX7_wish 28 = .ok (.getfield 12, 3) := by decide +kernel
theorem dX7_wish_31 : decode cX7_wish 31 = .ok (.getfield 105, 3) := by decide +kernel
theorem dX7_wish_34 : decode cX7_wish 34 = .ok (.iload_n 1, 1) := by decide +kernel
theorem dX7_wish_35 : decode cX7_wish 35 = .ok (.iaload, 1) := by decide +kernel
theorem dX7_wish_36 : decode cX7_wish 36 = .ok (.istore_n 3, 1) := by decide +kernel
theorem dX7_wish_37 : decode cX7_wish 37 = .ok (.aload_n 0, 1) := by decide +kernel
theorem dX7_wish_38 : decode cX7_wish 38 = .ok (.getfield 12, 3) := by decide +kernel
theorem dX7_wish_41 : decode cX7_wish 41 = .ok (.getfield 105, 3) := by decide +kernel
theorem dX7_wish_44 : decode cX7_wish 44 = .ok (.iload_n 1, 1) := by decide +kernel
theorem dX7_wish_45 : decode cX7_wish 45 = .ok (.iload_n 2, 1) := by decide +kernel
theorem dX7_wish_46 : decode cX7_wish 46 = .ok (.iastore, 1) := by decide +kernel
theorem dX7_wish_47 : decode cX7_wish 47 = .ok (.iload_n 3, 1) := by decide +kernel
theorem dX7_wish_48 : decode cX7_wish 48 = .ok (.ireturn, 1) := by decide +kernel
theorem dX7_follows_0 : decode cX7_follows 0 = .ok (.aload_n 0, 1) := by decide +kernel
theorem dX7_follows_1 : decode cX7_follows 1 = .ok (.getfield 12, 3) := by decide +kernel
theorem dX7_follows_4 : decode cX7_follows 4 = .ok (.iload_n 1, 1) := by decide +kernel
theorem dX7_follows_5 : decode cX7_follows 5 = .ok (.invokevirtual 98, 3) := by decide +kernel
theorem dX7_follows_8 : decode cX7_follows 8 = .ok (.ifCond .eq 14, 3) := by decide +kernel
theorem dX7_follows_11 : decode cX7_follows 11 = .ok (.aload_n 0, 1) := by decide +kernel
theorem dX7_follows_12 : decode cX7_follows 12 = .ok (.getfield 12, 3) := by decide +kernel
theorem dX7_follows_15 : decode cX7_follows 15 = .ok (.iload_n 2, 1) := by decide +kernel
theorem dX7_follows_16 : decode cX7_follows 16 = .ok (.invokevirtual 98, 3) := by decide +kernel
theorem dX7_follows_19 : decode cX7_follows 19 = .ok (.ifCond .ne 5, 3) := by decide +kernel
theorem dX7_follows_22 : decode cX7_follows 22 = .ok (.iconst (-1), 1) := by decide +kernel
theorem dX7_follows_23 : decode cX7_follows 23 = .ok (.ireturn, 1) := by decide +kernel
theorem dX7_follows_24 : decode cX7_follows 24 = .ok (.iload_n 1, 1) := by decide +kernel
theorem dX7_follows_25 : decode cX7_follows 25 = .ok (.iload_n 2, 1) := by decide +kernel
theorem dX7_follows_26 : decode cX7_follows 26 = .ok (.if_icmp .ne 6, 3) := by decide +kernel
theorem dX7_follows_29 : decode cX7_follows 29 = .ok (.bipush (-2), 2) := by decide +kernel
theorem dX7_follows_31 : decode cX7_follows 31 = .ok (.ireturn, 1) := by decide +kernel
theorem dX7_follows_32 : decode cX7_follows 32 = .ok (.aload_n 0, 1) := by decide +kernel
theorem dX7_follows_33 : decode cX7_follows 33 = .ok (.getfield 12, 3) := by decide +kernel
theorem dX7_follows_36 : decode cX7_follows 36 = .ok (.getfield 108, 3) := by decide +kernel
theorem dX7_follows_39 : decode cX7_follows 39 = .ok (.iload_n 1, 1) := by decide +kernel
theorem dX7_follows_40 : decode cX7_follows 40 = .ok (.aaload, 1) := by decide +kernel
theorem dX7_follows_41 : decode cX7_follows 41 = .ok (.iload_n 2, 1) := by decide +kernel
theorem dX7_follows_42 : decode cX7_follows 42 = .ok (.iaload, 1) := by decide +kernel
theorem dX7_follows_43 : decode cX7_follows 43 = .ok (.ireturn, 1) := by decide +kernel
theorem dX7_follow_0 : decode cX7_follow 0 = .ok (.aload_n 0, 1) := by decide +kernel
theorem dX7_follow_1 : decode cX7_follow 1 = .ok (.getfield 12, 3) := by decide +kernel
theorem dX7_follow_4 : decode cX7_follow 4 = .ok (.iload_n 1, 1) := by decide +kernel
theorem dX7_follow_5 : decode cX7_follow 5 = .ok (.invokevirtual 98, 3) := by decide +kernel
theorem dX7_follow_8 : decode cX7_follow 8 = .ok (.ifCond .eq 14, 3) := by decide +kernel
theorem dX7_follow_11 : decode cX7_follow 11 = .ok (.aload_n 0, 1) := by decide +kernel
theorem dX7_follow_12 : decode cX7_follow 12 = .ok (.getfield 12, 3) := by decide +kernel
theorem dX7_follow_15 : decode cX7_follow 15 = .ok (.iload_n 2, 1) := by decide +kernel
theorem dX7_follow_16 : decode cX7_follow 16 = .ok (.invokevirtual 98, 3) := by decide +kernel
theorem dX7_follow_19 : decode cX7_follow 19 = .ok (.ifCond .ne 5, 3) := by decide +kernel
theorem dX7_follow_22 : decode cX7_follow 22 = .ok (.iconst (-1), 1) := by decide +kernel
theorem dX7_follow_23 : decode cX7_follow 23 = .ok (.ireturn, 1) := by decide +kernel
theorem dX7_follow_24 : decode cX7_follow 24 = .ok (.iload_n 3, 1) := by decide +kernel
theorem dX7_follow_25 : decode cX7_follow 25 = .ok (.iconst 0, 1) := by decide +kernel
theorem dX7_follow_26 : decode cX7_follow 26 = .ok (.bipush 99, 2) := by decide +kernel
theorem dX7_follow_28 : decode cX7_follow 28 = .ok (.invokestatic 66, 3) := by decide +kernel
theorem dX7_follow_31 : decode cX7_follow 31 = .ok (.ifCond .eq 8, 3) := by decide +kernel
theorem dX7_follow_34 : decode cX7_follow 34 = .ok (.iload_n 1, 1) := by decide +kernel
theorem dX7_follow_35 : decode cX7_follow 35 = .ok (.iload_n 2, 1) := by decide +kernel
theorem dX7_follow_36 : decode cX7_follow 36 = .ok (.if_icmp .ne 6, 3) := by decide +kernel
theorem dX7_follow_39 : decode cX7_follow 39 = .ok (.bipush (-2), 2) := by decide +kernel
theorem dX7_follow_41 : decode cX7_follow 41 = .ok (.ireturn, 1) := by decide +kernel
theorem dX7_follow_42 : decode cX7_follow 42 = .ok (.aload_n 0, 1) := by decide +kernel
theorem dX7_follow_43 : decode cX7_follow 43 = .ok (.getfield 12, 3) := by decide +kernel
theorem dX7_follow_46 : decode cX7_follow 46 = .ok (.getfield 108, 3) := by decide +kernel
theorem dX7_follow_49 : decode cX7_follow 49 = .ok (.iload_n 1, 1) := by decide +kernel
theorem dX7_follow_50 : decode cX7_follow 50 = .ok (.aaload, 1) := by decide +kernel
theorem dX7_follow_51 : decode cX7_follow 51 = .ok (.iload_n 2, 1) := by decide +kernel
theorem dX7_follow_52 : decode cX7_follow 52 = .ok (.iaload, 1) := by decide +kernel
theorem dX7_follow_53 : decode cX7_follow 53 = .ok (.istore 4, 2) := by decide +kernel
theorem dX7_follow_55 : decode cX7_follow 55 = .ok (.aload_n 0, 1) := by decide +kernel
theorem dX7_follow_56 : decode cX7_follow 56 = .ok (.getfield 12, 3) := by decide +kernel
theorem dX7_follow_59 : decode cX7_follow 59 = .ok (.getfield 108, 3) := by decide +kernel
theorem dX7_follow_62 : decode cX7_follow 62 = .ok (.iload_n 1, 1) := by decide +kernel
theorem dX7_follow_63 : decode cX7_follow 63 = .ok (.aaload, 1) := by decide +kernel
theorem dX7_follow_64 : decode cX7_follow 64 = .ok (.iload_n 2, 1) := by decide +kernel
theorem dX7_follow_65 : decode cX7_follow 65 = .ok (.iload_n 3, 1) := by decide +kernel
theorem dX7_follow_66 : decode cX7_follow 66 = .ok (.iastore, 1) := by decide +kernel
theorem dX7_follow_67 : decode cX7_follow 67 = .ok (.iload 4, 2) := by decide +kernel
theorem dX7_follow_69 : decode cX7_follow 69 = .ok (.ireturn, 1) := by decide +kernel
theorem dX7_person_0 : decode cX7_person 0 = .ok (.aload_n 0, 1) := by decide +kernel
theorem dX7_person_1 : decode cX7_person 1 = .ok (.getfield 31, 3) := by decide +kernel
theorem dX7_person_4 : decode cX7_person 4 = .ok (.iconst 4, 1) := by decide +kernel
theorem dX7_person_5 : decode cX7_person 5 = .ok (.if_icmp .lt 6, 3) := by decide +kernel
theorem dX7_person_8 : decode cX7_person 8 = .ok (.bipush (-4), 2) := by decide +kernel
theorem dX7_person_10 : decode cX7_person 10 = .ok (.ireturn, 1) := by decide +kernel
theorem dX7_person_11 : decode cX7_person 11 = .ok (.aload_n 0, 1) := by decide +kernel
theorem dX7_person_12 : decode cX7_person 12 = .ok (.dup, 1) := by decide +kernel
theorem dX7_person_13 : decode cX7_person 13 = .ok (.getfield 31, 3) := by decide +kernel
theorem dX7_person_16 : decode cX7_person 16 = .ok (.iconst 1, 1) := by decide +kernel
theorem dX7_person_17 : decode cX7_person 17 = .ok (.iadd, 1) := by decide +kernel
theorem dX7_person_18 : decode cX7_person 18 = .ok (.putfield 31, 3) := by decide +kernel
theorem dX7_person_21 : decode cX7_person 21 = .ok (.aload_n 0, 1) := by decide +kernel
theorem dX7_person_22 : decode cX7_person 22 = .ok (.getfield 31, 3) := by decide +kernel
theorem dX7_person_25 : decode cX7_person 25 = .ok (.iconst 1, 1) := by decide +kernel
theorem dX7_person_26 : decode cX7_person 26 = .ok (.isub, 1) := by decide +kernel
theorem dX7_person_27 : decode cX7_person 27 = .ok (.ireturn, 1) := by decide +kernel
theorem dX7_can_0 : decode cX7_can 0 = .ok (.aload_n 0, 1) := by decide +kernel
theorem dX7_can_1 : decode cX7_can 1 = .ok (.iload_n 1, 1) := by decide +kernel
theorem dX7_can_2 : decode cX7_can 2 = .ok (.invokevirtual 112, 3) := by decide +kernel
theorem dX7_can_5 : decode cX7_can 5 = .ok (.ifCond .ne 5, 3) := by decide +kernel
theorem dX7_can_8 : decode cX7_can 8 = .ok (.iconst (-1), 1) := by decide +kernel
theorem dX7_can_9 : decode cX7_can 9 = .ok (.ireturn, 1) := by decide +kernel
theorem dX7_can_10 : decode cX7_can 10 = .ok (.iload_n 2, 1) := by decide +kernel
theorem dX7_can_11 : decode cX7_can 11 = .ok (.iconst 0, 1) := by decide +kernel
theorem dX7_can_12 : decode cX7_can 12 = .ok (.iconst 2, 1) := by decide +kernel
theorem dX7_can_13 : decode cX7_can 13 = .ok (.invokestatic 66, 3) := by decide +kernel
theorem dX7_can_16 : decode cX7_can 16 = .ok (.ifCond .eq 20, 3) := by decide +kernel
theorem dX7_can_19 : decode cX7_can 19 = .ok (.iload_n 3, 1) := by decide +kernel
theorem dX7_can_20 : decode cX7_can 20 = .ok (.getstatic 115, 3) := by decide +kernel
theorem dX7_can_23 : decode cX7_can 23 = .ok (.iload_n 2, 1) := by decide +kernel
theorem dX7_can_24 : decode cX7_can 24 = .ok (.iaload, 1) := by decide +kernel
theorem dX7_can_25 : decode cX7_can 25 = .ok (.getstatic 118, 3) := by decide +kernel
theorem dX7_can_28 : decode cX7_can 28 = .ok (.iload_n 2, 1) := by decide +kernel
theorem dX7_can_29 : decode cX7_can 29 = .ok (.iaload, 1) := by decide +kernel
theorem dX7_can_30 : decode cX7_can 30 = .ok (.invokestatic 66, 3) := by decide +kernel
theorem dX7_can_33 : decode cX7_can 33 = .ok (.ifCond .ne 6, 3) := by decide +kernel
theorem dX7_can_36 : decode cX7_can 36 = .ok (.bipush (-2), 2) := by decide +kernel
theorem dX7_can_38 : decode cX7_can 38 = .ok (.ireturn, 1) := by decide +kernel
theorem dX7_can_39 : decode cX7_can 39 = .ok (.aload_n 0, 1) := by decide +kernel
theorem dX7_can_40 : decode cX7_can 40 = .ok (.getfield 27, 3) := by decide +kernel
theorem dX7_can_43 : decode cX7_can 43 = .ok (.iload_n 1, 1) := by decide +kernel
theorem dX7_can_44 : decode cX7_can 44 = .ok (.aaload, 1) := by decide +kernel
theorem dX7_can_45 : decode cX7_can 45 = .ok (.getfield 121, 3) := by decide +kernel
theorem dX7_can_48 : decode cX7_can 48 = .ok (.astore 4, 2) := by decide +kernel
theorem dX7_can_50 : decode cX7_can 50 = .ok (.aload 4, 2) := by decide +kernel
theorem dX7_can_52 : decode cX7_can 52 = .ok (.iload_n 2, 1) := by decide +kernel
theorem dX7_can_53 : decode cX7_can 53 = .ok (.iaload, 1) := by decide +kernel
theorem dX7_can_54 : decode cX7_can 54 = .ok (.istore 5, 2) := by decide +kernel
theorem dX7_can_56 : decode cX7_can 56 = .ok (.aload 4, 2) := by decide +kernel
theorem dX7_can_58 : decode cX7_can 58 = .ok (.iload_n 2, 1) := by decide +kernel
theorem dX7_can_59 : decode cX7_can 59 = .ok (.iload_n 3, 1) := by decide +kernel
theorem dX7_can_60 : decode cX7_can 60 = .ok (.iastore, 1) := by decide +kernel
theorem dX7_can_61 : decode cX7_can 61 = .ok (.iload 5, 2) := by decide +kernel
theorem dX7_can_63 : decode cX7_can 63 = .ok (.ireturn, 1) := by decide +kernel
theorem dX7_best_0 : decode cX7_best 0 = .ok (.aload_n 0, 1) := by decide +kernel
theorem dX7_best_1 : decode cX7_best 1 = .ok (.iload_n 1, 1) := by decide +kernel
theorem dX7_best_2 : decode cX7_best 2 = .ok (.invokevirtual 112, 3) := by decide +kernel
theorem dX7_best_5 : decode cX7_best 5 = .ok (.ifCond .eq 11, 3) := by decide +kernel
theorem dX7_best_8 : decode cX7_best 8 = .ok (.aload_n 0, 1) := by decide +kernel
theorem dX7_best_9 : decode cX7_best 9 = .ok (.iload_n 3, 1) := by decide +kernel
theorem dX7_best_10 : decode cX7_best 10 = .ok (.invokevirtual 124, 3) := by decide +kernel
theorem dX7_best_13 : decode cX7_best 13 = .ok (.ifCond .ne 5, 3) := by decide +kernel
theorem dX7_best_16 : decode cX7_best 16 = .ok (.iconst (-1), 1) := by decide +kernel
theorem dX7_best_17 : decode cX7_best 17 = .ok (.ireturn, 1) := by decide +kernel
theorem dX7_best_18 : decode cX7_best 18 = .ok (.aload_n 0, 1) := by decide +kernel
theorem dX7_best_19 : decode cX7_best 19 = .ok (.getfield 12, 3) := by decide +kernel
theorem dX7_best_22 : decode cX7_best 22 = .ok (.iload_n 2, 1) := by decide +kernel
theorem dX7_best_23 : decode cX7_best 23 = .ok (.invokevirtual 127, 3) := by decide +kernel
theorem dX7_best_26 : decode cX7_best 26 = .ok (.ifCond .ne 6, 3) := by decide +kernel
theorem dX7_best_29 : decode cX7_best 29 = .ok (.bipush (-2), 2) := by decide +kernel
theorem dX7_best_31 : decode cX7_best 31 = .ok (.ireturn, 1) := by decide +kernel
theorem dX7_best_32 : decode cX7_best 32 = .ok (.aload_n 0, 1) := by decide +kernel
theorem dX7_best_33 : decode cX7_best 33 = .ok (.getfield 38, 3) := by decide +kernel
theorem dX7_best_36 : decode cX7_best 36 = .ok (.aload_n 0, 1) := by decide +kernel
theorem dX7_best_37 : decode cX7_best 37 = .ok (.getfield 12, 3) := by decide +kernel
theorem dX7_best_40 : decode cX7_best 40 = .ok (.iload_n 2, 1) := by decide +kernel
theorem dX7_best_41 : decode cX7_best 41 = .ok (.aload_n 0, 1) := by decide +kernel
theorem dX7_best_42 : decode cX7_best 42 = .ok (.getfield 27, 3) := by decide +kernel
theorem dX7_best_45 : decode cX7_best 45 = .ok (.iload_n 1, 1) := by decide +kernel
theorem dX7_best_46 : decode cX7_best 46 = .ok (.aaload, 1) := by decide +kernel
theorem dX7_best_47 : decode cX7_best 47 = .ok (.invokevirtual 130, 3) := by decide +kernel
theorem dX7_best_50 : decode cX7_best 50 = .ok (.istore 4, 2) := by decide +kernel
theorem dX7_best_52 : decode cX7_best 52 = .ok (.iload_n 3, 1) := by decide +kernel
theorem dX7_best_53 : decode cX7_best 53 = .ok (.ifCond .lt 10, 3) := by decide +kernel
theorem dX7_best_56 : decode cX7_best 56 = .ok (.iload 4, 2) := by decide +kernel
theorem dX7_best_58 : decode cX7_best 58 = .ok (.bipush (-9), 2) := by decide +kernel
theorem dX7_best_60 : decode cX7_best 60 = .ok (.if_icmp .ne 6, 3) := by decide +kernel
theorem dX7_best_63 : decode cX7_best 63 = .ok (.iload 4, 2) := by decide +kernel
theorem dX7_best_65 : decode cX7_best 65 = .ok (.ireturn, 1) := by decide +kernel
theorem dX7_best_66 : decode cX7_best 66 = .ok (.aload_n 0, 1) := by decide +kernel
theorem dX7_best_67 : decode cX7_best 67 = .ok (.getfield 38, 3) := by decide +kernel
theorem dX7_best_70 : decode cX7_best 70 = .ok (.getfield 134, 3) := by decide +kernel
theorem dX7_best_73 : decode cX7_best 73 = .ok (.iload_n 3, 1) := by decide +kernel
theorem dX7_best_74 : decode cX7_best 74 = .ok (.invokevirtual 138, 3) := by decide +kernel
theorem dX7_best_77 : decode cX7_best 77 = .ok (.ireturn, 1) := by decide +kernel
theorem dX7_lay_0 : decode cX7_lay 0 = .ok (.aload_n 0, 1) := by decide +kernel
theorem dX7_lay_1 : decode cX7_lay 1 = .ok (.iload_n 1, 1) := by decide +kernel
theorem dX7_lay_2 : decode cX7_lay 2 = .ok (.invokevirtual 112, 3) := by decide +kernel
theorem dX7_lay_5 : decode cX7_lay 5 = .ok (.ifCond .ne 5, 3) := by decide +kernel
theorem dX7_lay_8 : decode cX7_lay 8 = .ok (.iconst (-1), 1) := by decide +kernel
theorem dX7_lay_9 : decode cX7_lay 9 = .ok (.ireturn, 1) := by decide +kernel
theorem dX7_lay_10 : decode cX7_lay 10 = .ok (.aload_n 0, 1) := by decide +kernel
theorem dX7_lay_11 : decode cX7_lay 11 = .ok (.getfield 12, 3) := by decide +kernel
theorem dX7_lay_14 : decode cX7_lay 14 = .ok (.iload_n 2, 1) := by decide +kernel
theorem dX7_lay_15 : decode cX7_lay 15 = .ok (.invokevirtual 127, 3) := by decide +kernel
theorem dX7_lay_18 : decode cX7_lay 18 = .ok (.ifCond .ne 6, 3) := by decide +kernel
theorem dX7_lay_21 : decode cX7_lay 21 = .ok (.bipush (-2), 2) := by decide +kernel
theorem dX7_lay_23 : decode cX7_lay 23 = .ok (.ireturn, 1) := by decide +kernel
theorem dX7_lay_24 : decode cX7_lay 24 = .ok (.aload_n 0, 1) := by decide +kernel
theorem dX7_lay_25 : decode cX7_lay 25 = .ok (.getfield 38, 3) := by decide +kernel
theorem dX7_lay_28 : decode cX7_lay 28 = .ok (.aload_n 0, 1) := by decide +kernel
theorem dX7_lay_29 : decode cX7_lay 29 = .ok (.getfield 12, 3) := by decide +kernel
theorem dX7_lay_32 : decode cX7_lay 32 = .ok (.iload_n 2, 1) := by decide +kernel
theorem dX7_lay_33 : decode cX7_lay 33 = .ok (.aload_n 0, 1) := by decide +kernel
theorem dX7_lay_34 : decode cX7_lay 34 = .ok (.getfield 27, 3) := by decide +kernel
theorem dX7_lay_37 : decode cX7_lay 37 = .ok (.iload_n 1, 1) := by decide +kernel
theorem dX7_lay_38 : decode cX7_lay 38 = .ok (.aaload, 1) := by decide +kernel
theorem dX7_lay_39 : decode cX7_lay 39 = .ok (.invokevirtual 130, 3) := by decide +kernel
theorem dX7_lay_42 : decode cX7_lay 42 = .ok (.istore_n 3, 1) := by decide +kernel
theorem dX7_lay_43 : decode cX7_lay 43 = .ok (.iload_n 3, 1) := by decide +kernel
theorem dX7_lay_44 : decode cX7_lay 44 = .ok (.bipush (-9), 2) := by decide +kernel
theorem dX7_lay_46 : decode cX7_lay 46 = .ok (.if_icmp .eq 19, 3) := by decide +kernel
theorem dX7_lay_49 : decode cX7_lay 49 = .ok (.aload_n 0, 1) := by decide +kernel
theorem dX7_lay_50 : decode cX7_lay 50 = .ok (.getfield 27, 3) := by decide +kernel
theorem dX7_lay_53 : decode cX7_lay 53 = .ok (.iload_n 1, 1) := by decide +kernel
theorem dX7_lay_54 : decode cX7_lay 54 = .ok (.aaload, 1) := by decide +kernel
theorem dX7_lay_55 : decode cX7_lay 55 = .ok (.aload_n 0, 1) := by decide +kernel
theorem dX7_lay_56 : decode cX7_lay 56 = .ok (.getfield 38, 3) := by decide +kernel
theorem dX7_lay_59 : decode cX7_lay 59 = .ok (.getfield 134, 3) := by decide +kernel
theorem dX7_lay_62 : decode cX7_lay 62 = .ok (.invokevirtual 143, 3) := by decide +kernel
theorem dX7_lay_65 : decode cX7_lay 65 = .ok (.iload_n 3, 1) := by decide +kernel
theorem dX7_lay_66 : decode cX7_lay 66 = .ok (.ireturn, 1) := by decide +kernel
theorem dX7_offer_0 : decode cX7_offer 0 = .ok (.aload_n 0, 1) := by decide +kernel
theorem dX7_offer_1 : decode cX7_offer 1 = .ok (.iload_n 1, 1) := by decide +kernel
theorem dX7_offer_2 : decode cX7_offer 2 = .ok (.invokevirtual 112, 3) := by decide +kernel
theorem dX7_offer_5 : decode cX7_offer 5 = .ok (.ifCond .ne 5, 3) := by decide +kernel
theorem dX7_offer_8 : decode cX7_offer 8 = .ok (.iconst (-1), 1) := by decide +kernel
theorem dX7_offer_9 : decode cX7_offer 9 = .ok (.ireturn, 1) := by decide +kernel
theorem dX7_offer_10 : decode cX7_offer 10 = .ok (.iload_n 2, 1) := by decide +kernel
theorem dX7_offer_11 : decode cX7_offer 11 = .ok (.iconst 0, 1) := by decide +kernel
theorem dX7_offer_12 : decode cX7_offer 12 = .ok (.sipush 9999, 3) := by decide +kernel
theorem dX7_offer_15 : decode cX7_offer 15 = .ok (.invokestatic 66, 3) := by decide +kernel
theorem dX7_offer_18 : decode cX7_offer 18 = .ok (.ifCond .ne 6, 3) := by decide +kernel
theorem dX7_offer_21 : decode cX7_offer 21 = .ok (.bipush (-2), 2) := by decide +kernel
theorem dX7_offer_23 : decode cX7_offer 23 = .ok (.ireturn, 1) := by decide +kernel
theorem dX7_offer_24 : decode cX7_offer 24 = .ok (.aload_n 0, 1) := by decide +kernel
theorem dX7_offer_25 : decode cX7_offer 25 = .ok (.getfield 27, 3) := by decide +kernel
theorem dX7_offer_28 : decode cX7_offer 28 = .ok (.iload_n 1, 1) := by decide +kernel
theorem dX7_offer_29 : decode cX7_offer 29 = .ok (.aaload, 1) := by decide +kernel
theorem dX7_offer_30 : decode cX7_offer 30 = .ok (.astore_n 3, 1) := by decide +kernel
theorem dX7_offer_31 : decode cX7_offer 31 = .ok (.aload_n 3, 1) := by decide +kernel
theorem dX7_offer_32 : decode cX7_offer 32 = .ok (.getfield 147, 3) := by decide +kernel
theorem dX7_offer_35 : decode cX7_offer 35 = .ok (.invokevirtual 150, 3) := by decide +kernel
theorem dX7_offer_38 : decode cX7_offer 38 = .ok (.ifCond .eq 6, 3) := by decide +kernel
theorem dX7_offer_41 : decode cX7_offer 41 = .ok (.bipush (-3), 2) := by decide +kernel
theorem dX7_offer_43 : decode cX7_offer 43 = .ok (.ireturn, 1) := by decide +kernel
theorem dX7_offer_44 : decode cX7_offer 44 = .ok (.aload_n 0, 1) := by decide +kernel
theorem dX7_offer_45 : decode cX7_offer 45 = .ok (.getfield 38, 3) := by decide +kernel
theorem dX7_offer_48 : decode cX7_offer 48 = .ok (.aload_n 0, 1) := by decide +kernel
theorem dX7_offer_49 : decode cX7_offer 49 = .ok (.getfield 12, 3) := by decide +kernel
theorem dX7_offer_52 : decode cX7_offer 52 = .ok (.aload_n 3, 1) := by decide +kernel
theorem dX7_offer_53 : decode cX7_offer 53 = .ok (.getfield 147, 3) := by decide +kernel
theorem dX7_offer_56 : decode cX7_offer 56 = .ok (.invokevirtual 154, 3) := by decide +kernel
theorem dX7_offer_59 : decode cX7_offer 59 = .ok (.aload_n 3, 1) := by decide +kernel
theorem dX7_offer_60 : decode cX7_offer 60 = .ok (.invokevirtual 130, 3) := by decide +kernel
theorem dX7_offer_63 : decode cX7_offer 63 = .ok (.istore 4, 2) := by decide +kernel
theorem dX7_offer_65 : decode cX7_offer 65 = .ok (.iload 4, 2) := by decide +kernel
theorem dX7_offer_67 : decode cX7_offer 67 = .ok (.bipush (-9), 2) := by decide +kernel
theorem dX7_offer_69 : decode cX7_offer 69 = .ok (.if_icmp .ne 6, 3) := by decide +kernel
theorem dX7_offer_72 : decode cX7_offer 72 = .ok (.bipush (-9), 2) := by decide +kernel
theorem dX7_offer_74 : decode cX7_offer 74 = .ok (.ireturn, 1) := by decide +kernel
theorem dX7_offer_75 : decode cX7_offer 75 = .ok (.aload_n 3, 1) := by decide +kernel
theorem dX7_offer_76 : decode cX7_offer 76 = .ok (.getfield 147, 3) := by decide +kernel
theorem dX7_offer_79 : decode cX7_offer 79 = .ok (.aload_n 0, 1) := by decide +kernel
theorem dX7_offer_80 : decode cX7_offer 80 = .ok (.getfield 12, 3) := by decide +kernel
theorem dX7_offer_83 : decode cX7_offer 83 = .ok (.invokevirtual 158, 3) := by decide +kernel
theorem dX7_offer_86 : decode cX7_offer 86 = .ok (.iload 4, 2) := by decide +kernel
theorem dX7_offer_88 : decode cX7_offer 88 = .ok (.isub, 1) := by decide +kernel
theorem dX7_offer_89 : decode cX7_offer 89 = .ok (.iload_n 2, 1) := by decide +kernel
theorem dX7_offer_90 : decode cX7_offer 90 = .ok (.if_icmp .ge 5, 3) := by decide +kernel
theorem dX7_offer_93 : decode cX7_offer 93 = .ok (.iconst 0, 1) := by decide +kernel
theorem dX7_offer_94 : decode cX7_offer 94 = .ok (.ireturn, 1) := by decide +kernel
theorem dX7_offer_95 : decode cX7_offer 95 = .ok (.aload_n 3, 1) := by decide +kernel
theorem dX7_offer_96 : decode cX7_offer 96 = .ok (.aload_n 0, 1) := by decide +kernel
theorem dX7_offer_97 : decode cX7_offer 97 = .ok (.getfield 38, 3) := by decide +kernel
theorem dX7_offer_100 : decode cX7_offer 100 = .ok (.getfield 134, 3) := by decide +kernel
theorem dX7_offer_103 : decode cX7_offer 103 = .ok (.invokevirtual 143, 3) := by decide +kernel
theorem dX7_offer_106 : decode cX7_offer 106 = .ok (.iconst 1, 1) := by decide +kernel
theorem dX7_offer_107 : decode cX7_offer 107 = .ok (.ireturn, 1) := by decide +kernel
theorem dX7_back_0 : decode cX7_back 0 = .ok (.aload_n 0, 1) := by decide +kernel
theorem dX7_back_1 : decode cX7_back 1 = .ok (.iload_n 1, 1) := by decide +kernel
theorem dX7_back_2 : decode cX7_back 2 = .ok (.invokevirtual 112, 3) := by decide +kernel
theorem dX7_back_5 : decode cX7_back 5 = .ok (.ifCond .ne 5, 3) := by decide +kernel
theorem dX7_back_8 : decode cX7_back 8 = .ok (.iconst (-1), 1) := by decide +kernel
theorem dX7_back_9 : decode cX7_back 9 = .ok (.ireturn, 1) := by decide +kernel
theorem dX7_back_10 : decode cX7_back 10 = .ok (.aload_n 0, 1) := by decide +kernel
theorem dX7_back_11 : decode cX7_back 11 = .ok (.getfield 27, 3) := by decide +kernel
theorem dX7_back_14 : decode cX7_back 14 = .ok (.iload_n 1, 1) := by decide +kernel
theorem dX7_back_15 : decode cX7_back 15 = .ok (.aaload, 1) := by decide +kernel
theorem dX7_back_16 : decode cX7_back 16 = .ok (.getfield 162, 3) := by decide +kernel
theorem dX7_back_19 : decode cX7_back 19 = .ok (.invokevirtual 150, 3) := by decide +kernel
theorem dX7_back_22 : decode cX7_back 22 = .ok (.ifCond .eq 6, 3) := by decide +kernel
theorem dX7_back_25 : decode cX7_back 25 = .ok (.bipush (-3), 2) := by decide +kernel
theorem dX7_back_27 : decode cX7_back 27 = .ok (.ireturn, 1) := by decide +kernel
theorem dX7_back_28 : decode cX7_back 28 = .ok (.aload_n 0, 1) := by decide +kernel
theorem dX7_back_29 : decode cX7_back 29 = .ok (.getfield 27, 3) := by decide +kernel
theorem dX7_back_32 : decode cX7_back 32 = .ok (.iload_n 1, 1) := by decide +kernel
theorem dX7_back_33 : decode cX7_back 33 = .ok (.aaload, 1) := by decide +kernel
theorem dX7_back_34 : decode cX7_back 34 = .ok (.invokevirtual 165, 3) := by decide +kernel
theorem dX7_back_37 : decode cX7_back 37 = .ok (.iconst 1, 1) := by decide +kernel
theorem dX7_back_38 : decode cX7_back 38 = .ok (.ireturn, 1) := by decide +kernel
theorem dX7_at_0 : decode cX7_at 0 = .ok (.aload_n 0, 1) := by decide +kernel
theorem dX7_at_1 : decode cX7_at 1 = .ok (.iload_n 1, 1) := by decide +kernel
theorem dX7_at_2 : decode cX7_at 2 = .ok (.invokevirtual 112, 3) := by decide +kernel
theorem dX7_at_5 : decode cX7_at 5 = .ok (.ifCond .eq 10, 3) := by decide +kernel
theorem dX7_at_8 : decode cX7_at 8 = .ok (.iload_n 2, 1) := by decide +kernel
theorem dX7_at_9 : decode cX7_at 9 = .ok (.invokestatic 168, 3) := by decide +kernel
theorem dX7_at_12 : decode cX7_at 12 = .ok (.ifCond .ne 5, 3) := by decide +kernel
theorem dX7_at_15 : decode cX7_at 15 = .ok (.iconst (-1), 1) := by decide +kernel
theorem dX7_at_16 : decode cX7_at 16 = .ok (.ireturn, 1) := by decide +kernel
theorem dX7_at_17 : decode cX7_at 17 = .ok (.aload_n 0, 1) := by decide +kernel
theorem dX7_at_18 : decode cX7_at 18 = .ok (.getfield 27, 3) := by decide +kernel
theorem dX7_at_21 : decode cX7_at 21 = .ok (.iload_n 1, 1) := by decide +kernel
theorem dX7_at_22 : decode cX7_at 22 = .ok (.aaload, 1) := by decide +kernel
theorem dX7_at_23 : decode cX7_at 23 = .ok (.getfield 147, 3) := by decide +kernel
theorem dX7_at_26 : decode cX7_at 26 = .ok (.iload_n 2, 1) := by decide +kernel
theorem dX7_at_27 : decode cX7_at 27 = .ok (.invokevirtual 171, 3) := by decide +kernel
theorem dX7_at_30 : decode cX7_at 30 = .ok (.ireturn, 1) := by decide +kernel
theorem dX7_price_0 : decode cX7_price 0 = .ok (.aload_n 0, 1) := by decide +kernel
theorem dX7_price_1 : decode cX7_price 1 = .ok (.iload_n 1, 1) := by decide +kernel
theorem dX7_price_2 : decode cX7_price 2 = .ok (.invokevirtual 112, 3) := by decide +kernel
theorem dX7_price_5 : decode cX7_price 5 = .ok (.ifCond .ne 5, 3) := by decide +kernel
theorem dX7_price_8 : decode cX7_price 8 = .ok (.iconst (-1), 1) := by decide +kernel
theorem dX7_price_9 : decode cX7_price 9 = .ok (.ireturn, 1) := by decide +kernel
theorem dX7_price_10 : decode cX7_price 10 = .ok (.aload_n 0, 1) := by decide +kernel
theorem dX7_price_11 : decode cX7_price 11 = .ok (.getfield 27, 3) := by decide +kernel
theorem dX7_price_14 : decode cX7_price 14 = .ok (.iload_n 1, 1) := by decide +kernel
theorem dX7_price_15 : decode cX7_price 15 = .ok (.aaload, 1) := by decide +kernel
theorem dX7_price_16 : decode cX7_price 16 = .ok (.getfield 147, 3) := by decide +kernel
theorem dX7_price_19 : decode cX7_price 19 = .ok (.invokevirtual 150, 3) := by decide +kernel
theorem dX7_price_22 : decode cX7_price 22 = .ok (.ifCond .eq 6, 3) := by decide +kernel
theorem dX7_price_25 : decode cX7_price 25 = .ok (.bipush (-3), 2) := by decide +kernel
theorem dX7_price_27 : decode cX7_price 27 = .ok (.ireturn, 1) := by decide +kernel
theorem dX7_price_28 : decode cX7_price 28 = .ok (.aload_n 0, 1) := by decide +kernel
theorem dX7_price_29 : decode cX7_price 29 = .ok (.getfield 27, 3) := by decide +kernel
theorem dX7_price_32 : decode cX7_price 32 = .ok (.iload_n 1, 1) := by decide +kernel
theorem dX7_price_33 : decode cX7_price 33 = .ok (.aaload, 1) := by decide +kernel
theorem dX7_price_34 : decode cX7_price 34 = .ok (.getfield 147, 3) := by decide +kernel
theorem dX7_price_37 : decode cX7_price 37 = .ok (.aload_n 0, 1) := by decide +kernel
theorem dX7_price_38 : decode cX7_price 38 = .ok (.getfield 12, 3) := by decide +kernel
theorem dX7_price_41 : decode cX7_price 41 = .ok (.invokevirtual 158, 3) := by decide +kernel
theorem dX7_price_44 : decode cX7_price 44 = .ok (.ireturn, 1) := by decide +kernel
theorem dX7_ways_0 : decode cX7_ways 0 = .ok (.aload_n 0, 1) := by decide +kernel
theorem dX7_ways_1 : decode cX7_ways 1 = .ok (.getfield 12, 3) := by decide +kernel
theorem dX7_ways_4 : decode cX7_ways 4 = .ok (.iload_n 1, 1) := by decide +kernel
theorem dX7_ways_5 : decode cX7_ways 5 = .ok (.invokevirtual 174, 3) := by decide +kernel
theorem dX7_ways_8 : decode cX7_ways 8 = .ok (.ifCond .eq 13, 3) := by decide +kernel
theorem dX7_ways_11 : decode cX7_ways 11 = .ok (.iload_n 2, 1) := by decide +kernel
theorem dX7_ways_12 : decode cX7_ways 12 = .ok (.iconst 2, 1) := by decide +kernel
theorem dX7_ways_13 : decode cX7_ways 13 = .ok (.bipush 9, 2) := by decide +kernel
theorem dX7_ways_15 : decode cX7_ways 15 = .ok (.invokestatic 66, 3) := by decide +kernel
theorem dX7_ways_18 : decode cX7_ways 18 = .ok (.ifCond .ne 6, 3) := by decide +kernel
theorem dX7_ways_21 : decode cX7_ways 21 = .ok (.bipush (-2), 2) := by decide +kernel
theorem dX7_ways_23 : decode cX7_ways 23 = .ok (.ireturn, 1) := by decide +kernel
theorem dX7_ways_24 : decode cX7_ways 24 = .ok (.aload_n 0, 1) := by decide +kernel
theorem dX7_ways_25 : decode cX7_ways 25 = .ok (.iload_n 3, 1) := by decide +kernel
theorem dX7_ways_26 : decode cX7_ways 26 = .ok (.invokevirtual 124, 3) := by decide +kernel
theorem dX7_ways_29 : decode cX7_ways 29 = .ok (.ifCond .ne 5, 3) := by decide +kernel
theorem dX7_ways_32 : decode cX7_ways 32 = .ok (.iconst (-1), 1) := by decide +kernel
theorem dX7_ways_33 : decode cX7_ways 33 = .ok (.ireturn, 1) := by decide +kernel
theorem dX7_ways_34 : decode cX7_ways 34 = .ok (.aload_n 0, 1) := by decide +kernel
theorem dX7_ways_35 : decode cX7_ways 35 = .ok (.getfield 45, 3) := by decide +kernel
theorem dX7_ways_38 : decode cX7_ways 38 = .ok (.aload_n 0, 1) := by decide +kernel
theorem dX7_ways_39 : decode cX7_ways 39 = .ok (.getfield 12, 3) := by decide +kernel
theorem dX7_ways_42 : decode cX7_ways 42 = .ok (.iload_n 1, 1) := by decide +kernel
theorem dX7_ways_43 : decode cX7_ways 43 = .ok (.iload_n 2, 1) := by decide +kernel
theorem dX7_ways_44 : decode cX7_ways 44 = .ok (.invokevirtual 177, 3) := by decide +kernel
theorem dX7_ways_47 : decode cX7_ways 47 = .ok (.iload_n 3, 1) := by decide +kernel
theorem dX7_ways_48 : decode cX7_ways 48 = .ok (.ifCond .ge 17, 3) := by decide +kernel
theorem dX7_ways_51 : decode cX7_ways 51 = .ok (.aload_n 0, 1) := by decide +kernel
theorem dX7_ways_52 : decode cX7_ways 52 = .ok (.getfield 45, 3) := by decide +kernel
theorem dX7_ways_55 : decode cX7_ways 55 = .ok (.aload_n 0, 1) := by decide +kernel
theorem dX7_ways_56 : decode cX7_ways 56 = .ok (.getfield 12, 3) := by decide +kernel
theorem dX7_ways_59 : decode cX7_ways 59 = .ok (.invokevirtual 181, 3) := by decide +kernel
theorem dX7_ways_62 : decode cX7_ways 62 = .ok (.goto 11, 3) := by decide +kernel
theorem dX7_ways_65 : decode cX7_ways 65 = .ok (.aload_n 0, 1) := by decide +kernel
theorem dX7_ways_66 : decode cX7_ways 66 = .ok (.getfield 45, 3) := by decide +kernel
theorem dX7_ways_69 : decode cX7_ways 69 = .ok (.iload_n 3, 1) := by decide +kernel
theorem dX7_ways_70 : decode cX7_ways 70 = .ok (.invokevirtual 184, 3) := by decide +kernel
theorem dX7_ways_73 : decode cX7_ways 73 = .ok (.ireturn, 1) := by decide +kernel
theorem dX7_kept_0 : decode cX7_kept 0 = .ok (.aload_n 0, 1) := by decide +kernel
theorem dX7_kept_1 : decode cX7_kept 1 = .ok (.iload_n 1, 1) := by decide +kernel
theorem dX7_kept_2 : decode cX7_kept 2 = .ok (.invokevirtual 112, 3) := by decide +kernel
theorem dX7_kept_5 : decode cX7_kept 5 = .ok (.ifCond .ne 5, 3) := by decide +kernel
theorem dX7_kept_8 : decode cX7_kept 8 = .ok (.iconst (-1), 1) := by decide +kernel
theorem dX7_kept_9 : decode cX7_kept 9 = .ok (.ireturn, 1) := by decide +kernel
theorem dX7_kept_10 : decode cX7_kept 10 = .ok (.aload_n 0, 1) := by decide +kernel
theorem dX7_kept_11 : decode cX7_kept 11 = .ok (.getfield 12, 3) := by decide +kernel
theorem dX7_kept_14 : decode cX7_kept 14 = .ok (.iload_n 2, 1) := by decide +kernel
theorem dX7_kept_15 : decode cX7_kept 15 = .ok (.invokevirtual 174, 3) := by decide +kernel
theorem dX7_kept_18 : decode cX7_kept 18 = .ok (.ifCond .eq 13, 3) := by decide +kernel
theorem dX7_kept_21 : decode cX7_kept 21 = .ok (.iload_n 3, 1) := by decide +kernel
theorem dX7_kept_22 : decode cX7_kept 22 = .ok (.iconst 1, 1) := by decide +kernel
theorem dX7_kept_23 : decode cX7_kept 23 = .ok (.bipush 9, 2) := by decide +kernel
theorem dX7_kept_25 : decode cX7_kept 25 = .ok (.invokestatic 66, 3) := by decide +kernel
theorem dX7_kept_28 : decode cX7_kept 28 = .ok (.ifCond .ne 6, 3) := by decide +kernel
theorem dX7_kept_31 : decode cX7_kept 31 = .ok (.bipush (-2), 2) := by decide +kernel
theorem dX7_kept_33 : decode cX7_kept 33 = .ok (.ireturn, 1) := by decide +kernel
theorem dX7_kept_34 : decode cX7_kept 34 = .ok (.aload_n 0, 1) := by decide +kernel
theorem dX7_kept_35 : decode cX7_kept 35 = .ok (.getfield 27, 3) := by decide +kernel
theorem dX7_kept_38 : decode cX7_kept 38 = .ok (.iload_n 1, 1) := by decide +kernel
theorem dX7_kept_39 : decode cX7_kept 39 = .ok (.aaload, 1) := by decide +kernel
theorem dX7_kept_40 : decode cX7_kept 40 = .ok (.getfield 121, 3) := by decide +kernel
theorem dX7_kept_43 : decode cX7_kept 43 = .ok (.iconst 2, 1) := by decide +kernel
theorem dX7_kept_44 : decode cX7_kept 44 = .ok (.iaload, 1) := by decide +kernel
theorem dX7_kept_45 : decode cX7_kept 45 = .ok (.iconst 2, 1) := by decide +kernel
theorem dX7_kept_46 : decode cX7_kept 46 = .ok (.invokestatic 187, 3) := by decide +kernel
theorem dX7_kept_49 : decode cX7_kept 49 = .ok (.bipush 9, 2) := by decide +kernel
theorem dX7_kept_51 : decode cX7_kept 51 = .ok (.invokestatic 193, 3) := by decide +kernel
theorem dX7_kept_54 : decode cX7_kept 54 = .ok (.istore 4, 2) := by decide +kernel
theorem dX7_kept_56 : decode cX7_kept 56 = .ok (.aload_n 0, 1) := by decide +kernel
theorem dX7_kept_57 : decode cX7_kept 57 = .ok (.getfield 45, 3) := by decide +kernel
theorem dX7_kept_60 : decode cX7_kept 60 = .ok (.aload_n 0, 1) := by decide +kernel
theorem dX7_kept_61 : decode cX7_kept 61 = .ok (.getfield 12, 3) := by decide +kernel
theorem dX7_kept_64 : decode cX7_kept 64 = .ok (.iload_n 2, 1) := by decide +kernel
theorem dX7_kept_65 : decode cX7_kept 65 = .ok (.iload 4, 2) := by decide +kernel
theorem dX7_kept_67 : decode cX7_kept 67 = .ok (.invokevirtual 177, 3) := by decide +kernel
theorem dX7_kept_70 : decode cX7_kept 70 = .ok (.iconst 0, 1) := by decide +kernel
theorem dX7_kept_71 : decode cX7_kept 71 = .ok (.istore 5, 2) := by decide +kernel
theorem dX7_kept_73 : decode cX7_kept 73 = .ok (.iconst 0, 1) := by decide +kernel
theorem dX7_kept_74 : decode cX7_kept 74 = .ok (.istore 6, 2) := by decide +kernel
theorem dX7_kept_76 : decode cX7_kept 76 = .ok (.iload 6, 2) := by decide +kernel
theorem dX7_kept_78 : decode cX7_kept 78 = .ok (.aload_n 0, 1) := by decide +kernel
theorem dX7_kept_79 : decode cX7_kept 79 = .ok (.getfield 12, 3) := by decide +kernel
theorem dX7_kept_82 : decode cX7_kept 82 = .ok (.getfield 95, 3) := by decide +kernel
theorem dX7_kept_85 : decode cX7_kept 85 = .ok (.if_icmp .ge 45, 3) := by decide +kernel
theorem dX7_kept_88 : decode cX7_kept 88 = .ok (.aload_n 0, 1) := by decide +kernel
theorem dX7_kept_89 : decode cX7_kept 89 = .ok (.getfield 12, 3) := by decide +kernel
theorem dX7_kept_92 : decode cX7_kept 92 = .ok (.getfield 102, 3) := by decide +kernel
theorem dX7_kept_95 : decode cX7_kept 95 = .ok (.iload 6, 2) := by decide +kernel
theorem dX7_kept_97 : decode cX7_kept 97 = .ok (.iaload, 1) := by decide +kernel
theorem dX7_kept_98 : decode cX7_kept 98 = .ok (.iconst 1, 1) := by decide +kernel
theorem dX7_kept_99 : decode cX7_kept 99 = .ok (.if_icmp .lt 25, 3) := by decide +kernel
theorem dX7_kept_102 : decode cX7_kept 102 = .ok (.aload_n 0, 1) := by decide +kernel
theorem dX7_kept_103 : decode cX7_kept 103 = .ok (.getfield 45, 3) := by decide +kernel
theorem dX7_kept_106 : decode cX7_kept 106 = .ok (.iload 6, 2) := by decide +kernel
theorem dX7_kept_108 : decode cX7_kept 108 = .ok (.invokevirtual 184, 3) := by decide +kernel
theorem dX7_kept_111 : decode cX7_kept 111 = .ok (.iload_n 3, 1) := by decide +kernel
theorem dX7_kept_112 : decode cX7_kept 112 = .ok (.if_icmp .le 12, 3) := by decide +kernel
theorem dX7_kept_115 : decode cX7_kept 115 = .ok (.iload 5, 2) := by decide +kernel
theorem dX7_kept_117 : decode cX7_kept 117 = .ok (.iconst 1, 1) := by decide +kernel
theorem dX7_kept_118 : decode cX7_kept 118 = .ok (.iload 6, 2) := by decide +kernel
theorem dX7_kept_120 : decode cX7_kept 120 = .ok (.ishl, 1) := by decide +kernel
theorem dX7_kept_121 : decode cX7_kept 121 = .ok (.ior, 1) := by decide +kernel
theorem dX7_kept_122 : decode cX7_kept 122 = .ok (.istore 5, 2) := by decide +kernel
theorem dX7_kept_124 : decode cX7_kept 124 = .ok (.iinc 6 1, 3) := by decide +kernel
theorem dX7_kept_127 : decode cX7_kept 127 = .ok (.goto (-51), 3) := by decide +kernel
theorem dX7_kept_130 : decode cX7_kept 130 = .ok (.iload 5, 2) := by decide +kernel
theorem dX7_kept_132 : decode cX7_kept 132 = .ok (.ireturn, 1) := by decide +kernel
theorem dX7_rule_0 : decode cX7_rule 0 = .ok (.iload_n 1, 1) := by decide +kernel
theorem dX7_rule_1 : decode cX7_rule 1 = .ok (.iconst 0, 1) := by decide +kernel
theorem dX7_rule_2 : decode cX7_rule 2 = .ok (.iconst 1, 1) := by decide +kernel
theorem dX7_rule_3 : decode cX7_rule 3 = .ok (.invokestatic 66, 3) := by decide +kernel
theorem dX7_rule_6 : decode cX7_rule 6 = .ok (.ifCond .eq 16, 3) := by decide +kernel
theorem dX7_rule_9 : decode cX7_rule 9 = .ok (.iload_n 2, 1) := by decide +kernel
theorem dX7_rule_10 : decode cX7_rule 10 = .ok (.iconst 0, 1) := by decide +kernel
theorem dX7_rule_11 : decode cX7_rule 11 = .ok (.getstatic 196, 3) := by decide +kernel
theorem dX7_rule_14 : decode cX7_rule 14 = .ok (.iload_n 1, 1) := by decide +kernel
theorem dX7_rule_15 : decode cX7_rule 15 = .ok (.iaload, 1) := by decide +kernel
theorem dX7_rule_16 : decode cX7_rule 16 = .ok (.invokestatic 66, 3) := by decide +kernel
theorem dX7_rule_19 : decode cX7_rule 19 = .ok (.ifCond .ne 6, 3) := by decide +kernel
theorem dX7_rule_22 : decode cX7_rule 22 = .ok (.bipush (-2), 2) := by decide +kernel
theorem dX7_rule_24 : decode cX7_rule 24 = .ok (.ireturn, 1) := by decide +kernel
theorem dX7_rule_25 : decode cX7_rule 25 = .ok (.aload_n 0, 1) := by decide +kernel
theorem dX7_rule_26 : decode cX7_rule 26 = .ok (.getfield 49, 3) := by decide +kernel
theorem dX7_rule_29 : decode cX7_rule 29 = .ok (.iload_n 1, 1) := by decide +kernel
theorem dX7_rule_30 : decode cX7_rule 30 = .ok (.iaload, 1) := by decide +kernel
theorem dX7_rule_31 : decode cX7_rule 31 = .ok (.istore_n 3, 1) := by decide +kernel
theorem dX7_rule_32 : decode cX7_rule 32 = .ok (.aload_n 0, 1) := by decide +kernel
theorem dX7_rule_33 : decode cX7_rule 33 = .ok (.getfield 49, 3) := by decide +kernel
theorem dX7_rule_36 : decode cX7_rule 36 = .ok (.iload_n 1, 1) := by decide +kernel
theorem dX7_rule_37 : decode cX7_rule 37 = .ok (.iload_n 2, 1) := by decide +kernel
theorem dX7_rule_38 : decode cX7_rule 38 = .ok (.iastore, 1) := by decide +kernel
theorem dX7_rule_39 : decode cX7_rule 39 = .ok (.iload_n 3, 1) := by decide +kernel
theorem dX7_rule_40 : decode cX7_rule 40 = .ok (.ireturn, 1) := by decide +kernel
theorem dX7_press_0 : decode cX7_press 0 = .ok (.aload_n 0, 1) := by decide +kernel
theorem dX7_press_1 : decode cX7_press 1 = .ok (.iload_n 1, 1) := by decide +kernel
theorem dX7_press_2 : decode cX7_press 2 = .ok (.invokevirtual 112, 3) := by decide +kernel
theorem dX7_press_5 : decode cX7_press 5 = .ok (.ifCond .ne 5, 3) := by decide +kernel
theorem dX7_press_8 : decode cX7_press 8 = .ok (.iconst (-1), 1) := by decide +kernel
theorem dX7_press_9 : decode cX7_press 9 = .ok (.ireturn, 1) := by decide +kernel
theorem dX7_press_10 : decode cX7_press 10 = .ok (.iload_n 2, 1) := by decide +kernel
theorem dX7_press_11 : decode cX7_press 11 = .ok (.iconst 0, 1) := by decide +kernel
theorem dX7_press_12 : decode cX7_press 12 = .ok (.bipush 39, 2) := by decide +kernel
theorem dX7_press_14 : decode cX7_press 14 = .ok (.invokestatic 66, 3) := by decide +kernel
theorem dX7_press_17 : decode cX7_press 17 = .ok (.ifCond .eq 21, 3) := by decide +kernel
theorem dX7_press_20 : decode cX7_press 20 = .ok (.iload_n 3, 1) := by decide +kernel
theorem dX7_press_21 : decode cX7_press 21 = .ok (.iconst 0, 1) := by decide +kernel
theorem dX7_press_22 : decode cX7_press 22 = .ok (.bipush 29, 2) := by decide +kernel
theorem dX7_press_24 : decode cX7_press 24 = .ok (.invokestatic 66, 3) := by decide +kernel
theorem dX7_press_27 : decode cX7_press 27 = .ok (.ifCond .eq 11, 3) := by decide +kernel
theorem dX7_press_30 : decode cX7_press 30 = .ok (.iload 4, 2) := by decide +kernel
theorem dX7_press_32 : decode cX7_press 32 = .ok (.invokestatic 199, 3) := by decide +kernel
theorem dX7_press_35 : decode cX7_press 35 = .ok (.ifCond .ne 6, 3) := by decide +kernel
theorem dX7_press_38 : decode cX7_press 38 = .ok (.bipush (-2), 2) := by decide +kernel
theorem dX7_press_40 : decode cX7_press 40 = .ok (.ireturn, 1) := by decide +kernel
theorem dX7_press_41 : decode cX7_press 41 = .ok (.aload_n 0, 1) := by decide +kernel
theorem dX7_press_42 : decode cX7_press 42 = .ok (.getfield 27, 3) := by decide +kernel
theorem dX7_press_45 : decode cX7_press 45 = .ok (.iload_n 1, 1) := by decide +kernel
theorem dX7_press_46 : decode cX7_press 46 = .ok (.aaload, 1) := by decide +kernel
theorem dX7_press_47 : decode cX7_press 47 = .ok (.astore 5, 2) := by decide +kernel
theorem dX7_press_49 : decode cX7_press 49 = .ok (.iload 4, 2) := by decide +kernel
theorem dX7_press_51 : decode cX7_press 51 = .ok (.aload 5, 2) := by decide +kernel
theorem dX7_press_53 : decode cX7_press 53 = .ok (.getfield 202, 3) := by decide +kernel
theorem dX7_press_56 : decode cX7_press 56 = .ok (.if_icmp .ge 6, 3) := by decide +kernel
theorem dX7_press_59 : decode cX7_press 59 = .ok (.bipush (-3), 2) := by decide +kernel
theorem dX7_press_61 : decode cX7_press 61 = .ok (.ireturn, 1) := by decide +kernel
theorem dX7_press_62 : decode cX7_press 62 = .ok (.aload 5, 2) := by decide +kernel
theorem dX7_press_64 : decode cX7_press 64 = .ok (.iload 4, 2) := by decide +kernel
theorem dX7_press_66 : decode cX7_press 66 = .ok (.putfield 202, 3) := by decide +kernel
theorem dX7_press_69 : decode cX7_press 69 = .ok (.aload_n 0, 1) := by decide +kernel
theorem dX7_press_70 : decode cX7_press 70 = .ok (.aload 5, 2) := by decide +kernel
theorem dX7_press_72 : decode cX7_press 72 = .ok (.iload_n 2, 1) := by decide +kernel
theorem dX7_press_73 : decode cX7_press 73 = .ok (.iload_n 3, 1) := by decide +kernel
theorem dX7_press_74 : decode cX7_press 74 = .ok (.iload 4, 2) := by decide +kernel
theorem dX7_press_76 : decode cX7_press 76 = .ok (.invokevirtual 205, 3) := by decide +kernel
theorem dX7_press_79 : decode cX7_press 79 = .ok (.ireturn, 1) := by decide +kernel
theorem dX7_confirm_0 : decode cX7_confirm 0 = .ok (.aload_n 0, 1) := by decide +kernel
theorem dX7_confirm_1 : decode cX7_confirm 1 = .ok (.iload_n 1, 1) := by decide +kernel
theorem dX7_confirm_2 : decode cX7_confirm 2 = .ok (.invokevirtual 112, 3) := by decide +kernel
theorem dX7_confirm_5 : decode cX7_confirm 5 = .ok (.ifCond .ne 5, 3) := by decide +kernel
theorem dX7_confirm_8 : decode cX7_confirm 8 = .ok (.iconst (-1), 1) := by decide +kernel
theorem dX7_confirm_9 : decode cX7_confirm 9 = .ok (.ireturn, 1) := by decide +kernel
theorem dX7_confirm_10 : decode cX7_confirm 10 = .ok (.iload_n 2, 1) := by decide +kernel
theorem dX7_confirm_11 : decode cX7_confirm 11 = .ok (.invokestatic 199, 3) := by decide +kernel
theorem dX7_confirm_14 : decode cX7_confirm 14 = .ok (.ifCond .ne 6, 3) := by decide +kernel
theorem dX7_confirm_17 : decode cX7_confirm 17 = .ok (.bipush (-2), 2) := by decide +kernel
theorem dX7_confirm_19 : decode cX7_confirm 19 = .ok (.ireturn, 1) := by decide +kernel
theorem dX7_confirm_20 : decode cX7_confirm 20 = .ok (.aload_n 0, 1) := by decide +kernel
theorem dX7_confirm_21 : decode cX7_confirm 21 = .ok (.getfield 27, 3) := by decide +kernel
theorem dX7_confirm_24 : decode cX7_confirm 24 = .ok (.iload_n 1, 1) := by decide +kernel
theorem dX7_confirm_25 : decode cX7_confirm 25 = .ok (.aaload, 1) := by decide +kernel
theorem dX7_confirm_26 : decode cX7_confirm 26 = .ok (.astore_n 3, 1) := by decide +kernel
theorem dX7_confirm_27 : decode cX7_confirm 27 = .ok (.aload_n 3, 1) := by decide +kernel
theorem dX7_confirm_28 : decode cX7_confirm 28 = .ok (.getfield 209, 3) := by decide +kernel
theorem dX7_confirm_31 : decode cX7_confirm 31 = .ok (.bipush (-9), 2) := by decide +kernel
theorem dX7_confirm_33 : decode cX7_confirm 33 = .ok (.if_icmp .eq 11, 3) := by decide +kernel
theorem dX7_confirm_36 : decode cX7_confirm 36 = .ok (.iload_n 2, 1) := by decide +kernel
theorem dX7_confirm_37 : decode cX7_confirm 37 = .ok (.aload_n 3, 1) := by decide +kernel
theorem dX7_confirm_38 : decode cX7_confirm 38 = .ok (.getfield 202, 3) := by decide +kernel
theorem dX7_confirm_41 : decode cX7_confirm 41 = .ok (.if_icmp .ge 6, 3) := by decide +kernel
theorem dX7_confirm_44 : decode cX7_confirm 44 = .ok (.bipush (-3), 2) := by decide +kernel
theorem dX7_confirm_46 : decode cX7_confirm 46 = .ok (.ireturn, 1) := by decide +kernel
theorem dX7_confirm_47 : decode cX7_confirm 47 = .ok (.aload_n 3, 1) := by decide +kernel
theorem dX7_confirm_48 : decode cX7_confirm 48 = .ok (.getfield 209, 3) := by decide +kernel
theorem dX7_confirm_51 : decode cX7_confirm 51 = .ok (.istore 4, 2) := by decide +kernel
theorem dX7_confirm_53 : decode cX7_confirm 53 = .ok (.aload_n 3, 1) := by decide +kernel
theorem dX7_confirm_54 : decode cX7_confirm 54 = .ok (.iload_n 2, 1) := by decide +kernel
theorem dX7_confirm_55 : decode cX7_confirm 55 = .ok (.putfield 202, 3) := by decide +kernel
theorem dX7_confirm_58 : decode cX7_confirm 58 = .ok (.aload_n 3, 1) := by decide +kernel
theorem dX7_confirm_59 : decode cX7_confirm 59 = .ok (.aload_n 3, 1) := by decide +kernel
theorem dX7_confirm_60 : decode cX7_confirm 60 = .ok (.getfield 212, 3) := by decide +kernel
theorem dX7_confirm_63 : decode cX7_confirm 63 = .ok (.invokevirtual 215, 3) := by decide +kernel
theorem dX7_confirm_66 : decode cX7_confirm 66 = .ok (.iload 4, 2) := by decide +kernel
theorem dX7_confirm_68 : decode cX7_confirm 68 = .ok (.ireturn, 1) := by decide +kernel
theorem dX7_asked_0 : decode cX7_asked 0 = .ok (.aload_n 0, 1) := by decide +kernel
theorem dX7_asked_1 : decode cX7_asked 1 = .ok (.iload_n 1, 1) := by decide +kernel
theorem dX7_asked_2 : decode cX7_asked 2 = .ok (.invokevirtual 112, 3) := by decide +kernel
theorem dX7_asked_5 : decode cX7_asked 5 = .ok (.ifCond .eq 15, 3) := by decide +kernel
theorem dX7_asked_8 : decode cX7_asked 8 = .ok (.aload_n 0, 1) := by decide +kernel
theorem dX7_asked_9 : decode cX7_asked 9 = .ok (.getfield 27, 3) := by decide +kernel
theorem dX7_asked_12 : decode cX7_asked 12 = .ok (.iload_n 1, 1) := by decide +kernel
theorem dX7_asked_13 : decode cX7_asked 13 = .ok (.aaload, 1) := by decide +kernel
theorem dX7_asked_14 : decode cX7_asked 14 = .ok (.getfield 209, 3) := by decide +kernel
theorem dX7_asked_17 : decode cX7_asked 17 = .ok (.goto 4, 3) := by decide +kernel
theorem dX7_asked_20 : decode cX7_asked 20 = .ok (.iconst (-1), 1) := by decide +kernel
theorem dX7_asked_21 : decode cX7_asked 21 = .ok (.ireturn, 1) := by decide +kernel
theorem dX7_undo_0 : decode cX7_undo 0 = .ok (.aload_n 0, 1) := by decide +kernel
theorem dX7_undo_1 : decode cX7_undo 1 = .ok (.iload_n 1, 1) := by decide +kernel
theorem dX7_undo_2 : decode cX7_undo 2 = .ok (.invokevirtual 112, 3) := by decide +kernel
theorem dX7_undo_5 : decode cX7_undo 5 = .ok (.ifCond .ne 5, 3) := by decide +kernel
theorem dX7_undo_8 : decode cX7_undo 8 = .ok (.iconst (-1), 1) := by decide +kernel
theorem dX7_undo_9 : decode cX7_undo 9 = .ok (.ireturn, 1) := by decide +kernel
theorem dX7_undo_10 : decode cX7_undo 10 = .ok (.aload_n 0, 1) := by decide +kernel
theorem dX7_undo_11 : decode cX7_undo 11 = .ok (.getfield 27, 3) := by decide +kernel
theorem dX7_undo_14 : decode cX7_undo 14 = .ok (.iload_n 1, 1) := by decide +kernel
theorem dX7_undo_15 : decode cX7_undo 15 = .ok (.aaload, 1) := by decide +kernel
theorem dX7_undo_16 : decode cX7_undo 16 = .ok (.getfield 219, 3) := by decide +kernel
theorem dX7_undo_19 : decode cX7_undo 19 = .ok (.ifCond .ne 6, 3) := by decide +kernel
theorem dX7_undo_22 : decode cX7_undo 22 = .ok (.bipush (-3), 2) := by decide +kernel
theorem dX7_undo_24 : decode cX7_undo 24 = .ok (.ireturn, 1) := by decide +kernel
theorem dX7_undo_25 : decode cX7_undo 25 = .ok (.aload_n 0, 1) := by decide +kernel
theorem dX7_undo_26 : decode cX7_undo 26 = .ok (.getfield 27, 3) := by decide +kernel
theorem dX7_undo_29 : decode cX7_undo 29 = .ok (.iload_n 1, 1) := by decide +kernel
theorem dX7_undo_30 : decode cX7_undo 30 = .ok (.aaload, 1) := by decide +kernel
theorem dX7_undo_31 : decode cX7_undo 31 = .ok (.invokevirtual 222, 3) := by decide +kernel
theorem dX7_undo_34 : decode cX7_undo 34 = .ok (.ireturn, 1) := by decide +kernel
theorem dX7_counted_0 : decode cX7_counted 0 = .ok (.aload_n 0, 1) := by decide +kernel
theorem dX7_counted_1 : decode cX7_counted 1 = .ok (.iload_n 1, 1) := by decide +kernel
theorem dX7_counted_2 : decode cX7_counted 2 = .ok (.invokevirtual 112, 3) := by decide +kernel
theorem dX7_counted_5 : decode cX7_counted 5 = .ok (.ifCond .ne 5, 3) := by decide +kernel
theorem dX7_counted_8 : decode cX7_counted 8 = .ok (.iconst (-1), 1) := by decide +kernel
theorem dX7_counted_9 : decode cX7_counted 9 = .ok (.ireturn, 1) := by decide +kernel
theorem dX7_counted_10 : decode cX7_counted 10 = .ok (.iload_n 2, 1) := by decide +kernel
theorem dX7_counted_11 : decode cX7_counted 11 = .ok (.iconst 0, 1) := by decide +kernel
theorem dX7_counted_12 : decode cX7_counted 12 = .ok (.iconst 2, 1) := by decide +kernel
theorem dX7_counted_13 : decode cX7_counted 13 = .ok (.invokestatic 66, 3) := by decide +kernel
theorem dX7_counted_16 : decode cX7_counted 16 = .ok (.ifCond .ne 6, 3) := by decide +kernel
theorem dX7_counted_19 : decode cX7_counted 19 = .ok (.bipush (-2), 2) := by decide +kernel
theorem dX7_counted_21 : decode cX7_counted 21 = .ok (.ireturn, 1) := by decide +kernel
theorem dX7_counted_22 : decode cX7_counted 22 = .ok (.aload_n 0, 1) := by decide +kernel
theorem dX7_counted_23 : decode cX7_counted 23 = .ok (.getfield 27, 3) := by decide +kernel
theorem dX7_counted_26 : decode cX7_counted 26 = .ok (.iload_n 1, 1) := by decide +kernel
theorem dX7_counted_27 : decode cX7_counted 27 = .ok (.aaload, 1) := by decide +kernel
theorem dX7_counted_28 : decode cX7_counted 28 = .ok (.getfield 225, 3) := by decide +kernel
theorem dX7_counted_31 : decode cX7_counted 31 = .ok (.iload_n 2, 1) := by decide +kernel
theorem dX7_counted_32 : decode cX7_counted 32 = .ok (.iaload, 1) := by decide +kernel
theorem dX7_counted_33 : decode cX7_counted 33 = .ok (.ireturn, 1) := by decide +kernel
theorem dX7_span_0 : decode cX7_span 0 = .ok (.aload_n 0, 1) := by decide +kernel
theorem dX7_span_1 : decode cX7_span 1 = .ok (.iload_n 1, 1) := by decide +kernel
theorem dX7_span_2 : decode cX7_span 2 = .ok (.invokevirtual 112, 3) := by decide +kernel
theorem dX7_span_5 : decode cX7_span 5 = .ok (.ifCond .ne 5, 3) := by decide +kernel
theorem dX7_span_8 : decode cX7_span 8 = .ok (.iconst (-1), 1) := by decide +kernel
theorem dX7_span_9 : decode cX7_span 9 = .ok (.ireturn, 1) := by decide +kernel
theorem dX7_span_10 : decode cX7_span 10 = .ok (.iload_n 2, 1) := by decide +kernel
theorem dX7_span_11 : decode cX7_span 11 = .ok (.iconst 1, 1) := by decide +kernel
theorem dX7_span_12 : decode cX7_span 12 = .ok (.bipush 10, 2) := by decide +kernel
theorem dX7_span_14 : decode cX7_span 14 = .ok (.invokestatic 66, 3) := by decide +kernel
theorem dX7_span_17 : decode cX7_span 17 = .ok (.ifCond .ne 6, 3) := by decide +kernel
theorem dX7_span_20 : decode cX7_span 20 = .ok (.bipush (-2), 2) := by decide +kernel
theorem dX7_span_22 : decode cX7_span 22 = .ok (.ireturn, 1) := by decide +kernel
theorem dX7_span_23 : decode cX7_span 23 = .ok (.aload_n 0, 1) := by decide +kernel
theorem dX7_span_24 : decode cX7_span 24 = .ok (.getfield 27, 3) := by decide +kernel
theorem dX7_span_27 : decode cX7_span 27 = .ok (.iload_n 1, 1) := by decide +kernel
theorem dX7_span_28 : decode cX7_span 28 = .ok (.aaload, 1) := by decide +kernel
theorem dX7_span_29 : decode cX7_span 29 = .ok (.iload_n 2, 1) := by decide +kernel
theorem dX7_span_30 : decode cX7_span 30 = .ok (.invokevirtual 228, 3) := by decide +kernel
theorem dX7_span_33 : decode cX7_span 33 = .ok (.ireturn, 1) := by decide +kernel
theorem dX7_worse_0 : decode cX7_worse 0 = .ok (.aload_n 0, 1) := by decide +kernel
theorem dX7_worse_1 : decode cX7_worse 1 = .ok (.iload_n 1, 1) := by decide +kernel
theorem dX7_worse_2 : decode cX7_worse 2 = .ok (.invokevirtual 112, 3) := by decide +kernel
theorem dX7_worse_5 : decode cX7_worse 5 = .ok (.ifCond .eq 12, 3) := by decide +kernel
theorem dX7_worse_8 : decode cX7_worse 8 = .ok (.iload_n 2, 1) := by decide +kernel
theorem dX7_worse_9 : decode cX7_worse 9 = .ok (.iconst 0, 1) := by decide +kernel
theorem dX7_worse_10 : decode cX7_worse 10 = .ok (.iconst 1, 1) := by decide +kernel
theorem dX7_worse_11 : decode cX7_worse 11 = .ok (.invokestatic 66, 3) := by decide +kernel
theorem dX7_worse_14 : decode cX7_worse 14 = .ok (.ifCond .ne 7, 3) := by decide +kernel
theorem dX7_worse_17 : decode cX7_worse 17 = .ok (.ldc2_w 231, 3) := by decide +kernel
theorem dX7_worse_20 : decode cX7_worse 20 = .ok (.lreturn, 1) := by decide +kernel
theorem dX7_worse_21 : decode cX7_worse 21 = .ok (.aload_n 0, 1) := by decide +kernel
theorem dX7_worse_22 : decode cX7_worse 22 = .ok (.getfield 27, 3) := by decide +kernel
theorem dX7_worse_25 : decode cX7_worse 25 = .ok (.iload_n 1, 1) := by decide +kernel
theorem dX7_worse_26 : decode cX7_worse 26 = .ok (.aaload, 1) := by decide +kernel
theorem dX7_worse_27 : decode cX7_worse 27 = .ok (.iconst 1, 1) := by decide +kernel
theorem dX7_worse_28 : decode cX7_worse 28 = .ok (.invokevirtual 233, 3) := by decide +kernel
theorem dX7_worse_31 : decode cX7_worse 31 = .ok (.istore_n 3, 1) := by decide +kernel
theorem dX7_worse_32 : decode cX7_worse 32 = .ok (.aload_n 0, 1) := by decide +kernel
theorem dX7_worse_33 : decode cX7_worse 33 = .ok (.getfield 27, 3) := by decide +kernel
theorem dX7_worse_36 : decode cX7_worse 36 = .ok (.iload_n 1, 1) := by decide +kernel
theorem dX7_worse_37 : decode cX7_worse 37 = .ok (.aaload, 1) := by decide +kernel
theorem dX7_worse_38 : decode cX7_worse 38 = .ok (.iconst (-1), 1) := by decide +kernel
theorem dX7_worse_39 : decode cX7_worse 39 = .ok (.invokevirtual 233, 3) := by decide +kernel
theorem dX7_worse_42 : decode cX7_worse 42 = .ok (.istore 4, 2) := by decide +kernel
theorem dX7_worse_44 : decode cX7_worse 44 = .ok (.iload_n 3, 1) := by decide +kernel
theorem dX7_worse_45 : decode cX7_worse 45 = .ok (.iload 4, 2) := by decide +kernel
theorem dX7_worse_47 : decode cX7_worse 47 = .ok (.iadd, 1) := by decide +kernel
theorem dX7_worse_48 : decode cX7_worse 48 = .ok (.ifCond .ne 7, 3) := by decide +kernel
theorem dX7_worse_51 : decode cX7_worse 51 = .ok (.ldc2_w 231, 3) := by decide +kernel
theorem dX7_worse_54 : decode cX7_worse 54 = .ok (.lreturn, 1) := by decide +kernel
theorem dX7_worse_55 : decode cX7_worse 55 = .ok (.iload_n 3, 1) := by decide +kernel
theorem dX7_worse_56 : decode cX7_worse 56 = .ok (.iload_n 3, 1) := by decide +kernel
theorem dX7_worse_57 : decode cX7_worse 57 = .ok (.iload 4, 2) := by decide +kernel
theorem dX7_worse_59 : decode cX7_worse 59 = .ok (.iadd, 1) := by decide +kernel
theorem dX7_worse_60 : decode cX7_worse 60 = .ok (.iload_n 2, 1) := by decide +kernel
theorem dX7_worse_61 : decode cX7_worse 61 = .ok (.invokestatic 236, 3) := by decide +kernel
theorem dX7_worse_64 : decode cX7_worse 64 = .ok (.i2l, 1) := by decide +kernel
theorem dX7_worse_65 : decode cX7_worse 65 = .ok (.lreturn, 1) := by decide +kernel
theorem dX7_trial_0 : decode cX7_trial 0 = .ok (.aload_n 0, 1) := by decide +kernel
theorem dX7_trial_1 : decode cX7_trial 1 = .ok (.iload_n 1, 1) := by decide +kernel
theorem dX7_trial_2 : decode cX7_trial 2 = .ok (.invokevirtual 112, 3) := by decide +kernel
theorem dX7_trial_5 : decode cX7_trial 5 = .ok (.ifCond .ne 5, 3) := by decide +kernel
theorem dX7_trial_8 : decode cX7_trial 8 = .ok (.iconst (-1), 1) := by decide +kernel
theorem dX7_trial_9 : decode cX7_trial 9 = .ok (.ireturn, 1) := by decide +kernel
theorem dX7_trial_10 : decode cX7_trial 10 = .ok (.iload_n 2, 1) := by decide +kernel
theorem dX7_trial_11 : decode cX7_trial 11 = .ok (.iconst 0, 1) := by decide +kernel
theorem dX7_trial_12 : decode cX7_trial 12 = .ok (.bipush 99, 2) := by decide +kernel
theorem dX7_trial_14 : decode cX7_trial 14 = .ok (.invokestatic 66, 3) := by decide +kernel
theorem dX7_trial_17 : decode cX7_trial 17 = .ok (.ifCond .eq 13, 3) := by decide +kernel
theorem dX7_trial_20 : decode cX7_trial 20 = .ok (.iload_n 3, 1) := by decide +kernel
theorem dX7_trial_21 : decode cX7_trial 21 = .ok (.iconst 0, 1) := by decide +kernel
theorem dX7_trial_22 : decode cX7_trial 22 = .ok (.bipush 99, 2) := by decide +kernel
theorem dX7_trial_24 : decode cX7_trial 24 = .ok (.invokestatic 66, 3) := by decide +kernel
theorem dX7_trial_27 : decode cX7_trial 27 = .ok (.ifCond .ne 6, 3) := by decide +kernel
theorem dX7_trial_30 : decode cX7_trial 30 = .ok (.bipush (-2), 2) := by decide +kernel
theorem dX7_trial_32 : decode cX7_trial 32 = .ok (.ireturn, 1) := by decide +kernel
theorem dX7_trial_33 : decode cX7_trial 33 = .ok (.aload_n 0, 1) := by decide +kernel
theorem dX7_trial_34 : decode cX7_trial 34 = .ok (.getfield 27, 3) := by decide +kernel
theorem dX7_trial_37 : decode cX7_trial 37 = .ok (.iload_n 1, 1) := by decide +kernel
theorem dX7_trial_38 : decode cX7_trial 38 = .ok (.aaload, 1) := by decide +kernel
theorem dX7_trial_39 : decode cX7_trial 39 = .ok (.astore 4, 2) := by decide +kernel
theorem dX7_trial_41 : decode cX7_trial 41 = .ok (.aload 4, 2) := by decide +kernel
theorem dX7_trial_43 : decode cX7_trial 43 = .ok (.getfield 240, 3) := by decide +kernel
theorem dX7_trial_46 : decode cX7_trial 46 = .ok (.bipush 10, 2) := by decide +kernel
theorem dX7_trial_48 : decode cX7_trial 48 = .ok (.if_icmp .lt 6, 3) := by decide +kernel
theorem dX7_trial_51 : decode cX7_trial 51 = .ok (.bipush (-4), 2) := by decide +kernel
theorem dX7_trial_53 : decode cX7_trial 53 = .ok (.ireturn, 1) := by decide +kernel
theorem dX7_trial_54 : decode cX7_trial 54 = .ok (.aload 4, 2) := by decide +kernel
theorem dX7_trial_56 : decode cX7_trial 56 = .ok (.getfield 243, 3) := by decide +kernel
theorem dX7_trial_59 : decode cX7_trial 59 = .ok (.aload 4, 2) := by decide +kernel
theorem dX7_trial_61 : decode cX7_trial 61 = .ok (.getfield 240, 3) := by decide +kernel
theorem dX7_trial_64 : decode cX7_trial 64 = .ok (.iload_n 2, 1) := by decide +kernel
theorem dX7_trial_65 : decode cX7_trial 65 = .ok (.iload_n 3, 1) := by decide +kernel
theorem dX7_trial_66 : decode cX7_trial 66 = .ok (.isub, 1) := by decide +kernel
theorem dX7_trial_67 : decode cX7_trial 67 = .ok (.iastore, 1) := by decide +kernel
theorem dX7_trial_68 : decode cX7_trial 68 = .ok (.aload 4, 2) := by decide +kernel
theorem dX7_trial_70 : decode cX7_trial 70 = .ok (.dup, 1) := by decide +kernel
theorem dX7_trial_71 : decode cX7_trial 71 = .ok (.getfield 240, 3) := by decide +kernel
theorem dX7_trial_74 : decode cX7_trial 74 = .ok (.iconst 1, 1) := by decide +kernel
theorem dX7_trial_75 : decode cX7_trial 75 = .ok (.iadd, 1) := by decide +kernel
theorem dX7_trial_76 : decode cX7_trial 76 = .ok (.putfield 240, 3) := by decide +kernel
theorem dX7_trial_79 : decode cX7_trial 79 = .ok (.aload 4, 2) := by decide +kernel
theorem dX7_trial_81 : decode cX7_trial 81 = .ok (.getfield 240, 3) := by decide +kernel
theorem dX7_trial_84 : decode cX7_trial 84 = .ok (.ireturn, 1) := by decide +kernel
theorem dX7_odds_0 : decode cX7_odds 0 = .ok (.aload_n 0, 1) := by decide +kernel
theorem dX7_odds_1 : decode cX7_odds 1 = .ok (.iload_n 1, 1) := by decide +kernel
theorem dX7_odds_2 : decode cX7_odds 2 = .ok (.invokevirtual 112, 3) := by decide +kernel
theorem dX7_odds_5 : decode cX7_odds 5 = .ok (.ifCond .eq 12, 3) := by decide +kernel
theorem dX7_odds_8 : decode cX7_odds 8 = .ok (.iload_n 2, 1) := by decide +kernel
theorem dX7_odds_9 : decode cX7_odds 9 = .ok (.iconst 0, 1) := by decide +kernel
theorem dX7_odds_10 : decode cX7_odds 10 = .ok (.iconst 1, 1) := by decide +kernel
theorem dX7_odds_11 : decode cX7_odds 11 = .ok (.invokestatic 66, 3) := by decide +kernel
theorem dX7_odds_14 : decode cX7_odds 14 = .ok (.ifCond .ne 7, 3) := by decide +kernel
theorem dX7_odds_17 : decode cX7_odds 17 = .ok (.ldc2_w 231, 3) := by decide +kernel
theorem dX7_odds_20 : decode cX7_odds 20 = .ok (.lreturn, 1) := by decide +kernel
theorem dX7_odds_21 : decode cX7_odds 21 = .ok (.aload_n 0, 1) := by decide +kernel
theorem dX7_odds_22 : decode cX7_odds 22 = .ok (.getfield 27, 3) := by decide +kernel
theorem dX7_odds_25 : decode cX7_odds 25 = .ok (.iload_n 1, 1) := by decide +kernel
theorem dX7_odds_26 : decode cX7_odds 26 = .ok (.aaload, 1) := by decide +kernel
theorem dX7_odds_27 : decode cX7_odds 27 = .ok (.astore_n 3, 1) := by decide +kernel
theorem dX7_odds_28 : decode cX7_odds 28 = .ok (.aload_n 3, 1) := by decide +kernel
theorem dX7_odds_29 : decode cX7_odds 29 = .ok (.getfield 240, 3) := by decide +kernel
theorem dX7_odds_32 : decode cX7_odds 32 = .ok (.ifCond .ne 7, 3) := by decide +kernel
theorem dX7_odds_35 : decode cX7_odds 35 = .ok (.ldc2_w 231, 3) := by decide +kernel
theorem dX7_odds_38 : decode cX7_odds 38 = .ok (.lreturn, 1) := by decide +kernel
theorem dX7_odds_39 : decode cX7_odds 39 = .ok (.aload_n 3, 1) := by decide +kernel
theorem dX7_odds_40 : decode cX7_odds 40 = .ok (.getfield 243, 3) := by decide +kernel
theorem dX7_odds_43 : decode cX7_odds 43 = .ok (.aload_n 3, 1) := by decide +kernel
theorem dX7_odds_44 : decode cX7_odds 44 = .ok (.getfield 240, 3) := by decide +kernel
theorem dX7_odds_47 : decode cX7_odds 47 = .ok (.iconst 0, 1) := by decide +kernel
theorem dX7_odds_48 : decode cX7_odds 48 = .ok (.iconst 0, 1) := by decide +kernel
theorem dX7_odds_49 : decode cX7_odds 49 = .ok (.invokestatic 246, 3) := by decide +kernel
theorem dX7_odds_52 : decode cX7_odds 52 = .ok (.istore 4, 2) := by decide +kernel
theorem dX7_odds_54 : decode cX7_odds 54 = .ok (.iload 4, 2) := by decide +kernel
theorem dX7_odds_56 : decode cX7_odds 56 = .ok (.iconst 1, 1) := by decide +kernel
theorem dX7_odds_57 : decode cX7_odds 57 = .ok (.aload_n 3, 1) := by decide +kernel
theorem dX7_odds_58 : decode cX7_odds 58 = .ok (.getfield 240, 3) := by decide +kernel
theorem dX7_odds_61 : decode cX7_odds 61 = .ok (.ishl, 1) := by decide +kernel
theorem dX7_odds_62 : decode cX7_odds 62 = .ok (.iload_n 2, 1) := by decide +kernel
theorem dX7_odds_63 : decode cX7_odds 63 = .ok (.invokestatic 236, 3) := by decide +kernel
theorem dX7_odds_66 : decode cX7_odds 66 = .ok (.i2l, 1) := by decide +kernel
theorem dX7_odds_67 : decode cX7_odds 67 = .ok (.lreturn, 1) := by decide +kernel
theorem dX7_leave_0 : decode cX7_leave 0 = .ok (.aload_n 0, 1) := by decide +kernel
theorem dX7_leave_1 : decode cX7_leave 1 = .ok (.iload_n 1, 1) := by decide +kernel
theorem dX7_leave_2 : decode cX7_leave 2 = .ok (.invokevirtual 112, 3) := by decide +kernel
theorem dX7_leave_5 : decode cX7_leave 5 = .ok (.ifCond .eq 11, 3) := by decide +kernel
theorem dX7_leave_8 : decode cX7_leave 8 = .ok (.aload_n 0, 1) := by decide +kernel
theorem dX7_leave_9 : decode cX7_leave 9 = .ok (.iload_n 2, 1) := by decide +kernel
theorem dX7_leave_10 : decode cX7_leave 10 = .ok (.invokevirtual 112, 3) := by decide +kernel
theorem dX7_leave_13 : decode cX7_leave 13 = .ok (.ifCond .ne 5, 3) := by decide +kernel
theorem dX7_leave_16 : decode cX7_leave 16 = .ok (.iconst (-1), 1) := by decide +kernel
theorem dX7_leave_17 : decode cX7_leave 17 = .ok (.ireturn, 1) := by decide +kernel
theorem dX7_leave_18 : decode cX7_leave 18 = .ok (.iload_n 1, 1) := by decide +kernel
theorem dX7_leave_19 : decode cX7_leave 19 = .ok (.iload_n 2, 1) := by decide +kernel
theorem dX7_leave_20 : decode cX7_leave 20 = .ok (.if_icmp .eq 24, 3) := by decide +kernel
theorem dX7_leave_23 : decode cX7_leave 23 = .ok (.iload_n 3, 1) := by decide +kernel
theorem dX7_leave_24 : decode cX7_leave 24 = .ok (.iconst 0, 1) := by decide +kernel
theorem dX7_leave_25 : decode cX7_leave 25 = .ok (.iconst 1, 1) := by decide +kernel
theorem dX7_leave_26 : decode cX7_leave 26 = .ok (.invokestatic 66, 3) := by decide +kernel
theorem dX7_leave_29 : decode cX7_leave 29 = .ok (.ifCond .eq 15, 3) := by decide +kernel
theorem dX7_leave_32 : decode cX7_leave 32 = .ok (.iload 4, 2) := by decide +kernel
theorem dX7_leave_34 : decode cX7_leave 34 = .ok (.iconst (-1), 1) := by decide +kernel
theorem dX7_leave_35 : decode cX7_leave 35 = .ok (.sipush 9999, 3) := by decide +kernel
theorem dX7_leave_38 : decode cX7_leave 38 = .ok (.invokestatic 66, 3) := by decide +kernel
theorem dX7_leave_41 : decode cX7_leave 41 = .ok (.ifCond .ne 6, 3) := by decide +kernel
theorem dX7_leave_44 : decode cX7_leave 44 = .ok (.bipush (-2), 2) := by decide +kernel
theorem dX7_leave_46 : decode cX7_leave 46 = .ok (.ireturn, 1) := by decide +kernel
theorem dX7_leave_47 : decode cX7_leave 47 = .ok (.aload_n 0, 1) := by decide +kernel
theorem dX7_leave_48 : decode cX7_leave 48 = .ok (.getfield 27, 3) := by decide +kernel
theorem dX7_leave_51 : decode cX7_leave 51 = .ok (.iload_n 1, 1) := by decide +kernel
theorem dX7_leave_52 : decode cX7_leave 52 = .ok (.aaload, 1) := by decide +kernel
theorem dX7_leave_53 : decode cX7_leave 53 = .ok (.getfield 250, 3) := by decide +kernel
theorem dX7_leave_56 : decode cX7_leave 56 = .ok (.astore 5, 2) := by decide +kernel
theorem dX7_leave_58 : decode cX7_leave 58 = .ok (.iload_n 3, 1) := by decide +kernel
theorem dX7_leave_59 : decode cX7_leave 59 = .ok (.iconst 4, 1) := by decide +kernel
theorem dX7_leave_60 : decode cX7_leave 60 = .ok (.imul, 1) := by decide +kernel
theorem dX7_leave_61 : decode cX7_leave 61 = .ok (.iload_n 2, 1) := by decide +kernel
theorem dX7_leave_62 : decode cX7_leave 62 = .ok (.iadd, 1) := by decide +kernel
theorem dX7_leave_63 : decode cX7_leave 63 = .ok (.istore 6, 2) := by decide +kernel
theorem dX7_leave_65 : decode cX7_leave 65 = .ok (.aload 5, 2) := by decide +kernel
theorem dX7_leave_67 : decode cX7_leave 67 = .ok (.iload 6, 2) := by decide +kernel
theorem dX7_leave_69 : decode cX7_leave 69 = .ok (.iaload, 1) := by decide +kernel
theorem dX7_leave_70 : decode cX7_leave 70 = .ok (.istore 7, 2) := by decide +kernel
theorem dX7_leave_72 : decode cX7_leave 72 = .ok (.aload 5, 2) := by decide +kernel
theorem dX7_leave_74 : decode cX7_leave 74 = .ok (.iload 6, 2) := by decide +kernel
theorem dX7_leave_76 : decode cX7_leave 76 = .ok (.iload 4, 2) := by decide +kernel
theorem dX7_leave_78 : decode cX7_leave 78 = .ok (.iastore, 1) := by decide +kernel
theorem dX7_leave_79 : decode cX7_leave 79 = .ok (.iload 7, 2) := by decide +kernel
theorem dX7_leave_81 : decode cX7_leave 81 = .ok (.iconst (-1), 1) := by decide +kernel
theorem dX7_leave_82 : decode cX7_leave 82 = .ok (.if_icmp .ne 8, 3) := by decide +kernel
theorem dX7_leave_85 : decode cX7_leave 85 = .ok (.bipush (-9), 2) := by decide +kernel
theorem dX7_leave_87 : decode cX7_leave 87 = .ok (.goto 5, 3) := by decide +kernel
theorem dX7_leave_90 : decode cX7_leave 90 = .ok (.iload 7, 2) := by decide +kernel
theorem dX7_leave_92 : decode cX7_leave 92 = .ok (.ireturn, 1) := by decide +kernel
theorem dX7_see_0 : decode cX7_see 0 = .ok (.aload_n 0, 1) := by decide +kernel
theorem dX7_see_1 : decode cX7_see 1 = .ok (.iload_n 1, 1) := by decide +kernel
theorem dX7_see_2 : decode cX7_see 2 = .ok (.invokevirtual 112, 3) := by decide +kernel
theorem dX7_see_5 : decode cX7_see 5 = .ok (.ifCond .eq 18, 3) := by decide +kernel
theorem dX7_see_8 : decode cX7_see 8 = .ok (.aload_n 0, 1) := by decide +kernel
theorem dX7_see_9 : decode cX7_see 9 = .ok (.iload_n 2, 1) := by decide +kernel
theorem dX7_see_10 : decode cX7_see 10 = .ok (.invokevirtual 112, 3) := by decide +kernel
theorem dX7_see_13 : decode cX7_see 13 = .ok (.ifCond .eq 10, 3) := by decide +kernel
theorem dX7_see_16 : decode cX7_see 16 = .ok (.iload_n 3, 1) := by decide +kernel
theorem dX7_see_17 : decode cX7_see 17 = .ok (.invokestatic 168, 3) := by decide +kernel
theorem dX7_see_20 : decode cX7_see 20 = .ok (.ifCond .ne 5, 3) := by decide +kernel
theorem dX7_see_23 : decode cX7_see 23 = .ok (.iconst (-1), 1) := by decide +kernel
theorem dX7_see_24 : decode cX7_see 24 = .ok (.ireturn, 1) := by decide +kernel
theorem dX7_see_25 : decode cX7_see 25 = .ok (.iload 4, 2) := by decide +kernel
theorem dX7_see_27 : decode cX7_see 27 = .ok (.invokestatic 199, 3) := by decide +kernel
theorem dX7_see_30 : decode cX7_see 30 = .ok (.ifCond .ne 6, 3) := by decide +kernel
theorem dX7_see_33 : decode cX7_see 33 = .ok (.bipush (-2), 2) := by decide +kernel
theorem dX7_see_35 : decode cX7_see 35 = .ok (.ireturn, 1) := by decide +kernel
theorem dX7_see_36 : decode cX7_see 36 = .ok (.aload_n 0, 1) := by decide +kernel
theorem dX7_see_37 : decode cX7_see 37 = .ok (.iload_n 1, 1) := by decide +kernel
theorem dX7_see_38 : decode cX7_see 38 = .ok (.iload_n 2, 1) := by decide +kernel
theorem dX7_see_39 : decode cX7_see 39 = .ok (.iconst 0, 1) := by decide +kernel
theorem dX7_see_40 : decode cX7_see 40 = .ok (.iload 4, 2) := by decide +kernel
theorem dX7_see_42 : decode cX7_see 42 = .ok (.invokevirtual 253, 3) := by decide +kernel
theorem dX7_see_45 : decode cX7_see 45 = .ok (.ifCond .ne 6, 3) := by decide +kernel
theorem dX7_see_48 : decode cX7_see 48 = .ok (.bipush (-3), 2) := by decide +kernel
theorem dX7_see_50 : decode cX7_see 50 = .ok (.ireturn, 1) := by decide +kernel
theorem dX7_see_51 : decode cX7_see 51 = .ok (.aload_n 0, 1) := by decide +kernel
theorem dX7_see_52 : decode cX7_see 52 = .ok (.getfield 27, 3) := by decide +kernel
theorem dX7_see_55 : decode cX7_see 55 = .ok (.iload_n 2, 1) := by decide +kernel
theorem dX7_see_56 : decode cX7_see 56 = .ok (.aaload, 1) := by decide +kernel
theorem dX7_see_57 : decode cX7_see 57 = .ok (.getfield 147, 3) := by decide +kernel
theorem dX7_see_60 : decode cX7_see 60 = .ok (.iload_n 3, 1) := by decide +kernel
theorem dX7_see_61 : decode cX7_see 61 = .ok (.invokevirtual 171, 3) := by decide +kernel
theorem dX7_see_64 : decode cX7_see 64 = .ok (.ireturn, 1) := by decide +kernel
theorem dX7_told_0 : decode cX7_told 0 = .ok (.aload_n 0, 1) := by decide +kernel
theorem dX7_told_1 : decode cX7_told 1 = .ok (.iload_n 1, 1) := by decide +kernel
theorem dX7_told_2 : decode cX7_told 2 = .ok (.invokevirtual 112, 3) := by decide +kernel
theorem dX7_told_5 : decode cX7_told 5 = .ok (.ifCond .eq 11, 3) := by decide +kernel
theorem dX7_told_8 : decode cX7_told 8 = .ok (.aload_n 0, 1) := by decide +kernel
theorem dX7_told_9 : decode cX7_told 9 = .ok (.iload_n 2, 1) := by decide +kernel
theorem dX7_told_10 : decode cX7_told 10 = .ok (.invokevirtual 112, 3) := by decide +kernel
theorem dX7_told_13 : decode cX7_told 13 = .ok (.ifCond .ne 5, 3) := by decide +kernel
theorem dX7_told_16 : decode cX7_told 16 = .ok (.iconst (-1), 1) := by decide +kernel
theorem dX7_told_17 : decode cX7_told 17 = .ok (.ireturn, 1) := by decide +kernel
theorem dX7_told_18 : decode cX7_told 18 = .ok (.iload_n 3, 1) := by decide +kernel
theorem dX7_told_19 : decode cX7_told 19 = .ok (.iconst 1, 1) := by decide +kernel
theorem dX7_told_20 : decode cX7_told 20 = .ok (.bipush 10, 2) := by decide +kernel
theorem dX7_told_22 : decode cX7_told 22 = .ok (.invokestatic 66, 3) := by decide +kernel
theorem dX7_told_25 : decode cX7_told 25 = .ok (.ifCond .eq 11, 3) := by decide +kernel
theorem dX7_told_28 : decode cX7_told 28 = .ok (.iload 4, 2) := by decide +kernel
theorem dX7_told_30 : decode cX7_told 30 = .ok (.invokestatic 199, 3) := by decide +kernel
theorem dX7_told_33 : decode cX7_told 33 = .ok (.ifCond .ne 6, 3) := by decide +kernel
theorem dX7_told_36 : decode cX7_told 36 = .ok (.bipush (-2), 2) := by decide +kernel
theorem dX7_told_38 : decode cX7_told 38 = .ok (.ireturn, 1) := by decide +kernel
theorem dX7_told_39 : decode cX7_told 39 = .ok (.aload_n 0, 1) := by decide +kernel
theorem dX7_told_40 : decode cX7_told 40 = .ok (.iload_n 1, 1) := by decide +kernel
theorem dX7_told_41 : decode cX7_told 41 = .ok (.iload_n 2, 1) := by decide +kernel
theorem dX7_told_42 : decode cX7_told 42 = .ok (.iconst 1, 1) := by decide +kernel
theorem dX7_told_43 : decode cX7_told 43 = .ok (.iload 4, 2) := by decide +kernel
theorem dX7_told_45 : decode cX7_told 45 = .ok (.invokevirtual 253, 3) := by decide +kernel
theorem dX7_told_48 : decode cX7_told 48 = .ok (.ifCond .ne 6, 3) := by decide +kernel
theorem dX7_told_51 : decode cX7_told 51 = .ok (.bipush (-3), 2) := by decide +kernel
theorem dX7_told_53 : decode cX7_told 53 = .ok (.ireturn, 1) := by decide +kernel
theorem dX7_told_54 : decode cX7_told 54 = .ok (.aload_n 0, 1) := by decide +kernel
theorem dX7_told_55 : decode cX7_told 55 = .ok (.getfield 27, 3) := by decide +kernel
theorem dX7_told_58 : decode cX7_told 58 = .ok (.iload_n 2, 1) := by decide +kernel
theorem dX7_told_59 : decode cX7_told 59 = .ok (.aaload, 1) := by decide +kernel
theorem dX7_told_60 : decode cX7_told 60 = .ok (.iload_n 3, 1) := by decide +kernel
theorem dX7_told_61 : decode cX7_told 61 = .ok (.invokevirtual 228, 3) := by decide +kernel
theorem dX7_told_64 : decode cX7_told 64 = .ok (.ireturn, 1) := by decide +kernel
theorem dX7_sheet_0 : decode cX7_sheet 0 = .ok (.aload_n 0, 1) := by decide +kernel
theorem dX7_sheet_1 : decode cX7_sheet 1 = .ok (.iconst 0, 1) := by decide +kernel
theorem dX7_sheet_2 : decode cX7_sheet 2 = .ok (.putfield 62, 3) := by decide +kernel
theorem dX7_sheet_5 : decode cX7_sheet 5 = .ok (.iload_n 1, 1) := by decide +kernel
theorem dX7_sheet_6 : decode cX7_sheet 6 = .ok (.iconst 0, 1) := by decide +kernel
theorem dX7_sheet_7 : decode cX7_sheet 7 = .ok (.iconst 3, 1) := by decide +kernel
theorem dX7_sheet_8 : decode cX7_sheet 8 = .ok (.invokestatic 66, 3) := by decide +kernel
theorem dX7_sheet_11 : decode cX7_sheet 11 = .ok (.ifCond .ne 5, 3) := by decide +kernel
theorem dX7_sheet_14 : decode cX7_sheet 14 = .ok (.iconst (-1), 1) := by decide +kernel
theorem dX7_sheet_15 : decode cX7_sheet 15 = .ok (.ireturn, 1) := by decide +kernel
theorem dX7_sheet_16 : decode cX7_sheet 16 = .ok (.iload_n 2, 1) := by decide +kernel
theorem dX7_sheet_17 : decode cX7_sheet 17 = .ok (.iconst 0, 1) := by decide +kernel
theorem dX7_sheet_18 : decode cX7_sheet 18 = .ok (.iconst 2, 1) := by decide +kernel
theorem dX7_sheet_19 : decode cX7_sheet 19 = .ok (.invokestatic 66, 3) := by decide +kernel
theorem dX7_sheet_22 : decode cX7_sheet 22 = .ok (.ifCond .eq 9, 3) := by decide +kernel
theorem dX7_sheet_25 : decode cX7_sheet 25 = .ok (.iload_n 3, 1) := by decide +kernel
theorem dX7_sheet_26 : decode cX7_sheet 26 = .ok (.bipush 60, 2) := by decide +kernel
theorem dX7_sheet_28 : decode cX7_sheet 28 = .ok (.if_icmp .le 6, 3) := by decide +kernel
theorem dX7_sheet_31 : decode cX7_sheet 31 = .ok (.bipush (-2), 2) := by decide +kernel
theorem dX7_sheet_33 : decode cX7_sheet 33 = .ok (.ireturn, 1) := by decide +kernel
theorem dX7_sheet_34 : decode cX7_sheet 34 = .ok (.iload_n 3, 1) := by decide +kernel
theorem dX7_sheet_35 : decode cX7_sheet 35 = .ok (.ifCond .ge 9, 3) := by decide +kernel
theorem dX7_sheet_38 : decode cX7_sheet 38 = .ok (.aload_n 0, 1) := by decide +kernel
theorem dX7_sheet_39 : decode cX7_sheet 39 = .ok (.iconst 4, 1) := by decide +kernel
theorem dX7_sheet_40 : decode cX7_sheet 40 = .ok (.invokevirtual 70, 3) := by decide +kernel
theorem dX7_sheet_43 : decode cX7_sheet 43 = .ok (.ireturn, 1) := by decide +kernel
