theorem dX0_become_18 : decode cX0_become 18 = .ok (.bipush 10, 2) := by decide +kernel
theorem dX0_become_20 : decode cX0_become 20 = .ok (.invokestatic 19, 3) := by decide +kernel
theorem dX0_become_23 : decode cX0_become 23 = .ok (.return_, 1) := by decide +kernel
theorem dX0_hasPart_0 : decode cX0_hasPart 0 = .ok (.aload_n 0, 1) := by decide +kernel
theorem dX0_hasPart_1 : decode cX0_hasPart 1 = .ok (.getfield 9, 3) := by decide +kernel
theorem dX0_hasPart_4 : decode cX0_hasPart 4 = .ok (.iload_n 1, 1) := by decide +kernel
theorem dX0_hasPart_5 : decode cX0_hasPart 5 = .ok (.ishr, 1) := by decide +kernel
theorem dX0_hasPart_6 : decode cX0_hasPart 6 = .ok (.iconst 1, 1) := by decide +kernel
theorem dX0_hasPart_7 : decode cX0_hasPart 7 = .ok (.iand, 1) := by decide +kernel
theorem dX0_hasPart_8 : decode cX0_hasPart 8 = .ok (.iconst 1, 1) := by decide +kernel
theorem dX0_hasPart_9 : decode cX0_hasPart 9 = .ok (.if_icmp .ne 7, 3) := by decide +kernel
theorem dX0_hasPart_12 : decode cX0_hasPart 12 = .ok (.iconst 1, 1) := by decide +kernel
theorem dX0_hasPart_13 : decode cX0_hasPart 13 = .ok (.goto 4, 3) := by decide +kernel
theorem dX0_hasPart_16 : decode cX0_hasPart 16 = .ok (.iconst 0, 1) := by decide +kernel
theorem dX0_hasPart_17 : decode cX0_hasPart 17 = .ok (.ireturn, 1) := by decide +kernel
theorem dX0_placeOf_0 : decode cX0_placeOf 0 = .ok (.aload_n 0, 1) := by decide +kernel
theorem dX0_placeOf_1 : decode cX0_placeOf 1 = .ok (.iload_n 1, 1) := by decide +kernel
theorem dX0_placeOf_2 : decode cX0_placeOf 2 = .ok (.invokevirtual 25, 3) := by decide +kernel
theorem dX0_placeOf_5 : decode cX0_placeOf 5 = .ok (.ifCond .eq 12, 3) := by decide +kernel
theorem dX0_placeOf_8 : decode cX0_placeOf 8 = .ok (.aload_n 0, 1) := by decide +kernel
theorem dX0_placeOf_9 : decode cX0_placeOf 9 = .ok (.getfield 15, 3) := by decide +kernel
theorem dX0_placeOf_12 : decode cX0_placeOf 12 = .ok (.iload_n 1, 1) := by decide +kernel
theorem dX0_placeOf_13 : decode cX0_placeOf 13 = .ok (.iaload, 1) := by decide +kernel
theorem dX0_placeOf_14 : decode cX0_placeOf 14 = .ok (.goto 5, 3) := by decide +kernel
theorem dX0_placeOf_17 : decode cX0_placeOf 17 = .ok (.bipush (-9), 2) := by decide +kernel
theorem dX0_placeOf_19 : decode cX0_placeOf 19 = .ok (.ireturn, 1) := by decide +kernel
theorem dX0_partAt_0 : decode cX0_partAt 0 = .ok (.iconst 0, 1) := by decide +kernel
theorem dX0_partAt_1 : decode cX0_partAt 1 = .ok (.istore_n 2, 1) := by decide +kernel
theorem dX0_partAt_2 : decode cX0_partAt 2 = .ok (.iload_n 2, 1) := by decide +kernel
theorem dX0_partAt_3 : decode cX0_partAt 3 = .ok (.bipush 10, 2) := by decide +kernel
theorem dX0_partAt_5 : decode cX0_partAt 5 = .ok (.if_icmp .ge 29, 3) := by decide +kernel
theorem dX0_partAt_8 : decode cX0_partAt 8 = .ok (.aload_n 0, 1) := by decide +kernel
theorem dX0_partAt_9 : decode cX0_partAt 9 = .ok (.iload_n 2, 1) := by decide +kernel
theorem dX0_partAt_10 : decode cX0_partAt 10 = .ok (.invokevirtual 25, 3) := by decide +kernel
theorem dX0_partAt_13 : decode cX0_partAt 13 = .ok (.ifCond .eq 15, 3) := by decide +kernel
theorem dX0_partAt_16 : decode cX0_partAt 16 = .ok (.aload_n 0, 1) := by decide +kernel
theorem dX0_partAt_17 : decode cX0_partAt 17 = .ok (.getfield 15, 3) := by decide +kernel
theorem dX0_partAt_20 : decode cX0_partAt 20 = .ok (.iload_n 2, 1) := by decide +kernel
theorem dX0_partAt_21 : decode cX0_partAt 21 = .ok (.iaload, 1) := by decide +kernel
theorem dX0_partAt_22 : decode cX0_partAt 22 = .ok (.iload_n 1, 1) := by decide +kernel
theorem dX0_partAt_23 : decode cX0_partAt 23 = .ok (.if_icmp .ne 5, 3) := by decide +kernel
theorem dX0_partAt_26 : decode cX0_partAt 26 = .ok (.iload_n 2, 1) := by decide +kernel
theorem dX0_partAt_27 : decode cX0_partAt 27 = .ok (.ireturn, 1) := by decide +kernel
theorem dX0_partAt_28 : decode cX0_partAt 28 = .ok (.iinc 2 1, 3) := by decide +kernel
theorem dX0_partAt_31 : decode cX0_partAt 31 = .ok (.goto (-29), 3) := by decide +kernel
theorem dX0_partAt_34 : decode cX0_partAt 34 = .ok (.bipush (-9), 2) := by decide +kernel
theorem dX0_partAt_36 : decode cX0_partAt 36 = .ok (.ireturn, 1) := by decide +kernel
theorem dX0_priceBy_0 : decode cX0_priceBy 0 = .ok (.iconst 0, 1) := by decide +kernel
theorem dX0_priceBy_1 : decode cX0_priceBy 1 = .ok (.istore_n 2, 1) := by decide +kernel
theorem dX0_priceBy_2 : decode cX0_priceBy 2 = .ok (.iconst 0, 1) := by decide +kernel
theorem dX0_priceBy_3 : decode cX0_priceBy 3 = .ok (.istore_n 3, 1) := by decide +kernel
theorem dX0_priceBy_4 : decode cX0_priceBy 4 = .ok (.iload_n 3, 1) := by decide +kernel
theorem dX0_priceBy_5 : decode cX0_priceBy 5 = .ok (.aload_n 1, 1) := by decide +kernel
theorem dX0_priceBy_6 : decode cX0_priceBy 6 = .ok (.getfield 29, 3) := by decide +kernel
theorem dX0_priceBy_9 : decode cX0_priceBy 9 = .ok (.if_icmp .ge 68, 3) := by decide +kernel
theorem dX0_priceBy_12 : decode cX0_priceBy 12 = .ok (.iconst 0, 1) := by decide +kernel
theorem dX0_priceBy_13 : decode cX0_priceBy 13 = .ok (.istore 4, 2) := by decide +kernel
theorem dX0_priceBy_15 : decode cX0_priceBy 15 = .ok (.iload 4, 2) := by decide +kernel
theorem dX0_priceBy_17 : decode cX0_priceBy 17 = .ok (.iload_n 3, 1) := by decide +kernel
theorem dX0_priceBy_18 : decode cX0_priceBy 18 = .ok (.if_icmp .ge 53, 3) := by decide +kernel
theorem dX0_priceBy_21 : decode cX0_priceBy 21 = .ok (.aload_n 0, 1) := by decide +kernel
theorem dX0_priceBy_22 : decode cX0_priceBy 22 = .ok (.iload 4, 2) := by decide +kernel
theorem dX0_priceBy_24 : decode cX0_priceBy 24 = .ok (.invokevirtual 25, 3) := by decide +kernel
theorem dX0_priceBy_27 : decode cX0_priceBy 27 = .ok (.ifCond .eq 38, 3) := by decide +kernel
theorem dX0_priceBy_30 : decode cX0_priceBy 30 = .ok (.aload_n 0, 1) := by decide +kernel
theorem dX0_priceBy_31 : decode cX0_priceBy 31 = .ok (.iload_n 3, 1) := by decide +kernel
theorem dX0_priceBy_32 : decode cX0_priceBy 32 = .ok (.invokevirtual 25, 3) := by decide +kernel
theorem dX0_priceBy_35 : decode cX0_priceBy 35 = .ok (.ifCond .eq 30, 3) := by decide +kernel
theorem dX0_priceBy_38 : decode cX0_priceBy 38 = .ok (.iload_n 2, 1) := by decide +kernel
theorem dX0_priceBy_39 : decode cX0_priceBy 39 = .ok (.aload_n 1, 1) := by decide +kernel
theorem dX0_priceBy_40 : decode cX0_priceBy 40 = .ok (.iload 4, 2) := by decide +kernel
theorem dX0_priceBy_42 : decode cX0_priceBy 42 = .ok (.iload_n 3, 1) := by decide +kernel
theorem dX0_priceBy_43 : decode cX0_priceBy 43 = .ok (.invokevirtual 34, 3) := by decide +kernel
theorem dX0_priceBy_46 : decode cX0_priceBy 46 = .ok (.aload_n 0, 1) := by decide +kernel
theorem dX0_priceBy_47 : decode cX0_priceBy 47 = .ok (.getfield 15, 3) := by decide +kernel
theorem dX0_priceBy_50 : decode cX0_priceBy 50 = .ok (.iload 4, 2) := by decide +kernel
theorem dX0_priceBy_52 : decode cX0_priceBy 52 = .ok (.iaload, 1) := by decide +kernel
theorem dX0_priceBy_53 : decode cX0_priceBy 53 = .ok (.aload_n 0, 1) := by decide +kernel
theorem dX0_priceBy_54 : decode cX0_priceBy 54 = .ok (.getfield 15, 3) := by decide +kernel
theorem dX0_priceBy_57 : decode cX0_priceBy 57 = .ok (.iload_n 3, 1) := by decide +kernel
theorem dX0_priceBy_58 : decode cX0_priceBy 58 = .ok (.iaload, 1) := by decide +kernel
theorem dX0_priceBy_59 : decode cX0_priceBy 59 = .ok (.invokestatic 38, 3) := by decide +kernel
theorem dX0_priceBy_62 : decode cX0_priceBy 62 = .ok (.imul, 1) := by decide +kernel
theorem dX0_priceBy_63 : decode cX0_priceBy 63 = .ok (.iadd, 1) := by decide +kernel
theorem dX0_priceBy_64 : decode cX0_priceBy 64 = .ok (.istore_n 2, 1) := by decide +kernel
theorem dX0_priceBy_65 : decode cX0_priceBy 65 = .ok (.iinc 4 1, 3) := by decide +kernel
theorem dX0_priceBy_68 : decode cX0_priceBy 68 = .ok (.goto (-53), 3) := by decide +kernel
theorem dX0_priceBy_71 : decode cX0_priceBy 71 = .ok (.iinc 3 1, 3) := by decide +kernel
theorem dX0_priceBy_74 : decode cX0_priceBy 74 = .ok (.goto (-70), 3) := by decide +kernel
theorem dX0_priceBy_77 : decode cX0_priceBy 77 = .ok (.iload_n 2, 1) := by decide +kernel
theorem dX0_priceBy_78 : decode cX0_priceBy 78 = .ok (.ireturn, 1) := by decide +kernel
theorem dX0_errorOf_0 : decode cX0_errorOf 0 = .ok (.aload_n 0, 1) := by decide +kernel
theorem dX0_errorOf_1 : decode cX0_errorOf 1 = .ok (.iload_n 1, 1) := by decide +kernel
theorem dX0_errorOf_2 : decode cX0_errorOf 2 = .ok (.invokevirtual 25, 3) := by decide +kernel
theorem dX0_errorOf_5 : decode cX0_errorOf 5 = .ok (.ifCond .ne 6, 3) := by decide +kernel
theorem dX0_errorOf_8 : decode cX0_errorOf 8 = .ok (.bipush (-9), 2) := by decide +kernel
theorem dX0_errorOf_10 : decode cX0_errorOf 10 = .ok (.ireturn, 1) := by decide +kernel
theorem dX0_errorOf_11 : decode cX0_errorOf 11 = .ok (.bipush 10, 2) := by decide +kernel
theorem dX0_errorOf_13 : decode cX0_errorOf 13 = .ok (.aload_n 0, 1) := by decide +kernel
theorem dX0_errorOf_14 : decode cX0_errorOf 14 = .ok (.getfield 15, 3) := by decide +kernel
theorem dX0_errorOf_17 : decode cX0_errorOf 17 = .ok (.iload_n 1, 1) := by decide +kernel
theorem dX0_errorOf_18 : decode cX0_errorOf 18 = .ok (.iaload, 1) := by decide +kernel
theorem dX0_errorOf_19 : decode cX0_errorOf 19 = .ok (.invokestatic 41, 3) := by decide +kernel
theorem dX0_errorOf_22 : decode cX0_errorOf 22 = .ok (.imul, 1) := by decide +kernel
theorem dX0_errorOf_23 : decode cX0_errorOf 23 = .ok (.iconst 5, 1) := by decide +kernel
theorem dX0_errorOf_24 : decode cX0_errorOf 24 = .ok (.iadd, 1) := by decide +kernel
theorem dX0_errorOf_25 : decode cX0_errorOf 25 = .ok (.istore 4, 2) := by decide +kernel
theorem dX0_errorOf_27 : decode cX0_errorOf 27 = .ok (.bipush 10, 2) := by decide +kernel
theorem dX0_errorOf_29 : decode cX0_errorOf 29 = .ok (.aload_n 0, 1) := by decide +kernel
theorem dX0_errorOf_30 : decode cX0_errorOf 30 = .ok (.getfield 15, 3) := by decide +kernel
theorem dX0_errorOf_33 : decode cX0_errorOf 33 = .ok (.iload_n 1, 1) := by decide +kernel
theorem dX0_errorOf_34 : decode cX0_errorOf 34 = .ok (.iaload, 1) := by decide +kernel
theorem dX0_errorOf_35 : decode cX0_errorOf 35 = .ok (.invokestatic 45, 3) := by decide +kernel
theorem dX0_errorOf_38 : decode cX0_errorOf 38 = .ok (.imul, 1) := by decide +kernel
theorem dX0_errorOf_39 : decode cX0_errorOf 39 = .ok (.iconst 5, 1) := by decide +kernel
theorem dX0_errorOf_40 : decode cX0_errorOf 40 = .ok (.iadd, 1) := by decide +kernel
theorem dX0_errorOf_41 : decode cX0_errorOf 41 = .ok (.istore 5, 2) := by decide +kernel
theorem dX0_errorOf_43 : decode cX0_errorOf 43 = .ok (.iload_n 2, 1) := by decide +kernel
theorem dX0_errorOf_44 : decode cX0_errorOf 44 = .ok (.iload 4, 2) := by decide +kernel
theorem dX0_errorOf_46 : decode cX0_errorOf 46 = .ok (.isub, 1) := by decide +kernel
theorem dX0_errorOf_47 : decode cX0_errorOf 47 = .ok (.invokestatic 48, 3) := by decide +kernel
theorem dX0_errorOf_50 : decode cX0_errorOf 50 = .ok (.iload_n 3, 1) := by decide +kernel
theorem dX0_errorOf_51 : decode cX0_errorOf 51 = .ok (.iload 5, 2) := by decide +kernel
theorem dX0_errorOf_53 : decode cX0_errorOf 53 = .ok (.isub, 1) := by decide +kernel
theorem dX0_errorOf_54 : decode cX0_errorOf 54 = .ok (.invokestatic 48, 3) := by decide +kernel
theorem dX0_errorOf_57 : decode cX0_errorOf 57 = .ok (.invokestatic 53, 3) := by decide +kernel
theorem dX0_errorOf_60 : decode cX0_errorOf 60 = .ok (.iconst 5, 1) := by decide +kernel
theorem dX0_errorOf_61 : decode cX0_errorOf 61 = .ok (.idiv, 1) := by decide +kernel
theorem dX0_errorOf_62 : decode cX0_errorOf 62 = .ok (.ireturn, 1) := by decide +kernel
theorem dX0_wayBetween_0 : decode cX0_wayBetween 0 = .ok (.iload_n 0, 1) := by decide +kernel
theorem dX0_wayBetween_1 : decode cX0_wayBetween 1 = .ok (.invokestatic 41, 3) := by decide +kernel
theorem dX0_wayBetween_4 : decode cX0_wayBetween 4 = .ok (.iload_n 1, 1) := by decide +kernel
theorem dX0_wayBetween_5 : decode cX0_wayBetween 5 = .ok (.invokestatic 41, 3) := by decide +kernel
theorem dX0_wayBetween_8 : decode cX0_wayBetween 8 = .ok (.isub, 1) := by decide +kernel
theorem dX0_wayBetween_9 : decode cX0_wayBetween 9 = .ok (.invokestatic 48, 3) := by decide +kernel
theorem dX0_wayBetween_12 : decode cX0_wayBetween 12 = .ok (.iload_n 0, 1) := by decide +kernel
theorem dX0_wayBetween_13 : decode cX0_wayBetween 13 = .ok (.invokestatic 45, 3) := by decide +kernel
theorem dX0_wayBetween_16 : decode cX0_wayBetween 16 = .ok (.iload_n 1, 1) := by decide +kernel
theorem dX0_wayBetween_17 : decode cX0_wayBetween 17 = .ok (.invokestatic 45, 3) := by decide +kernel
theorem dX0_wayBetween_20 : decode cX0_wayBetween 20 = .ok (.isub, 1) := by decide +kernel
theorem dX0_wayBetween_21 : decode cX0_wayBetween 21 = .ok (.invokestatic 48, 3) := by decide +kernel
theorem dX0_wayBetween_24 : decode cX0_wayBetween 24 = .ok (.iadd, 1) := by decide +kernel
theorem dX0_wayBetween_25 : decode cX0_wayBetween 25 = .ok (.ireturn, 1) := by decide +kernel
theorem dX0_apart_0 : decode cX0_apart 0 = .ok (.iload_n 0, 1) := by decide +kernel
theorem dX0_apart_1 : decode cX0_apart 1 = .ok (.invokestatic 41, 3) := by decide +kernel
theorem dX0_apart_4 : decode cX0_apart 4 = .ok (.iload_n 1, 1) := by decide +kernel
theorem dX0_apart_5 : decode cX0_apart 5 = .ok (.invokestatic 41, 3) := by decide +kernel
theorem dX0_apart_8 : decode cX0_apart 8 = .ok (.isub, 1) := by decide +kernel
theorem dX0_apart_9 : decode cX0_apart 9 = .ok (.invokestatic 48, 3) := by decide +kernel
theorem dX0_apart_12 : decode cX0_apart 12 = .ok (.iload_n 0, 1) := by decide +kernel
theorem dX0_apart_13 : decode cX0_apart 13 = .ok (.invokestatic 45, 3) := by decide +kernel
theorem dX0_apart_16 : decode cX0_apart 16 = .ok (.iload_n 1, 1) := by decide +kernel
theorem dX0_apart_17 : decode cX0_apart 17 = .ok (.invokestatic 45, 3) := by decide +kernel
theorem dX0_apart_20 : decode cX0_apart 20 = .ok (.isub, 1) := by decide +kernel
theorem dX0_apart_21 : decode cX0_apart 21 = .ok (.invokestatic 48, 3) := by decide +kernel
theorem dX0_apart_24 : decode cX0_apart 24 = .ok (.invokestatic 53, 3) := by decide +kernel
theorem dX0_apart_27 : decode cX0_apart 27 = .ok (.ireturn, 1) := by decide +kernel
theorem dX1_init_0 : decode cX1_init 0 = .ok (.aload_n 0, 1) := by decide +kernel
theorem dX1_init_1 : decode cX1_init 1 = .ok (.invokespecial 3, 3) := by decide +kernel
theorem dX1_init_4 : decode cX1_init 4 = .ok (.aload_n 0, 1) := by decide +kernel
theorem dX1_init_5 : decode cX1_init 5 = .ok (.bipush 20, 2) := by decide +kernel
theorem dX1_init_7 : decode cX1_init 7 = .ok (.newarray .int, 2) := by decide +kernel
theorem dX1_init_9 : decode cX1_init 9 = .ok (.putfield 11, 3) := by decide +kernel
theorem dX1_init_12 : decode cX1_init 12 = .ok (.aload_n 0, 1) := by decide +kernel
theorem dX1_init_13 : decode cX1_init 13 = .ok (.bipush 20, 2) := by decide +kernel
theorem dX1_init_15 : decode cX1_init 15 = .ok (.newarray .int, 2) := by decide +kernel
theorem dX1_init_17 : decode cX1_init 17 = .ok (.putfield 15, 3) := by decide +kernel
theorem dX1_init_20 : decode cX1_init 20 = .ok (.aload_n 0, 1) := by decide +kernel
theorem dX1_init_21 : decode cX1_init 21 = .ok (.bipush 10, 2) := by decide +kernel
theorem dX1_init_23 : decode cX1_init 23 = .ok (.newarray .int, 2) := by decide +kernel
theorem dX1_init_25 : decode cX1_init 25 = .ok (.putfield 18, 3) := by decide +kernel
theorem dX1_init_28 : decode cX1_init 28 = .ok (.aload_n 0, 1) := by decide +kernel
theorem dX1_init_29 : decode cX1_init 29 = .ok (.iconst 0, 1) := by decide +kernel
theorem dX1_init_30 : decode cX1_init 30 = .ok (.putfield 21, 3) := by decide +kernel
theorem dX1_init_33 : decode cX1_init 33 = .ok (.return_, 1) := by decide +kernel
theorem dX1_build_0 : decode cX1_build 0 = .ok (.aload_n 0, 1) := by decide +kernel
theorem dX1_build_1 : decode cX1_build 1 = .ok (.iconst 0, 1) := by decide +kernel
theorem dX1_build_2 : decode cX1_build 2 = .ok (.putfield 21, 3) := by decide +kernel
theorem dX1_build_5 : decode cX1_build 5 = .ok (.iconst 0, 1) := by decide +kernel
theorem dX1_build_6 : decode cX1_build 6 = .ok (.istore 4, 2) := by decide +kernel
theorem dX1_build_8 : decode cX1_build 8 = .ok (.iload 4, 2) := by decide +kernel
theorem dX1_build_10 : decode cX1_build 10 = .ok (.bipush 10, 2) := by decide +kernel
theorem dX1_build_12 : decode cX1_build 12 = .ok (.if_icmp .ge 59, 3) := by decide +kernel
theorem dX1_build_15 : decode cX1_build 15 = .ok (.aload_n 0, 1) := by decide +kernel
theorem dX1_build_16 : decode cX1_build 16 = .ok (.getfield 18, 3) := by decide +kernel
theorem dX1_build_19 : decode cX1_build 19 = .ok (.iload 4, 2) := by decide +kernel
theorem dX1_build_21 : decode cX1_build 21 = .ok (.bipush (-9), 2) := by decide +kernel
theorem dX1_build_23 : decode cX1_build 23 = .ok (.iastore, 1) := by decide +kernel
theorem dX1_build_24 : decode cX1_build 24 = .ok (.iload 4, 2) := by decide +kernel
theorem dX1_build_26 : decode cX1_build 26 = .ok (.aload_n 1, 1) := by decide +kernel
theorem dX1_build_27 : decode cX1_build 27 = .ok (.getfield 25, 3) := by decide +kernel
theorem dX1_build_30 : decode cX1_build 30 = .ok (.if_icmp .ge 35, 3) := by decide +kernel
theorem dX1_build_33 : decode cX1_build 33 = .ok (.iload_n 2, 1) := by decide +kernel
theorem dX1_build_34 : decode cX1_build 34 = .ok (.iload 4, 2) := by decide +kernel
theorem dX1_build_36 : decode cX1_build 36 = .ok (.ishr, 1) := by decide +kernel
theorem dX1_build_37 : decode cX1_build 37 = .ok (.iconst 1, 1) := by decide +kernel
theorem dX1_build_38 : decode cX1_build 38 = .ok (.iand, 1) := by decide +kernel
theorem dX1_build_39 : decode cX1_build 39 = .ok (.iconst 1, 1) := by decide +kernel
theorem dX1_build_40 : decode cX1_build 40 = .ok (.if_icmp .ne 25, 3) := by decide +kernel
theorem dX1_build_43 : decode cX1_build 43 = .ok (.aload_n 0, 1) := by decide +kernel
theorem dX1_build_44 : decode cX1_build 44 = .ok (.getfield 18, 3) := by decide +kernel
theorem dX1_build_47 : decode cX1_build 47 = .ok (.iload 4, 2) := by decide +kernel
theorem dX1_build_49 : decode cX1_build 49 = .ok (.aload_n 0, 1) := by decide +kernel
theorem dX1_build_50 : decode cX1_build 50 = .ok (.getfield 21, 3) := by decide +kernel
theorem dX1_build_53 : decode cX1_build 53 = .ok (.iastore, 1) := by decide +kernel
theorem dX1_build_54 : decode cX1_build 54 = .ok (.aload_n 0, 1) := by decide +kernel
theorem dX1_build_55 : decode cX1_build 55 = .ok (.aload_n 1, 1) := by decide +kernel
theorem dX1_build_56 : decode cX1_build 56 = .ok (.getfield 30, 3) := by decide +kernel
theorem dX1_build_59 : decode cX1_build 59 = .ok (.iload 4, 2) := by decide +kernel
theorem dX1_build_61 : decode cX1_build 61 = .ok (.iaload, 1) := by decide +kernel
theorem dX1_build_62 : decode cX1_build 62 = .ok (.invokevirtual 33, 3) := by decide +kernel
theorem dX1_build_65 : decode cX1_build 65 = .ok (.iinc 4 1, 3) := by decide +kernel
theorem dX1_build_68 : decode cX1_build 68 = .ok (.goto (-60), 3) := by decide +kernel
theorem dX1_build_71 : decode cX1_build 71 = .ok (.aload_n 0, 1) := by decide +kernel
theorem dX1_build_72 : decode cX1_build 72 = .ok (.getfield 21, 3) := by decide +kernel
theorem dX1_build_75 : decode cX1_build 75 = .ok (.istore 4, 2) := by decide +kernel
theorem dX1_build_77 : decode cX1_build 77 = .ok (.iload 4, 2) := by decide +kernel
theorem dX1_build_79 : decode cX1_build 79 = .ok (.iconst 2, 1) := by decide +kernel
theorem dX1_build_80 : decode cX1_build 80 = .ok (.if_icmp .lt 8, 3) := by decide +kernel
theorem dX1_build_83 : decode cX1_build 83 = .ok (.iload_n 3, 1) := by decide +kernel
theorem dX1_build_84 : decode cX1_build 84 = .ok (.iconst 2, 1) := by decide +kernel
theorem dX1_build_85 : decode cX1_build 85 = .ok (.if_icmp .ge 7, 3) := by decide +kernel
theorem dX1_build_88 : decode cX1_build 88 = .ok (.iconst 1, 1) := by decide +kernel
theorem dX1_build_89 : decode cX1_build 89 = .ok (.goto 13, 3) := by decide +kernel
theorem dX1_build_92 : decode cX1_build 92 = .ok (.iconst 2, 1) := by decide +kernel
theorem dX1_build_93 : decode cX1_build 93 = .ok (.iload 4, 2) := by decide +kernel
theorem dX1_build_95 : decode cX1_build 95 = .ok (.iconst 2, 1) := by decide +kernel
theorem dX1_build_96 : decode cX1_build 96 = .ok (.isub, 1) := by decide +kernel
theorem dX1_build_97 : decode cX1_build 97 = .ok (.iload_n 3, 1) := by decide +kernel
theorem dX1_build_98 : decode cX1_build 98 = .ok (.iconst 1, 1) := by decide +kernel
theorem dX1_build_99 : decode cX1_build 99 = .ok (.isub, 1) := by decide +kernel
theorem dX1_build_100 : decode cX1_build 100 = .ok (.irem, 1) := by decide +kernel
theorem dX1_build_101 : decode cX1_build 101 = .ok (.iadd, 1) := by decide +kernel
theorem dX1_build_102 : decode cX1_build 102 = .ok (.istore 5, 2) := by decide +kernel
theorem dX1_build_104 : decode cX1_build 104 = .ok (.aload_n 0, 1) := by decide +kernel
theorem dX1_build_105 : decode cX1_build 105 = .ok (.iload 5, 2) := by decide +kernel
theorem dX1_build_107 : decode cX1_build 107 = .ok (.invokevirtual 37, 3) := by decide +kernel
theorem dX1_build_110 : decode cX1_build 110 = .ok (.iload 4, 2) := by decide +kernel
theorem dX1_build_112 : decode cX1_build 112 = .ok (.iload 5, 2) := by decide +kernel
theorem dX1_build_114 : decode cX1_build 114 = .ok (.iconst 1, 1) := by decide +kernel
theorem dX1_build_115 : decode cX1_build 115 = .ok (.isub, 1) := by decide +kernel
theorem dX1_build_116 : decode cX1_build 116 = .ok (.isub, 1) := by decide +kernel
theorem dX1_build_117 : decode cX1_build 117 = .ok (.istore 4, 2) := by decide +kernel
theorem dX1_build_119 : decode cX1_build 119 = .ok (.iconst 0, 1) := by decide +kernel
theorem dX1_build_120 : decode cX1_build 120 = .ok (.istore 6, 2) := by decide +kernel
theorem dX1_build_122 : decode cX1_build 122 = .ok (.iload 6, 2) := by decide +kernel
theorem dX1_build_124 : decode cX1_build 124 = .ok (.bipush 10, 2) := by decide +kernel
theorem dX1_build_126 : decode cX1_build 126 = .ok (.if_icmp .ge 28, 3) := by decide +kernel
theorem dX1_build_129 : decode cX1_build 129 = .ok (.iload 4, 2) := by decide +kernel
theorem dX1_build_131 : decode cX1_build 131 = .ok (.iconst 1, 1) := by decide +kernel
theorem dX1_build_132 : decode cX1_build 132 = .ok (.if_icmp .le 22, 3) := by decide +kernel
theorem dX1_build_135 : decode cX1_build 135 = .ok (.aload_n 0, 1) := by decide +kernel
theorem dX1_build_136 : decode cX1_build 136 = .ok (.iload_n 3, 1) := by decide +kernel
theorem dX1_build_137 : decode cX1_build 137 = .ok (.invokevirtual 37, 3) := by decide +kernel
theorem dX1_build_140 : decode cX1_build 140 = .ok (.iload 4, 2) := by decide +kernel
theorem dX1_build_142 : decode cX1_build 142 = .ok (.iload_n 3, 1) := by decide +kernel
theorem dX1_build_143 : decode cX1_build 143 = .ok (.iconst 1, 1) := by decide +kernel
theorem dX1_build_144 : decode cX1_build 144 = .ok (.isub, 1) := by decide +kernel
theorem dX1_build_145 : decode cX1_build 145 = .ok (.isub, 1) := by decide +kernel
theorem dX1_build_146 : decode cX1_build 146 = .ok (.istore 4, 2) := by decide +kernel
theorem dX1_build_148 : decode cX1_build 148 = .ok (.iinc 6 1, 3) := by decide +kernel
theorem dX1_build_151 : decode cX1_build 151 = .ok (.goto (-29), 3) := by decide +kernel
theorem dX1_build_154 : decode cX1_build 154 = .ok (.return_, 1) := by decide +kernel
theorem dX1_addNode_0 : decode cX1_addNode 0 = .ok (.aload_n 0, 1) := by decide +kernel
theorem dX1_addNode_1 : decode cX1_addNode 1 = .ok (.getfield 21, 3) := by decide +kernel
theorem dX1_addNode_4 : decode cX1_addNode 4 = .ok (.bipush 20, 2) := by decide +kernel
theorem dX1_addNode_6 : decode cX1_addNode 6 = .ok (.if_icmp .ge 33, 3) := by decide +kernel
theorem dX1_addNode_9 : decode cX1_addNode 9 = .ok (.aload_n 0, 1) := by decide +kernel
theorem dX1_addNode_10 : decode cX1_addNode 10 = .ok (.getfield 11, 3) := by decide +kernel
theorem dX1_addNode_13 : decode cX1_addNode 13 = .ok (.aload_n 0, 1) := by decide +kernel
theorem dX1_addNode_14 : decode cX1_addNode 14 = .ok (.getfield 21, 3) := by decide +kernel
theorem dX1_addNode_17 : decode cX1_addNode 17 = .ok (.iload_n 1, 1) := by decide +kernel
theorem dX1_addNode_18 : decode cX1_addNode 18 = .ok (.iastore, 1) := by decide +kernel
theorem dX1_addNode_19 : decode cX1_addNode 19 = .ok (.aload_n 0, 1) := by decide +kernel
theorem dX1_addNode_20 : decode cX1_addNode 20 = .ok (.getfield 15, 3) := by decide +kernel
theorem dX1_addNode_23 : decode cX1_addNode 23 = .ok (.aload_n 0, 1) := by decide +kernel
theorem dX1_addNode_24 : decode cX1_addNode 24 = .ok (.getfield 21, 3) := by decide +kernel
theorem dX1_addNode_27 : decode cX1_addNode 27 = .ok (.iconst (-1), 1) := by decide +kernel
theorem dX1_addNode_28 : decode cX1_addNode 28 = .ok (.iastore, 1) := by decide +kernel
theorem dX1_addNode_29 : decode cX1_addNode 29 = .ok (.aload_n 0, 1) := by decide +kernel
theorem dX1_addNode_30 : decode cX1_addNode 30 = .ok (.dup, 1) := by decide +kernel
theorem dX1_addNode_31 : decode cX1_addNode 31 = .ok (.getfield 21, 3) := by decide +kernel
theorem dX1_addNode_34 : decode cX1_addNode 34 = .ok (.iconst 1, 1) := by decide +kernel
theorem dX1_addNode_35 : decode cX1_addNode 35 = .ok (.iadd, 1) := by decide +kernel
theorem dX1_addNode_36 : decode cX1_addNode 36 = .ok (.putfield 21, 3) := by decide +kernel
theorem dX1_addNode_39 : decode cX1_addNode 39 = .ok (.return_, 1) := by decide +kernel
theorem dX1_joinLeast_0 : decode cX1_joinLeast 0 = .ok (.aload_n 0, 1) := by decide +kernel
theorem dX1_joinLeast_1 : decode cX1_joinLeast 1 = .ok (.getfield 21, 3) := by decide +kernel
theorem dX1_joinLeast_4 : decode cX1_joinLeast 4 = .ok (.istore_n 2, 1) := by decide +kernel
theorem dX1_joinLeast_5 : decode cX1_joinLeast 5 = .ok (.iconst 0, 1) := by decide +kernel
theorem dX1_joinLeast_6 : decode cX1_joinLeast 6 = .ok (.istore_n 3, 1) := by decide +kernel
theorem dX1_joinLeast_7 : decode cX1_joinLeast 7 = .ok (.iconst 0, 1) := by decide +kernel
theorem dX1_joinLeast_8 : decode cX1_joinLeast 8 = .ok (.istore 4, 2) := by decide +kernel
theorem dX1_joinLeast_10 : decode cX1_joinLeast 10 = .ok (.iload 4, 2) := by decide +kernel
theorem dX1_joinLeast_12 : decode cX1_joinLeast 12 = .ok (.iload_n 1, 1) := by decide +kernel
theorem dX1_joinLeast_13 : decode cX1_joinLeast 13 = .ok (.if_icmp .ge 40, 3) := by decide +kernel
theorem dX1_joinLeast_16 : decode cX1_joinLeast 16 = .ok (.aload_n 0, 1) := by decide +kernel
theorem dX1_joinLeast_17 : decode cX1_joinLeast 17 = .ok (.invokevirtual 40, 3) := by decide +kernel
theorem dX1_joinLeast_20 : decode cX1_joinLeast 20 = .ok (.istore 5, 2) := by decide +kernel
theorem dX1_joinLeast_22 : decode cX1_joinLeast 22 = .ok (.iload 5, 2) := by decide +kernel
theorem dX1_joinLeast_24 : decode cX1_joinLeast 24 = .ok (.bipush (-9), 2) := by decide +kernel
theorem dX1_joinLeast_26 : decode cX1_joinLeast 26 = .ok (.if_icmp .eq 21, 3) := by decide +kernel
theorem dX1_joinLeast_29 : decode cX1_joinLeast 29 = .ok (.aload_n 0, 1) := by decide +kernel
theorem dX1_joinLeast_30 : decode cX1_joinLeast 30 = .ok (.getfield 15, 3) := by decide +kernel
theorem dX1_joinLeast_33 : decode cX1_joinLeast 33 = .ok (.iload 5, 2) := by decide +kernel
theorem dX1_joinLeast_35 : decode cX1_joinLeast 35 = .ok (.iload_n 2, 1) := by decide +kernel
theorem dX1_joinLeast_36 : decode cX1_joinLeast 36 = .ok (.iastore, 1) := by decide +kernel
theorem dX1_joinLeast_37 : decode cX1_joinLeast 37 = .ok (.iload_n 3, 1) := by decide +kernel
theorem dX1_joinLeast_38 : decode cX1_joinLeast 38 = .ok (.aload_n 0, 1) := by decide +kernel
theorem dX1_joinLeast_39 : decode cX1_joinLeast 39 = .ok (.getfield 11, 3) := by decide +kernel
theorem dX1_joinLeast_42 : decode cX1_joinLeast 42 = .ok (.iload 5, 2) := by decide +kernel
theorem dX1_joinLeast_44 : decode cX1_joinLeast 44 = .ok (.iaload, 1) := by decide +kernel
theorem dX1_joinLeast_45 : decode cX1_joinLeast 45 = .ok (.iadd, 1) := by decide +kernel
theorem dX1_joinLeast_46 : decode cX1_joinLeast 46 = .ok (.istore_n 3, 1) := by decide +kernel
theorem dX1_joinLeast_47 : decode cX1_joinLeast 47 = .ok (.iinc 4 1, 3) := by decide +kernel
theorem dX1_joinLeast_50 : decode cX1_joinLeast 50 = .ok (.goto (-40), 3) := by decide +kernel
theorem dX1_joinLeast_53 : decode cX1_joinLeast 53 = .ok (.aload_n 0, 1) := by decide +kernel
theorem dX1_joinLeast_54 : decode cX1_joinLeast 54 = .ok (.iload_n 3, 1) := by decide +kernel
theorem dX1_joinLeast_55 : decode cX1_joinLeast 55 = .ok (.invokevirtual 33, 3) := by decide +kernel
theorem dX1_joinLeast_58 : decode cX1_joinLeast 58 = .ok (.return_, 1) := by decide +kernel
theorem dX1_leastOpenNode_0 : decode cX1_leastOpenNode 0 = .ok (.bipush (-9), 2) := by decide +kernel
theorem dX1_leastOpenNode_2 : decode cX1_leastOpenNode 2 = .ok (.istore_n 1, 1) := by decide +kernel
theorem dX1_leastOpenNode_3 : decode cX1_leastOpenNode 3 = .ok (.iconst 0, 1) := by decide +kernel
theorem dX1_leastOpenNode_4 : decode cX1_leastOpenNode 4 = .ok (.istore_n 2, 1) := by decide +kernel
theorem dX1_leastOpenNode_5 : decode cX1_leastOpenNode 5 = .ok (.iload_n 2, 1) := by decide +kernel
theorem dX1_leastOpenNode_6 : decode cX1_leastOpenNode 6 = .ok (.aload_n 0, 1) := by decide +kernel
theorem dX1_leastOpenNode_7 : decode cX1_leastOpenNode 7 = .ok (.getfield 21, 3) := by decide +kernel
theorem dX1_leastOpenNode_10 : decode cX1_leastOpenNode 10 = .ok (.if_icmp .ge 42, 3) := by decide +kernel
theorem dX1_leastOpenNode_13 : decode cX1_leastOpenNode 13 = .ok (.aload_n 0, 1) := by decide +kernel
theorem dX1_leastOpenNode_14 : decode cX1_leastOpenNode 14 = .ok (.getfield 15, 3) := by decide +kernel
theorem dX1_leastOpenNode_17 : decode cX1_leastOpenNode 17 = .ok (.iload_n 2, 1) := by decide +kernel
theorem dX1_leastOpenNode_18 : decode cX1_leastOpenNode 18 = .ok (.iaload, 1) := by decide +kernel
theorem dX1_leastOpenNode_19 : decode cX1_leastOpenNode 19 = .ok (.iconst (-1), 1) := by decide +kernel
theorem dX1_leastOpenNode_20 : decode cX1_leastOpenNode 20 = .ok (.if_icmp .ne 26, 3) := by decide +kernel
theorem dX1_leastOpenNode_23 : decode cX1_leastOpenNode 23 = .ok (.iload_n 1, 1) := by decide +kernel
theorem dX1_leastOpenNode_24 : decode cX1_leastOpenNode 24 = .ok (.bipush (-9), 2) := by decide +kernel
theorem dX1_leastOpenNode_26 : decode cX1_leastOpenNode 26 = .ok (.if_icmp .eq 18, 3) := by decide +kernel
theorem dX1_leastOpenNode_29 : decode cX1_leastOpenNode 29 = .ok (.aload_n 0, 1) := by decide +kernel
theorem dX1_leastOpenNode_30 : decode cX1_leastOpenNode 30 = .ok (.getfield 11, 3) := by decide +kernel
theorem dX1_leastOpenNode_33 : decode cX1_leastOpenNode 33 = .ok (.iload_n 2, 1) := by decide +kernel
theorem dX1_leastOpenNode_34 : decode cX1_leastOpenNode 34 = .ok (.iaload, 1) := by decide +kernel
theorem dX1_leastOpenNode_35 : decode cX1_leastOpenNode 35 = .ok (.aload_n 0, 1) := by decide +kernel
theorem dX1_leastOpenNode_36 : decode cX1_leastOpenNode 36 = .ok (.getfield 11, 3) := by decide +kernel
theorem dX1_leastOpenNode_39 : decode cX1_leastOpenNode 39 = .ok (.iload_n 1, 1) := by decide +kernel
theorem dX1_leastOpenNode_40 : decode cX1_leastOpenNode 40 = .ok (.iaload, 1) := by decide +kernel
theorem dX1_leastOpenNode_41 : decode cX1_leastOpenNode 41 = .ok (.if_icmp .ge 5, 3) := by decide +kernel
theorem dX1_leastOpenNode_44 : decode cX1_leastOpenNode 44 = .ok (.iload_n 2, 1) := by decide +kernel
theorem dX1_leastOpenNode_45 : decode cX1_leastOpenNode 45 = .ok (.istore_n 1, 1) := by decide +kernel
theorem dX1_leastOpenNode_46 : decode cX1_leastOpenNode 46 = .ok (.iinc 2 1, 3) := by decide +kernel
theorem dX1_leastOpenNode_49 : decode cX1_leastOpenNode 49 = .ok (.goto (-44), 3) := by decide +kernel
theorem dX1_leastOpenNode_52 : decode cX1_leastOpenNode 52 = .ok (.iload_n 1, 1) := by decide +kernel
theorem dX1_leastOpenNode_53 : decode cX1_leastOpenNode 53 = .ok (.ireturn, 1) := by decide +kernel
theorem dX1_stepsOf_0 : decode cX1_stepsOf 0 = .ok (.aload_n 0, 1) := by decide +kernel
theorem dX1_stepsOf_1 : decode cX1_stepsOf 1 = .ok (.getfield 18, 3) := by decide +kernel
theorem dX1_stepsOf_4 : decode cX1_stepsOf 4 = .ok (.iload_n 1, 1) := by decide +kernel
theorem dX1_stepsOf_5 : decode cX1_stepsOf 5 = .ok (.iaload, 1) := by decide +kernel
theorem dX1_stepsOf_6 : decode cX1_stepsOf 6 = .ok (.bipush (-9), 2) := by decide +kernel
theorem dX1_stepsOf_8 : decode cX1_stepsOf 8 = .ok (.if_icmp .ne 6, 3) := by decide +kernel
theorem dX1_stepsOf_11 : decode cX1_stepsOf 11 = .ok (.bipush (-9), 2) := by decide +kernel
theorem dX1_stepsOf_13 : decode cX1_stepsOf 13 = .ok (.ireturn, 1) := by decide +kernel
theorem dX1_stepsOf_14 : decode cX1_stepsOf 14 = .ok (.iconst 0, 1) := by decide +kernel
theorem dX1_stepsOf_15 : decode cX1_stepsOf 15 = .ok (.istore_n 2, 1) := by decide +kernel
theorem dX1_stepsOf_16 : decode cX1_stepsOf 16 = .ok (.aload_n 0, 1) := by decide +kernel
theorem dX1_stepsOf_17 : decode cX1_stepsOf 17 = .ok (.getfield 18, 3) := by decide +kernel
theorem dX1_stepsOf_20 : decode cX1_stepsOf 20 = .ok (.iload_n 1, 1) := by decide +kernel
theorem dX1_stepsOf_21 : decode cX1_stepsOf 21 = .ok (.iaload, 1) := by decide +kernel
theorem dX1_stepsOf_22 : decode cX1_stepsOf 22 = .ok (.istore_n 3, 1) := by decide +kernel
theorem dX1_stepsOf_23 : decode cX1_stepsOf 23 = .ok (.iload_n 2, 1) := by decide +kernel
theorem dX1_stepsOf_24 : decode cX1_stepsOf 24 = .ok (.bipush 20, 2) := by decide +kernel
theorem dX1_stepsOf_26 : decode cX1_stepsOf 26 = .ok (.if_icmp .ge 26, 3) := by decide +kernel
theorem dX1_stepsOf_29 : decode cX1_stepsOf 29 = .ok (.aload_n 0, 1) := by decide +kernel
theorem dX1_stepsOf_30 : decode cX1_stepsOf 30 = .ok (.getfield 15, 3) := by decide +kernel
theorem dX1_stepsOf_33 : decode cX1_stepsOf 33 = .ok (.iload_n 3, 1) := by decide +kernel
theorem dX1_stepsOf_34 : decode cX1_stepsOf 34 = .ok (.iaload, 1) := by decide +kernel
theorem dX1_stepsOf_35 : decode cX1_stepsOf 35 = .ok (.iconst (-1), 1) := by decide +kernel
theorem dX1_stepsOf_36 : decode cX1_stepsOf 36 = .ok (.if_icmp .eq 16, 3) := by decide +kernel
theorem dX1_stepsOf_39 : decode cX1_stepsOf 39 = .ok (.aload_n 0, 1) := by decide +kernel
theorem dX1_stepsOf_40 : decode cX1_stepsOf 40 = .ok (.getfield 15, 3) := by decide +kernel
theorem dX1_stepsOf_43 : decode cX1_stepsOf 43 = .ok (.iload_n 3, 1) := by decide +kernel
theorem dX1_stepsOf_44 : decode cX1_stepsOf 44 = .ok (.iaload, 1) := by decide +kernel
theorem dX1_stepsOf_45 : decode cX1_stepsOf 45 = .ok (.istore_n 3, 1) := by decide +kernel
theorem dX1_stepsOf_46 : decode cX1_stepsOf 46 = .ok (.iinc 2 1, 3) := by decide +kernel
theorem dX1_stepsOf_49 : decode cX1_stepsOf 49 = .ok (.goto (-26), 3) := by decide +kernel
theorem dX1_stepsOf_52 : decode cX1_stepsOf 52 = .ok (.iload_n 2, 1) := by decide +kernel
theorem dX1_stepsOf_53 : decode cX1_stepsOf 53 = .ok (.ireturn, 1) := by decide +kernel
theorem dX1_costBy_0 : decode cX1_costBy 0 = .ok (.iconst 0, 1) := by decide +kernel
theorem dX1_costBy_1 : decode cX1_costBy 1 = .ok (.istore_n 2, 1) := by decide +kernel
theorem dX1_costBy_2 : decode cX1_costBy 2 = .ok (.iconst 0, 1) := by decide +kernel
theorem dX1_costBy_3 : decode cX1_costBy 3 = .ok (.istore_n 3, 1) := by decide +kernel
theorem dX1_costBy_4 : decode cX1_costBy 4 = .ok (.iload_n 3, 1) := by decide +kernel
theorem dX1_costBy_5 : decode cX1_costBy 5 = .ok (.aload_n 1, 1) := by decide +kernel
theorem dX1_costBy_6 : decode cX1_costBy 6 = .ok (.getfield 25, 3) := by decide +kernel
theorem dX1_costBy_9 : decode cX1_costBy 9 = .ok (.if_icmp .ge 35, 3) := by decide +kernel
theorem dX1_costBy_12 : decode cX1_costBy 12 = .ok (.aload_n 0, 1) := by decide +kernel
theorem dX1_costBy_13 : decode cX1_costBy 13 = .ok (.getfield 18, 3) := by decide +kernel
theorem dX1_costBy_16 : decode cX1_costBy 16 = .ok (.iload_n 3, 1) := by decide +kernel
theorem dX1_costBy_17 : decode cX1_costBy 17 = .ok (.iaload, 1) := by decide +kernel
theorem dX1_costBy_18 : decode cX1_costBy 18 = .ok (.bipush (-9), 2) := by decide +kernel
theorem dX1_costBy_20 : decode cX1_costBy 20 = .ok (.if_icmp .eq 18, 3) := by decide +kernel
theorem dX1_costBy_23 : decode cX1_costBy 23 = .ok (.iload_n 2, 1) := by decide +kernel
theorem dX1_costBy_24 : decode cX1_costBy 24 = .ok (.aload_n 1, 1) := by decide +kernel
theorem dX1_costBy_25 : decode cX1_costBy 25 = .ok (.getfield 30, 3) := by decide +kernel
theorem dX1_costBy_28 : decode cX1_costBy 28 = .ok (.iload_n 3, 1) := by decide +kernel
theorem dX1_costBy_29 : decode cX1_costBy 29 = .ok (.iaload, 1) := by decide +kernel
theorem dX1_costBy_30 : decode cX1_costBy 30 = .ok (.aload_n 0, 1) := by decide +kernel
theorem dX1_costBy_31 : decode cX1_costBy 31 = .ok (.iload_n 3, 1) := by decide +kernel
theorem dX1_costBy_32 : decode cX1_costBy 32 = .ok (.invokevirtual 44, 3) := by decide +kernel
theorem dX1_costBy_35 : decode cX1_costBy 35 = .ok (.imul, 1) := by decide +kernel
theorem dX1_costBy_36 : decode cX1_costBy 36 = .ok (.iadd, 1) := by decide +kernel
theorem dX1_costBy_37 : decode cX1_costBy 37 = .ok (.istore_n 2, 1) := by decide +kernel
theorem dX1_costBy_38 : decode cX1_costBy 38 = .ok (.iinc 3 1, 3) := by decide +kernel
theorem dX1_costBy_41 : decode cX1_costBy 41 = .ok (.goto (-37), 3) := by decide +kernel
theorem dX1_costBy_44 : decode cX1_costBy 44 = .ok (.iload_n 2, 1) := by decide +kernel
theorem dX1_costBy_45 : decode cX1_costBy 45 = .ok (.ireturn, 1) := by decide +kernel
theorem dX2_init_0 : decode cX2_init 0 = .ok (.aload_n 0, 1) := by decide +kernel
theorem dX2_init_1 : decode cX2_init 1 = .ok (.invokespecial 3, 3) := by decide +kernel
theorem dX2_init_4 : decode cX2_init 4 = .ok (.aload_n 0, 1) := by decide +kernel
theorem dX2_init_5 : decode cX2_init 5 = .ok (.iconst 0, 1) := by decide +kernel
theorem dX2_init_6 : decode cX2_init 6 = .ok (.putfield 9, 3) := by decide +kernel
theorem dX2_init_9 : decode cX2_init 9 = .ok (.aload_n 0, 1) := by decide +kernel
theorem dX2_init_10 : decode cX2_init 10 = .ok (.bipush 10, 2) := by decide +kernel
theorem dX2_init_12 : decode cX2_init 12 = .ok (.newarray .int, 2) := by decide +kernel
theorem dX2_init_14 : decode cX2_init 14 = .ok (.putfield 15, 3) := by decide +kernel
theorem dX2_init_17 : decode cX2_init 17 = .ok (.aload_n 0, 1) := by decide +kernel
theorem dX2_init_18 : decode cX2_init 18 = .ok (.bipush 10, 2) := by decide +kernel
theorem dX2_init_20 : decode cX2_init 20 = .ok (.newarray .int, 2) := by decide +kernel
theorem dX2_init_22 : decode cX2_init 22 = .ok (.putfield 19, 3) := by decide +kernel
theorem dX2_init_25 : decode cX2_init 25 = .ok (.aload_n 0, 1) := by decide +kernel
theorem dX2_init_26 : decode cX2_init 26 = .ok (.bipush 10, 2) := by decide +kernel
theorem dX2_init_28 : decode cX2_init 28 = .ok (.bipush 10, 2) := by decide +kernel
theorem dX2_init_30 : decode cX2_init 30 = .ok (.multianewarray 22 2, 4) := by decide +kernel
theorem dX2_init_34 : decode cX2_init 34 = .ok (.putfield 24, 3) := by decide +kernel
theorem dX2_init_37 : decode cX2_init 37 = .ok (.return_, 1) := by decide +kernel
theorem dX2_has_0 : decode cX2_has 0 = .ok (.iload_n 1, 1) := by decide +kernel
theorem dX2_has_1 : decode cX2_has 1 = .ok (.ifCond .lt 15, 3) := by decide +kernel
theorem dX2_has_4 : decode cX2_has 4 = .ok (.iload_n 1, 1) := by decide +kernel
theorem dX2_has_5 : decode cX2_has 5 = .ok (.aload_n 0, 1) := by decide +kernel
theorem dX2_has_6 : decode cX2_has 6 = .ok (.getfield 9, 3) := by decide +kernel
theorem dX2_has_9 : decode cX2_has 9 = .ok (.if_icmp .ge 7, 3) := by decide +kernel
theorem dX2_has_12 : decode cX2_has 12 = .ok (.iconst 1, 1) := by decide +kernel
theorem dX2_has_13 : decode cX2_has 13 = .ok (.goto 4, 3) := by decide +kernel
theorem dX2_has_16 : decode cX2_has 16 = .ok (.iconst 0, 1) := by decide +kernel
theorem dX2_has_17 : decode cX2_has 17 = .ok (.ireturn, 1) := by decide +kernel
theorem dX2_hasSet_0 : decode cX2_hasSet 0 = .ok (.iload_n 1, 1) := by decide +kernel
theorem dX2_hasSet_1 : decode cX2_hasSet 1 = .ok (.ifCond .le 17, 3) := by decide +kernel
theorem dX2_hasSet_4 : decode cX2_hasSet 4 = .ok (.iload_n 1, 1) := by decide +kernel
theorem dX2_hasSet_5 : decode cX2_hasSet 5 = .ok (.iconst 1, 1) := by decide +kernel
theorem dX2_hasSet_6 : decode cX2_hasSet 6 = .ok (.aload_n 0, 1) := by decide +kernel
theorem dX2_hasSet_7 : decode cX2_hasSet 7 = .ok (.getfield 9, 3) := by decide +kernel
theorem dX2_hasSet_10 : decode cX2_hasSet 10 = .ok (.ishl, 1) := by decide +kernel
theorem dX2_hasSet_11 : decode cX2_hasSet 11 = .ok (.if_icmp .ge 7, 3) := by decide +kernel
theorem dX2_hasSet_14 : decode cX2_hasSet 14 = .ok (.iconst 1, 1) := by decide +kernel
theorem dX2_hasSet_15 : decode cX2_hasSet 15 = .ok (.goto 4, 3) := by decide +kernel
theorem dX2_hasSet_18 : decode cX2_hasSet 18 = .ok (.iconst 0, 1) := by decide +kernel
theorem dX2_hasSet_19 : decode cX2_hasSet 19 = .ok (.ireturn, 1) := by decide +kernel
theorem dX2_canBeLaid_0 : decode cX2_canBeLaid 0 = .ok (.aload_n 0, 1) := by decide +kernel
theorem dX2_canBeLaid_1 : decode cX2_canBeLaid 1 = .ok (.iload_n 1, 1) := by decide +kernel
theorem dX2_canBeLaid_2 : decode cX2_canBeLaid 2 = .ok (.invokevirtual 27, 3) := by decide +kernel
theorem dX2_canBeLaid_5 : decode cX2_canBeLaid 5 = .ok (.ifCond .eq 15, 3) := by decide +kernel
theorem dX2_canBeLaid_8 : decode cX2_canBeLaid 8 = .ok (.iload_n 1, 1) := by decide +kernel
theorem dX2_canBeLaid_9 : decode cX2_canBeLaid 9 = .ok (.invokestatic 31, 3) := by decide +kernel
theorem dX2_canBeLaid_12 : decode cX2_canBeLaid 12 = .ok (.iconst 5, 1) := by decide +kernel
theorem dX2_canBeLaid_13 : decode cX2_canBeLaid 13 = .ok (.if_icmp .gt 7, 3) := by decide +kernel
theorem dX2_canBeLaid_16 : decode cX2_canBeLaid 16 = .ok (.iconst 1, 1) := by decide +kernel
theorem dX2_canBeLaid_17 : decode cX2_canBeLaid 17 = .ok (.goto 4, 3) := by decide +kernel
theorem dX2_canBeLaid_20 : decode cX2_canBeLaid 20 = .ok (.iconst 0, 1) := by decide +kernel
theorem dX2_canBeLaid_21 : decode cX2_canBeLaid 21 = .ok (.ireturn, 1) := by decide +kernel
theorem dX2_followsBothWays_0 : decode cX2_followsBothWays 0 = .ok (.aload_n 0, 1) := by decide +kernel
theorem dX2_followsBothWays_1 : decode cX2_followsBothWays 1 = .ok (.getfield 24, 3) := by decide +kernel
theorem dX2_followsBothWays_4 : decode cX2_followsBothWays 4 = .ok (.iload_n 1, 1) := by decide +kernel
theorem dX2_followsBothWays_5 : decode cX2_followsBothWays 5 = .ok (.aaload, 1) := by decide +kernel
theorem dX2_followsBothWays_6 : decode cX2_followsBothWays 6 = .ok (.iload_n 2, 1) := by decide +kernel
theorem dX2_followsBothWays_7 : decode cX2_followsBothWays 7 = .ok (.iaload, 1) := by decide +kernel
theorem dX2_followsBothWays_8 : decode cX2_followsBothWays 8 = .ok (.aload_n 0, 1) := by decide +kernel
theorem dX2_followsBothWays_9 : decode cX2_followsBothWays 9 = .ok (.getfield 24, 3) := by decide +kernel
theorem dX2_followsBothWays_12 : decode cX2_followsBothWays 12 = .ok (.iload_n 2, 1) := by decide +kernel
theorem dX2_followsBothWays_13 : decode cX2_followsBothWays 13 = .ok (.aaload, 1) := by decide +kernel
theorem dX2_followsBothWays_14 : decode cX2_followsBothWays 14 = .ok (.iload_n 1, 1) := by decide +kernel
theorem dX2_followsBothWays_15 : decode cX2_followsBothWays 15 = .ok (.iaload, 1) := by decide +kernel
theorem dX2_followsBothWays_16 : decode cX2_followsBothWays 16 = .ok (.iadd, 1) := by decide +kernel
theorem dX2_followsBothWays_17 : decode cX2_followsBothWays 17 = .ok (.ireturn, 1) := by decide +kernel
theorem dX2_clear_0 : decode cX2_clear 0 = .ok (.aload_n 0, 1) := by decide +kernel
theorem dX2_clear_1 : decode cX2_clear 1 = .ok (.iconst 0, 1) := by decide +kernel
theorem dX2_clear_2 : decode cX2_clear 2 = .ok (.putfield 9, 3) := by decide +kernel
theorem dX2_clear_5 : decode cX2_clear 5 = .ok (.iconst 0, 1) := by decide +kernel
theorem dX2_clear_6 : decode cX2_clear 6 = .ok (.istore_n 1, 1) := by decide +kernel
theorem dX2_clear_7 : decode cX2_clear 7 = .ok (.iload_n 1, 1) := by decide +kernel
theorem dX2_clear_8 : decode cX2_clear 8 = .ok (.bipush 10, 2) := by decide +kernel
theorem dX2_clear_10 : decode cX2_clear 10 = .ok (.if_icmp .ge 19, 3) := by decide +kernel
theorem dX2_clear_13 : decode cX2_clear 13 = .ok (.aload_n 0, 1) := by decide +kernel
theorem dX2_clear_14 : decode cX2_clear 14 = .ok (.getfield 24, 3) := by decide +kernel
theorem dX2_clear_17 : decode cX2_clear 17 = .ok (.iload_n 1, 1) := by decide +kernel
theorem dX2_clear_18 : decode cX2_clear 18 = .ok (.aaload, 1) := by decide +kernel
theorem dX2_clear_19 : decode cX2_clear 19 = .ok (.iconst 0, 1) := by decide +kernel
theorem dX2_clear_20 : decode cX2_clear 20 = .ok (.invokestatic 37, 3) := by decide +kernel
theorem dX2_clear_23 : decode cX2_clear 23 = .ok (.iinc 1 1, 3) := by decide +kernel
theorem dX2_clear_26 : decode cX2_clear 26 = .ok (.goto (-19), 3) := by decide +kernel
theorem dX2_clear_29 : decode cX2_clear 29 = .ok (.return_, 1) := by decide +kernel
theorem dX2_become_0 : decode cX2_become 0 = .ok (.aload_n 0, 1) := by decide +kernel
theorem dX2_become_1 : decode cX2_become 1 = .ok (.aload_n 1, 1) := by decide +kernel
theorem dX2_become_2 : decode cX2_become 2 = .ok (.getfield 9, 3) := by decide +kernel
theorem dX2_become_5 : decode cX2_become 5 = .ok (.putfield 9, 3) := by decide +kernel
theorem dX2_become_8 : decode cX2_become 8 = .ok (.aload_n 1, 1) := by decide +kernel
theorem dX2_become_9 : decode cX2_become 9 = .ok (.getfield 15, 3) := by decide +kernel
theorem dX2_become_12 : decode cX2_become 12 = .ok (.iconst 0, 1) := by decide +kernel
theorem dX2_become_13 : decode cX2_become 13 = .ok (.aload_n 0, 1) := by decide +kernel
theorem dX2_become_14 : decode cX2_become 14 = .ok (.getfield 15, 3) := by decide +kernel
theorem dX2_become_17 : decode cX2_become 17 = .ok (.iconst 0, 1) := by decide +kernel
theorem dX2_become_18 : decode cX2_become 18 = .ok (.bipush 10, 2) := by decide +kernel
theorem dX2_become_20 : decode cX2_become 20 = .ok (.invokestatic 43, 3) := by decide +kernel
theorem dX2_become_23 : decode cX2_become 23 = .ok (.aload_n 1, 1) := by decide +kernel
theorem dX2_become_24 : decode cX2_become 24 = .ok (.getfield 19, 3) := by decide +kernel
theorem dX2_become_27 : decode cX2_become 27 = .ok (.iconst 0, 1) := by decide +kernel
theorem dX2_become_28 : decode cX2_become 28 = .ok (.aload_n 0, 1) := by decide +kernel
theorem dX2_become_29 : decode cX2_become 29 = .ok (.getfield 19, 3) := by decide +kernel
theorem dX2_become_32 : decode cX2_become 32 = .ok (.iconst 0, 1) := by decide +kernel
theorem dX2_become_33 : decode cX2_become 33 = .ok (.bipush 10, 2) := by decide +kernel
theorem dX2_become_35 : decode cX2_become 35 = .ok (.invokestatic 43, 3) := by decide +kernel
theorem dX2_become_38 : decode cX2_become 38 = .ok (.iconst 0, 1) := by decide +kernel
theorem dX2_become_39 : decode cX2_become 39 = .ok (.istore_n 2, 1) := by decide +kernel
theorem dX2_become_40 : decode cX2_become 40 = .ok (.iload_n 2, 1) := by decide +kernel
theorem dX2_become_41 : decode cX2_become 41 = .ok (.bipush 10, 2) := by decide +kernel
theorem dX2_become_43 : decode cX2_become 43 = .ok (.if_icmp .ge 28, 3) := by decide +kernel
theorem dX2_become_46 : decode cX2_become 46 = .ok (.aload_n 1, 1) := by decide +kernel
theorem dX2_become_47 : decode cX2_become 47 = .ok (.getfield 24, 3) := by decide +kernel
theorem dX2_become_50 : decode cX2_become 50 = .ok (.iload_n 2, 1) := by decide +kernel
theorem dX2_become_51 : decode cX2_become 51 = .ok (.aaload, 1) := by decide +kernel
theorem dX2_become_52 : decode cX2_become 52 = .ok (.iconst 0, 1) := by decide +kernel
theorem dX2_become_53 : decode cX2_become 53 = .ok (.aload_n 0, 1) := by decide +kernel
theorem dX2_become_54 : decode cX2_become 54 = .ok (.getfield 24, 3) := by decide +kernel
theorem dX2_become_57 : decode cX2_become 57 = .ok (.iload_n 2, 1) := by decide +kernel
theorem dX2_become_58 : decode cX2_become 58 = .ok (.aaload, 1) := by decide +kernel
theorem dX2_become_59 : decode cX2_become 59 = .ok (.iconst 0, 1) := by decide +kernel
theorem dX2_become_60 : decode cX2_become 60 = .ok (.bipush 10, 2) := by decide +kernel
theorem dX2_become_62 : decode cX2_become 62 = .ok (.invokestatic 43, 3) := by decide +kernel
theorem dX2_become_65 : decode cX2_become 65 = .ok (.iinc 2 1, 3) := by decide +kernel
theorem dX2_become_68 : decode cX2_become 68 = .ok (.goto (-28), 3) := by decide +kernel
theorem dX2_become_71 : decode cX2_become 71 = .ok (.return_, 1) := by decide +kernel
theorem dX2_add_0 : decode cX2_add 0 = .ok (.aload_n 0, 1) := by decide +kernel
theorem dX2_add_1 : decode cX2_add 1 = .ok (.getfield 9, 3) := by decide +kernel
theorem dX2_add_4 : decode cX2_add 4 = .ok (.bipush 10, 2) := by decide +kernel
theorem dX2_add_6 : decode cX2_add 6 = .ok (.if_icmp .ge 33, 3) := by decide +kernel
theorem dX2_add_9 : decode cX2_add 9 = .ok (.aload_n 0, 1) := by decide +kernel
theorem dX2_add_10 : decode cX2_add 10 = .ok (.getfield 15, 3) := by decide +kernel
theorem dX2_add_13 : decode cX2_add 13 = .ok (.aload_n 0, 1) := by decide +kernel
theorem dX2_add_14 : decode cX2_add 14 = .ok (.getfield 9, 3) := by decide +kernel
theorem dX2_add_17 : decode cX2_add 17 = .ok (.iload_n 1, 1) := by decide +kernel
theorem dX2_add_18 : decode cX2_add 18 = .ok (.iastore, 1) := by decide +kernel
theorem dX2_add_19 : decode cX2_add 19 = .ok (.aload_n 0, 1) := by decide +kernel
theorem dX2_add_20 : decode cX2_add 20 = .ok (.getfield 19, 3) := by decide +kernel
theorem dX2_add_23 : decode cX2_add 23 = .ok (.aload_n 0, 1) := by decide +kernel
theorem dX2_add_24 : decode cX2_add 24 = .ok (.getfield 9, 3) := by decide +kernel
theorem dX2_add_27 : decode cX2_add 27 = .ok (.iconst 0, 1) := by decide +kernel
theorem dX2_add_28 : decode cX2_add 28 = .ok (.iastore, 1) := by decide +kernel
theorem dX2_add_29 : decode cX2_add 29 = .ok (.aload_n 0, 1) := by decide +kernel
theorem dX2_add_30 : decode cX2_add 30 = .ok (.dup, 1) := by decide +kernel
theorem dX2_add_31 : decode cX2_add 31 = .ok (.getfield 9, 3) := by decide +kernel
theorem dX2_add_34 : decode cX2_add 34 = .ok (.iconst 1, 1) := by decide +kernel
theorem dX2_add_35 : decode cX2_add 35 = .ok (.iadd, 1) := by decide +kernel
theorem dX2_add_36 : decode cX2_add 36 = .ok (.putfield 9, 3) := by decide +kernel
theorem dX2_add_39 : decode cX2_add 39 = .ok (.return_, 1) := by decide +kernel
theorem dX2_addDigitToLatest_0 : decode cX2_addDigitToLatest 0 = .ok (.aload_n 0, 1) := by decide +kernel
theorem dX2_addDigitToLatest_1 : decode cX2_addDigitToLatest 1 = .ok (.getfield 9, 3) := by decide +kernel
theorem dX2_addDigitToLatest_4 : decode cX2_addDigitToLatest 4 = .ok (.ifCond .le 30, 3) := by decide +kernel
theorem dX2_addDigitToLatest_7 : decode cX2_addDigitToLatest 7 = .ok (.aload_n 0, 1) := by decide +kernel
theorem dX2_addDigitToLatest_8 : decode cX2_addDigitToLatest 8 = .ok (.getfield 19, 3) := by decide +kernel
theorem dX2_addDigitToLatest_11 : decode cX2_addDigitToLatest 11 = .ok (.aload_n 0, 1) := by decide +kernel
theorem dX2_addDigitToLatest_12 : decode cX2_addDigitToLatest 12 = .ok (.getfield 9, 3) := by decide +kernel
theorem dX2_addDigitToLatest_15 : decode cX2_addDigitToLatest 15 = .ok (.iconst 1, 1) := by decide +kernel
theorem dX2_addDigitToLatest_16 : decode cX2_addDigitToLatest 16 = .ok (.isub, 1) := by decide +kernel
theorem dX2_addDigitToLatest_17 : decode cX2_addDigitToLatest 17 = .ok (.bipush 10, 2) := by decide +kernel
theorem dX2_addDigitToLatest_19 : decode cX2_addDigitToLatest 19 = .ok (.aload_n 0, 1) := by decide +kernel
theorem dX2_addDigitToLatest_20 : decode cX2_addDigitToLatest 20 = .ok (.getfield 19, 3) := by decide +kernel
theorem dX2_addDigitToLatest_23 : decode cX2_addDigitToLatest 23 = .ok (.aload_n 0, 1) := by decide +kernel
theorem dX2_addDigitToLatest_24 : decode cX2_addDigitToLatest 24 = .ok (.getfield 9, 3) := by decide +kernel
theorem dX2_addDigitToLatest_27 : decode cX2_addDigitToLatest 27 = .ok (.iconst 1, 1) := by decide +kernel
theorem dX2_addDigitToLatest_28 : decode cX2_addDigitToLatest 28 = .ok (.isub, 1) := by decide +kernel
theorem dX2_addDigitToLatest_29 : decode cX2_addDigitToLatest 29 = .ok (.iaload, 1) := by decide +kernel
theorem dX2_addDigitToLatest_30 : decode cX2_addDigitToLatest 30 = .ok (.imul, 1) := by decide +kernel
theorem dX2_addDigitToLatest_31 : decode cX2_addDigitToLatest 31 = .ok (.iload_n 1, 1) := by decide +kernel
theorem dX2_addDigitToLatest_32 : decode cX2_addDigitToLatest 32 = .ok (.iadd, 1) := by decide +kernel
theorem dX2_addDigitToLatest_33 : decode cX2_addDigitToLatest 33 = .ok (.iastore, 1) := by decide +kernel
theorem dX2_addDigitToLatest_34 : decode cX2_addDigitToLatest 34 = .ok (.return_, 1) := by decide +kernel
theorem dX2_isAheadOfLatest_0 : decode cX2_isAheadOfLatest 0 = .ok (.iload_n 1, 1) := by decide +kernel
theorem dX2_isAheadOfLatest_1 : decode cX2_isAheadOfLatest 1 = .ok (.ifCond .lt 17, 3) := by decide +kernel
theorem dX2_isAheadOfLatest_4 : decode cX2_isAheadOfLatest 4 = .ok (.iload_n 1, 1) := by decide +kernel
theorem dX2_isAheadOfLatest_5 : decode cX2_isAheadOfLatest 5 = .ok (.aload_n 0, 1) := by decide +kernel
theorem dX2_isAheadOfLatest_6 : decode cX2_isAheadOfLatest 6 = .ok (.getfield 9, 3) := by decide +kernel
theorem dX2_isAheadOfLatest_9 : decode cX2_isAheadOfLatest 9 = .ok (.iconst 1, 1) := by decide +kernel
theorem dX2_isAheadOfLatest_10 : decode cX2_isAheadOfLatest 10 = .ok (.isub, 1) := by decide +kernel
theorem dX2_isAheadOfLatest_11 : decode cX2_isAheadOfLatest 11 = .ok (.if_icmp .ge 7, 3) := by decide +kernel
theorem dX2_isAheadOfLatest_14 : decode cX2_isAheadOfLatest 14 = .ok (.iconst 1, 1) := by decide +kernel
theorem dX2_isAheadOfLatest_15 : decode cX2_isAheadOfLatest 15 = .ok (.goto 4, 3) := by decide +kernel
theorem dX2_isAheadOfLatest_18 : decode cX2_isAheadOfLatest 18 = .ok (.iconst 0, 1) := by decide +kernel
theorem dX2_isAheadOfLatest_19 : decode cX2_isAheadOfLatest 19 = .ok (.ireturn, 1) := by decide +kernel
theorem dX2_putBehindLatest_0 : decode cX2_putBehindLatest 0 = .ok (.aload_n 0, 1) := by decide +kernel
theorem dX2_putBehindLatest_1 : decode cX2_putBehindLatest 1 = .ok (.iload_n 1, 1) := by decide +kernel
theorem dX2_putBehindLatest_2 : decode cX2_putBehindLatest 2 = .ok (.invokevirtual 49, 3) := by decide +kernel
theorem dX2_putBehindLatest_5 : decode cX2_putBehindLatest 5 = .ok (.ifCond .eq 20, 3) := by decide +kernel
theorem dX2_putBehindLatest_8 : decode cX2_putBehindLatest 8 = .ok (.aload_n 0, 1) := by decide +kernel
theorem dX2_putBehindLatest_9 : decode cX2_putBehindLatest 9 = .ok (.getfield 24, 3) := by decide +kernel
theorem dX2_putBehindLatest_12 : decode cX2_putBehindLatest 12 = .ok (.aload_n 0, 1) := by decide +kernel
theorem dX2_putBehindLatest_13 : decode cX2_putBehindLatest 13 = .ok (.getfield 9, 3) := by decide +kernel
theorem dX2_putBehindLatest_16 : decode cX2_putBehindLatest 16 = .ok (.iconst 1, 1) := by decide +kernel
theorem dX2_putBehindLatest_17 : decode cX2_putBehindLatest 17 = .ok (.isub, 1) := by decide +kernel
theorem dX2_putBehindLatest_18 : decode cX2_putBehindLatest 18 = .ok (.aaload, 1) := by decide +kernel
theorem dX2_putBehindLatest_19 : decode cX2_putBehindLatest 19 = .ok (.iload_n 1, 1) := by decide +kernel
theorem dX2_putBehindLatest_20 : decode cX2_putBehindLatest 20 = .ok (.dup2, 1) := by decide +kernel
theorem dX2_putBehindLatest_21 : decode cX2_putBehindLatest 21 = .ok (.iaload, 1) := by decide +kernel
theorem dX2_putBehindLatest_22 : decode cX2_putBehindLatest 22 = .ok (.iconst 1, 1) := by decide +kernel
theorem dX2_putBehindLatest_23 : decode cX2_putBehindLatest 23 = .ok (.iadd, 1) := by decide +kernel
theorem dX2_putBehindLatest_24 : decode cX2_putBehindLatest 24 = .ok (.iastore, 1) := by decide +kernel
theorem dX2_putBehindLatest_25 : decode cX2_putBehindLatest 25 = .ok (.return_, 1) := by decide +kernel
theorem dX3_init_0 : decode cX3_init 0 = .ok (.aload_n 0, 1) := by decide +kernel
theorem dX3_init_1 : decode cX3_init 1 = .ok (.invokespecial 3, 3) := by decide +kernel
theorem dX3_init_4 : decode cX3_init 4 = .ok (.aload_n 0, 1) := by decide +kernel
theorem dX3_init_5 : decode cX3_init 5 = .ok (.iconst 3, 1) := by decide +kernel
theorem dX3_init_6 : decode cX3_init 6 = .ok (.newarray .int, 2) := by decide +kernel
theorem dX3_init_8 : decode cX3_init 8 = .ok (.putfield 9, 3) := by decide +kernel
theorem dX3_init_11 : decode cX3_init 11 = .ok (.aload_n 0, 1) := by decide +kernel
theorem dX3_init_12 : decode cX3_init 12 = .ok (.new 15, 3) := by decide +kernel
theorem dX3_init_15 : decode cX3_init 15 = .ok (.dup, 1) := by decide +kernel
theorem dX3_init_16 : decode cX3_init 16 = .ok (.invokespecial 17, 3) := by decide +kernel
theorem dX3_init_19 : decode cX3_init 19 = .ok (.putfield 18, 3) := by decide +kernel
theorem dX3_init_22 : decode cX3_init 22 = .ok (.aload_n 0, 1) := by decide +kernel
theorem dX3_init_23 : decode cX3_init 23 = .ok (.new 15, 3) := by decide +kernel
theorem dX3_init_26 : decode cX3_init 26 = .ok (.dup, 1) := by decide +kernel
theorem dX3_init_27 : decode cX3_init 27 = .ok (.invokespecial 17, 3) := by decide +kernel
theorem dX3_init_30 : decode cX3_init 30 = .ok (.putfield 22, 3) := by decide +kernel
theorem dX3_init_33 : decode cX3_init 33 = .ok (.aload_n 0, 1) := by decide +kernel
theorem dX3_init_34 : decode cX3_init 34 = .ok (.iconst 0, 1) := by decide +kernel
theorem dX3_init_35 : decode cX3_init 35 = .ok (.putfield 25, 3) := by decide +kernel
theorem dX3_init_38 : decode cX3_init 38 = .ok (.aload_n 0, 1) := by decide +kernel
theorem dX3_init_39 : decode cX3_init 39 = .ok (.bipush (-9), 2) := by decide +kernel
theorem dX3_init_41 : decode cX3_init 41 = .ok (.putfield 29, 3) := by decide +kernel
theorem dX3_init_44 : decode cX3_init 44 = .ok (.aload_n 0, 1) := by decide +kernel
theorem dX3_init_45 : decode cX3_init 45 = .ok (.iconst 0, 1) := by decide +kernel
theorem dX3_init_46 : decode cX3_init 46 = .ok (.putfield 32, 3) := by decide +kernel
theorem dX3_init_49 : decode cX3_init 49 = .ok (.aload_n 0, 1) := by decide +kernel
theorem dX3_init_50 : decode cX3_init 50 = .ok (.iconst 0, 1) := by decide +kernel
theorem dX3_init_51 : decode cX3_init 51 = .ok (.putfield 35, 3) := by decide +kernel
theorem dX3_init_54 : decode cX3_init 54 = .ok (.aload_n 0, 1) := by decide +kernel
theorem dX3_init_55 : decode cX3_init 55 = .ok (.iconst 3, 1) := by decide +kernel
theorem dX3_init_56 : decode cX3_init 56 = .ok (.newarray .int, 2) := by decide +kernel
theorem dX3_init_58 : decode cX3_init 58 = .ok (.putfield 38, 3) := by decide +kernel
theorem dX3_init_61 : decode cX3_init 61 = .ok (.aload_n 0, 1) := by decide +kernel
theorem dX3_init_62 : decode cX3_init 62 = .ok (.bipush 12, 2) := by decide +kernel
theorem dX3_init_64 : decode cX3_init 64 = .ok (.newarray .int, 2) := by decide +kernel
theorem dX3_init_66 : decode cX3_init 66 = .ok (.putfield 41, 3) := by decide +kernel
theorem dX3_init_69 : decode cX3_init 69 = .ok (.aload_n 0, 1) := by decide +kernel
theorem dX3_init_70 : decode cX3_init 70 = .ok (.iconst 0, 1) := by decide +kernel
theorem dX3_init_71 : decode cX3_init 71 = .ok (.putfield 44, 3) := by decide +kernel
theorem dX3_init_74 : decode cX3_init 74 = .ok (.aload_n 0, 1) := by decide +kernel
theorem dX3_init_75 : decode cX3_init 75 = .ok (.bipush 10, 2) := by decide +kernel
theorem dX3_init_77 : decode cX3_init 77 = .ok (.newarray .int, 2) := by decide +kernel
theorem dX3_init_79 : decode cX3_init 79 = .ok (.putfield 47, 3) := by decide +kernel
theorem dX3_init_82 : decode cX3_init 82 = .ok (.aload_n 0, 1) := by decide +kernel
theorem dX3_init_83 : decode cX3_init 83 = .ok (.iconst 0, 1) := by decide +kernel
theorem dX3_init_84 : decode cX3_init 84 = .ok (.putfield 50, 3) := by decide +kernel
theorem dX3_init_87 : decode cX3_init 87 = .ok (.aload_n 0, 1) := by decide +kernel
theorem dX3_init_88 : decode cX3_init 88 = .ok (.bipush 8, 2) := by decide +kernel
theorem dX3_init_90 : decode cX3_init 90 = .ok (.newarray .int, 2) := by decide +kernel
theorem dX3_init_92 : decode cX3_init 92 = .ok (.putfield 53, 3) := by decide +kernel
theorem dX3_init_95 : decode cX3_init 95 = .ok (.aload_n 0, 1) := by decide +kernel
theorem dX3_init_96 : decode cX3_init 96 = .ok (.getfield 9, 3) := by decide +kernel
theorem dX3_init_99 : decode cX3_init 99 = .ok (.iconst 1, 1) := by decide +kernel
theorem dX3_init_100 : decode cX3_init 100 = .ok (.getstatic 56, 3) := by decide +kernel
theorem dX3_init_103 : decode cX3_init 103 = .ok (.iconst 1, 1) := by decide +kernel
theorem dX3_init_104 : decode cX3_init 104 = .ok (.iaload, 1) := by decide +kernel
theorem dX3_init_105 : decode cX3_init 105 = .ok (.iastore, 1) := by decide +kernel
theorem dX3_init_106 : decode cX3_init 106 = .ok (.aload_n 0, 1) := by decide +kernel
theorem dX3_init_107 : decode cX3_init 107 = .ok (.getfield 9, 3) := by decide +kernel
theorem dX3_init_110 : decode cX3_init 110 = .ok (.iconst 2, 1) := by decide +kernel
theorem dX3_init_111 : decode cX3_init 111 = .ok (.getstatic 56, 3) := by decide +kernel
theorem dX3_init_114 : decode cX3_init 114 = .ok (.iconst 2, 1) := by decide +kernel
theorem dX3_init_115 : decode cX3_init 115 = .ok (.iaload, 1) := by decide +kernel
theorem dX3_init_116 : decode cX3_init 116 = .ok (.iastore, 1) := by decide +kernel
theorem dX3_init_117 : decode cX3_init 117 = .ok (.aload_n 0, 1) := by decide +kernel
theorem dX3_init_118 : decode cX3_init 118 = .ok (.getfield 53, 3) := by decide +kernel
theorem dX3_init_121 : decode cX3_init 121 = .ok (.iconst (-1), 1) := by decide +kernel
theorem dX3_init_122 : decode cX3_init 122 = .ok (.invokestatic 59, 3) := by decide +kernel
theorem dX3_init_125 : decode cX3_init 125 = .ok (.return_, 1) := by decide +kernel
theorem dX3_receiveLaying_0 : decode cX3_receiveLaying 0 = .ok (.aload_n 0, 1) := by decide +kernel
theorem dX3_receiveLaying_1 : decode cX3_receiveLaying 1 = .ok (.invokevirtual 65, 3) := by decide +kernel
theorem dX3_receiveLaying_4 : decode cX3_receiveLaying 4 = .ok (.aload_n 0, 1) := by decide +kernel
theorem dX3_receiveLaying_5 : decode cX3_receiveLaying 5 = .ok (.getfield 18, 3) := by decide +kernel
theorem dX3_receiveLaying_8 : decode cX3_receiveLaying 8 = .ok (.aload_n 1, 1) := by decide +kernel
theorem dX3_receiveLaying_9 : decode cX3_receiveLaying 9 = .ok (.invokevirtual 68, 3) := by decide +kernel
theorem dX3_receiveLaying_12 : decode cX3_receiveLaying 12 = .ok (.return_, 1) := by decide +kernel
theorem dX3_swapLayings_0 : decode cX3_swapLayings 0 = .ok (.aload_n 0, 1) := by decide +kernel
theorem dX3_swapLayings_1 : decode cX3_swapLayings 1 = .ok (.getfield 18, 3) := by decide +kernel
theorem dX3_swapLayings_4 : decode cX3_swapLayings 4 = .ok (.astore_n 1, 1) := by decide +kernel
theorem dX3_swapLayings_5 : decode cX3_swapLayings 5 = .ok (.aload_n 0, 1) := by decide +kernel
theorem dX3_swapLayings_6 : decode cX3_swapLayings 6 = .ok (.aload_n 0, 1) := by decide +kernel
theorem dX3_swapLayings_7 : decode cX3_swapLayings 7 = .ok (.getfield 22, 3) := by decide +kernel
theorem dX3_swapLayings_10 : decode cX3_swapLayings 10 = .ok (.putfield 18, 3) := by decide +kernel
theorem dX3_swapLayings_13 : decode cX3_swapLayings 13 = .ok (.aload_n 0, 1) := by decide +kernel
theorem dX3_swapLayings_14 : decode cX3_swapLayings 14 = .ok (.aload_n 1, 1) := by decide +kernel
theorem dX3_swapLayings_15 : decode cX3_swapLayings 15 = .ok (.putfield 22, 3) := by decide +kernel
theorem dX3_swapLayings_18 : decode cX3_swapLayings 18 = .ok (.aload_n 0, 1) := by decide +kernel
theorem dX3_swapLayings_19 : decode cX3_swapLayings 19 = .ok (.bipush (-9), 2) := by decide +kernel
theorem dX3_swapLayings_21 : decode cX3_swapLayings 21 = .ok (.putfield 29, 3) := by decide +kernel
theorem dX3_swapLayings_24 : decode cX3_swapLayings 24 = .ok (.return_, 1) := by decide +kernel
theorem dX3_forgetLayings_0 : decode cX3_forgetLayings 0 = .ok (.aload_n 0, 1) := by decide +kernel
theorem dX3_forgetLayings_1 : decode cX3_forgetLayings 1 = .ok (.getfield 18, 3) := by decide +kernel
theorem dX3_forgetLayings_4 : decode cX3_forgetLayings 4 = .ok (.invokevirtual 72, 3) := by decide +kernel
theorem dX3_forgetLayings_7 : decode cX3_forgetLayings 7 = .ok (.aload_n 0, 1) := by decide +kernel
theorem dX3_forgetLayings_8 : decode cX3_forgetLayings 8 = .ok (.getfield 22, 3) := by decide +kernel
theorem dX3_forgetLayings_11 : decode cX3_forgetLayings 11 = .ok (.invokevirtual 72, 3) := by decide +kernel
theorem dX3_forgetLayings_14 : decode cX3_forgetLayings 14 = .ok (.aload_n 0, 1) := by decide +kernel
theorem dX3_forgetLayings_15 : decode cX3_forgetLayings 15 = .ok (.bipush (-9), 2) := by decide +kernel
theorem dX3_forgetLayings_17 : decode cX3_forgetLayings 17 = .ok (.putfield 29, 3) := by decide +kernel
theorem dX3_forgetLayings_20 : decode cX3_forgetLayings 20 = .ok (.return_, 1) := by decide +kernel
theorem dX3_isStillAsked_0 : decode cX3_isStillAsked 0 = .ok (.aload_n 0, 1) := by decide +kernel
theorem dX3_isStillAsked_1 : decode cX3_isStillAsked 1 = .ok (.getfield 29, 3) := by decide +kernel
theorem dX3_isStillAsked_4 : decode cX3_isStillAsked 4 = .ok (.iload_n 1, 1) := by decide +kernel
theorem dX3_isStillAsked_5 : decode cX3_isStillAsked 5 = .ok (.if_icmp .ne 17, 3) := by decide +kernel
theorem dX3_isStillAsked_8 : decode cX3_isStillAsked 8 = .ok (.iload_n 2, 1) := by decide +kernel
theorem dX3_isStillAsked_9 : decode cX3_isStillAsked 9 = .ok (.aload_n 0, 1) := by decide +kernel
theorem dX3_isStillAsked_10 : decode cX3_isStillAsked 10 = .ok (.getfield 35, 3) := by decide +kernel
theorem dX3_isStillAsked_13 : decode cX3_isStillAsked 13 = .ok (.isub, 1) := by decide +kernel
theorem dX3_isStillAsked_14 : decode cX3_isStillAsked 14 = .ok (.iload_n 3, 1) := by decide +kernel
theorem dX3_isStillAsked_15 : decode cX3_isStillAsked 15 = .ok (.if_icmp .gt 7, 3) := by decide +kernel
theorem dX3_isStillAsked_18 : decode cX3_isStillAsked 18 = .ok (.iconst 1, 1) := by decide +kernel
theorem dX3_isStillAsked_19 : decode cX3_isStillAsked 19 = .ok (.goto 4, 3) := by decide +kernel
theorem dX3_isStillAsked_22 : decode cX3_isStillAsked 22 = .ok (.iconst 0, 1) := by decide +kernel
theorem dX3_isStillAsked_23 : decode cX3_isStillAsked 23 = .ok (.ireturn, 1) := by decide +kernel
theorem dX3_ask_0 : decode cX3_ask 0 = .ok (.aload_n 0, 1) := by decide +kernel
theorem dX3_ask_1 : decode cX3_ask 1 = .ok (.iload_n 1, 1) := by decide +kernel
theorem dX3_ask_2 : decode cX3_ask 2 = .ok (.putfield 29, 3) := by decide +kernel
theorem dX3_ask_5 : decode cX3_ask 5 = .ok (.aload_n 0, 1) := by decide +kernel
theorem dX3_ask_6 : decode cX3_ask 6 = .ok (.iload_n 2, 1) := by decide +kernel
theorem dX3_ask_7 : decode cX3_ask 7 = .ok (.putfield 32, 3) := by decide +kernel
theorem dX3_ask_10 : decode cX3_ask 10 = .ok (.aload_n 0, 1) := by decide +kernel
theorem dX3_ask_11 : decode cX3_ask 11 = .ok (.iload_n 3, 1) := by decide +kernel
theorem dX3_ask_12 : decode cX3_ask 12 = .ok (.putfield 35, 3) := by decide +kernel
theorem dX3_ask_15 : decode cX3_ask 15 = .ok (.return_, 1) := by decide +kernel
theorem dX3_take_0 : decode cX3_take 0 = .ok (.aload_n 0, 1) := by decide +kernel
theorem dX3_take_1 : decode cX3_take 1 = .ok (.bipush (-9), 2) := by decide +kernel
theorem dX3_take_3 : decode cX3_take 3 = .ok (.putfield 29, 3) := by decide +kernel
theorem dX3_take_6 : decode cX3_take 6 = .ok (.aload_n 0, 1) := by decide +kernel
theorem dX3_take_7 : decode cX3_take 7 = .ok (.getfield 38, 3) := by decide +kernel
theorem dX3_take_10 : decode cX3_take 10 = .ok (.iload_n 1, 1) := by decide +kernel
theorem dX3_take_11 : decode cX3_take 11 = .ok (.dup2, 1) := by decide +kernel
theorem dX3_take_12 : decode cX3_take 12 = .ok (.iaload, 1) := by decide +kernel
theorem dX3_take_13 : decode cX3_take 13 = .ok (.iconst 1, 1) := by decide +kernel
theorem dX3_take_14 : decode cX3_take 14 = .ok (.iadd, 1) := by decide +kernel
theorem dX3_take_15 : decode cX3_take 15 = .ok (.iastore, 1) := by decide +kernel
theorem dX3_take_16 : decode cX3_take 16 = .ok (.aload_n 0, 1) := by decide +kernel
theorem dX3_take_17 : decode cX3_take 17 = .ok (.getfield 44, 3) := by decide +kernel
theorem dX3_take_20 : decode cX3_take 20 = .ok (.bipush 12, 2) := by decide +kernel
theorem dX3_take_22 : decode cX3_take 22 = .ok (.if_icmp .ne 28, 3) := by decide +kernel
theorem dX3_take_25 : decode cX3_take 25 = .ok (.aload_n 0, 1) := by decide +kernel
theorem dX3_take_26 : decode cX3_take 26 = .ok (.getfield 41, 3) := by decide +kernel
theorem dX3_take_29 : decode cX3_take 29 = .ok (.iconst 1, 1) := by decide +kernel
theorem dX3_take_30 : decode cX3_take 30 = .ok (.aload_n 0, 1) := by decide +kernel
theorem dX3_take_31 : decode cX3_take 31 = .ok (.getfield 41, 3) := by decide +kernel
theorem dX3_take_34 : decode cX3_take 34 = .ok (.iconst 0, 1) := by decide +kernel
theorem dX3_take_35 : decode cX3_take 35 = .ok (.bipush 11, 2) := by decide +kernel
theorem dX3_take_37 : decode cX3_take 37 = .ok (.invokestatic 75, 3) := by decide +kernel
theorem dX3_take_40 : decode cX3_take 40 = .ok (.aload_n 0, 1) := by decide +kernel
theorem dX3_take_41 : decode cX3_take 41 = .ok (.dup, 1) := by decide +kernel
theorem dX3_take_42 : decode cX3_take 42 = .ok (.getfield 44, 3) := by decide +kernel
theorem dX3_take_45 : decode cX3_take 45 = .ok (.iconst 1, 1) := by decide +kernel
theorem dX3_take_46 : decode cX3_take 46 = .ok (.isub, 1) := by decide +kernel
theorem dX3_take_47 : decode cX3_take 47 = .ok (.putfield 44, 3) := by decide +kernel
theorem dX3_take_50 : decode cX3_take 50 = .ok (.aload_n 0, 1) := by decide +kernel
theorem dX3_take_51 : decode cX3_take 51 = .ok (.getfield 41, 3) := by decide +kernel
theorem dX3_take_54 : decode cX3_take 54 = .ok (.aload_n 0, 1) := by decide +kernel
theorem dX3_take_55 : decode cX3_take 55 = .ok (.getfield 44, 3) := by decide +kernel
theorem dX3_take_58 : decode cX3_take 58 = .ok (.iload_n 1, 1) := by decide +kernel
theorem dX3_take_59 : decode cX3_take 59 = .ok (.iastore, 1) := by decide +kernel
theorem dX3_take_60 : decode cX3_take 60 = .ok (.aload_n 0, 1) := by decide +kernel
theorem dX3_take_61 : decode cX3_take 61 = .ok (.dup, 1) := by decide +kernel
theorem dX3_take_62 : decode cX3_take 62 = .ok (.getfield 44, 3) := by decide +kernel
theorem dX3_take_65 : decode cX3_take 65 = .ok (.iconst 1, 1) := by decide +kernel
theorem dX3_take_66 : decode cX3_take 66 = .ok (.iadd, 1) := by decide +kernel
theorem dX3_take_67 : decode cX3_take 67 = .ok (.putfield 44, 3) := by decide +kernel
theorem dX3_take_70 : decode cX3_take 70 = .ok (.return_, 1) := by decide +kernel
theorem dX3_takeBack_0 : decode cX3_takeBack 0 = .ok (.aload_n 0, 1) := by decide +kernel
theorem dX3_takeBack_1 : decode cX3_takeBack 1 = .ok (.dup, 1) := by decide +kernel
theorem dX3_takeBack_2 : decode cX3_takeBack 2 = .ok (.getfield 44, 3) := by decide +kernel
theorem dX3_takeBack_5 : decode cX3_takeBack 5 = .ok (.iconst 1, 1) := by decide +kernel
theorem dX3_takeBack_6 : decode cX3_takeBack 6 = .ok (.isub, 1) := by decide +kernel
theorem dX3_takeBack_7 : decode cX3_takeBack 7 = .ok (.putfield 44, 3) := by decide +kernel
theorem dX3_takeBack_10 : decode cX3_takeBack 10 = .ok (.aload_n 0, 1) := by decide +kernel
theorem dX3_takeBack_11 : decode cX3_takeBack 11 = .ok (.getfield 41, 3) := by decide +kernel
theorem dX3_takeBack_14 : decode cX3_takeBack 14 = .ok (.aload_n 0, 1) := by decide +kernel
theorem dX3_takeBack_15 : decode cX3_takeBack 15 = .ok (.getfield 44, 3) := by decide +kernel
theorem dX3_takeBack_18 : decode cX3_takeBack 18 = .ok (.iaload, 1) := by decide +kernel
theorem dX3_takeBack_19 : decode cX3_takeBack 19 = .ok (.istore_n 1, 1) := by decide +kernel
theorem dX3_takeBack_20 : decode cX3_takeBack 20 = .ok (.aload_n 0, 1) := by decide +kernel
theorem dX3_takeBack_21 : decode cX3_takeBack 21 = .ok (.getfield 38, 3) := by decide +kernel
theorem dX3_takeBack_24 : decode cX3_takeBack 24 = .ok (.iload_n 1, 1) := by decide +kernel
theorem dX3_takeBack_25 : decode cX3_takeBack 25 = .ok (.dup2, 1) := by decide +kernel
theorem dX3_takeBack_26 : decode cX3_takeBack 26 = .ok (.iaload, 1) := by decide +kernel
theorem dX3_takeBack_27 : decode cX3_takeBack 27 = .ok (.iconst 1, 1) := by decide +kernel
theorem dX3_takeBack_28 : decode cX3_takeBack 28 = .ok (.isub, 1) := by decide +kernel
theorem dX3_takeBack_29 : decode cX3_takeBack 29 = .ok (.iastore, 1) := by decide +kernel
theorem dX3_takeBack_30 : decode cX3_takeBack 30 = .ok (.iload_n 1, 1) := by decide +kernel
theorem dX3_takeBack_31 : decode cX3_takeBack 31 = .ok (.ireturn, 1) := by decide +kernel
theorem dX3_spanFor_0 : decode cX3_spanFor 0 = .ok (.iconst 0, 1) := by decide +kernel
theorem dX3_spanFor_1 : decode cX3_spanFor 1 = .ok (.istore_n 2, 1) := by decide +kernel
theorem dX3_spanFor_2 : decode cX3_spanFor 2 = .ok (.iconst 0, 1) := by decide +kernel
theorem dX3_spanFor_3 : decode cX3_spanFor 3 = .ok (.istore_n 3, 1) := by decide +kernel
theorem dX3_spanFor_4 : decode cX3_spanFor 4 = .ok (.iload_n 3, 1) := by decide +kernel
theorem dX3_spanFor_5 : decode cX3_spanFor 5 = .ok (.iconst 3, 1) := by decide +kernel
theorem dX3_spanFor_6 : decode cX3_spanFor 6 = .ok (.if_icmp .ge 18, 3) := by decide +kernel
theorem dX3_spanFor_9 : decode cX3_spanFor 9 = .ok (.iload_n 2, 1) := by decide +kernel
theorem dX3_spanFor_10 : decode cX3_spanFor 10 = .ok (.aload_n 0, 1) := by decide +kernel
theorem dX3_spanFor_11 : decode cX3_spanFor 11 = .ok (.getfield 38, 3) := by decide +kernel
theorem dX3_spanFor_14 : decode cX3_spanFor 14 = .ok (.iload_n 3, 1) := by decide +kernel
theorem dX3_spanFor_15 : decode cX3_spanFor 15 = .ok (.iaload, 1) := by decide +kernel
theorem dX3_spanFor_16 : decode cX3_spanFor 16 = .ok (.iadd, 1) := by decide +kernel
theorem dX3_spanFor_17 : decode cX3_spanFor 17 = .ok (.istore_n 2, 1) := by decide +kernel
theorem dX3_spanFor_18 : decode cX3_spanFor 18 = .ok (.iinc 3 1, 3) := by decide +kernel
theorem dX3_spanFor_21 : decode cX3_spanFor 21 = .ok (.goto (-17), 3) := by decide +kernel
theorem dX3_spanFor_24 : decode cX3_spanFor 24 = .ok (.iconst 0, 1) := by decide +kernel
theorem dX3_spanFor_25 : decode cX3_spanFor 25 = .ok (.istore_n 3, 1) := by decide +kernel
theorem dX3_spanFor_26 : decode cX3_spanFor 26 = .ok (.iconst 0, 1) := by decide +kernel
theorem dX3_spanFor_27 : decode cX3_spanFor 27 = .ok (.istore 4, 2) := by decide +kernel
theorem dX3_spanFor_29 : decode cX3_spanFor 29 = .ok (.iload 4, 2) := by decide +kernel
theorem dX3_spanFor_31 : decode cX3_spanFor 31 = .ok (.iconst 3, 1) := by decide +kernel
theorem dX3_spanFor_32 : decode cX3_spanFor 32 = .ok (.if_icmp .ge 36, 3) := by decide +kernel
theorem dX3_spanFor_35 : decode cX3_spanFor 35 = .ok (.iload_n 2, 1) := by decide +kernel
theorem dX3_spanFor_36 : decode cX3_spanFor 36 = .ok (.ifCond .le 32, 3) := by decide +kernel
theorem dX3_spanFor_39 : decode cX3_spanFor 39 = .ok (.iload_n 3, 1) := by decide +kernel
theorem dX3_spanFor_40 : decode cX3_spanFor 40 = .ok (.aload_n 0, 1) := by decide +kernel
theorem dX3_spanFor_41 : decode cX3_spanFor 41 = .ok (.getfield 38, 3) := by decide +kernel
theorem dX3_spanFor_44 : decode cX3_spanFor 44 = .ok (.iload 4, 2) := by decide +kernel
theorem dX3_spanFor_46 : decode cX3_spanFor 46 = .ok (.iaload, 1) := by decide +kernel
theorem dX3_spanFor_47 : decode cX3_spanFor 47 = .ok (.iadd, 1) := by decide +kernel
theorem dX3_spanFor_48 : decode cX3_spanFor 48 = .ok (.istore_n 3, 1) := by decide +kernel
theorem dX3_spanFor_49 : decode cX3_spanFor 49 = .ok (.bipush 10, 2) := by decide +kernel
theorem dX3_spanFor_51 : decode cX3_spanFor 51 = .ok (.iload_n 3, 1) := by decide +kernel
theorem dX3_spanFor_52 : decode cX3_spanFor 52 = .ok (.imul, 1) := by decide +kernel
theorem dX3_spanFor_53 : decode cX3_spanFor 53 = .ok (.iload_n 1, 1) := by decide +kernel
theorem dX3_spanFor_54 : decode cX3_spanFor 54 = .ok (.iload_n 2, 1) := by decide +kernel
theorem dX3_spanFor_55 : decode cX3_spanFor 55 = .ok (.imul, 1) := by decide +kernel
theorem dX3_spanFor_56 : decode cX3_spanFor 56 = .ok (.if_icmp .lt 6, 3) := by decide +kernel
theorem dX3_spanFor_59 : decode cX3_spanFor 59 = .ok (.iload 4, 2) := by decide +kernel
theorem dX3_spanFor_61 : decode cX3_spanFor 61 = .ok (.ireturn, 1) := by decide +kernel
theorem dX3_spanFor_62 : decode cX3_spanFor 62 = .ok (.iinc 4 1, 3) := by decide +kernel
theorem dX3_spanFor_65 : decode cX3_spanFor 65 = .ok (.goto (-36), 3) := by decide +kernel
theorem dX3_spanFor_68 : decode cX3_spanFor 68 = .ok (.bipush (-9), 2) := by decide +kernel
theorem dX3_spanFor_70 : decode cX3_spanFor 70 = .ok (.ireturn, 1) := by decide +kernel
theorem dX3_pairsThatGo_0 : decode cX3_pairsThatGo 0 = .ok (.iconst 0, 1) := by decide +kernel
theorem dX3_pairsThatGo_1 : decode cX3_pairsThatGo 1 = .ok (.istore_n 2, 1) := by decide +kernel
theorem dX3_pairsThatGo_2 : decode cX3_pairsThatGo 2 = .ok (.iconst 0, 1) := by decide +kernel
theorem dX3_pairsThatGo_3 : decode cX3_pairsThatGo 3 = .ok (.istore_n 3, 1) := by decide +kernel
theorem dX3_pairsThatGo_4 : decode cX3_pairsThatGo 4 = .ok (.iload_n 3, 1) := by decide +kernel
theorem dX3_pairsThatGo_5 : decode cX3_pairsThatGo 5 = .ok (.aload_n 0, 1) := by decide +kernel
theorem dX3_pairsThatGo_6 : decode cX3_pairsThatGo 6 = .ok (.getfield 44, 3) := by decide +kernel
theorem dX3_pairsThatGo_9 : decode cX3_pairsThatGo 9 = .ok (.if_icmp .ge 47, 3) := by decide +kernel
theorem dX3_pairsThatGo_12 : decode cX3_pairsThatGo 12 = .ok (.iconst 0, 1) := by decide +kernel
theorem dX3_pairsThatGo_13 : decode cX3_pairsThatGo 13 = .ok (.istore 4, 2) := by decide +kernel
theorem dX3_pairsThatGo_15 : decode cX3_pairsThatGo 15 = .ok (.iload 4, 2) := by decide +kernel
theorem dX3_pairsThatGo_17 : decode cX3_pairsThatGo 17 = .ok (.iload_n 3, 1) := by decide +kernel
theorem dX3_pairsThatGo_18 : decode cX3_pairsThatGo 18 = .ok (.if_icmp .ge 32, 3) := by decide +kernel
theorem dX3_pairsThatGo_21 : decode cX3_pairsThatGo 21 = .ok (.aload_n 0, 1) := by decide +kernel
theorem dX3_pairsThatGo_22 : decode cX3_pairsThatGo 22 = .ok (.getfield 41, 3) := by decide +kernel
theorem dX3_pairsThatGo_25 : decode cX3_pairsThatGo 25 = .ok (.iload_n 3, 1) := by decide +kernel
theorem dX3_pairsThatGo_26 : decode cX3_pairsThatGo 26 = .ok (.iaload, 1) := by decide +kernel
theorem dX3_pairsThatGo_27 : decode cX3_pairsThatGo 27 = .ok (.aload_n 0, 1) := by decide +kernel
theorem dX3_pairsThatGo_28 : decode cX3_pairsThatGo 28 = .ok (.getfield 41, 3) := by decide +kernel
theorem dX3_pairsThatGo_31 : decode cX3_pairsThatGo 31 = .ok (.iload 4, 2) := by decide +kernel
theorem dX3_pairsThatGo_33 : decode cX3_pairsThatGo 33 = .ok (.iaload, 1) := by decide +kernel
theorem dX3_pairsThatGo_34 : decode cX3_pairsThatGo 34 = .ok (.invokestatic 81, 3) := by decide +kernel
theorem dX3_pairsThatGo_37 : decode cX3_pairsThatGo 37 = .ok (.iload_n 1, 1) := by decide +kernel
theorem dX3_pairsThatGo_38 : decode cX3_pairsThatGo 38 = .ok (.if_icmp .ne 6, 3) := by decide +kernel
theorem dX3_pairsThatGo_41 : decode cX3_pairsThatGo 41 = .ok (.iinc 2 1, 3) := by decide +kernel
theorem dX3_pairsThatGo_44 : decode cX3_pairsThatGo 44 = .ok (.iinc 4 1, 3) := by decide +kernel
theorem dX3_pairsThatGo_47 : decode cX3_pairsThatGo 47 = .ok (.goto (-32), 3) := by decide +kernel
theorem dX3_pairsThatGo_50 : decode cX3_pairsThatGo 50 = .ok (.iinc 3 1, 3) := by decide +kernel
theorem dX3_pairsThatGo_53 : decode cX3_pairsThatGo 53 = .ok (.goto (-49), 3) := by decide +kernel
theorem dX3_pairsThatGo_56 : decode cX3_pairsThatGo 56 = .ok (.iload_n 2, 1) := by decide +kernel
theorem dX3_pairsThatGo_57 : decode cX3_pairsThatGo 57 = .ok (.ireturn, 1) := by decide +kernel
theorem dX4_init_0 : decode cX4_init 0 = .ok (.aload_n 0, 1) := by decide +kernel
theorem dX4_init_1 : decode cX4_init 1 = .ok (.invokespecial 3, 3) := by decide +kernel
theorem dX4_init_4 : decode cX4_init 4 = .ok (.aload_n 0, 1) := by decide +kernel
theorem dX4_init_5 : decode cX4_init 5 = .ok (.new 9, 3) := by decide +kernel
theorem dX4_init_8 : decode cX4_init 8 = .ok (.dup, 1) := by decide +kernel
theorem dX4_init_9 : decode cX4_init 9 = .ok (.invokespecial 11, 3) := by decide +kernel
theorem dX4_init_12 : decode cX4_init 12 = .ok (.putfield 12, 3) := by decide +kernel
theorem dX4_init_15 : decode cX4_init 15 = .ok (.aload_n 0, 1) := by decide +kernel
theorem dX4_init_16 : decode cX4_init 16 = .ok (.iconst 0, 1) := by decide +kernel
theorem dX4_init_17 : decode cX4_init 17 = .ok (.putfield 18, 3) := by decide +kernel
theorem dX4_init_20 : decode cX4_init 20 = .ok (.aload_n 0, 1) := by decide +kernel
theorem dX4_init_21 : decode cX4_init 21 = .ok (.iconst 0, 1) := by decide +kernel
theorem dX4_init_22 : decode cX4_init 22 = .ok (.putfield 22, 3) := by decide +kernel
theorem dX4_init_25 : decode cX4_init 25 = .ok (.return_, 1) := by decide +kernel
theorem dX4_firstFault_0 : decode cX4_firstFault 0 = .ok (.aload_n 0, 1) := by decide +kernel
theorem dX4_firstFault_1 : decode cX4_firstFault 1 = .ok (.getfield 12, 3) := by decide +kernel
theorem dX4_firstFault_4 : decode cX4_firstFault 4 = .ok (.invokevirtual 25, 3) := by decide +kernel
theorem dX4_firstFault_7 : decode cX4_firstFault 7 = .ok (.aload_n 0, 1) := by decide +kernel
theorem dX4_firstFault_8 : decode cX4_firstFault 8 = .ok (.iconst 0, 1) := by decide +kernel
theorem dX4_firstFault_9 : decode cX4_firstFault 9 = .ok (.putfield 18, 3) := by decide +kernel
theorem dX4_firstFault_12 : decode cX4_firstFault 12 = .ok (.iconst 0, 1) := by decide +kernel
theorem dX4_firstFault_13 : decode cX4_firstFault 13 = .ok (.istore 4, 2) := by decide +kernel
theorem dX4_firstFault_15 : decode cX4_firstFault 15 = .ok (.iload 4, 2) := by decide +kernel
theorem dX4_firstFault_17 : decode cX4_firstFault 17 = .ok (.iload_n 3, 1) := by decide +kernel
theorem dX4_firstFault_18 : decode cX4_firstFault 18 = .ok (.if_icmp .ge 25, 3) := by decide +kernel
theorem dX4_firstFault_21 : decode cX4_firstFault 21 = .ok (.aload_n 0, 1) := by decide +kernel
theorem dX4_firstFault_22 : decode cX4_firstFault 22 = .ok (.aload_n 1, 1) := by decide +kernel
theorem dX4_firstFault_23 : decode cX4_firstFault 23 = .ok (.iload_n 2, 1) := by decide +kernel
theorem dX4_firstFault_24 : decode cX4_firstFault 24 = .ok (.iload 4, 2) := by decide +kernel
theorem dX4_firstFault_26 : decode cX4_firstFault 26 = .ok (.iadd, 1) := by decide +kernel
theorem dX4_firstFault_27 : decode cX4_firstFault 27 = .ok (.iaload, 1) := by decide +kernel
theorem dX4_firstFault_28 : decode cX4_firstFault 28 = .ok (.invokevirtual 28, 3) := by decide +kernel
theorem dX4_firstFault_31 : decode cX4_firstFault 31 = .ok (.ifCond .ne 6, 3) := by decide +kernel
theorem dX4_firstFault_34 : decode cX4_firstFault 34 = .ok (.iload 4, 2) := by decide +kernel
theorem dX4_firstFault_36 : decode cX4_firstFault 36 = .ok (.ireturn, 1) := by decide +kernel
theorem dX4_firstFault_37 : decode cX4_firstFault 37 = .ok (.iinc 4 1, 3) := by decide +kernel
theorem dX4_firstFault_40 : decode cX4_firstFault 40 = .ok (.goto (-25), 3) := by decide +kernel
theorem dX4_firstFault_43 : decode cX4_firstFault 43 = .ok (.aload_n 0, 1) := by decide +kernel
theorem dX4_firstFault_44 : decode cX4_firstFault 44 = .ok (.getfield 18, 3) := by decide +kernel
theorem dX4_firstFault_47 : decode cX4_firstFault 47 = .ok (.iconst 2, 1) := by decide +kernel
theorem dX4_firstFault_48 : decode cX4_firstFault 48 = .ok (.if_icmp .eq 11, 3) := by decide +kernel
theorem dX4_firstFault_51 : decode cX4_firstFault 51 = .ok (.aload_n 0, 1) := by decide +kernel
theorem dX4_firstFault_52 : decode cX4_firstFault 52 = .ok (.getfield 18, 3) := by decide +kernel
theorem dX4_firstFault_55 : decode cX4_firstFault 55 = .ok (.iconst 4, 1) := by decide +kernel
theorem dX4_firstFault_56 : decode cX4_firstFault 56 = .ok (.if_icmp .ne 8, 3) := by decide +kernel
theorem dX4_firstFault_59 : decode cX4_firstFault 59 = .ok (.bipush (-9), 2) := by decide +kernel
theorem dX4_firstFault_61 : decode cX4_firstFault 61 = .ok (.goto 4, 3) := by decide +kernel
theorem dX4_firstFault_64 : decode cX4_firstFault 64 = .ok (.iload_n 3, 1) := by decide +kernel
theorem dX4_firstFault_65 : decode cX4_firstFault 65 = .ok (.ireturn, 1) := by decide +kernel
theorem dX4_takes_0 : decode cX4_takes 0 = .ok (.aload_n 0, 1) := by decide +kernel
theorem dX4_takes_1 : decode cX4_takes 1 = .ok (.getfield 18, 3) := by decide +kernel
theorem dX4_takes_4 : decode cX4_takes 4 = .ok (.tableswitch 80 0 3 #[32, 38, 44, 74], 32) := by decide +kernel
theorem dX4_takes_36 : decode cX4_takes 36 = .ok (.aload_n 0, 1) := by decide +kernel
theorem dX4_takes_37 : decode cX4_takes 37 = .ok (.iload_n 1, 1) := by decide +kernel
theorem dX4_takes_38 : decode cX4_takes 38 = .ok (.invokevirtual 32, 3) := by decide +kernel
theorem dX4_takes_41 : decode cX4_takes 41 = .ok (.ireturn, 1) := by decide +kernel
theorem dX4_takes_42 : decode cX4_takes 42 = .ok (.aload_n 0, 1) := by decide +kernel
theorem dX4_takes_43 : decode cX4_takes 43 = .ok (.iload_n 1, 1) := by decide +kernel
theorem dX4_takes_44 : decode cX4_takes 44 = .ok (.invokevirtual 35, 3) := by decide +kernel
theorem dX4_takes_47 : decode cX4_takes 47 = .ok (.ireturn, 1) := by decide +kernel
theorem dX4_takes_48 : decode cX4_takes 48 = .ok (.aload_n 0, 1) := by decide +kernel
theorem dX4_takes_49 : decode cX4_takes 49 = .ok (.getfield 22, 3) := by decide +kernel
theorem dX4_takes_52 : decode cX4_takes 52 = .ok (.iconst 3, 1) := by decide +kernel
theorem dX4_takes_53 : decode cX4_takes 53 = .ok (.if_icmp .ge 11, 3) := by decide +kernel
theorem dX4_takes_56 : decode cX4_takes 56 = .ok (.aload_n 0, 1) := by decide +kernel
theorem dX4_takes_57 : decode cX4_takes 57 = .ok (.iload_n 1, 1) := by decide +kernel
theorem dX4_takes_58 : decode cX4_takes 58 = .ok (.invokevirtual 35, 3) := by decide +kernel
theorem dX4_takes_61 : decode cX4_takes 61 = .ok (.ifCond .ne 11, 3) := by decide +kernel
theorem dX4_takes_64 : decode cX4_takes 64 = .ok (.aload_n 0, 1) := by decide +kernel
theorem dX4_takes_65 : decode cX4_takes 65 = .ok (.iload_n 1, 1) := by decide +kernel
theorem dX4_takes_66 : decode cX4_takes 66 = .ok (.invokevirtual 38, 3) := by decide +kernel
theorem dX4_takes_69 : decode cX4_takes 69 = .ok (.ifCond .eq 7, 3) := by decide +kernel
theorem dX4_takes_72 : decode cX4_takes 72 = .ok (.iconst 1, 1) := by decide +kernel
theorem dX4_takes_73 : decode cX4_takes 73 = .ok (.goto 4, 3) := by decide +kernel
theorem dX4_takes_76 : decode cX4_takes 76 = .ok (.iconst 0, 1) := by decide +kernel
theorem dX4_takes_77 : decode cX4_takes 77 = .ok (.ireturn, 1) := by decide +kernel
theorem dX4_takes_78 : decode cX4_takes 78 = .ok (.aload_n 0, 1) := by decide +kernel
theorem dX4_takes_79 : decode cX4_takes 79 = .ok (.iload_n 1, 1) := by decide +kernel
theorem dX4_takes_80 : decode cX4_takes 80 = .ok (.invokevirtual 41, 3) := by decide +kernel
theorem dX4_takes_83 : decode cX4_takes 83 = .ok (.ireturn, 1) := by decide +kernel
theorem dX4_takes_84 : decode cX4_takes 84 = .ok (.aload_n 0, 1) := by decide +kernel
theorem dX4_takes_85 : decode cX4_takes 85 = .ok (.iload_n 1, 1) := by decide +kernel
theorem dX4_takes_86 : decode cX4_takes 86 = .ok (.invokevirtual 38, 3) := by decide +kernel
theorem dX4_takes_89 : decode cX4_takes 89 = .ok (.ireturn, 1) := by decide +kernel
theorem dX4_takesLetter_0 : decode cX4_takesLetter 0 = .ok (.iload_n 1, 1) := by decide +kernel
theorem dX4_takesLetter_1 : decode cX4_takesLetter 1 = .ok (.invokestatic 44, 3) := by decide +kernel
theorem dX4_takesLetter_4 : decode cX4_takesLetter 4 = .ok (.istore_n 2, 1) := by decide +kernel
theorem dX4_takesLetter_5 : decode cX4_takesLetter 5 = .ok (.iload_n 2, 1) := by decide +kernel
theorem dX4_takesLetter_6 : decode cX4_takesLetter 6 = .ok (.bipush (-9), 2) := by decide +kernel
theorem dX4_takesLetter_8 : decode cX4_takesLetter 8 = .ok (.if_icmp .ne 5, 3) := by decide +kernel
theorem dX4_takesLetter_11 : decode cX4_takesLetter 11 = .ok (.iconst 0, 1) := by decide +kernel
theorem dX4_takesLetter_12 : decode cX4_takesLetter 12 = .ok (.ireturn, 1) := by decide +kernel
theorem dX4_takesLetter_13 : decode cX4_takesLetter 13 = .ok (.aload_n 0, 1) := by decide +kernel
theorem dX4_takesLetter_14 : decode cX4_takesLetter 14 = .ok (.getfield 12, 3) := by decide +kernel
theorem dX4_takesLetter_17 : decode cX4_takesLetter 17 = .ok (.iload_n 2, 1) := by decide +kernel
theorem dX4_takesLetter_18 : decode cX4_takesLetter 18 = .ok (.invokevirtual 48, 3) := by decide +kernel
theorem dX4_takesLetter_21 : decode cX4_takesLetter 21 = .ok (.aload_n 0, 1) := by decide +kernel
theorem dX4_takesLetter_22 : decode cX4_takesLetter 22 = .ok (.iconst 0, 1) := by decide +kernel
theorem dX4_takesLetter_23 : decode cX4_takesLetter 23 = .ok (.putfield 22, 3) := by decide +kernel
theorem dX4_takesLetter_26 : decode cX4_takesLetter 26 = .ok (.aload_n 0, 1) := by decide +kernel
theorem dX4_takesLetter_27 : decode cX4_takesLetter 27 = .ok (.iconst 1, 1) := by decide +kernel
theorem dX4_takesLetter_28 : decode cX4_takesLetter 28 = .ok (.putfield 18, 3) := by decide +kernel
theorem dX4_takesLetter_31 : decode cX4_takesLetter 31 = .ok (.iconst 1, 1) := by decide +kernel
theorem dX4_takesLetter_32 : decode cX4_takesLetter 32 = .ok (.ireturn, 1) := by decide +kernel
theorem dX4_kindOf_0 : decode cX4_kindOf 0 = .ok (.iload_n 0, 1) := by decide +kernel
theorem dX4_kindOf_1 : decode cX4_kindOf 1 = .ok (.lookupswitch 41 #[(100, 37), (112, 35), (120, 39)], 35) := by decide +kernel
theorem dX4_kindOf_36 : decode cX4_kindOf 36 = .ok (.iconst 0, 1) := by decide +kernel
theorem dX4_kindOf_37 : decode cX4_kindOf 37 = .ok (.ireturn, 1) := by decide +kernel
theorem dX4_kindOf_38 : decode cX4_kindOf 38 = .ok (.iconst 1, 1) := by decide +kernel
theorem dX4_kindOf_39 : decode cX4_kindOf 39 = .ok (.ireturn, 1) := by decide +kernel
theorem dX4_kindOf_40 : decode cX4_kindOf 40 = .ok (.iconst 2, 1) := by decide +kernel
theorem dX4_kindOf_41 : decode cX4_kindOf 41 = .ok (.ireturn, 1) := by decide +kernel
theorem dX4_kindOf_42 : decode cX4_kindOf 42 = .ok (.bipush (-9), 2) := by decide +kernel
theorem dX4_kindOf_44 : decode cX4_kindOf 44 = .ok (.ireturn, 1) := by decide +kernel
theorem dX4_takesDigit_0 : decode cX4_takesDigit 0 = .ok (.iload_n 1, 1) := by decide +kernel
theorem dX4_takesDigit_1 : decode cX4_takesDigit 1 = .ok (.bipush 48, 2) := by decide +kernel
theorem dX4_takesDigit_3 : decode cX4_takesDigit 3 = .ok (.bipush 57, 2) := by decide +kernel
theorem dX4_takesDigit_5 : decode cX4_takesDigit 5 = .ok (.invokestatic 52, 3) := by decide +kernel
theorem dX4_takesDigit_8 : decode cX4_takesDigit 8 = .ok (.ifCond .ne 5, 3) := by decide +kernel
theorem dX4_takesDigit_11 : decode cX4_takesDigit 11 = .ok (.iconst 0, 1) := by decide +kernel
theorem dX4_takesDigit_12 : decode cX4_takesDigit 12 = .ok (.ireturn, 1) := by decide +kernel
theorem dX4_takesDigit_13 : decode cX4_takesDigit 13 = .ok (.aload_n 0, 1) := by decide +kernel
theorem dX4_takesDigit_14 : decode cX4_takesDigit 14 = .ok (.getfield 12, 3) := by decide +kernel
theorem dX4_takesDigit_17 : decode cX4_takesDigit 17 = .ok (.iload_n 1, 1) := by decide +kernel
theorem dX4_takesDigit_18 : decode cX4_takesDigit 18 = .ok (.bipush 48, 2) := by decide +kernel
theorem dX4_takesDigit_20 : decode cX4_takesDigit 20 = .ok (.isub, 1) := by decide +kernel
theorem dX4_takesDigit_21 : decode cX4_takesDigit 21 = .ok (.invokevirtual 56, 3) := by decide +kernel
theorem dX4_takesDigit_24 : decode cX4_takesDigit 24 = .ok (.aload_n 0, 1) := by decide +kernel
theorem dX4_takesDigit_25 : decode cX4_takesDigit 25 = .ok (.dup, 1) := by decide +kernel
theorem dX4_takesDigit_26 : decode cX4_takesDigit 26 = .ok (.getfield 22, 3) := by decide +kernel
theorem dX4_takesDigit_29 : decode cX4_takesDigit 29 = .ok (.iconst 1, 1) := by decide +kernel
theorem dX4_takesDigit_30 : decode cX4_takesDigit 30 = .ok (.iadd, 1) := by decide +kernel
theorem dX4_takesDigit_31 : decode cX4_takesDigit 31 = .ok (.putfield 22, 3) := by decide +kernel
theorem dX4_takesDigit_34 : decode cX4_takesDigit 34 = .ok (.aload_n 0, 1) := by decide +kernel
theorem dX4_takesDigit_35 : decode cX4_takesDigit 35 = .ok (.iconst 2, 1) := by decide +kernel
theorem dX4_takesDigit_36 : decode cX4_takesDigit 36 = .ok (.putfield 18, 3) := by decide +kernel
theorem dX4_takesDigit_39 : decode cX4_takesDigit 39 = .ok (.iconst 1, 1) := by decide +kernel
theorem dX4_takesDigit_40 : decode cX4_takesDigit 40 = .ok (.ireturn, 1) := by decide +kernel
theorem dX4_takesSign_0 : decode cX4_takesSign 0 = .ok (.iload_n 1, 1) := by decide +kernel
theorem dX4_takesSign_1 : decode cX4_takesSign 1 = .ok (.bipush 62, 2) := by decide +kernel
theorem dX4_takesSign_3 : decode cX4_takesSign 3 = .ok (.if_icmp .ne 10, 3) := by decide +kernel
theorem dX4_takesSign_6 : decode cX4_takesSign 6 = .ok (.aload_n 0, 1) := by decide +kernel
theorem dX4_takesSign_7 : decode cX4_takesSign 7 = .ok (.iconst 3, 1) := by decide +kernel
theorem dX4_takesSign_8 : decode cX4_takesSign 8 = .ok (.putfield 18, 3) := by decide +kernel
theorem dX4_takesSign_11 : decode cX4_takesSign 11 = .ok (.iconst 1, 1) := by decide +kernel
theorem dX4_takesSign_12 : decode cX4_takesSign 12 = .ok (.ireturn, 1) := by decide +kernel
theorem dX4_takesSign_13 : decode cX4_takesSign 13 = .ok (.iload_n 1, 1) := by decide +kernel
theorem dX4_takesSign_14 : decode cX4_takesSign 14 = .ok (.bipush 59, 2) := by decide +kernel
theorem dX4_takesSign_16 : decode cX4_takesSign 16 = .ok (.if_icmp .ne 22, 3) := by decide +kernel
theorem dX4_takesSign_19 : decode cX4_takesSign 19 = .ok (.aload_n 0, 1) := by decide +kernel
theorem dX4_takesSign_20 : decode cX4_takesSign 20 = .ok (.getfield 12, 3) := by decide +kernel
theorem dX4_takesSign_23 : decode cX4_takesSign 23 = .ok (.getfield 59, 3) := by decide +kernel
theorem dX4_takesSign_26 : decode cX4_takesSign 26 = .ok (.bipush 10, 2) := by decide +kernel
theorem dX4_takesSign_28 : decode cX4_takesSign 28 = .ok (.if_icmp .ge 10, 3) := by decide +kernel
theorem dX4_takesSign_31 : decode cX4_takesSign 31 = .ok (.aload_n 0, 1) := by decide +kernel
theorem dX4_takesSign_32 : decode cX4_takesSign 32 = .ok (.iconst 0, 1) := by decide +kernel
theorem dX4_takesSign_33 : decode cX4_takesSign 33 = .ok (.putfield 18, 3) := by decide +kernel
theorem dX4_takesSign_36 : decode cX4_takesSign 36 = .ok (.iconst 1, 1) := by decide +kernel
theorem dX4_takesSign_37 : decode cX4_takesSign 37 = .ok (.ireturn, 1) := by decide +kernel
theorem dX4_takesSign_38 : decode cX4_takesSign 38 = .ok (.iconst 0, 1) := by decide +kernel
theorem dX4_takesSign_39 : decode cX4_takesSign 39 = .ok (.ireturn, 1) := by decide +kernel
theorem dX4_takesAhead_0 : decode cX4_takesAhead 0 = .ok (.iload_n 1, 1) := by decide +kernel
theorem dX4_takesAhead_1 : decode cX4_takesAhead 1 = .ok (.bipush 48, 2) := by decide +kernel
theorem dX4_takesAhead_3 : decode cX4_takesAhead 3 = .ok (.isub, 1) := by decide +kernel
theorem dX4_takesAhead_4 : decode cX4_takesAhead 4 = .ok (.istore_n 2, 1) := by decide +kernel
theorem dX4_takesAhead_5 : decode cX4_takesAhead 5 = .ok (.iload_n 1, 1) := by decide +kernel
theorem dX4_takesAhead_6 : decode cX4_takesAhead 6 = .ok (.bipush 48, 2) := by decide +kernel
theorem dX4_takesAhead_8 : decode cX4_takesAhead 8 = .ok (.bipush 57, 2) := by decide +kernel
theorem dX4_takesAhead_10 : decode cX4_takesAhead 10 = .ok (.invokestatic 52, 3) := by decide +kernel
theorem dX4_takesAhead_13 : decode cX4_takesAhead 13 = .ok (.ifCond .eq 14, 3) := by decide +kernel
theorem dX4_takesAhead_16 : decode cX4_takesAhead 16 = .ok (.aload_n 0, 1) := by decide +kernel
theorem dX4_takesAhead_17 : decode cX4_takesAhead 17 = .ok (.getfield 12, 3) := by decide +kernel
theorem dX4_takesAhead_20 : decode cX4_takesAhead 20 = .ok (.iload_n 2, 1) := by decide +kernel
theorem dX4_takesAhead_21 : decode cX4_takesAhead 21 = .ok (.invokevirtual 62, 3) := by decide +kernel
theorem dX4_takesAhead_24 : decode cX4_takesAhead 24 = .ok (.ifCond .ne 5, 3) := by decide +kernel
theorem dX4_takesAhead_27 : decode cX4_takesAhead 27 = .ok (.iconst 0, 1) := by decide +kernel
theorem dX4_takesAhead_28 : decode cX4_takesAhead 28 = .ok (.ireturn, 1) := by decide +kernel
theorem dX4_takesAhead_29 : decode cX4_takesAhead 29 = .ok (.aload_n 0, 1) := by decide +kernel
theorem dX4_takesAhead_30 : decode cX4_takesAhead 30 = .ok (.getfield 12, 3) := by decide +kernel
theorem dX4_takesAhead_33 : decode cX4_takesAhead 33 = .ok (.iload_n 2, 1) := by decide +kernel
theorem dX4_takesAhead_34 : decode cX4_takesAhead 34 = .ok (.invokevirtual 65, 3) := by decide +kernel
theorem dX4_takesAhead_37 : decode cX4_takesAhead 37 = .ok (.aload_n 0, 1) := by decide +kernel
theorem dX4_takesAhead_38 : decode cX4_takesAhead 38 = .ok (.iconst 4, 1) := by decide +kernel
theorem dX4_takesAhead_39 : decode cX4_takesAhead 39 = .ok (.putfield 18, 3) := by decide +kernel
theorem dX4_takesAhead_42 : decode cX4_takesAhead 42 = .ok (.iconst 1, 1) := by decide +kernel
theorem dX4_takesAhead_43 : decode cX4_takesAhead 43 = .ok (.ireturn, 1) := by decide +kernel
theorem dX5_init_0 : decode cX5_init 0 = .ok (.aload_n 0, 1) := by decide +kernel
theorem dX5_init_1 : decode cX5_init 1 = .ok (.invokespecial 3, 3) := by decide +kernel
theorem dX5_init_4 : decode cX5_init 4 = .ok (.aload_n 0, 1) := by decide +kernel
theorem dX5_init_5 : decode cX5_init 5 = .ok (.new 9, 3) := by decide +kernel
theorem dX5_init_8 : decode cX5_init 8 = .ok (.dup, 1) := by decide +kernel
theorem dX5_init_9 : decode cX5_init 9 = .ok (.invokespecial 11, 3) := by decide +kernel
theorem dX5_init_12 : decode cX5_init 12 = .ok (.putfield 12, 3) := by decide +kernel
theorem dX5_init_15 : decode cX5_init 15 = .ok (.aload_n 0, 1) := by decide +kernel
theorem dX5_init_16 : decode cX5_init 16 = .ok (.iconst 5, 1) := by decide +kernel
theorem dX5_init_17 : decode cX5_init 17 = .ok (.newarray .int, 2) := by decide +kernel
theorem dX5_init_19 : decode cX5_init 19 = .ok (.putfield 18, 3) := by decide +kernel
theorem dX5_init_22 : decode cX5_init 22 = .ok (.aload_n 0, 1) := by decide +kernel
theorem dX5_init_23 : decode cX5_init 23 = .ok (.iconst 5, 1) := by decide +kernel
theorem dX5_init_24 : decode cX5_init 24 = .ok (.newarray .int, 2) := by decide +kernel
theorem dX5_init_26 : decode cX5_init 26 = .ok (.putfield 22, 3) := by decide +kernel
theorem dX5_init_29 : decode cX5_init 29 = .ok (.aload_n 0, 1) := by decide +kernel
theorem dX5_init_30 : decode cX5_init 30 = .ok (.iconst 5, 1) := by decide +kernel
theorem dX5_init_31 : decode cX5_init 31 = .ok (.iconst 5, 1) := by decide +kernel
theorem dX5_init_32 : decode cX5_init 32 = .ok (.multianewarray 25 2, 4) := by decide +kernel
theorem dX5_init_36 : decode cX5_init 36 = .ok (.putfield 27, 3) := by decide +kernel
theorem dX5_init_39 : decode cX5_init 39 = .ok (.aload_n 0, 1) := by decide +kernel
theorem dX5_init_40 : decode cX5_init 40 = .ok (.bipush 6, 2) := by decide +kernel
theorem dX5_init_42 : decode cX5_init 42 = .ok (.newarray .int, 2) := by decide +kernel
theorem dX5_init_44 : decode cX5_init 44 = .ok (.putfield 30, 3) := by decide +kernel
theorem dX5_init_47 : decode cX5_init 47 = .ok (.aload_n 0, 1) := by decide +kernel
theorem dX5_init_48 : decode cX5_init 48 = .ok (.iconst 5, 1) := by decide +kernel
theorem dX5_init_49 : decode cX5_init 49 = .ok (.bipush 60, 2) := by decide +kernel
theorem dX5_init_51 : decode cX5_init 51 = .ok (.multianewarray 25 2, 4) := by decide +kernel
theorem dX5_init_55 : decode cX5_init 55 = .ok (.putfield 33, 3) := by decide +kernel
theorem dX5_init_58 : decode cX5_init 58 = .ok (.aload_n 0, 1) := by decide +kernel
theorem dX5_init_59 : decode cX5_init 59 = .ok (.bipush 12, 2) := by decide +kernel
theorem dX5_init_61 : decode cX5_init 61 = .ok (.bipush 12, 2) := by decide +kernel
theorem dX5_init_63 : decode cX5_init 63 = .ok (.multianewarray 25 2, 4) := by decide +kernel
theorem dX5_init_67 : decode cX5_init 67 = .ok (.putfield 36, 3) := by decide +kernel
theorem dX5_init_70 : decode cX5_init 70 = .ok (.aload_n 0, 1) := by decide +kernel
theorem dX5_init_71 : decode cX5_init 71 = .ok (.iconst 3, 1) := by decide +kernel
theorem dX5_init_72 : decode cX5_init 72 = .ok (.bipush 12, 2) := by decide +kernel
theorem dX5_init_74 : decode cX5_init 74 = .ok (.multianewarray 25 2, 4) := by decide +kernel
theorem dX5_init_78 : decode cX5_init 78 = .ok (.putfield 39, 3) := by decide +kernel
theorem dX5_init_81 : decode cX5_init 81 = .ok (.aload_n 0, 1) := by decide +kernel
theorem dX5_init_82 : decode cX5_init 82 = .ok (.iconst 0, 1) := by decide +kernel
theorem dX5_init_83 : decode cX5_init 83 = .ok (.putfield 42, 3) := by decide +kernel
theorem dX5_init_86 : decode cX5_init 86 = .ok (.aload_n 0, 1) := by decide +kernel
theorem dX5_init_87 : decode cX5_init 87 = .ok (.iconst 0, 1) := by decide +kernel
theorem dX5_init_88 : decode cX5_init 88 = .ok (.putfield 46, 3) := by decide +kernel
theorem dX5_init_91 : decode cX5_init 91 = .ok (.aload_n 0, 1) := by decide +kernel
theorem dX5_init_92 : decode cX5_init 92 = .ok (.ldc 49, 2) := by decide +kernel
theorem dX5_init_94 : decode cX5_init 94 = .ok (.putfield 50, 3) := by decide +kernel
theorem dX5_init_97 : decode cX5_init 97 = .ok (.iconst 0, 1) := by decide +kernel
theorem dX5_init_98 : decode cX5_init 98 = .ok (.istore_n 1, 1) := by decide +kernel
theorem dX5_init_99 : decode cX5_init 99 = .ok (.iload_n 1, 1) := by decide +kernel
theorem dX5_init_100 : decode cX5_init 100 = .ok (.bipush 12, 2) := by decide +kernel
theorem dX5_init_102 : decode cX5_init 102 = .ok (.if_icmp .ge 76, 3) := by decide +kernel
theorem dX5_init_105 : decode cX5_init 105 = .ok (.iconst 0, 1) := by decide +kernel
theorem dX5_init_106 : decode cX5_init 106 = .ok (.istore_n 2, 1) := by decide +kernel
theorem dX5_init_107 : decode cX5_init 107 = .ok (.iload_n 2, 1) := by decide +kernel
theorem dX5_init_108 : decode cX5_init 108 = .ok (.bipush 12, 2) := by decide +kernel
theorem dX5_init_110 : decode cX5_init 110 = .ok (.if_icmp .ge 62, 3) := by decide +kernel
theorem dX5_init_113 : decode cX5_init 113 = .ok (.aload_n 0, 1) := by decide +kernel
theorem dX5_init_114 : decode cX5_init 114 = .ok (.getfield 36, 3) := by decide +kernel
theorem dX5_init_117 : decode cX5_init 117 = .ok (.iload_n 1, 1) := by decide +kernel
theorem dX5_init_118 : decode cX5_init 118 = .ok (.aaload, 1) := by decide +kernel
theorem dX5_init_119 : decode cX5_init 119 = .ok (.iload_n 2, 1) := by decide +kernel
theorem dX5_init_120 : decode cX5_init 120 = .ok (.iload_n 1, 1) := by decide +kernel
theorem dX5_init_121 : decode cX5_init 121 = .ok (.iload_n 2, 1) := by decide +kernel
theorem dX5_init_122 : decode cX5_init 122 = .ok (.invokestatic 53, 3) := by decide +kernel
theorem dX5_init_125 : decode cX5_init 125 = .ok (.iastore, 1) := by decide +kernel
theorem dX5_init_126 : decode cX5_init 126 = .ok (.iconst 0, 1) := by decide +kernel
theorem dX5_init_127 : decode cX5_init 127 = .ok (.istore_n 3, 1) := by decide +kernel
theorem dX5_init_128 : decode cX5_init 128 = .ok (.iload_n 3, 1) := by decide +kernel
theorem dX5_init_129 : decode cX5_init 129 = .ok (.iconst 2, 1) := by decide +kernel
theorem dX5_init_130 : decode cX5_init 130 = .ok (.if_icmp .gt 36, 3) := by decide +kernel
theorem dX5_init_133 : decode cX5_init 133 = .ok (.aload_n 0, 1) := by decide +kernel
theorem dX5_init_134 : decode cX5_init 134 = .ok (.getfield 39, 3) := by decide +kernel
theorem dX5_init_137 : decode cX5_init 137 = .ok (.iload_n 3, 1) := by decide +kernel
theorem dX5_init_138 : decode cX5_init 138 = .ok (.aaload, 1) := by decide +kernel
theorem dX5_init_139 : decode cX5_init 139 = .ok (.iload_n 1, 1) := by decide +kernel
theorem dX5_init_140 : decode cX5_init 140 = .ok (.dup2, 1) := by decide +kernel
theorem dX5_init_141 : decode cX5_init 141 = .ok (.iaload, 1) := by decide +kernel
theorem dX5_init_142 : decode cX5_init 142 = .ok (.iload_n 1, 1) := by decide +kernel
theorem dX5_init_143 : decode cX5_init 143 = .ok (.iload_n 2, 1) := by decide +kernel
theorem dX5_init_144 : decode cX5_init 144 = .ok (.invokestatic 57, 3) := by decide +kernel
theorem dX5_init_147 : decode cX5_init 147 = .ok (.iload_n 3, 1) := by decide +kernel
theorem dX5_init_148 : decode cX5_init 148 = .ok (.if_icmp .gt 9, 3) := by decide +kernel
theorem dX5_init_151 : decode cX5_init 151 = .ok (.iconst 1, 1) := by decide +kernel
theorem dX5_init_152 : decode cX5_init 152 = .ok (.iload_n 2, 1) := by decide +kernel
theorem dX5_init_153 : decode cX5_init 153 = .ok (.ishl, 1) := by decide +kernel
theorem dX5_init_154 : decode cX5_init 154 = .ok (.goto 4, 3) := by decide +kernel
theorem dX5_init_157 : decode cX5_init 157 = .ok (.iconst 0, 1) := by decide +kernel
theorem dX5_init_158 : decode cX5_init 158 = .ok (.ior, 1) := by decide +kernel
theorem dX5_init_159 : decode cX5_init 159 = .ok (.iastore, 1) := by decide +kernel
theorem dX5_init_160 : decode cX5_init 160 = .ok (.iinc 3 1, 3) := by decide +kernel
theorem dX5_init_163 : decode cX5_init 163 = .ok (.goto (-35), 3) := by decide +kernel
theorem dX5_init_166 : decode cX5_init 166 = .ok (.iinc 2 1, 3) := by decide +kernel
theorem dX5_init_169 : decode cX5_init 169 = .ok (.goto (-62), 3) := by decide +kernel
theorem dX5_init_172 : decode cX5_init 172 = .ok (.iinc 1 1, 3) := by decide +kernel
theorem dX5_init_175 : decode cX5_init 175 = .ok (.goto (-76), 3) := by decide +kernel
theorem dX5_init_178 : decode cX5_init 178 = .ok (.return_, 1) := by decide +kernel
theorem dX5_seek_0 : decode cX5_seek 0 = .ok (.aload_n 0, 1) := by decide +kernel
theorem dX5_seek_1 : decode cX5_seek 1 = .ok (.getfield 12, 3) := by decide +kernel
theorem dX5_seek_4 : decode cX5_seek 4 = .ok (.invokevirtual 60, 3) := by decide +kernel
theorem dX5_seek_7 : decode cX5_seek 7 = .ok (.aload_n 0, 1) := by decide +kernel
theorem dX5_seek_8 : decode cX5_seek 8 = .ok (.iload_n 2, 1) := by decide +kernel
theorem dX5_seek_9 : decode cX5_seek 9 = .ok (.invokevirtual 63, 3) := by decide +kernel
theorem dX5_seek_12 : decode cX5_seek 12 = .ok (.aload_n 0, 1) := by decide +kernel
theorem dX5_seek_13 : decode cX5_seek 13 = .ok (.getfield 42, 3) := by decide +kernel
theorem dX5_seek_16 : decode cX5_seek 16 = .ok (.aload_n 3, 1) := by decide +kernel
theorem dX5_seek_17 : decode cX5_seek 17 = .ok (.getfield 67, 3) := by decide +kernel
theorem dX5_seek_20 : decode cX5_seek 20 = .ok (.iconst 2, 1) := by decide +kernel
theorem dX5_seek_21 : decode cX5_seek 21 = .ok (.iaload, 1) := by decide +kernel
theorem dX5_seek_22 : decode cX5_seek 22 = .ok (.if_icmp .le 6, 3) := by decide +kernel
theorem dX5_seek_25 : decode cX5_seek 25 = .ok (.bipush (-9), 2) := by decide +kernel
theorem dX5_seek_27 : decode cX5_seek 27 = .ok (.ireturn, 1) := by decide +kernel
theorem dX5_seek_28 : decode cX5_seek 28 = .ok (.aload_n 0, 1) := by decide +kernel
theorem dX5_seek_29 : decode cX5_seek 29 = .ok (.aload_n 3, 1) := by decide +kernel
theorem dX5_seek_30 : decode cX5_seek 30 = .ok (.getfield 67, 3) := by decide +kernel
theorem dX5_seek_33 : decode cX5_seek 33 = .ok (.iconst 0, 1) := by decide +kernel
theorem dX5_seek_34 : decode cX5_seek 34 = .ok (.iaload, 1) := by decide +kernel
theorem dX5_seek_35 : decode cX5_seek 35 = .ok (.putfield 46, 3) := by decide +kernel
theorem dX5_seek_38 : decode cX5_seek 38 = .ok (.aload_n 0, 1) := by decide +kernel
theorem dX5_seek_39 : decode cX5_seek 39 = .ok (.aload_n 1, 1) := by decide +kernel
theorem dX5_seek_40 : decode cX5_seek 40 = .ok (.invokevirtual 72, 3) := by decide +kernel
theorem dX5_seek_43 : decode cX5_seek 43 = .ok (.aload_n 0, 1) := by decide +kernel
theorem dX5_seek_44 : decode cX5_seek 44 = .ok (.ldc 49, 2) := by decide +kernel
theorem dX5_seek_46 : decode cX5_seek 46 = .ok (.putfield 50, 3) := by decide +kernel
theorem dX5_seek_49 : decode cX5_seek 49 = .ok (.aload_n 0, 1) := by decide +kernel
theorem dX5_seek_50 : decode cX5_seek 50 = .ok (.iconst 0, 1) := by decide +kernel
theorem dX5_seek_51 : decode cX5_seek 51 = .ok (.iconst 0, 1) := by decide +kernel
theorem dX5_seek_52 : decode cX5_seek 52 = .ok (.aload_n 3, 1) := by decide +kernel
theorem dX5_seek_53 : decode cX5_seek 53 = .ok (.getfield 67, 3) := by decide +kernel
theorem dX5_seek_56 : decode cX5_seek 56 = .ok (.iconst 1, 1) := by decide +kernel
theorem dX5_seek_57 : decode cX5_seek 57 = .ok (.iaload, 1) := by decide +kernel
theorem dX5_seek_58 : decode cX5_seek 58 = .ok (.invokevirtual 76, 3) := by decide +kernel
theorem dX5_seek_61 : decode cX5_seek 61 = .ok (.aload_n 0, 1) := by decide +kernel
theorem dX5_seek_62 : decode cX5_seek 62 = .ok (.getfield 12, 3) := by decide +kernel
theorem dX5_seek_65 : decode cX5_seek 65 = .ok (.invokevirtual 80, 3) := by decide +kernel
theorem dX5_seek_68 : decode cX5_seek 68 = .ok (.ifCond .eq 8, 3) := by decide +kernel
theorem dX5_seek_71 : decode cX5_seek 71 = .ok (.bipush (-9), 2) := by decide +kernel
theorem dX5_seek_73 : decode cX5_seek 73 = .ok (.goto 7, 3) := by decide +kernel
theorem dX5_seek_76 : decode cX5_seek 76 = .ok (.aload_n 0, 1) := by decide +kernel
theorem dX5_seek_77 : decode cX5_seek 77 = .ok (.getfield 50, 3) := by decide +kernel
theorem dX5_seek_80 : decode cX5_seek 80 = .ok (.ireturn, 1) := by decide +kernel
theorem dX5_choose_0 : decode cX5_choose 0 = .ok (.aload_n 0, 1) := by decide +kernel
theorem dX5_choose_1 : decode cX5_choose 1 = .ok (.iconst 0, 1) := by decide +kernel
theorem dX5_choose_2 : decode cX5_choose 2 = .ok (.putfield 42, 3) := by decide +kernel
theorem dX5_choose_5 : decode cX5_choose 5 = .ok (.iconst 0, 1) := by decide +kernel
theorem dX5_choose_6 : decode cX5_choose 6 = .ok (.istore_n 2, 1) := by decide +kernel
theorem dX5_choose_7 : decode cX5_choose 7 = .ok (.iload_n 2, 1) := by decide +kernel
theorem dX5_choose_8 : decode cX5_choose 8 = .ok (.bipush 10, 2) := by decide +kernel
theorem dX5_choose_10 : decode cX5_choose 10 = .ok (.if_icmp .ge 46, 3) := by decide +kernel
theorem dX5_choose_13 : decode cX5_choose 13 = .ok (.aload_n 0, 1) := by decide +kernel
theorem dX5_choose_14 : decode cX5_choose 14 = .ok (.getfield 42, 3) := by decide +kernel
theorem dX5_choose_17 : decode cX5_choose 17 = .ok (.iconst 5, 1) := by decide +kernel
theorem dX5_choose_18 : decode cX5_choose 18 = .ok (.if_icmp .ge 38, 3) := by decide +kernel
theorem dX5_choose_21 : decode cX5_choose 21 = .ok (.iload_n 1, 1) := by decide +kernel
theorem dX5_choose_22 : decode cX5_choose 22 = .ok (.iload_n 2, 1) := by decide +kernel
theorem dX5_choose_23 : decode cX5_choose 23 = .ok (.ishr, 1) := by decide +kernel
theorem dX5_choose_24 : decode cX5_choose 24 = .ok (.iconst 1, 1) := by decide +kernel
theorem dX5_choose_25 : decode cX5_choose 25 = .ok (.iand, 1) := by decide +kernel
theorem dX5_choose_26 : decode cX5_choose 26 = .ok (.iconst 1, 1) := by decide +kernel
theorem dX5_choose_27 : decode cX5_choose 27 = .ok (.if_icmp .ne 23, 3) := by decide +kernel
theorem dX5_choose_30 : decode cX5_choose 30 = .ok (.aload_n 0, 1) := by decide +kernel
theorem dX5_choose_31 : decode cX5_choose 31 = .ok (.getfield 18, 3) := by decide +kernel
theorem dX5_choose_34 : decode cX5_choose 34 = .ok (.aload_n 0, 1) := by decide +kernel
theorem dX5_choose_35 : decode cX5_choose 35 = .ok (.getfield 42, 3) := by decide +kernel
theorem dX5_choose_38 : decode cX5_choose 38 = .ok (.iload_n 2, 1) := by decide +kernel
theorem dX5_choose_39 : decode cX5_choose 39 = .ok (.iastore, 1) := by decide +kernel
theorem dX5_choose_40 : decode cX5_choose 40 = .ok (.aload_n 0, 1) := by decide +kernel
theorem dX5_choose_41 : decode cX5_choose 41 = .ok (.dup, 1) := by decide +kernel
theorem dX5_choose_42 : decode cX5_choose 42 = .ok (.getfield 42, 3) := by decide +kernel
theorem dX5_choose_45 : decode cX5_choose 45 = .ok (.iconst 1, 1) := by decide +kernel
theorem dX5_choose_46 : decode cX5_choose 46 = .ok (.iadd, 1) := by decide +kernel
theorem dX5_choose_47 : decode cX5_choose 47 = .ok (.putfield 42, 3) := by decide +kernel
theorem dX5_choose_50 : decode cX5_choose 50 = .ok (.iinc 2 1, 3) := by decide +kernel
theorem dX5_choose_53 : decode cX5_choose 53 = .ok (.goto (-46), 3) := by decide +kernel
theorem dX5_choose_56 : decode cX5_choose 56 = .ok (.return_, 1) := by decide +kernel
theorem dX5_weighPairs_0 : decode cX5_weighPairs 0 = .ok (.aload_n 0, 1) := by decide +kernel
theorem dX5_weighPairs_1 : decode cX5_weighPairs 1 = .ok (.getfield 30, 3) := by decide +kernel
theorem dX5_weighPairs_4 : decode cX5_weighPairs 4 = .ok (.aload_n 0, 1) := by decide +kernel
theorem dX5_weighPairs_5 : decode cX5_weighPairs 5 = .ok (.getfield 42, 3) := by decide +kernel
theorem dX5_weighPairs_8 : decode cX5_weighPairs 8 = .ok (.iconst 0, 1) := by decide +kernel
theorem dX5_weighPairs_9 : decode cX5_weighPairs 9 = .ok (.iastore, 1) := by decide +kernel
theorem dX5_weighPairs_10 : decode cX5_weighPairs 10 = .ok (.aload_n 0, 1) := by decide +kernel
theorem dX5_weighPairs_11 : decode cX5_weighPairs 11 = .ok (.getfield 42, 3) := by decide +kernel
theorem dX5_weighPairs_14 : decode cX5_weighPairs 14 = .ok (.iconst 1, 1) := by decide +kernel
theorem dX5_weighPairs_15 : decode cX5_weighPairs 15 = .ok (.isub, 1) := by decide +kernel
theorem dX5_weighPairs_16 : decode cX5_weighPairs 16 = .ok (.istore_n 2, 1) := by decide +kernel
theorem dX5_weighPairs_17 : decode cX5_weighPairs 17 = .ok (.iload_n 2, 1) := by decide +kernel
theorem dX5_weighPairs_18 : decode cX5_weighPairs 18 = .ok (.ifCond .lt 92, 3) := by decide +kernel
theorem dX5_weighPairs_21 : decode cX5_weighPairs 21 = .ok (.iconst 0, 1) := by decide +kernel
theorem dX5_weighPairs_22 : decode cX5_weighPairs 22 = .ok (.istore_n 3, 1) := by decide +kernel
theorem dX5_weighPairs_23 : decode cX5_weighPairs 23 = .ok (.iload_n 2, 1) := by decide +kernel
theorem dX5_weighPairs_24 : decode cX5_weighPairs 24 = .ok (.iconst 1, 1) := by decide +kernel
theorem dX5_weighPairs_25 : decode cX5_weighPairs 25 = .ok (.iadd, 1) := by decide +kernel
theorem dX5_weighPairs_26 : decode cX5_weighPairs 26 = .ok (.istore 4, 2) := by decide +kernel
theorem dX5_weighPairs_28 : decode cX5_weighPairs 28 = .ok (.iload 4, 2) := by decide +kernel
theorem dX5_weighPairs_30 : decode cX5_weighPairs 30 = .ok (.aload_n 0, 1) := by decide +kernel
theorem dX5_weighPairs_31 : decode cX5_weighPairs 31 = .ok (.getfield 42, 3) := by decide +kernel
theorem dX5_weighPairs_34 : decode cX5_weighPairs 34 = .ok (.if_icmp .ge 47, 3) := by decide +kernel
theorem dX5_weighPairs_37 : decode cX5_weighPairs 37 = .ok (.aload_n 0, 1) := by decide +kernel
theorem dX5_weighPairs_38 : decode cX5_weighPairs 38 = .ok (.getfield 27, 3) := by decide +kernel
theorem dX5_weighPairs_41 : decode cX5_weighPairs 41 = .ok (.iload_n 2, 1) := by decide +kernel
theorem dX5_weighPairs_42 : decode cX5_weighPairs 42 = .ok (.aaload, 1) := by decide +kernel
theorem dX5_weighPairs_43 : decode cX5_weighPairs 43 = .ok (.iload 4, 2) := by decide +kernel
theorem dX5_weighPairs_45 : decode cX5_weighPairs 45 = .ok (.aload_n 1, 1) := by decide +kernel
theorem dX5_weighPairs_46 : decode cX5_weighPairs 46 = .ok (.aload_n 0, 1) := by decide +kernel
theorem dX5_weighPairs_47 : decode cX5_weighPairs 47 = .ok (.getfield 18, 3) := by decide +kernel
theorem dX5_weighPairs_50 : decode cX5_weighPairs 50 = .ok (.iload_n 2, 1) := by decide +kernel
theorem dX5_weighPairs_51 : decode cX5_weighPairs 51 = .ok (.iaload, 1) := by decide +kernel
theorem dX5_weighPairs_52 : decode cX5_weighPairs 52 = .ok (.aload_n 0, 1) := by decide +kernel
theorem dX5_weighPairs_53 : decode cX5_weighPairs 53 = .ok (.getfield 18, 3) := by decide +kernel
theorem dX5_weighPairs_56 : decode cX5_weighPairs 56 = .ok (.iload 4, 2) := by decide +kernel
theorem dX5_weighPairs_58 : decode cX5_weighPairs 58 = .ok (.iaload, 1) := by decide +kernel
theorem dX5_weighPairs_59 : decode cX5_weighPairs 59 = .ok (.invokevirtual 84, 3) := by decide +kernel
theorem dX5_weighPairs_62 : decode cX5_weighPairs 62 = .ok (.iastore, 1) := by decide +kernel
theorem dX5_weighPairs_63 : decode cX5_weighPairs 63 = .ok (.iload_n 3, 1) := by decide +kernel
theorem dX5_weighPairs_64 : decode cX5_weighPairs 64 = .ok (.aload_n 0, 1) := by decide +kernel
theorem dX5_weighPairs_65 : decode cX5_weighPairs 65 = .ok (.getfield 27, 3) := by decide +kernel
theorem dX5_weighPairs_68 : decode cX5_weighPairs 68 = .ok (.iload_n 2, 1) := by decide +kernel
theorem dX5_weighPairs_69 : decode cX5_weighPairs 69 = .ok (.aaload, 1) := by decide +kernel
theorem dX5_weighPairs_70 : decode cX5_weighPairs 70 = .ok (.iload 4, 2) := by decide +kernel
theorem dX5_weighPairs_72 : decode cX5_weighPairs 72 = .ok (.iaload, 1) := by decide +kernel
theorem dX5_weighPairs_73 : decode cX5_weighPairs 73 = .ok (.iadd, 1) := by decide +kernel
theorem dX5_weighPairs_74 : decode cX5_weighPairs 74 = .ok (.istore_n 3, 1) := by decide +kernel
theorem dX5_weighPairs_75 : decode cX5_weighPairs 75 = .ok (.iinc 4 1, 3) := by decide +kernel
theorem dX5_weighPairs_78 : decode cX5_weighPairs 78 = .ok (.goto (-50), 3) := by decide +kernel
theorem dX5_weighPairs_81 : decode cX5_weighPairs 81 = .ok (.aload_n 0, 1) := by decide +kernel
theorem dX5_weighPairs_82 : decode cX5_weighPairs 82 = .ok (.getfield 30, 3) := by decide +kernel
theorem dX5_weighPairs_85 : decode cX5_weighPairs 85 = .ok (.iload_n 2, 1) := by decide +kernel
theorem dX5_weighPairs_86 : decode cX5_weighPairs 86 = .ok (.aload_n 0, 1) := by decide +kernel
theorem dX5_weighPairs_87 : decode cX5_weighPairs 87 = .ok (.getfield 30, 3) := by decide +kernel
theorem dX5_weighPairs_90 : decode cX5_weighPairs 90 = .ok (.iload_n 2, 1) := by decide +kernel
theorem dX5_weighPairs_91 : decode cX5_weighPairs 91 = .ok (.iconst 1, 1) := by decide +kernel
theorem dX5_weighPairs_92 : decode cX5_weighPairs 92 = .ok (.iadd, 1) := by decide +kernel
theorem dX5_weighPairs_93 : decode cX5_weighPairs 93 = .ok (.iaload, 1) := by decide +kernel
theorem dX5_weighPairs_94 : decode cX5_weighPairs 94 = .ok (.iload_n 3, 1) := by decide +kernel
theorem dX5_weighPairs_95 : decode cX5_weighPairs 95 = .ok (.aload_n 0, 1) := by decide +kernel
