theorem dX8_text_189 : decode cX8_text 189 = .ok (.aload_n 0, 1) := by decide +kernel
theorem dX8_text_190 : decode cX8_text 190 = .ok (.getfield 37, 3) := by decide +kernel
theorem dX8_text_193 : decode cX8_text 193 = .ok (.iload 7, 2) := by decide +kernel
theorem dX8_text_195 : decode cX8_text 195 = .ok (.iconst 0, 1) := by decide +kernel
theorem dX8_text_196 : decode cX8_text 196 = .ok (.bastore, 1) := by decide +kernel
theorem dX8_text_197 : decode cX8_text 197 = .ok (.aload_n 0, 1) := by decide +kernel
theorem dX8_text_198 : decode cX8_text 198 = .ok (.getfield 41, 3) := by decide +kernel
theorem dX8_text_201 : decode cX8_text 201 = .ok (.iload 7, 2) := by decide +kernel
theorem dX8_text_203 : decode cX8_text 203 = .ok (.iconst 0, 1) := by decide +kernel
theorem dX8_text_204 : decode cX8_text 204 = .ok (.bastore, 1) := by decide +kernel
theorem dX8_text_205 : decode cX8_text 205 = .ok (.aload_n 0, 1) := by decide +kernel
theorem dX8_text_206 : decode cX8_text 206 = .ok (.getfield 68, 3) := by decide +kernel
theorem dX8_text_209 : decode cX8_text 209 = .ok (.iload 7, 2) := by decide +kernel
theorem dX8_text_211 : decode cX8_text 211 = .ok (.bipush (-9), 2) := by decide +kernel
theorem dX8_text_213 : decode cX8_text 213 = .ok (.iastore, 1) := by decide +kernel
theorem dX8_text_214 : decode cX8_text 214 = .ok (.iinc 7 1, 3) := by decide +kernel
theorem dX8_text_217 : decode cX8_text 217 = .ok (.goto (-34), 3) := by decide +kernel
theorem dX8_text_220 : decode cX8_text 220 = .ok (.aload_n 0, 1) := by decide +kernel
theorem dX8_text_221 : decode cX8_text 221 = .ok (.aload_n 0, 1) := by decide +kernel
theorem dX8_text_222 : decode cX8_text 222 = .ok (.getfield 143, 3) := by decide +kernel
theorem dX8_text_225 : decode cX8_text 225 = .ok (.invokevirtual 132, 3) := by decide +kernel
theorem dX8_text_228 : decode cX8_text 228 = .ok (.ireturn, 1) := by decide +kernel
theorem dX8_part_0 : decode cX8_part 0 = .ok (.aload_n 0, 1) := by decide +kernel
theorem dX8_part_1 : decode cX8_part 1 = .ok (.iload_n 1, 1) := by decide +kernel
theorem dX8_part_2 : decode cX8_part 2 = .ok (.invokevirtual 165, 3) := by decide +kernel
theorem dX8_part_5 : decode cX8_part 5 = .ok (.ifCond .eq 5, 3) := by decide +kernel
theorem dX8_part_8 : decode cX8_part 8 = .ok (.iconst (-1), 1) := by decide +kernel
theorem dX8_part_9 : decode cX8_part 9 = .ok (.ireturn, 1) := by decide +kernel
theorem dX8_part_10 : decode cX8_part 10 = .ok (.iload_n 2, 1) := by decide +kernel
theorem dX8_part_11 : decode cX8_part 11 = .ok (.ifCond .ne 12, 3) := by decide +kernel
theorem dX8_part_14 : decode cX8_part 14 = .ok (.aload_n 0, 1) := by decide +kernel
theorem dX8_part_15 : decode cX8_part 15 = .ok (.getfield 7, 3) := by decide +kernel
theorem dX8_part_18 : decode cX8_part 18 = .ok (.iload_n 1, 1) := by decide +kernel
theorem dX8_part_19 : decode cX8_part 19 = .ok (.iaload, 1) := by decide +kernel
theorem dX8_part_20 : decode cX8_part 20 = .ok (.goto 19, 3) := by decide +kernel
theorem dX8_part_23 : decode cX8_part 23 = .ok (.iload_n 2, 1) := by decide +kernel
theorem dX8_part_24 : decode cX8_part 24 = .ok (.iconst 1, 1) := by decide +kernel
theorem dX8_part_25 : decode cX8_part 25 = .ok (.if_icmp .ne 12, 3) := by decide +kernel
theorem dX8_part_28 : decode cX8_part 28 = .ok (.aload_n 0, 1) := by decide +kernel
theorem dX8_part_29 : decode cX8_part 29 = .ok (.getfield 13, 3) := by decide +kernel
theorem dX8_part_32 : decode cX8_part 32 = .ok (.iload_n 1, 1) := by decide +kernel
theorem dX8_part_33 : decode cX8_part 33 = .ok (.iaload, 1) := by decide +kernel
theorem dX8_part_34 : decode cX8_part 34 = .ok (.goto 5, 3) := by decide +kernel
theorem dX8_part_37 : decode cX8_part 37 = .ok (.bipush (-2), 2) := by decide +kernel
theorem dX8_part_39 : decode cX8_part 39 = .ok (.ireturn, 1) := by decide +kernel
theorem dX8_wish_0 : decode cX8_wish 0 = .ok (.aload_n 0, 1) := by decide +kernel
theorem dX8_wish_1 : decode cX8_wish 1 = .ok (.iload_n 1, 1) := by decide +kernel
theorem dX8_wish_2 : decode cX8_wish 2 = .ok (.invokevirtual 165, 3) := by decide +kernel
theorem dX8_wish_5 : decode cX8_wish 5 = .ok (.ifCond .eq 5, 3) := by decide +kernel
theorem dX8_wish_8 : decode cX8_wish 8 = .ok (.iconst (-1), 1) := by decide +kernel
theorem dX8_wish_9 : decode cX8_wish 9 = .ok (.ireturn, 1) := by decide +kernel
theorem dX8_wish_10 : decode cX8_wish 10 = .ok (.iload_n 2, 1) := by decide +kernel
theorem dX8_wish_11 : decode cX8_wish 11 = .ok (.i2l, 1) := by decide +kernel
theorem dX8_wish_12 : decode cX8_wish 12 = .ok (.lconst 0, 1) := by decide +kernel
theorem dX8_wish_13 : decode cX8_wish 13 = .ok (.ldc2_w 168, 3) := by decide +kernel
theorem dX8_wish_16 : decode cX8_wish 16 = .ok (.invokestatic 128, 3) := by decide +kernel
theorem dX8_wish_19 : decode cX8_wish 19 = .ok (.ifCond .ne 6, 3) := by decide +kernel
theorem dX8_wish_22 : decode cX8_wish 22 = .ok (.bipush (-2), 2) := by decide +kernel
theorem dX8_wish_24 : decode cX8_wish 24 = .ok (.ireturn, 1) := by decide +kernel
theorem dX8_wish_25 : decode cX8_wish 25 = .ok (.aload_n 0, 1) := by decide +kernel
theorem dX8_wish_26 : decode cX8_wish 26 = .ok (.getfield 13, 3) := by decide +kernel
theorem dX8_wish_29 : decode cX8_wish 29 = .ok (.iload_n 1, 1) := by decide +kernel
theorem dX8_wish_30 : decode cX8_wish 30 = .ok (.iaload, 1) := by decide +kernel
theorem dX8_wish_31 : decode cX8_wish 31 = .ok (.istore_n 3, 1) := by decide +kernel
theorem dX8_wish_32 : decode cX8_wish 32 = .ok (.aload_n 0, 1) := by decide +kernel
theorem dX8_wish_33 : decode cX8_wish 33 = .ok (.getfield 13, 3) := by decide +kernel
theorem dX8_wish_36 : decode cX8_wish 36 = .ok (.iload_n 1, 1) := by decide +kernel
theorem dX8_wish_37 : decode cX8_wish 37 = .ok (.iload_n 2, 1) := by decide +kernel
theorem dX8_wish_38 : decode cX8_wish 38 = .ok (.iastore, 1) := by decide +kernel
theorem dX8_wish_39 : decode cX8_wish 39 = .ok (.iload_n 3, 1) := by decide +kernel
theorem dX8_wish_40 : decode cX8_wish 40 = .ok (.ireturn, 1) := by decide +kernel
theorem dX8_follows_0 : decode cX8_follows 0 = .ok (.aload_n 0, 1) := by decide +kernel
theorem dX8_follows_1 : decode cX8_follows 1 = .ok (.iload_n 1, 1) := by decide +kernel
theorem dX8_follows_2 : decode cX8_follows 2 = .ok (.invokevirtual 165, 3) := by decide +kernel
theorem dX8_follows_5 : decode cX8_follows 5 = .ok (.ifCond .ne 11, 3) := by decide +kernel
theorem dX8_follows_8 : decode cX8_follows 8 = .ok (.aload_n 0, 1) := by decide +kernel
theorem dX8_follows_9 : decode cX8_follows 9 = .ok (.iload_n 2, 1) := by decide +kernel
theorem dX8_follows_10 : decode cX8_follows 10 = .ok (.invokevirtual 165, 3) := by decide +kernel
theorem dX8_follows_13 : decode cX8_follows 13 = .ok (.ifCond .eq 5, 3) := by decide +kernel
theorem dX8_follows_16 : decode cX8_follows 16 = .ok (.iconst (-1), 1) := by decide +kernel
theorem dX8_follows_17 : decode cX8_follows 17 = .ok (.ireturn, 1) := by decide +kernel
theorem dX8_follows_18 : decode cX8_follows 18 = .ok (.iload_n 1, 1) := by decide +kernel
theorem dX8_follows_19 : decode cX8_follows 19 = .ok (.iload_n 2, 1) := by decide +kernel
theorem dX8_follows_20 : decode cX8_follows 20 = .ok (.if_icmp .ne 8, 3) := by decide +kernel
theorem dX8_follows_23 : decode cX8_follows 23 = .ok (.bipush (-2), 2) := by decide +kernel
theorem dX8_follows_25 : decode cX8_follows 25 = .ok (.goto 14, 3) := by decide +kernel
theorem dX8_follows_28 : decode cX8_follows 28 = .ok (.aload_n 0, 1) := by decide +kernel
theorem dX8_follows_29 : decode cX8_follows 29 = .ok (.getfield 16, 3) := by decide +kernel
theorem dX8_follows_32 : decode cX8_follows 32 = .ok (.bipush 10, 2) := by decide +kernel
theorem dX8_follows_34 : decode cX8_follows 34 = .ok (.iload_n 1, 1) := by decide +kernel
theorem dX8_follows_35 : decode cX8_follows 35 = .ok (.imul, 1) := by decide +kernel
theorem dX8_follows_36 : decode cX8_follows 36 = .ok (.iload_n 2, 1) := by decide +kernel
theorem dX8_follows_37 : decode cX8_follows 37 = .ok (.iadd, 1) := by decide +kernel
theorem dX8_follows_38 : decode cX8_follows 38 = .ok (.iaload, 1) := by decide +kernel
theorem dX8_follows_39 : decode cX8_follows 39 = .ok (.ireturn, 1) := by decide +kernel
theorem dX8_follow_0 : decode cX8_follow 0 = .ok (.aload_n 0, 1) := by decide +kernel
theorem dX8_follow_1 : decode cX8_follow 1 = .ok (.iload_n 1, 1) := by decide +kernel
theorem dX8_follow_2 : decode cX8_follow 2 = .ok (.invokevirtual 165, 3) := by decide +kernel
theorem dX8_follow_5 : decode cX8_follow 5 = .ok (.ifCond .ne 11, 3) := by decide +kernel
theorem dX8_follow_8 : decode cX8_follow 8 = .ok (.aload_n 0, 1) := by decide +kernel
theorem dX8_follow_9 : decode cX8_follow 9 = .ok (.iload_n 2, 1) := by decide +kernel
theorem dX8_follow_10 : decode cX8_follow 10 = .ok (.invokevirtual 165, 3) := by decide +kernel
theorem dX8_follow_13 : decode cX8_follow 13 = .ok (.ifCond .eq 5, 3) := by decide +kernel
theorem dX8_follow_16 : decode cX8_follow 16 = .ok (.iconst (-1), 1) := by decide +kernel
theorem dX8_follow_17 : decode cX8_follow 17 = .ok (.ireturn, 1) := by decide +kernel
theorem dX8_follow_18 : decode cX8_follow 18 = .ok (.iload_n 3, 1) := by decide +kernel
theorem dX8_follow_19 : decode cX8_follow 19 = .ok (.i2l, 1) := by decide +kernel
theorem dX8_follow_20 : decode cX8_follow 20 = .ok (.lconst 0, 1) := by decide +kernel
theorem dX8_follow_21 : decode cX8_follow 21 = .ok (.ldc2_w 170, 3) := by decide +kernel
theorem dX8_follow_24 : decode cX8_follow 24 = .ok (.invokestatic 128, 3) := by decide +kernel
theorem dX8_follow_27 : decode cX8_follow 27 = .ok (.ifCond .eq 8, 3) := by decide +kernel
theorem dX8_follow_30 : decode cX8_follow 30 = .ok (.iload_n 1, 1) := by decide +kernel
theorem dX8_follow_31 : decode cX8_follow 31 = .ok (.iload_n 2, 1) := by decide +kernel
theorem dX8_follow_32 : decode cX8_follow 32 = .ok (.if_icmp .ne 6, 3) := by decide +kernel
theorem dX8_follow_35 : decode cX8_follow 35 = .ok (.bipush (-2), 2) := by decide +kernel
theorem dX8_follow_37 : decode cX8_follow 37 = .ok (.ireturn, 1) := by decide +kernel
theorem dX8_follow_38 : decode cX8_follow 38 = .ok (.aload_n 0, 1) := by decide +kernel
theorem dX8_follow_39 : decode cX8_follow 39 = .ok (.getfield 16, 3) := by decide +kernel
theorem dX8_follow_42 : decode cX8_follow 42 = .ok (.bipush 10, 2) := by decide +kernel
theorem dX8_follow_44 : decode cX8_follow 44 = .ok (.iload_n 1, 1) := by decide +kernel
theorem dX8_follow_45 : decode cX8_follow 45 = .ok (.imul, 1) := by decide +kernel
theorem dX8_follow_46 : decode cX8_follow 46 = .ok (.iload_n 2, 1) := by decide +kernel
theorem dX8_follow_47 : decode cX8_follow 47 = .ok (.iadd, 1) := by decide +kernel
theorem dX8_follow_48 : decode cX8_follow 48 = .ok (.iaload, 1) := by decide +kernel
theorem dX8_follow_49 : decode cX8_follow 49 = .ok (.istore 4, 2) := by decide +kernel
theorem dX8_follow_51 : decode cX8_follow 51 = .ok (.aload_n 0, 1) := by decide +kernel
theorem dX8_follow_52 : decode cX8_follow 52 = .ok (.getfield 16, 3) := by decide +kernel
theorem dX8_follow_55 : decode cX8_follow 55 = .ok (.bipush 10, 2) := by decide +kernel
theorem dX8_follow_57 : decode cX8_follow 57 = .ok (.iload_n 1, 1) := by decide +kernel
theorem dX8_follow_58 : decode cX8_follow 58 = .ok (.imul, 1) := by decide +kernel
theorem dX8_follow_59 : decode cX8_follow 59 = .ok (.iload_n 2, 1) := by decide +kernel
theorem dX8_follow_60 : decode cX8_follow 60 = .ok (.iadd, 1) := by decide +kernel
theorem dX8_follow_61 : decode cX8_follow 61 = .ok (.iload_n 3, 1) := by decide +kernel
theorem dX8_follow_62 : decode cX8_follow 62 = .ok (.iastore, 1) := by decide +kernel
theorem dX8_follow_63 : decode cX8_follow 63 = .ok (.iload 4, 2) := by decide +kernel
theorem dX8_follow_65 : decode cX8_follow 65 = .ok (.ireturn, 1) := by decide +kernel
theorem dX8_noPerson_0 : decode cX8_noPerson 0 = .ok (.iload_n 1, 1) := by decide +kernel
theorem dX8_noPerson_1 : decode cX8_noPerson 1 = .ok (.i2l, 1) := by decide +kernel
theorem dX8_noPerson_2 : decode cX8_noPerson 2 = .ok (.lconst 0, 1) := by decide +kernel
theorem dX8_noPerson_3 : decode cX8_noPerson 3 = .ok (.aload_n 0, 1) := by decide +kernel
theorem dX8_noPerson_4 : decode cX8_noPerson 4 = .ok (.getfield 172, 3) := by decide +kernel
theorem dX8_noPerson_7 : decode cX8_noPerson 7 = .ok (.i2l, 1) := by decide +kernel
theorem dX8_noPerson_8 : decode cX8_noPerson 8 = .ok (.lconst 1, 1) := by decide +kernel
theorem dX8_noPerson_9 : decode cX8_noPerson 9 = .ok (.lsub, 1) := by decide +kernel
theorem dX8_noPerson_10 : decode cX8_noPerson 10 = .ok (.invokestatic 128, 3) := by decide +kernel
theorem dX8_noPerson_13 : decode cX8_noPerson 13 = .ok (.ifCond .ne 7, 3) := by decide +kernel
theorem dX8_noPerson_16 : decode cX8_noPerson 16 = .ok (.iconst 1, 1) := by decide +kernel
theorem dX8_noPerson_17 : decode cX8_noPerson 17 = .ok (.goto 4, 3) := by decide +kernel
theorem dX8_noPerson_20 : decode cX8_noPerson 20 = .ok (.iconst 0, 1) := by decide +kernel
theorem dX8_noPerson_21 : decode cX8_noPerson 21 = .ok (.ireturn, 1) := by decide +kernel
theorem dX8_person_0 : decode cX8_person 0 = .ok (.aload_n 0, 1) := by decide +kernel
theorem dX8_person_1 : decode cX8_person 1 = .ok (.getfield 172, 3) := by decide +kernel
theorem dX8_person_4 : decode cX8_person 4 = .ok (.iconst 4, 1) := by decide +kernel
theorem dX8_person_5 : decode cX8_person 5 = .ok (.if_icmp .ne 6, 3) := by decide +kernel
theorem dX8_person_8 : decode cX8_person 8 = .ok (.bipush (-4), 2) := by decide +kernel
theorem dX8_person_10 : decode cX8_person 10 = .ok (.ireturn, 1) := by decide +kernel
theorem dX8_person_11 : decode cX8_person 11 = .ok (.aload_n 0, 1) := by decide +kernel
theorem dX8_person_12 : decode cX8_person 12 = .ok (.dup, 1) := by decide +kernel
theorem dX8_person_13 : decode cX8_person 13 = .ok (.getfield 172, 3) := by decide +kernel
theorem dX8_person_16 : decode cX8_person 16 = .ok (.iconst 1, 1) := by decide +kernel
theorem dX8_person_17 : decode cX8_person 17 = .ok (.iadd, 1) := by decide +kernel
theorem dX8_person_18 : decode cX8_person 18 = .ok (.putfield 172, 3) := by decide +kernel
theorem dX8_person_21 : decode cX8_person 21 = .ok (.aload_n 0, 1) := by decide +kernel
theorem dX8_person_22 : decode cX8_person 22 = .ok (.getfield 172, 3) := by decide +kernel
theorem dX8_person_25 : decode cX8_person 25 = .ok (.iconst 1, 1) := by decide +kernel
theorem dX8_person_26 : decode cX8_person 26 = .ok (.isub, 1) := by decide +kernel
theorem dX8_person_27 : decode cX8_person 27 = .ok (.ireturn, 1) := by decide +kernel
theorem dX8_can_0 : decode cX8_can 0 = .ok (.aload_n 0, 1) := by decide +kernel
theorem dX8_can_1 : decode cX8_can 1 = .ok (.iload_n 1, 1) := by decide +kernel
theorem dX8_can_2 : decode cX8_can 2 = .ok (.invokevirtual 175, 3) := by decide +kernel
theorem dX8_can_5 : decode cX8_can 5 = .ok (.ifCond .eq 5, 3) := by decide +kernel
theorem dX8_can_8 : decode cX8_can 8 = .ok (.iconst (-1), 1) := by decide +kernel
theorem dX8_can_9 : decode cX8_can 9 = .ok (.ireturn, 1) := by decide +kernel
theorem dX8_can_10 : decode cX8_can 10 = .ok (.iload_n 2, 1) := by decide +kernel
theorem dX8_can_11 : decode cX8_can 11 = .ok (.i2l, 1) := by decide +kernel
theorem dX8_can_12 : decode cX8_can 12 = .ok (.lconst 0, 1) := by decide +kernel
theorem dX8_can_13 : decode cX8_can 13 = .ok (.ldc2_w 126, 3) := by decide +kernel
theorem dX8_can_16 : decode cX8_can 16 = .ok (.invokestatic 128, 3) := by decide +kernel
theorem dX8_can_19 : decode cX8_can 19 = .ok (.ifCond .eq 45, 3) := by decide +kernel
theorem dX8_can_22 : decode cX8_can 22 = .ok (.iload_n 3, 1) := by decide +kernel
theorem dX8_can_23 : decode cX8_can 23 = .ok (.i2l, 1) := by decide +kernel
theorem dX8_can_24 : decode cX8_can 24 = .ok (.iload_n 2, 1) := by decide +kernel
theorem dX8_can_25 : decode cX8_can 25 = .ok (.iconst 2, 1) := by decide +kernel
theorem dX8_can_26 : decode cX8_can 26 = .ok (.if_icmp .ne 7, 3) := by decide +kernel
theorem dX8_can_29 : decode cX8_can 29 = .ok (.lconst 1, 1) := by decide +kernel
theorem dX8_can_30 : decode cX8_can 30 = .ok (.goto 4, 3) := by decide +kernel
theorem dX8_can_33 : decode cX8_can 33 = .ok (.lconst 0, 1) := by decide +kernel
theorem dX8_can_34 : decode cX8_can 34 = .ok (.iload_n 2, 1) := by decide +kernel
theorem dX8_can_35 : decode cX8_can 35 = .ok (.ifCond .ne 9, 3) := by decide +kernel
theorem dX8_can_38 : decode cX8_can 38 = .ok (.ldc2_w 126, 3) := by decide +kernel
theorem dX8_can_41 : decode cX8_can 41 = .ok (.goto 17, 3) := by decide +kernel
theorem dX8_can_44 : decode cX8_can 44 = .ok (.iload_n 2, 1) := by decide +kernel
theorem dX8_can_45 : decode cX8_can 45 = .ok (.iconst 1, 1) := by decide +kernel
theorem dX8_can_46 : decode cX8_can 46 = .ok (.if_icmp .ne 9, 3) := by decide +kernel
theorem dX8_can_49 : decode cX8_can 49 = .ok (.ldc2_w 178, 3) := by decide +kernel
theorem dX8_can_52 : decode cX8_can 52 = .ok (.goto 6, 3) := by decide +kernel
theorem dX8_can_55 : decode cX8_can 55 = .ok (.ldc2_w 180, 3) := by decide +kernel
theorem dX8_can_58 : decode cX8_can 58 = .ok (.invokestatic 128, 3) := by decide +kernel
theorem dX8_can_61 : decode cX8_can 61 = .ok (.ifCond .ne 6, 3) := by decide +kernel
theorem dX8_can_64 : decode cX8_can 64 = .ok (.bipush (-2), 2) := by decide +kernel
theorem dX8_can_66 : decode cX8_can 66 = .ok (.ireturn, 1) := by decide +kernel
theorem dX8_can_67 : decode cX8_can 67 = .ok (.iload_n 2, 1) := by decide +kernel
theorem dX8_can_68 : decode cX8_can 68 = .ok (.ifCond .ne 12, 3) := by decide +kernel
theorem dX8_can_71 : decode cX8_can 71 = .ok (.aload_n 0, 1) := by decide +kernel
theorem dX8_can_72 : decode cX8_can 72 = .ok (.getfield 28, 3) := by decide +kernel
theorem dX8_can_75 : decode cX8_can 75 = .ok (.iload_n 1, 1) := by decide +kernel
theorem dX8_can_76 : decode cX8_can 76 = .ok (.iaload, 1) := by decide +kernel
theorem dX8_can_77 : decode cX8_can 77 = .ok (.goto 23, 3) := by decide +kernel
theorem dX8_can_80 : decode cX8_can 80 = .ok (.iload_n 2, 1) := by decide +kernel
theorem dX8_can_81 : decode cX8_can 81 = .ok (.iconst 1, 1) := by decide +kernel
theorem dX8_can_82 : decode cX8_can 82 = .ok (.if_icmp .ne 12, 3) := by decide +kernel
theorem dX8_can_85 : decode cX8_can 85 = .ok (.aload_n 0, 1) := by decide +kernel
theorem dX8_can_86 : decode cX8_can 86 = .ok (.getfield 31, 3) := by decide +kernel
theorem dX8_can_89 : decode cX8_can 89 = .ok (.iload_n 1, 1) := by decide +kernel
theorem dX8_can_90 : decode cX8_can 90 = .ok (.iaload, 1) := by decide +kernel
theorem dX8_can_91 : decode cX8_can 91 = .ok (.goto 9, 3) := by decide +kernel
theorem dX8_can_94 : decode cX8_can 94 = .ok (.aload_n 0, 1) := by decide +kernel
theorem dX8_can_95 : decode cX8_can 95 = .ok (.getfield 34, 3) := by decide +kernel
theorem dX8_can_98 : decode cX8_can 98 = .ok (.iload_n 1, 1) := by decide +kernel
theorem dX8_can_99 : decode cX8_can 99 = .ok (.iaload, 1) := by decide +kernel
theorem dX8_can_100 : decode cX8_can 100 = .ok (.istore 4, 2) := by decide +kernel
theorem dX8_can_102 : decode cX8_can 102 = .ok (.iload_n 2, 1) := by decide +kernel
theorem dX8_can_103 : decode cX8_can 103 = .ok (.ifCond .ne 13, 3) := by decide +kernel
theorem dX8_can_106 : decode cX8_can 106 = .ok (.aload_n 0, 1) := by decide +kernel
theorem dX8_can_107 : decode cX8_can 107 = .ok (.getfield 28, 3) := by decide +kernel
theorem dX8_can_110 : decode cX8_can 110 = .ok (.iload_n 1, 1) := by decide +kernel
theorem dX8_can_111 : decode cX8_can 111 = .ok (.iload_n 3, 1) := by decide +kernel
theorem dX8_can_112 : decode cX8_can 112 = .ok (.iastore, 1) := by decide +kernel
theorem dX8_can_113 : decode cX8_can 113 = .ok (.goto 25, 3) := by decide +kernel
theorem dX8_can_116 : decode cX8_can 116 = .ok (.iload_n 2, 1) := by decide +kernel
theorem dX8_can_117 : decode cX8_can 117 = .ok (.iconst 1, 1) := by decide +kernel
theorem dX8_can_118 : decode cX8_can 118 = .ok (.if_icmp .ne 13, 3) := by decide +kernel
theorem dX8_can_121 : decode cX8_can 121 = .ok (.aload_n 0, 1) := by decide +kernel
theorem dX8_can_122 : decode cX8_can 122 = .ok (.getfield 31, 3) := by decide +kernel
theorem dX8_can_125 : decode cX8_can 125 = .ok (.iload_n 1, 1) := by decide +kernel
theorem dX8_can_126 : decode cX8_can 126 = .ok (.iload_n 3, 1) := by decide +kernel
theorem dX8_can_127 : decode cX8_can 127 = .ok (.iastore, 1) := by decide +kernel
theorem dX8_can_128 : decode cX8_can 128 = .ok (.goto 10, 3) := by decide +kernel
theorem dX8_can_131 : decode cX8_can 131 = .ok (.aload_n 0, 1) := by decide +kernel
theorem dX8_can_132 : decode cX8_can 132 = .ok (.getfield 34, 3) := by decide +kernel
theorem dX8_can_135 : decode cX8_can 135 = .ok (.iload_n 1, 1) := by decide +kernel
theorem dX8_can_136 : decode cX8_can 136 = .ok (.iload_n 3, 1) := by decide +kernel
theorem dX8_can_137 : decode cX8_can 137 = .ok (.iastore, 1) := by decide +kernel
theorem dX8_can_138 : decode cX8_can 138 = .ok (.iload 4, 2) := by decide +kernel
theorem dX8_can_140 : decode cX8_can 140 = .ok (.ireturn, 1) := by decide +kernel
theorem dX8_across_0 : decode cX8_across 0 = .ok (.iload_n 0, 1) := by decide +kernel
theorem dX8_across_1 : decode cX8_across 1 = .ok (.iconst 4, 1) := by decide +kernel
theorem dX8_across_2 : decode cX8_across 2 = .ok (.irem, 1) := by decide +kernel
theorem dX8_across_3 : decode cX8_across 3 = .ok (.iload_n 1, 1) := by decide +kernel
theorem dX8_across_4 : decode cX8_across 4 = .ok (.iconst 4, 1) := by decide +kernel
theorem dX8_across_5 : decode cX8_across 5 = .ok (.irem, 1) := by decide +kernel
theorem dX8_across_6 : decode cX8_across 6 = .ok (.isub, 1) := by decide +kernel
theorem dX8_across_7 : decode cX8_across 7 = .ok (.invokestatic 182, 3) := by decide +kernel
theorem dX8_across_10 : decode cX8_across 10 = .ok (.ireturn, 1) := by decide +kernel
theorem dX8_down_0 : decode cX8_down 0 = .ok (.iload_n 0, 1) := by decide +kernel
theorem dX8_down_1 : decode cX8_down 1 = .ok (.iconst 4, 1) := by decide +kernel
theorem dX8_down_2 : decode cX8_down 2 = .ok (.idiv, 1) := by decide +kernel
theorem dX8_down_3 : decode cX8_down 3 = .ok (.iload_n 1, 1) := by decide +kernel
theorem dX8_down_4 : decode cX8_down 4 = .ok (.iconst 4, 1) := by decide +kernel
theorem dX8_down_5 : decode cX8_down 5 = .ok (.idiv, 1) := by decide +kernel
theorem dX8_down_6 : decode cX8_down 6 = .ok (.isub, 1) := by decide +kernel
theorem dX8_down_7 : decode cX8_down 7 = .ok (.invokestatic 182, 3) := by decide +kernel
theorem dX8_down_10 : decode cX8_down 10 = .ok (.ireturn, 1) := by decide +kernel
theorem dX8_both_0 : decode cX8_both 0 = .ok (.aload_n 0, 1) := by decide +kernel
theorem dX8_both_1 : decode cX8_both 1 = .ok (.getfield 16, 3) := by decide +kernel
theorem dX8_both_4 : decode cX8_both 4 = .ok (.bipush 10, 2) := by decide +kernel
theorem dX8_both_6 : decode cX8_both 6 = .ok (.iload_n 1, 1) := by decide +kernel
theorem dX8_both_7 : decode cX8_both 7 = .ok (.imul, 1) := by decide +kernel
theorem dX8_both_8 : decode cX8_both 8 = .ok (.iload_n 2, 1) := by decide +kernel
theorem dX8_both_9 : decode cX8_both 9 = .ok (.iadd, 1) := by decide +kernel
theorem dX8_both_10 : decode cX8_both 10 = .ok (.iaload, 1) := by decide +kernel
theorem dX8_both_11 : decode cX8_both 11 = .ok (.aload_n 0, 1) := by decide +kernel
theorem dX8_both_12 : decode cX8_both 12 = .ok (.getfield 16, 3) := by decide +kernel
theorem dX8_both_15 : decode cX8_both 15 = .ok (.bipush 10, 2) := by decide +kernel
theorem dX8_both_17 : decode cX8_both 17 = .ok (.iload_n 2, 1) := by decide +kernel
theorem dX8_both_18 : decode cX8_both 18 = .ok (.imul, 1) := by decide +kernel
theorem dX8_both_19 : decode cX8_both 19 = .ok (.iload_n 1, 1) := by decide +kernel
theorem dX8_both_20 : decode cX8_both 20 = .ok (.iadd, 1) := by decide +kernel
theorem dX8_both_21 : decode cX8_both 21 = .ok (.iaload, 1) := by decide +kernel
theorem dX8_both_22 : decode cX8_both 22 = .ok (.iadd, 1) := by decide +kernel
theorem dX8_both_23 : decode cX8_both 23 = .ok (.ireturn, 1) := by decide +kernel
theorem dX8_mayBe_0 : decode cX8_mayBe 0 = .ok (.aload_n 0, 1) := by decide +kernel
theorem dX8_mayBe_1 : decode cX8_mayBe 1 = .ok (.getfield 31, 3) := by decide +kernel
theorem dX8_mayBe_4 : decode cX8_mayBe 4 = .ok (.iload_n 1, 1) := by decide +kernel
theorem dX8_mayBe_5 : decode cX8_mayBe 5 = .ok (.iaload, 1) := by decide +kernel
theorem dX8_mayBe_6 : decode cX8_mayBe 6 = .ok (.iload_n 3, 1) := by decide +kernel
theorem dX8_mayBe_7 : decode cX8_mayBe 7 = .ok (.invokestatic 185, 3) := by decide +kernel
theorem dX8_mayBe_10 : decode cX8_mayBe 10 = .ok (.istore 4, 2) := by decide +kernel
theorem dX8_mayBe_12 : decode cX8_mayBe 12 = .ok (.iconst 0, 1) := by decide +kernel
theorem dX8_mayBe_13 : decode cX8_mayBe 13 = .ok (.istore 5, 2) := by decide +kernel
theorem dX8_mayBe_15 : decode cX8_mayBe 15 = .ok (.iload 5, 2) := by decide +kernel
theorem dX8_mayBe_17 : decode cX8_mayBe 17 = .ok (.iload_n 2, 1) := by decide +kernel
theorem dX8_mayBe_18 : decode cX8_mayBe 18 = .ok (.if_icmp .ge 55, 3) := by decide +kernel
theorem dX8_mayBe_21 : decode cX8_mayBe 21 = .ok (.iload 4, 2) := by decide +kernel
theorem dX8_mayBe_23 : decode cX8_mayBe 23 = .ok (.ifCond .eq 41, 3) := by decide +kernel
theorem dX8_mayBe_26 : decode cX8_mayBe 26 = .ok (.aload_n 0, 1) := by decide +kernel
theorem dX8_mayBe_27 : decode cX8_mayBe 27 = .ok (.getfield 53, 3) := by decide +kernel
theorem dX8_mayBe_30 : decode cX8_mayBe 30 = .ok (.iload 5, 2) := by decide +kernel
theorem dX8_mayBe_32 : decode cX8_mayBe 32 = .ok (.iaload, 1) := by decide +kernel
theorem dX8_mayBe_33 : decode cX8_mayBe 33 = .ok (.iload_n 3, 1) := by decide +kernel
theorem dX8_mayBe_34 : decode cX8_mayBe 34 = .ok (.invokestatic 189, 3) := by decide +kernel
theorem dX8_mayBe_37 : decode cX8_mayBe 37 = .ok (.aload_n 0, 1) := by decide +kernel
theorem dX8_mayBe_38 : decode cX8_mayBe 38 = .ok (.getfield 53, 3) := by decide +kernel
theorem dX8_mayBe_41 : decode cX8_mayBe 41 = .ok (.iload 5, 2) := by decide +kernel
theorem dX8_mayBe_43 : decode cX8_mayBe 43 = .ok (.iaload, 1) := by decide +kernel
theorem dX8_mayBe_44 : decode cX8_mayBe 44 = .ok (.iload_n 3, 1) := by decide +kernel
theorem dX8_mayBe_45 : decode cX8_mayBe 45 = .ok (.invokestatic 192, 3) := by decide +kernel
theorem dX8_mayBe_48 : decode cX8_mayBe 48 = .ok (.invokestatic 195, 3) := by decide +kernel
theorem dX8_mayBe_51 : decode cX8_mayBe 51 = .ok (.aload_n 0, 1) := by decide +kernel
theorem dX8_mayBe_52 : decode cX8_mayBe 52 = .ok (.getfield 28, 3) := by decide +kernel
theorem dX8_mayBe_55 : decode cX8_mayBe 55 = .ok (.iload_n 1, 1) := by decide +kernel
theorem dX8_mayBe_56 : decode cX8_mayBe 56 = .ok (.iaload, 1) := by decide +kernel
theorem dX8_mayBe_57 : decode cX8_mayBe 57 = .ok (.if_icmp .le 7, 3) := by decide +kernel
theorem dX8_mayBe_60 : decode cX8_mayBe 60 = .ok (.iconst 1, 1) := by decide +kernel
theorem dX8_mayBe_61 : decode cX8_mayBe 61 = .ok (.goto 4, 3) := by decide +kernel
theorem dX8_mayBe_64 : decode cX8_mayBe 64 = .ok (.iconst 0, 1) := by decide +kernel
theorem dX8_mayBe_65 : decode cX8_mayBe 65 = .ok (.istore 4, 2) := by decide +kernel
theorem dX8_mayBe_67 : decode cX8_mayBe 67 = .ok (.iinc 5 1, 3) := by decide +kernel
theorem dX8_mayBe_70 : decode cX8_mayBe 70 = .ok (.goto (-55), 3) := by decide +kernel
theorem dX8_mayBe_73 : decode cX8_mayBe 73 = .ok (.iload 4, 2) := by decide +kernel
theorem dX8_mayBe_75 : decode cX8_mayBe 75 = .ok (.ireturn, 1) := by decide +kernel
theorem dX8_priceOfTried_0 : decode cX8_priceOfTried 0 = .ok (.iconst 0, 1) := by decide +kernel
theorem dX8_priceOfTried_1 : decode cX8_priceOfTried 1 = .ok (.istore_n 1, 1) := by decide +kernel
theorem dX8_priceOfTried_2 : decode cX8_priceOfTried 2 = .ok (.iconst 0, 1) := by decide +kernel
theorem dX8_priceOfTried_3 : decode cX8_priceOfTried 3 = .ok (.istore_n 2, 1) := by decide +kernel
theorem dX8_priceOfTried_4 : decode cX8_priceOfTried 4 = .ok (.iload_n 2, 1) := by decide +kernel
theorem dX8_priceOfTried_5 : decode cX8_priceOfTried 5 = .ok (.aload_n 0, 1) := by decide +kernel
theorem dX8_priceOfTried_6 : decode cX8_priceOfTried 6 = .ok (.getfield 198, 3) := by decide +kernel
theorem dX8_priceOfTried_9 : decode cX8_priceOfTried 9 = .ok (.if_icmp .ge 73, 3) := by decide +kernel
theorem dX8_priceOfTried_12 : decode cX8_priceOfTried 12 = .ok (.iconst 0, 1) := by decide +kernel
theorem dX8_priceOfTried_13 : decode cX8_priceOfTried 13 = .ok (.istore_n 3, 1) := by decide +kernel
theorem dX8_priceOfTried_14 : decode cX8_priceOfTried 14 = .ok (.iload_n 3, 1) := by decide +kernel
theorem dX8_priceOfTried_15 : decode cX8_priceOfTried 15 = .ok (.iload_n 2, 1) := by decide +kernel
theorem dX8_priceOfTried_16 : decode cX8_priceOfTried 16 = .ok (.if_icmp .ge 60, 3) := by decide +kernel
theorem dX8_priceOfTried_19 : decode cX8_priceOfTried 19 = .ok (.iload_n 1, 1) := by decide +kernel
theorem dX8_priceOfTried_20 : decode cX8_priceOfTried 20 = .ok (.aload_n 0, 1) := by decide +kernel
theorem dX8_priceOfTried_21 : decode cX8_priceOfTried 21 = .ok (.aload_n 0, 1) := by decide +kernel
theorem dX8_priceOfTried_22 : decode cX8_priceOfTried 22 = .ok (.getfield 50, 3) := by decide +kernel
theorem dX8_priceOfTried_25 : decode cX8_priceOfTried 25 = .ok (.iload_n 2, 1) := by decide +kernel
theorem dX8_priceOfTried_26 : decode cX8_priceOfTried 26 = .ok (.iaload, 1) := by decide +kernel
theorem dX8_priceOfTried_27 : decode cX8_priceOfTried 27 = .ok (.aload_n 0, 1) := by decide +kernel
theorem dX8_priceOfTried_28 : decode cX8_priceOfTried 28 = .ok (.getfield 50, 3) := by decide +kernel
theorem dX8_priceOfTried_31 : decode cX8_priceOfTried 31 = .ok (.iload_n 3, 1) := by decide +kernel
theorem dX8_priceOfTried_32 : decode cX8_priceOfTried 32 = .ok (.iaload, 1) := by decide +kernel
theorem dX8_priceOfTried_33 : decode cX8_priceOfTried 33 = .ok (.invokevirtual 201, 3) := by decide +kernel
theorem dX8_priceOfTried_36 : decode cX8_priceOfTried 36 = .ok (.aload_n 0, 1) := by decide +kernel
theorem dX8_priceOfTried_37 : decode cX8_priceOfTried 37 = .ok (.getfield 53, 3) := by decide +kernel
theorem dX8_priceOfTried_40 : decode cX8_priceOfTried 40 = .ok (.iload_n 2, 1) := by decide +kernel
theorem dX8_priceOfTried_41 : decode cX8_priceOfTried 41 = .ok (.iaload, 1) := by decide +kernel
theorem dX8_priceOfTried_42 : decode cX8_priceOfTried 42 = .ok (.aload_n 0, 1) := by decide +kernel
theorem dX8_priceOfTried_43 : decode cX8_priceOfTried 43 = .ok (.getfield 53, 3) := by decide +kernel
theorem dX8_priceOfTried_46 : decode cX8_priceOfTried 46 = .ok (.iload_n 3, 1) := by decide +kernel
theorem dX8_priceOfTried_47 : decode cX8_priceOfTried 47 = .ok (.iaload, 1) := by decide +kernel
theorem dX8_priceOfTried_48 : decode cX8_priceOfTried 48 = .ok (.invokestatic 189, 3) := by decide +kernel
theorem dX8_priceOfTried_51 : decode cX8_priceOfTried 51 = .ok (.aload_n 0, 1) := by decide +kernel
theorem dX8_priceOfTried_52 : decode cX8_priceOfTried 52 = .ok (.getfield 53, 3) := by decide +kernel
theorem dX8_priceOfTried_55 : decode cX8_priceOfTried 55 = .ok (.iload_n 2, 1) := by decide +kernel
theorem dX8_priceOfTried_56 : decode cX8_priceOfTried 56 = .ok (.iaload, 1) := by decide +kernel
theorem dX8_priceOfTried_57 : decode cX8_priceOfTried 57 = .ok (.aload_n 0, 1) := by decide +kernel
theorem dX8_priceOfTried_58 : decode cX8_priceOfTried 58 = .ok (.getfield 53, 3) := by decide +kernel
theorem dX8_priceOfTried_61 : decode cX8_priceOfTried 61 = .ok (.iload_n 3, 1) := by decide +kernel
theorem dX8_priceOfTried_62 : decode cX8_priceOfTried 62 = .ok (.iaload, 1) := by decide +kernel
theorem dX8_priceOfTried_63 : decode cX8_priceOfTried 63 = .ok (.invokestatic 192, 3) := by decide +kernel
theorem dX8_priceOfTried_66 : decode cX8_priceOfTried 66 = .ok (.iadd, 1) := by decide +kernel
theorem dX8_priceOfTried_67 : decode cX8_priceOfTried 67 = .ok (.imul, 1) := by decide +kernel
theorem dX8_priceOfTried_68 : decode cX8_priceOfTried 68 = .ok (.iadd, 1) := by decide +kernel
theorem dX8_priceOfTried_69 : decode cX8_priceOfTried 69 = .ok (.istore_n 1, 1) := by decide +kernel
theorem dX8_priceOfTried_70 : decode cX8_priceOfTried 70 = .ok (.iinc 3 1, 3) := by decide +kernel
theorem dX8_priceOfTried_73 : decode cX8_priceOfTried 73 = .ok (.goto (-59), 3) := by decide +kernel
theorem dX8_priceOfTried_76 : decode cX8_priceOfTried 76 = .ok (.iinc 2 1, 3) := by decide +kernel
theorem dX8_priceOfTried_79 : decode cX8_priceOfTried 79 = .ok (.goto (-75), 3) := by decide +kernel
theorem dX8_priceOfTried_82 : decode cX8_priceOfTried 82 = .ok (.iload_n 1, 1) := by decide +kernel
theorem dX8_priceOfTried_83 : decode cX8_priceOfTried 83 = .ok (.ireturn, 1) := by decide +kernel
theorem dX8_findBest_0 : decode cX8_findBest 0 = .ok (.aload_n 0, 1) := by decide +kernel
theorem dX8_findBest_1 : decode cX8_findBest 1 = .ok (.iconst 0, 1) := by decide +kernel
theorem dX8_findBest_2 : decode cX8_findBest 2 = .ok (.putfield 198, 3) := by decide +kernel
theorem dX8_findBest_5 : decode cX8_findBest 5 = .ok (.iconst 0, 1) := by decide +kernel
theorem dX8_findBest_6 : decode cX8_findBest 6 = .ok (.istore_n 3, 1) := by decide +kernel
theorem dX8_findBest_7 : decode cX8_findBest 7 = .ok (.iload_n 3, 1) := by decide +kernel
theorem dX8_findBest_8 : decode cX8_findBest 8 = .ok (.aload_n 0, 1) := by decide +kernel
theorem dX8_findBest_9 : decode cX8_findBest 9 = .ok (.getfield 143, 3) := by decide +kernel
theorem dX8_findBest_12 : decode cX8_findBest 12 = .ok (.if_icmp .ge 37, 3) := by decide +kernel
theorem dX8_findBest_15 : decode cX8_findBest 15 = .ok (.iload_n 2, 1) := by decide +kernel
theorem dX8_findBest_16 : decode cX8_findBest 16 = .ok (.iload_n 3, 1) := by decide +kernel
theorem dX8_findBest_17 : decode cX8_findBest 17 = .ok (.invokestatic 185, 3) := by decide +kernel
theorem dX8_findBest_20 : decode cX8_findBest 20 = .ok (.ifCond .eq 23, 3) := by decide +kernel
theorem dX8_findBest_23 : decode cX8_findBest 23 = .ok (.aload_n 0, 1) := by decide +kernel
theorem dX8_findBest_24 : decode cX8_findBest 24 = .ok (.getfield 50, 3) := by decide +kernel
theorem dX8_findBest_27 : decode cX8_findBest 27 = .ok (.aload_n 0, 1) := by decide +kernel
theorem dX8_findBest_28 : decode cX8_findBest 28 = .ok (.getfield 198, 3) := by decide +kernel
theorem dX8_findBest_31 : decode cX8_findBest 31 = .ok (.iload_n 3, 1) := by decide +kernel
theorem dX8_findBest_32 : decode cX8_findBest 32 = .ok (.iastore, 1) := by decide +kernel
theorem dX8_findBest_33 : decode cX8_findBest 33 = .ok (.aload_n 0, 1) := by decide +kernel
theorem dX8_findBest_34 : decode cX8_findBest 34 = .ok (.dup, 1) := by decide +kernel
theorem dX8_findBest_35 : decode cX8_findBest 35 = .ok (.getfield 198, 3) := by decide +kernel
theorem dX8_findBest_38 : decode cX8_findBest 38 = .ok (.iconst 1, 1) := by decide +kernel
theorem dX8_findBest_39 : decode cX8_findBest 39 = .ok (.iadd, 1) := by decide +kernel
theorem dX8_findBest_40 : decode cX8_findBest 40 = .ok (.putfield 198, 3) := by decide +kernel
theorem dX8_findBest_43 : decode cX8_findBest 43 = .ok (.iinc 3 1, 3) := by decide +kernel
theorem dX8_findBest_46 : decode cX8_findBest 46 = .ok (.goto (-39), 3) := by decide +kernel
theorem dX8_findBest_49 : decode cX8_findBest 49 = .ok (.aload_n 0, 1) := by decide +kernel
theorem dX8_findBest_50 : decode cX8_findBest 50 = .ok (.bipush (-9), 2) := by decide +kernel
theorem dX8_findBest_52 : decode cX8_findBest 52 = .ok (.putfield 204, 3) := by decide +kernel
theorem dX8_findBest_55 : decode cX8_findBest 55 = .ok (.aload_n 0, 1) := by decide +kernel
theorem dX8_findBest_56 : decode cX8_findBest 56 = .ok (.getfield 198, 3) := by decide +kernel
theorem dX8_findBest_59 : decode cX8_findBest 59 = .ok (.aload_n 0, 1) := by decide +kernel
theorem dX8_findBest_60 : decode cX8_findBest 60 = .ok (.getfield 34, 3) := by decide +kernel
theorem dX8_findBest_63 : decode cX8_findBest 63 = .ok (.iload_n 1, 1) := by decide +kernel
theorem dX8_findBest_64 : decode cX8_findBest 64 = .ok (.iaload, 1) := by decide +kernel
theorem dX8_findBest_65 : decode cX8_findBest 65 = .ok (.if_icmp .le 5, 3) := by decide +kernel
theorem dX8_findBest_68 : decode cX8_findBest 68 = .ok (.iconst 0, 1) := by decide +kernel
theorem dX8_findBest_69 : decode cX8_findBest 69 = .ok (.ireturn, 1) := by decide +kernel
theorem dX8_findBest_70 : decode cX8_findBest 70 = .ok (.iconst 0, 1) := by decide +kernel
theorem dX8_findBest_71 : decode cX8_findBest 71 = .ok (.istore_n 3, 1) := by decide +kernel
theorem dX8_findBest_72 : decode cX8_findBest 72 = .ok (.aload_n 0, 1) := by decide +kernel
theorem dX8_findBest_73 : decode cX8_findBest 73 = .ok (.getfield 53, 3) := by decide +kernel
theorem dX8_findBest_76 : decode cX8_findBest 76 = .ok (.iconst 0, 1) := by decide +kernel
theorem dX8_findBest_77 : decode cX8_findBest 77 = .ok (.iconst (-1), 1) := by decide +kernel
theorem dX8_findBest_78 : decode cX8_findBest 78 = .ok (.iastore, 1) := by decide +kernel
theorem dX8_findBest_79 : decode cX8_findBest 79 = .ok (.iload_n 3, 1) := by decide +kernel
theorem dX8_findBest_80 : decode cX8_findBest 80 = .ok (.ifCond .lt 99, 3) := by decide +kernel
theorem dX8_findBest_83 : decode cX8_findBest 83 = .ok (.aload_n 0, 1) := by decide +kernel
theorem dX8_findBest_84 : decode cX8_findBest 84 = .ok (.getfield 53, 3) := by decide +kernel
theorem dX8_findBest_87 : decode cX8_findBest 87 = .ok (.iload_n 3, 1) := by decide +kernel
theorem dX8_findBest_88 : decode cX8_findBest 88 = .ok (.dup2, 1) := by decide +kernel
theorem dX8_findBest_89 : decode cX8_findBest 89 = .ok (.iaload, 1) := by decide +kernel
theorem dX8_findBest_90 : decode cX8_findBest 90 = .ok (.iconst 1, 1) := by decide +kernel
theorem dX8_findBest_91 : decode cX8_findBest 91 = .ok (.iadd, 1) := by decide +kernel
theorem dX8_findBest_92 : decode cX8_findBest 92 = .ok (.iastore, 1) := by decide +kernel
theorem dX8_findBest_93 : decode cX8_findBest 93 = .ok (.aload_n 0, 1) := by decide +kernel
theorem dX8_findBest_94 : decode cX8_findBest 94 = .ok (.getfield 53, 3) := by decide +kernel
theorem dX8_findBest_97 : decode cX8_findBest 97 = .ok (.iload_n 3, 1) := by decide +kernel
theorem dX8_findBest_98 : decode cX8_findBest 98 = .ok (.iaload, 1) := by decide +kernel
theorem dX8_findBest_99 : decode cX8_findBest 99 = .ok (.bipush 12, 2) := by decide +kernel
theorem dX8_findBest_101 : decode cX8_findBest 101 = .ok (.if_icmp .ge 31, 3) := by decide +kernel
theorem dX8_findBest_104 : decode cX8_findBest 104 = .ok (.aload_n 0, 1) := by decide +kernel
theorem dX8_findBest_105 : decode cX8_findBest 105 = .ok (.iload_n 1, 1) := by decide +kernel
theorem dX8_findBest_106 : decode cX8_findBest 106 = .ok (.iload_n 3, 1) := by decide +kernel
theorem dX8_findBest_107 : decode cX8_findBest 107 = .ok (.aload_n 0, 1) := by decide +kernel
theorem dX8_findBest_108 : decode cX8_findBest 108 = .ok (.getfield 53, 3) := by decide +kernel
theorem dX8_findBest_111 : decode cX8_findBest 111 = .ok (.iload_n 3, 1) := by decide +kernel
theorem dX8_findBest_112 : decode cX8_findBest 112 = .ok (.iaload, 1) := by decide +kernel
theorem dX8_findBest_113 : decode cX8_findBest 113 = .ok (.invokevirtual 207, 3) := by decide +kernel
theorem dX8_findBest_116 : decode cX8_findBest 116 = .ok (.ifCond .ne 16, 3) := by decide +kernel
theorem dX8_findBest_119 : decode cX8_findBest 119 = .ok (.aload_n 0, 1) := by decide +kernel
theorem dX8_findBest_120 : decode cX8_findBest 120 = .ok (.getfield 53, 3) := by decide +kernel
theorem dX8_findBest_123 : decode cX8_findBest 123 = .ok (.iload_n 3, 1) := by decide +kernel
theorem dX8_findBest_124 : decode cX8_findBest 124 = .ok (.dup2, 1) := by decide +kernel
theorem dX8_findBest_125 : decode cX8_findBest 125 = .ok (.iaload, 1) := by decide +kernel
theorem dX8_findBest_126 : decode cX8_findBest 126 = .ok (.iconst 1, 1) := by decide +kernel
theorem dX8_findBest_127 : decode cX8_findBest 127 = .ok (.iadd, 1) := by decide +kernel
theorem dX8_findBest_128 : decode cX8_findBest 128 = .ok (.iastore, 1) := by decide +kernel
theorem dX8_findBest_129 : decode cX8_findBest 129 = .ok (.goto (-36), 3) := by decide +kernel
theorem dX8_findBest_132 : decode cX8_findBest 132 = .ok (.aload_n 0, 1) := by decide +kernel
theorem dX8_findBest_133 : decode cX8_findBest 133 = .ok (.getfield 53, 3) := by decide +kernel
theorem dX8_findBest_136 : decode cX8_findBest 136 = .ok (.iload_n 3, 1) := by decide +kernel
theorem dX8_findBest_137 : decode cX8_findBest 137 = .ok (.iaload, 1) := by decide +kernel
theorem dX8_findBest_138 : decode cX8_findBest 138 = .ok (.bipush 12, 2) := by decide +kernel
theorem dX8_findBest_140 : decode cX8_findBest 140 = .ok (.if_icmp .lt 9, 3) := by decide +kernel
theorem dX8_findBest_143 : decode cX8_findBest 143 = .ok (.iinc 3 (-1), 3) := by decide +kernel
theorem dX8_findBest_146 : decode cX8_findBest 146 = .ok (.goto (-67), 3) := by decide +kernel
theorem dX8_findBest_149 : decode cX8_findBest 149 = .ok (.iload_n 3, 1) := by decide +kernel
theorem dX8_findBest_150 : decode cX8_findBest 150 = .ok (.aload_n 0, 1) := by decide +kernel
theorem dX8_findBest_151 : decode cX8_findBest 151 = .ok (.getfield 198, 3) := by decide +kernel
theorem dX8_findBest_154 : decode cX8_findBest 154 = .ok (.iconst 1, 1) := by decide +kernel
theorem dX8_findBest_155 : decode cX8_findBest 155 = .ok (.isub, 1) := by decide +kernel
theorem dX8_findBest_156 : decode cX8_findBest 156 = .ok (.if_icmp .ge 16, 3) := by decide +kernel
theorem dX8_findBest_159 : decode cX8_findBest 159 = .ok (.iinc 3 1, 3) := by decide +kernel
theorem dX8_findBest_162 : decode cX8_findBest 162 = .ok (.aload_n 0, 1) := by decide +kernel
theorem dX8_findBest_163 : decode cX8_findBest 163 = .ok (.getfield 53, 3) := by decide +kernel
theorem dX8_findBest_166 : decode cX8_findBest 166 = .ok (.iload_n 3, 1) := by decide +kernel
theorem dX8_findBest_167 : decode cX8_findBest 167 = .ok (.iconst (-1), 1) := by decide +kernel
theorem dX8_findBest_168 : decode cX8_findBest 168 = .ok (.iastore, 1) := by decide +kernel
theorem dX8_findBest_169 : decode cX8_findBest 169 = .ok (.goto (-90), 3) := by decide +kernel
theorem dX8_findBest_172 : decode cX8_findBest 172 = .ok (.aload_n 0, 1) := by decide +kernel
theorem dX8_findBest_173 : decode cX8_findBest 173 = .ok (.invokevirtual 211, 3) := by decide +kernel
theorem dX8_findBest_176 : decode cX8_findBest 176 = .ok (.goto (-97), 3) := by decide +kernel
theorem dX8_findBest_179 : decode cX8_findBest 179 = .ok (.aload_n 0, 1) := by decide +kernel
theorem dX8_findBest_180 : decode cX8_findBest 180 = .ok (.getfield 204, 3) := by decide +kernel
theorem dX8_findBest_183 : decode cX8_findBest 183 = .ok (.ifCond .lt 7, 3) := by decide +kernel
theorem dX8_findBest_186 : decode cX8_findBest 186 = .ok (.iconst 1, 1) := by decide +kernel
theorem dX8_findBest_187 : decode cX8_findBest 187 = .ok (.goto 4, 3) := by decide +kernel
theorem dX8_findBest_190 : decode cX8_findBest 190 = .ok (.iconst 0, 1) := by decide +kernel
theorem dX8_findBest_191 : decode cX8_findBest 191 = .ok (.ireturn, 1) := by decide +kernel
theorem dX8_keepTried_0 : decode cX8_keepTried 0 = .ok (.aload_n 0, 1) := by decide +kernel
theorem dX8_keepTried_1 : decode cX8_keepTried 1 = .ok (.invokevirtual 214, 3) := by decide +kernel
theorem dX8_keepTried_4 : decode cX8_keepTried 4 = .ok (.istore_n 1, 1) := by decide +kernel
theorem dX8_keepTried_5 : decode cX8_keepTried 5 = .ok (.aload_n 0, 1) := by decide +kernel
theorem dX8_keepTried_6 : decode cX8_keepTried 6 = .ok (.getfield 204, 3) := by decide +kernel
theorem dX8_keepTried_9 : decode cX8_keepTried 9 = .ok (.ifCond .lt 11, 3) := by decide +kernel
theorem dX8_keepTried_12 : decode cX8_keepTried 12 = .ok (.iload_n 1, 1) := by decide +kernel
theorem dX8_keepTried_13 : decode cX8_keepTried 13 = .ok (.aload_n 0, 1) := by decide +kernel
theorem dX8_keepTried_14 : decode cX8_keepTried 14 = .ok (.getfield 204, 3) := by decide +kernel
theorem dX8_keepTried_17 : decode cX8_keepTried 17 = .ok (.if_icmp .ge 36, 3) := by decide +kernel
theorem dX8_keepTried_20 : decode cX8_keepTried 20 = .ok (.aload_n 0, 1) := by decide +kernel
theorem dX8_keepTried_21 : decode cX8_keepTried 21 = .ok (.iload_n 1, 1) := by decide +kernel
theorem dX8_keepTried_22 : decode cX8_keepTried 22 = .ok (.putfield 204, 3) := by decide +kernel
theorem dX8_keepTried_25 : decode cX8_keepTried 25 = .ok (.iconst 0, 1) := by decide +kernel
theorem dX8_keepTried_26 : decode cX8_keepTried 26 = .ok (.istore_n 2, 1) := by decide +kernel
theorem dX8_keepTried_27 : decode cX8_keepTried 27 = .ok (.iload_n 2, 1) := by decide +kernel
theorem dX8_keepTried_28 : decode cX8_keepTried 28 = .ok (.aload_n 0, 1) := by decide +kernel
theorem dX8_keepTried_29 : decode cX8_keepTried 29 = .ok (.getfield 198, 3) := by decide +kernel
theorem dX8_keepTried_32 : decode cX8_keepTried 32 = .ok (.if_icmp .ge 21, 3) := by decide +kernel
theorem dX8_keepTried_35 : decode cX8_keepTried 35 = .ok (.aload_n 0, 1) := by decide +kernel
theorem dX8_keepTried_36 : decode cX8_keepTried 36 = .ok (.getfield 56, 3) := by decide +kernel
theorem dX8_keepTried_39 : decode cX8_keepTried 39 = .ok (.iload_n 2, 1) := by decide +kernel
theorem dX8_keepTried_40 : decode cX8_keepTried 40 = .ok (.aload_n 0, 1) := by decide +kernel
theorem dX8_keepTried_41 : decode cX8_keepTried 41 = .ok (.getfield 53, 3) := by decide +kernel
theorem dX8_keepTried_44 : decode cX8_keepTried 44 = .ok (.iload_n 2, 1) := by decide +kernel
theorem dX8_keepTried_45 : decode cX8_keepTried 45 = .ok (.iaload, 1) := by decide +kernel
theorem dX8_keepTried_46 : decode cX8_keepTried 46 = .ok (.iastore, 1) := by decide +kernel
theorem dX8_keepTried_47 : decode cX8_keepTried 47 = .ok (.iinc 2 1, 3) := by decide +kernel
theorem dX8_keepTried_50 : decode cX8_keepTried 50 = .ok (.goto (-23), 3) := by decide +kernel
theorem dX8_keepTried_53 : decode cX8_keepTried 53 = .ok (.return_, 1) := by decide +kernel
theorem dX8_isFew_0 : decode cX8_isFew 0 = .ok (.iload_n 1, 1) := by decide +kernel
theorem dX8_isFew_1 : decode cX8_isFew 1 = .ok (.i2l, 1) := by decide +kernel
theorem dX8_isFew_2 : decode cX8_isFew 2 = .ok (.lconst 1, 1) := by decide +kernel
theorem dX8_isFew_3 : decode cX8_isFew 3 = .ok (.lconst 1, 1) := by decide +kernel
theorem dX8_isFew_4 : decode cX8_isFew 4 = .ok (.aload_n 0, 1) := by decide +kernel
theorem dX8_isFew_5 : decode cX8_isFew 5 = .ok (.getfield 143, 3) := by decide +kernel
theorem dX8_isFew_8 : decode cX8_isFew 8 = .ok (.lshl, 1) := by decide +kernel
theorem dX8_isFew_9 : decode cX8_isFew 9 = .ok (.lconst 1, 1) := by decide +kernel
theorem dX8_isFew_10 : decode cX8_isFew 10 = .ok (.lsub, 1) := by decide +kernel
theorem dX8_isFew_11 : decode cX8_isFew 11 = .ok (.invokestatic 128, 3) := by decide +kernel
theorem dX8_isFew_14 : decode cX8_isFew 14 = .ok (.ifCond .eq 15, 3) := by decide +kernel
theorem dX8_isFew_17 : decode cX8_isFew 17 = .ok (.iload_n 1, 1) := by decide +kernel
theorem dX8_isFew_18 : decode cX8_isFew 18 = .ok (.invokestatic 218, 3) := by decide +kernel
theorem dX8_isFew_21 : decode cX8_isFew 21 = .ok (.iconst 5, 1) := by decide +kernel
theorem dX8_isFew_22 : decode cX8_isFew 22 = .ok (.if_icmp .gt 7, 3) := by decide +kernel
theorem dX8_isFew_25 : decode cX8_isFew 25 = .ok (.iconst 1, 1) := by decide +kernel
theorem dX8_isFew_26 : decode cX8_isFew 26 = .ok (.goto 4, 3) := by decide +kernel
theorem dX8_isFew_29 : decode cX8_isFew 29 = .ok (.iconst 0, 1) := by decide +kernel
theorem dX8_isFew_30 : decode cX8_isFew 30 = .ok (.ireturn, 1) := by decide +kernel
theorem dX8_best_0 : decode cX8_best 0 = .ok (.aload_n 0, 1) := by decide +kernel
theorem dX8_best_1 : decode cX8_best 1 = .ok (.iload_n 1, 1) := by decide +kernel
theorem dX8_best_2 : decode cX8_best 2 = .ok (.invokevirtual 175, 3) := by decide +kernel
theorem dX8_best_5 : decode cX8_best 5 = .ok (.ifCond .ne 21, 3) := by decide +kernel
theorem dX8_best_8 : decode cX8_best 8 = .ok (.iload_n 3, 1) := by decide +kernel
theorem dX8_best_9 : decode cX8_best 9 = .ok (.i2l, 1) := by decide +kernel
theorem dX8_best_10 : decode cX8_best 10 = .ok (.ldc2_w 221, 3) := by decide +kernel
theorem dX8_best_13 : decode cX8_best 13 = .ok (.aload_n 0, 1) := by decide +kernel
theorem dX8_best_14 : decode cX8_best 14 = .ok (.getfield 143, 3) := by decide +kernel
theorem dX8_best_17 : decode cX8_best 17 = .ok (.i2l, 1) := by decide +kernel
theorem dX8_best_18 : decode cX8_best 18 = .ok (.lconst 1, 1) := by decide +kernel
theorem dX8_best_19 : decode cX8_best 19 = .ok (.lsub, 1) := by decide +kernel
theorem dX8_best_20 : decode cX8_best 20 = .ok (.invokestatic 128, 3) := by decide +kernel
theorem dX8_best_23 : decode cX8_best 23 = .ok (.ifCond .ne 5, 3) := by decide +kernel
theorem dX8_best_26 : decode cX8_best 26 = .ok (.iconst (-1), 1) := by decide +kernel
theorem dX8_best_27 : decode cX8_best 27 = .ok (.ireturn, 1) := by decide +kernel
theorem dX8_best_28 : decode cX8_best 28 = .ok (.aload_n 0, 1) := by decide +kernel
theorem dX8_best_29 : decode cX8_best 29 = .ok (.iload_n 2, 1) := by decide +kernel
theorem dX8_best_30 : decode cX8_best 30 = .ok (.invokevirtual 223, 3) := by decide +kernel
theorem dX8_best_33 : decode cX8_best 33 = .ok (.ifCond .ne 6, 3) := by decide +kernel
theorem dX8_best_36 : decode cX8_best 36 = .ok (.bipush (-2), 2) := by decide +kernel
theorem dX8_best_38 : decode cX8_best 38 = .ok (.ireturn, 1) := by decide +kernel
theorem dX8_best_39 : decode cX8_best 39 = .ok (.aload_n 0, 1) := by decide +kernel
theorem dX8_best_40 : decode cX8_best 40 = .ok (.iload_n 1, 1) := by decide +kernel
theorem dX8_best_41 : decode cX8_best 41 = .ok (.iload_n 2, 1) := by decide +kernel
theorem dX8_best_42 : decode cX8_best 42 = .ok (.invokevirtual 226, 3) := by decide +kernel
theorem dX8_best_45 : decode cX8_best 45 = .ok (.ifCond .ne 6, 3) := by decide +kernel
theorem dX8_best_48 : decode cX8_best 48 = .ok (.bipush (-9), 2) := by decide +kernel
theorem dX8_best_50 : decode cX8_best 50 = .ok (.ireturn, 1) := by decide +kernel
theorem dX8_best_51 : decode cX8_best 51 = .ok (.bipush (-9), 2) := by decide +kernel
theorem dX8_best_53 : decode cX8_best 53 = .ok (.istore 4, 2) := by decide +kernel
theorem dX8_best_55 : decode cX8_best 55 = .ok (.iconst 0, 1) := by decide +kernel
theorem dX8_best_56 : decode cX8_best 56 = .ok (.istore 5, 2) := by decide +kernel
theorem dX8_best_58 : decode cX8_best 58 = .ok (.iload 5, 2) := by decide +kernel
theorem dX8_best_60 : decode cX8_best 60 = .ok (.aload_n 0, 1) := by decide +kernel
theorem dX8_best_61 : decode cX8_best 61 = .ok (.getfield 198, 3) := by decide +kernel
theorem dX8_best_64 : decode cX8_best 64 = .ok (.if_icmp .ge 34, 3) := by decide +kernel
theorem dX8_best_67 : decode cX8_best 67 = .ok (.aload_n 0, 1) := by decide +kernel
theorem dX8_best_68 : decode cX8_best 68 = .ok (.getfield 50, 3) := by decide +kernel
theorem dX8_best_71 : decode cX8_best 71 = .ok (.iload 5, 2) := by decide +kernel
theorem dX8_best_73 : decode cX8_best 73 = .ok (.iaload, 1) := by decide +kernel
theorem dX8_best_74 : decode cX8_best 74 = .ok (.iload_n 3, 1) := by decide +kernel
theorem dX8_best_75 : decode cX8_best 75 = .ok (.if_icmp .ne 13, 3) := by decide +kernel
theorem dX8_best_78 : decode cX8_best 78 = .ok (.aload_n 0, 1) := by decide +kernel
theorem dX8_best_79 : decode cX8_best 79 = .ok (.getfield 56, 3) := by decide +kernel
theorem dX8_best_82 : decode cX8_best 82 = .ok (.iload 5, 2) := by decide +kernel
theorem dX8_best_84 : decode cX8_best 84 = .ok (.iaload, 1) := by decide +kernel
theorem dX8_best_85 : decode cX8_best 85 = .ok (.goto 5, 3) := by decide +kernel
theorem dX8_best_88 : decode cX8_best 88 = .ok (.iload 4, 2) := by decide +kernel
theorem dX8_best_90 : decode cX8_best 90 = .ok (.istore 4, 2) := by decide +kernel
theorem dX8_best_92 : decode cX8_best 92 = .ok (.iinc 5 1, 3) := by decide +kernel
theorem dX8_best_95 : decode cX8_best 95 = .ok (.goto (-37), 3) := by decide +kernel
theorem dX8_best_98 : decode cX8_best 98 = .ok (.iload_n 3, 1) := by decide +kernel
theorem dX8_best_99 : decode cX8_best 99 = .ok (.ifCond .ge 10, 3) := by decide +kernel
theorem dX8_best_102 : decode cX8_best 102 = .ok (.aload_n 0, 1) := by decide +kernel
theorem dX8_best_103 : decode cX8_best 103 = .ok (.getfield 204, 3) := by decide +kernel
theorem dX8_best_106 : decode cX8_best 106 = .ok (.goto 5, 3) := by decide +kernel
theorem dX8_best_109 : decode cX8_best 109 = .ok (.iload 4, 2) := by decide +kernel
theorem dX8_best_111 : decode cX8_best 111 = .ok (.ireturn, 1) := by decide +kernel
theorem dX8_take_0 : decode cX8_take 0 = .ok (.aload_n 0, 1) := by decide +kernel
theorem dX8_take_1 : decode cX8_take 1 = .ok (.getfield 41, 3) := by decide +kernel
theorem dX8_take_4 : decode cX8_take 4 = .ok (.iload_n 1, 1) := by decide +kernel
theorem dX8_take_5 : decode cX8_take 5 = .ok (.aload_n 0, 1) := by decide +kernel
theorem dX8_take_6 : decode cX8_take 6 = .ok (.getfield 37, 3) := by decide +kernel
theorem dX8_take_9 : decode cX8_take 9 = .ok (.iload_n 1, 1) := by decide +kernel
theorem dX8_take_10 : decode cX8_take 10 = .ok (.baload, 1) := by decide +kernel
theorem dX8_take_11 : decode cX8_take 11 = .ok (.bastore, 1) := by decide +kernel
theorem dX8_take_12 : decode cX8_take 12 = .ok (.iconst 0, 1) := by decide +kernel
theorem dX8_take_13 : decode cX8_take 13 = .ok (.istore_n 2, 1) := by decide +kernel
theorem dX8_take_14 : decode cX8_take 14 = .ok (.iload_n 2, 1) := by decide +kernel
theorem dX8_take_15 : decode cX8_take 15 = .ok (.bipush 10, 2) := by decide +kernel
theorem dX8_take_17 : decode cX8_take 17 = .ok (.if_icmp .ge 44, 3) := by decide +kernel
theorem dX8_take_20 : decode cX8_take 20 = .ok (.aload_n 0, 1) := by decide +kernel
theorem dX8_take_21 : decode cX8_take 21 = .ok (.getfield 47, 3) := by decide +kernel
theorem dX8_take_24 : decode cX8_take 24 = .ok (.bipush 10, 2) := by decide +kernel
theorem dX8_take_26 : decode cX8_take 26 = .ok (.iload_n 1, 1) := by decide +kernel
theorem dX8_take_27 : decode cX8_take 27 = .ok (.imul, 1) := by decide +kernel
theorem dX8_take_28 : decode cX8_take 28 = .ok (.iload_n 2, 1) := by decide +kernel
theorem dX8_take_29 : decode cX8_take 29 = .ok (.iadd, 1) := by decide +kernel
theorem dX8_take_30 : decode cX8_take 30 = .ok (.aload_n 0, 1) := by decide +kernel
theorem dX8_take_31 : decode cX8_take 31 = .ok (.getfield 44, 3) := by decide +kernel
theorem dX8_take_34 : decode cX8_take 34 = .ok (.bipush 10, 2) := by decide +kernel
theorem dX8_take_36 : decode cX8_take 36 = .ok (.iload_n 1, 1) := by decide +kernel
theorem dX8_take_37 : decode cX8_take 37 = .ok (.imul, 1) := by decide +kernel
theorem dX8_take_38 : decode cX8_take 38 = .ok (.iload_n 2, 1) := by decide +kernel
theorem dX8_take_39 : decode cX8_take 39 = .ok (.iadd, 1) := by decide +kernel
theorem dX8_take_40 : decode cX8_take 40 = .ok (.iaload, 1) := by decide +kernel
theorem dX8_take_41 : decode cX8_take 41 = .ok (.iastore, 1) := by decide +kernel
theorem dX8_take_42 : decode cX8_take 42 = .ok (.aload_n 0, 1) := by decide +kernel
theorem dX8_take_43 : decode cX8_take 43 = .ok (.getfield 44, 3) := by decide +kernel
theorem dX8_take_46 : decode cX8_take 46 = .ok (.bipush 10, 2) := by decide +kernel
theorem dX8_take_48 : decode cX8_take 48 = .ok (.iload_n 1, 1) := by decide +kernel
theorem dX8_take_49 : decode cX8_take 49 = .ok (.imul, 1) := by decide +kernel
theorem dX8_take_50 : decode cX8_take 50 = .ok (.iload_n 2, 1) := by decide +kernel
theorem dX8_take_51 : decode cX8_take 51 = .ok (.iadd, 1) := by decide +kernel
theorem dX8_take_52 : decode cX8_take 52 = .ok (.bipush (-9), 2) := by decide +kernel
theorem dX8_take_54 : decode cX8_take 54 = .ok (.iastore, 1) := by decide +kernel
theorem dX8_take_55 : decode cX8_take 55 = .ok (.iinc 2 1, 3) := by decide +kernel
theorem dX8_take_58 : decode cX8_take 58 = .ok (.goto (-44), 3) := by decide +kernel
theorem dX8_take_61 : decode cX8_take 61 = .ok (.iconst 0, 1) := by decide +kernel
theorem dX8_take_62 : decode cX8_take 62 = .ok (.istore_n 2, 1) := by decide +kernel
theorem dX8_take_63 : decode cX8_take 63 = .ok (.iload_n 2, 1) := by decide +kernel
theorem dX8_take_64 : decode cX8_take 64 = .ok (.aload_n 0, 1) := by decide +kernel
theorem dX8_take_65 : decode cX8_take 65 = .ok (.getfield 198, 3) := by decide +kernel
theorem dX8_take_68 : decode cX8_take 68 = .ok (.if_icmp .ge 31, 3) := by decide +kernel
theorem dX8_take_71 : decode cX8_take 71 = .ok (.aload_n 0, 1) := by decide +kernel
theorem dX8_take_72 : decode cX8_take 72 = .ok (.getfield 44, 3) := by decide +kernel
theorem dX8_take_75 : decode cX8_take 75 = .ok (.bipush 10, 2) := by decide +kernel
theorem dX8_take_77 : decode cX8_take 77 = .ok (.iload_n 1, 1) := by decide +kernel
theorem dX8_take_78 : decode cX8_take 78 = .ok (.imul, 1) := by decide +kernel
theorem dX8_take_79 : decode cX8_take 79 = .ok (.aload_n 0, 1) := by decide +kernel
theorem dX8_take_80 : decode cX8_take 80 = .ok (.getfield 50, 3) := by decide +kernel
theorem dX8_take_83 : decode cX8_take 83 = .ok (.iload_n 2, 1) := by decide +kernel
theorem dX8_take_84 : decode cX8_take 84 = .ok (.iaload, 1) := by decide +kernel
theorem dX8_take_85 : decode cX8_take 85 = .ok (.iadd, 1) := by decide +kernel
theorem dX8_take_86 : decode cX8_take 86 = .ok (.aload_n 0, 1) := by decide +kernel
theorem dX8_take_87 : decode cX8_take 87 = .ok (.getfield 56, 3) := by decide +kernel
theorem dX8_take_90 : decode cX8_take 90 = .ok (.iload_n 2, 1) := by decide +kernel
theorem dX8_take_91 : decode cX8_take 91 = .ok (.iaload, 1) := by decide +kernel
theorem dX8_take_92 : decode cX8_take 92 = .ok (.iastore, 1) := by decide +kernel
theorem dX8_take_93 : decode cX8_take 93 = .ok (.iinc 2 1, 3) := by decide +kernel
theorem dX8_take_96 : decode cX8_take 96 = .ok (.goto (-33), 3) := by decide +kernel
theorem dX8_take_99 : decode cX8_take 99 = .ok (.aload_n 0, 1) := by decide +kernel
theorem dX8_take_100 : decode cX8_take 100 = .ok (.getfield 37, 3) := by decide +kernel
theorem dX8_take_103 : decode cX8_take 103 = .ok (.iload_n 1, 1) := by decide +kernel
theorem dX8_take_104 : decode cX8_take 104 = .ok (.iconst 1, 1) := by decide +kernel
theorem dX8_take_105 : decode cX8_take 105 = .ok (.bastore, 1) := by decide +kernel
theorem dX8_take_106 : decode cX8_take 106 = .ok (.aload_n 0, 1) := by decide +kernel
theorem dX8_take_107 : decode cX8_take 107 = .ok (.getfield 68, 3) := by decide +kernel
theorem dX8_take_110 : decode cX8_take 110 = .ok (.iload_n 1, 1) := by decide +kernel
theorem dX8_take_111 : decode cX8_take 111 = .ok (.bipush (-9), 2) := by decide +kernel
theorem dX8_take_113 : decode cX8_take 113 = .ok (.iastore, 1) := by decide +kernel
theorem dX8_take_114 : decode cX8_take 114 = .ok (.return_, 1) := by decide +kernel
theorem dX8_lay_0 : decode cX8_lay 0 = .ok (.aload_n 0, 1) := by decide +kernel
theorem dX8_lay_1 : decode cX8_lay 1 = .ok (.iload_n 1, 1) := by decide +kernel
theorem dX8_lay_2 : decode cX8_lay 2 = .ok (.invokevirtual 175, 3) := by decide +kernel
theorem dX8_lay_5 : decode cX8_lay 5 = .ok (.ifCond .eq 5, 3) := by decide +kernel
theorem dX8_lay_8 : decode cX8_lay 8 = .ok (.iconst (-1), 1) := by decide +kernel
theorem dX8_lay_9 : decode cX8_lay 9 = .ok (.ireturn, 1) := by decide +kernel
theorem dX8_lay_10 : decode cX8_lay 10 = .ok (.aload_n 0, 1) := by decide +kernel
theorem dX8_lay_11 : decode cX8_lay 11 = .ok (.iload_n 2, 1) := by decide +kernel
theorem dX8_lay_12 : decode cX8_lay 12 = .ok (.invokevirtual 223, 3) := by decide +kernel
theorem dX8_lay_15 : decode cX8_lay 15 = .ok (.ifCond .ne 6, 3) := by decide +kernel
theorem dX8_lay_18 : decode cX8_lay 18 = .ok (.bipush (-2), 2) := by decide +kernel
theorem dX8_lay_20 : decode cX8_lay 20 = .ok (.ireturn, 1) := by decide +kernel
theorem dX8_lay_21 : decode cX8_lay 21 = .ok (.aload_n 0, 1) := by decide +kernel
theorem dX8_lay_22 : decode cX8_lay 22 = .ok (.iload_n 1, 1) := by decide +kernel
theorem dX8_lay_23 : decode cX8_lay 23 = .ok (.iload_n 2, 1) := by decide +kernel
theorem dX8_lay_24 : decode cX8_lay 24 = .ok (.invokevirtual 226, 3) := by decide +kernel
theorem dX8_lay_27 : decode cX8_lay 27 = .ok (.ifCond .ne 6, 3) := by decide +kernel
theorem dX8_lay_30 : decode cX8_lay 30 = .ok (.bipush (-9), 2) := by decide +kernel
theorem dX8_lay_32 : decode cX8_lay 32 = .ok (.ireturn, 1) := by decide +kernel
theorem dX8_lay_33 : decode cX8_lay 33 = .ok (.aload_n 0, 1) := by decide +kernel
theorem dX8_lay_34 : decode cX8_lay 34 = .ok (.iload_n 1, 1) := by decide +kernel
theorem dX8_lay_35 : decode cX8_lay 35 = .ok (.invokevirtual 229, 3) := by decide +kernel
theorem dX8_lay_38 : decode cX8_lay 38 = .ok (.aload_n 0, 1) := by decide +kernel
theorem dX8_lay_39 : decode cX8_lay 39 = .ok (.getfield 204, 3) := by decide +kernel
theorem dX8_lay_42 : decode cX8_lay 42 = .ok (.ireturn, 1) := by decide +kernel
theorem dX8_setOf_0 : decode cX8_setOf 0 = .ok (.iconst 0, 1) := by decide +kernel
theorem dX8_setOf_1 : decode cX8_setOf 1 = .ok (.istore_n 2, 1) := by decide +kernel
theorem dX8_setOf_2 : decode cX8_setOf 2 = .ok (.iconst 0, 1) := by decide +kernel
theorem dX8_setOf_3 : decode cX8_setOf 3 = .ok (.istore_n 3, 1) := by decide +kernel
theorem dX8_setOf_4 : decode cX8_setOf 4 = .ok (.iload_n 3, 1) := by decide +kernel
theorem dX8_setOf_5 : decode cX8_setOf 5 = .ok (.bipush 10, 2) := by decide +kernel
theorem dX8_setOf_7 : decode cX8_setOf 7 = .ok (.if_icmp .ge 33, 3) := by decide +kernel
theorem dX8_setOf_10 : decode cX8_setOf 10 = .ok (.iload_n 2, 1) := by decide +kernel
theorem dX8_setOf_11 : decode cX8_setOf 11 = .ok (.aload_n 0, 1) := by decide +kernel
theorem dX8_setOf_12 : decode cX8_setOf 12 = .ok (.getfield 44, 3) := by decide +kernel
theorem dX8_setOf_15 : decode cX8_setOf 15 = .ok (.bipush 10, 2) := by decide +kernel
theorem dX8_setOf_17 : decode cX8_setOf 17 = .ok (.iload_n 1, 1) := by decide +kernel
theorem dX8_setOf_18 : decode cX8_setOf 18 = .ok (.imul, 1) := by decide +kernel
theorem dX8_setOf_19 : decode cX8_setOf 19 = .ok (.iload_n 3, 1) := by decide +kernel
theorem dX8_setOf_20 : decode cX8_setOf 20 = .ok (.iadd, 1) := by decide +kernel
theorem dX8_setOf_21 : decode cX8_setOf 21 = .ok (.iaload, 1) := by decide +kernel
theorem dX8_setOf_22 : decode cX8_setOf 22 = .ok (.ifCond .ge 7, 3) := by decide +kernel
theorem dX8_setOf_25 : decode cX8_setOf 25 = .ok (.iconst 0, 1) := by decide +kernel
theorem dX8_setOf_26 : decode cX8_setOf 26 = .ok (.goto 6, 3) := by decide +kernel
theorem dX8_setOf_29 : decode cX8_setOf 29 = .ok (.iconst 1, 1) := by decide +kernel
theorem dX8_setOf_30 : decode cX8_setOf 30 = .ok (.iload_n 3, 1) := by decide +kernel
theorem dX8_setOf_31 : decode cX8_setOf 31 = .ok (.ishl, 1) := by decide +kernel
theorem dX8_setOf_32 : decode cX8_setOf 32 = .ok (.ior, 1) := by decide +kernel
theorem dX8_setOf_33 : decode cX8_setOf 33 = .ok (.istore_n 2, 1) := by decide +kernel
theorem dX8_setOf_34 : decode cX8_setOf 34 = .ok (.iinc 3 1, 3) := by decide +kernel
theorem dX8_setOf_37 : decode cX8_setOf 37 = .ok (.goto (-33), 3) := by decide +kernel
theorem dX8_setOf_40 : decode cX8_setOf 40 = .ok (.iload_n 2, 1) := by decide +kernel
theorem dX8_setOf_41 : decode cX8_setOf 41 = .ok (.ireturn, 1) := by decide +kernel
theorem dX8_priceOf_0 : decode cX8_priceOf 0 = .ok (.iconst 0, 1) := by decide +kernel
theorem dX8_priceOf_1 : decode cX8_priceOf 1 = .ok (.istore_n 2, 1) := by decide +kernel
theorem dX8_priceOf_2 : decode cX8_priceOf 2 = .ok (.iconst 0, 1) := by decide +kernel
theorem dX8_priceOf_3 : decode cX8_priceOf 3 = .ok (.istore_n 3, 1) := by decide +kernel
theorem dX8_priceOf_4 : decode cX8_priceOf 4 = .ok (.iload_n 3, 1) := by decide +kernel
theorem dX8_priceOf_5 : decode cX8_priceOf 5 = .ok (.aload_n 0, 1) := by decide +kernel
theorem dX8_priceOf_6 : decode cX8_priceOf 6 = .ok (.getfield 143, 3) := by decide +kernel
theorem dX8_priceOf_9 : decode cX8_priceOf 9 = .ok (.if_icmp .ge 91, 3) := by decide +kernel
theorem dX8_priceOf_12 : decode cX8_priceOf 12 = .ok (.iconst 0, 1) := by decide +kernel
theorem dX8_priceOf_13 : decode cX8_priceOf 13 = .ok (.istore 4, 2) := by decide +kernel
theorem dX8_priceOf_15 : decode cX8_priceOf 15 = .ok (.iload 4, 2) := by decide +kernel
theorem dX8_priceOf_17 : decode cX8_priceOf 17 = .ok (.iload_n 3, 1) := by decide +kernel
theorem dX8_priceOf_18 : decode cX8_priceOf 18 = .ok (.if_icmp .ge 76, 3) := by decide +kernel
theorem dX8_priceOf_21 : decode cX8_priceOf 21 = .ok (.aload_n 0, 1) := by decide +kernel
theorem dX8_priceOf_22 : decode cX8_priceOf 22 = .ok (.getfield 44, 3) := by decide +kernel
theorem dX8_priceOf_25 : decode cX8_priceOf 25 = .ok (.bipush 10, 2) := by decide +kernel
theorem dX8_priceOf_27 : decode cX8_priceOf 27 = .ok (.iload_n 1, 1) := by decide +kernel
theorem dX8_priceOf_28 : decode cX8_priceOf 28 = .ok (.imul, 1) := by decide +kernel
theorem dX8_priceOf_29 : decode cX8_priceOf 29 = .ok (.iload_n 3, 1) := by decide +kernel
theorem dX8_priceOf_30 : decode cX8_priceOf 30 = .ok (.iadd, 1) := by decide +kernel
theorem dX8_priceOf_31 : decode cX8_priceOf 31 = .ok (.iaload, 1) := by decide +kernel
theorem dX8_priceOf_32 : decode cX8_priceOf 32 = .ok (.istore 5, 2) := by decide +kernel
theorem dX8_priceOf_34 : decode cX8_priceOf 34 = .ok (.aload_n 0, 1) := by decide +kernel
theorem dX8_priceOf_35 : decode cX8_priceOf 35 = .ok (.getfield 44, 3) := by decide +kernel
theorem dX8_priceOf_38 : decode cX8_priceOf 38 = .ok (.bipush 10, 2) := by decide +kernel
theorem dX8_priceOf_40 : decode cX8_priceOf 40 = .ok (.iload_n 1, 1) := by decide +kernel
theorem dX8_priceOf_41 : decode cX8_priceOf 41 = .ok (.imul, 1) := by decide +kernel
theorem dX8_priceOf_42 : decode cX8_priceOf 42 = .ok (.iload 4, 2) := by decide +kernel
theorem dX8_priceOf_44 : decode cX8_priceOf 44 = .ok (.iadd, 1) := by decide +kernel
theorem dX8_priceOf_45 : decode cX8_priceOf 45 = .ok (.iaload, 1) := by decide +kernel
theorem dX8_priceOf_46 : decode cX8_priceOf 46 = .ok (.istore 6, 2) := by decide +kernel
theorem dX8_priceOf_48 : decode cX8_priceOf 48 = .ok (.iload_n 2, 1) := by decide +kernel
theorem dX8_priceOf_49 : decode cX8_priceOf 49 = .ok (.iload 5, 2) := by decide +kernel
theorem dX8_priceOf_51 : decode cX8_priceOf 51 = .ok (.ifCond .lt 8, 3) := by decide +kernel
theorem dX8_priceOf_54 : decode cX8_priceOf 54 = .ok (.iload 6, 2) := by decide +kernel
theorem dX8_priceOf_56 : decode cX8_priceOf 56 = .ok (.ifCond .ge 7, 3) := by decide +kernel
theorem dX8_priceOf_59 : decode cX8_priceOf 59 = .ok (.iconst 0, 1) := by decide +kernel
theorem dX8_priceOf_60 : decode cX8_priceOf 60 = .ok (.goto 26, 3) := by decide +kernel
theorem dX8_priceOf_63 : decode cX8_priceOf 63 = .ok (.aload_n 0, 1) := by decide +kernel
theorem dX8_priceOf_64 : decode cX8_priceOf 64 = .ok (.iload_n 3, 1) := by decide +kernel
theorem dX8_priceOf_65 : decode cX8_priceOf 65 = .ok (.iload 4, 2) := by decide +kernel
theorem dX8_priceOf_67 : decode cX8_priceOf 67 = .ok (.invokevirtual 201, 3) := by decide +kernel
theorem dX8_priceOf_70 : decode cX8_priceOf 70 = .ok (.iload 5, 2) := by decide +kernel
theorem dX8_priceOf_72 : decode cX8_priceOf 72 = .ok (.iload 6, 2) := by decide +kernel
theorem dX8_priceOf_74 : decode cX8_priceOf 74 = .ok (.invokestatic 189, 3) := by decide +kernel
theorem dX8_priceOf_77 : decode cX8_priceOf 77 = .ok (.iload 5, 2) := by decide +kernel
theorem dX8_priceOf_79 : decode cX8_priceOf 79 = .ok (.iload 6, 2) := by decide +kernel
theorem dX8_priceOf_81 : decode cX8_priceOf 81 = .ok (.invokestatic 192, 3) := by decide +kernel
theorem dX8_priceOf_84 : decode cX8_priceOf 84 = .ok (.iadd, 1) := by decide +kernel
theorem dX8_priceOf_85 : decode cX8_priceOf 85 = .ok (.imul, 1) := by decide +kernel
theorem dX8_priceOf_86 : decode cX8_priceOf 86 = .ok (.iadd, 1) := by decide +kernel
theorem dX8_priceOf_87 : decode cX8_priceOf 87 = .ok (.istore_n 2, 1) := by decide +kernel
theorem dX8_priceOf_88 : decode cX8_priceOf 88 = .ok (.iinc 4 1, 3) := by decide +kernel
theorem dX8_priceOf_91 : decode cX8_priceOf 91 = .ok (.goto (-76), 3) := by decide +kernel
theorem dX8_priceOf_94 : decode cX8_priceOf 94 = .ok (.iinc 3 1, 3) := by decide +kernel
theorem dX8_priceOf_97 : decode cX8_priceOf 97 = .ok (.goto (-93), 3) := by decide +kernel
theorem dX8_priceOf_100 : decode cX8_priceOf 100 = .ok (.iload_n 2, 1) := by decide +kernel
theorem dX8_priceOf_101 : decode cX8_priceOf 101 = .ok (.ireturn, 1) := by decide +kernel
theorem dX8_offer_0 : decode cX8_offer 0 = .ok (.aload_n 0, 1) := by decide +kernel
theorem dX8_offer_1 : decode cX8_offer 1 = .ok (.iload_n 1, 1) := by decide +kernel
theorem dX8_offer_2 : decode cX8_offer 2 = .ok (.invokevirtual 175, 3) := by decide +kernel
theorem dX8_offer_5 : decode cX8_offer 5 = .ok (.ifCond .eq 5, 3) := by decide +kernel
theorem dX8_offer_8 : decode cX8_offer 8 = .ok (.iconst (-1), 1) := by decide +kernel
theorem dX8_offer_9 : decode cX8_offer 9 = .ok (.ireturn, 1) := by decide +kernel
theorem dX8_offer_10 : decode cX8_offer 10 = .ok (.iload_n 2, 1) := by decide +kernel
theorem dX8_offer_11 : decode cX8_offer 11 = .ok (.i2l, 1) := by decide +kernel
theorem dX8_offer_12 : decode cX8_offer 12 = .ok (.lconst 0, 1) := by decide +kernel
theorem dX8_offer_13 : decode cX8_offer 13 = .ok (.ldc2_w 233, 3) := by decide +kernel
theorem dX8_offer_16 : decode cX8_offer 16 = .ok (.invokestatic 128, 3) := by decide +kernel
theorem dX8_offer_19 : decode cX8_offer 19 = .ok (.ifCond .ne 6, 3) := by decide +kernel
theorem dX8_offer_22 : decode cX8_offer 22 = .ok (.bipush (-2), 2) := by decide +kernel
theorem dX8_offer_24 : decode cX8_offer 24 = .ok (.ireturn, 1) := by decide +kernel
theorem dX8_offer_25 : decode cX8_offer 25 = .ok (.aload_n 0, 1) := by decide +kernel
theorem dX8_offer_26 : decode cX8_offer 26 = .ok (.getfield 37, 3) := by decide +kernel
theorem dX8_offer_29 : decode cX8_offer 29 = .ok (.iload_n 1, 1) := by decide +kernel
theorem dX8_offer_30 : decode cX8_offer 30 = .ok (.baload, 1) := by decide +kernel
theorem dX8_offer_31 : decode cX8_offer 31 = .ok (.ifCond .ne 6, 3) := by decide +kernel
theorem dX8_offer_34 : decode cX8_offer 34 = .ok (.bipush (-3), 2) := by decide +kernel
theorem dX8_offer_36 : decode cX8_offer 36 = .ok (.ireturn, 1) := by decide +kernel
theorem dX8_offer_37 : decode cX8_offer 37 = .ok (.aload_n 0, 1) := by decide +kernel
theorem dX8_offer_38 : decode cX8_offer 38 = .ok (.iload_n 1, 1) := by decide +kernel
theorem dX8_offer_39 : decode cX8_offer 39 = .ok (.aload_n 0, 1) := by decide +kernel
theorem dX8_offer_40 : decode cX8_offer 40 = .ok (.iload_n 1, 1) := by decide +kernel
theorem dX8_offer_41 : decode cX8_offer 41 = .ok (.invokevirtual 235, 3) := by decide +kernel
theorem dX8_offer_44 : decode cX8_offer 44 = .ok (.invokevirtual 226, 3) := by decide +kernel
theorem dX8_offer_47 : decode cX8_offer 47 = .ok (.ifCond .ne 6, 3) := by decide +kernel
theorem dX8_offer_50 : decode cX8_offer 50 = .ok (.bipush (-9), 2) := by decide +kernel
theorem dX8_offer_52 : decode cX8_offer 52 = .ok (.ireturn, 1) := by decide +kernel
theorem dX8_offer_53 : decode cX8_offer 53 = .ok (.aload_n 0, 1) := by decide +kernel
theorem dX8_offer_54 : decode cX8_offer 54 = .ok (.iload_n 1, 1) := by decide +kernel
theorem dX8_offer_55 : decode cX8_offer 55 = .ok (.invokevirtual 238, 3) := by decide +kernel
theorem dX8_offer_58 : decode cX8_offer 58 = .ok (.aload_n 0, 1) := by decide +kernel
theorem dX8_offer_59 : decode cX8_offer 59 = .ok (.getfield 204, 3) := by decide +kernel
theorem dX8_offer_62 : decode cX8_offer 62 = .ok (.isub, 1) := by decide +kernel
theorem dX8_offer_63 : decode cX8_offer 63 = .ok (.iload_n 2, 1) := by decide +kernel
theorem dX8_offer_64 : decode cX8_offer 64 = .ok (.if_icmp .ge 5, 3) := by decide +kernel
theorem dX8_offer_67 : decode cX8_offer 67 = .ok (.iconst 0, 1) := by decide +kernel
theorem dX8_offer_68 : decode cX8_offer 68 = .ok (.ireturn, 1) := by decide +kernel
theorem dX8_offer_69 : decode cX8_offer 69 = .ok (.aload_n 0, 1) := by decide +kernel
theorem dX8_offer_70 : decode cX8_offer 70 = .ok (.iload_n 1, 1) := by decide +kernel
theorem dX8_offer_71 : decode cX8_offer 71 = .ok (.invokevirtual 229, 3) := by decide +kernel
theorem dX8_offer_74 : decode cX8_offer 74 = .ok (.iconst 1, 1) := by decide +kernel
theorem dX8_offer_75 : decode cX8_offer 75 = .ok (.ireturn, 1) := by decide +kernel
theorem dX8_back_0 : decode cX8_back 0 = .ok (.aload_n 0, 1) := by decide +kernel
theorem dX8_back_1 : decode cX8_back 1 = .ok (.iload_n 1, 1) := by decide +kernel
theorem dX8_back_2 : decode cX8_back 2 = .ok (.invokevirtual 175, 3) := by decide +kernel
theorem dX8_back_5 : decode cX8_back 5 = .ok (.ifCond .eq 5, 3) := by decide +kernel
theorem dX8_back_8 : decode cX8_back 8 = .ok (.iconst (-1), 1) := by decide +kernel
theorem dX8_back_9 : decode cX8_back 9 = .ok (.ireturn, 1) := by decide +kernel
theorem dX8_back_10 : decode cX8_back 10 = .ok (.aload_n 0, 1) := by decide +kernel
theorem dX8_back_11 : decode cX8_back 11 = .ok (.getfield 41, 3) := by decide +kernel
theorem dX8_back_14 : decode cX8_back 14 = .ok (.iload_n 1, 1) := by decide +kernel
theorem dX8_back_15 : decode cX8_back 15 = .ok (.baload, 1) := by decide +kernel
theorem dX8_back_16 : decode cX8_back 16 = .ok (.ifCond .ne 6, 3) := by decide +kernel
theorem dX8_back_19 : decode cX8_back 19 = .ok (.bipush (-3), 2) := by decide +kernel
theorem dX8_back_21 : decode cX8_back 21 = .ok (.ireturn, 1) := by decide +kernel
theorem dX8_back_22 : decode cX8_back 22 = .ok (.iconst 0, 1) := by decide +kernel
theorem dX8_back_23 : decode cX8_back 23 = .ok (.istore_n 2, 1) := by decide +kernel
theorem dX8_back_24 : decode cX8_back 24 = .ok (.iload_n 2, 1) := by decide +kernel
theorem dX8_back_25 : decode cX8_back 25 = .ok (.bipush 10, 2) := by decide +kernel
theorem dX8_back_27 : decode cX8_back 27 = .ok (.if_icmp .ge 55, 3) := by decide +kernel
theorem dX8_back_30 : decode cX8_back 30 = .ok (.aload_n 0, 1) := by decide +kernel
theorem dX8_back_31 : decode cX8_back 31 = .ok (.getfield 44, 3) := by decide +kernel
theorem dX8_back_34 : decode cX8_back 34 = .ok (.bipush 10, 2) := by decide +kernel
theorem dX8_back_36 : decode cX8_back 36 = .ok (.iload_n 1, 1) := by decide +kernel
theorem dX8_back_37 : decode cX8_back 37 = .ok (.imul, 1) := by decide +kernel
theorem dX8_back_38 : decode cX8_back 38 = .ok (.iload_n 2, 1) := by decide +kernel
theorem dX8_back_39 : decode cX8_back 39 = .ok (.iadd, 1) := by decide +kernel
theorem dX8_back_40 : decode cX8_back 40 = .ok (.iaload, 1) := by decide +kernel
theorem dX8_back_41 : decode cX8_back 41 = .ok (.istore_n 3, 1) := by decide +kernel
theorem dX8_back_42 : decode cX8_back 42 = .ok (.aload_n 0, 1) := by decide +kernel
theorem dX8_back_43 : decode cX8_back 43 = .ok (.getfield 44, 3) := by decide +kernel
theorem dX8_back_46 : decode cX8_back 46 = .ok (.bipush 10, 2) := by decide +kernel
theorem dX8_back_48 : decode cX8_back 48 = .ok (.iload_n 1, 1) := by decide +kernel
theorem dX8_back_49 : decode cX8_back 49 = .ok (.imul, 1) := by decide +kernel
theorem dX8_back_50 : decode cX8_back 50 = .ok (.iload_n 2, 1) := by decide +kernel
theorem dX8_back_51 : decode cX8_back 51 = .ok (.iadd, 1) := by decide +kernel
theorem dX8_back_52 : decode cX8_back 52 = .ok (.aload_n 0, 1) := by decide +kernel
theorem dX8_back_53 : decode cX8_back 53 = .ok (.getfield 47, 3) := by decide +kernel
theorem dX8_back_56 : decode cX8_back 56 = .ok (.bipush 10, 2) := by decide +kernel
theorem dX8_back_58 : decode cX8_back 58 = .ok (.iload_n 1, 1) := by decide +kernel
theorem dX8_back_59 : decode cX8_back 59 = .ok (.imul, 1) := by decide +kernel
theorem dX8_back_60 : decode cX8_back 60 = .ok (.iload_n 2, 1) := by decide +kernel
theorem dX8_back_61 : decode cX8_back 61 = .ok (.iadd, 1) := by decide +kernel
theorem dX8_back_62 : decode cX8_back 62 = .ok (.iaload, 1) := by decide +kernel
theorem dX8_back_63 : decode cX8_back 63 = .ok (.iastore, 1) := by decide +kernel
theorem dX8_back_64 : decode cX8_back 64 = .ok (.aload_n 0, 1) := by decide +kernel
theorem dX8_back_65 : decode cX8_back 65 = .ok (.getfield 47, 3) := by decide +kernel
theorem dX8_back_68 : decode cX8_back 68 = .ok (.bipush 10, 2) := by decide +kernel
theorem dX8_back_70 : decode cX8_back 70 = .ok (.iload_n 1, 1) := by decide +kernel
theorem dX8_back_71 : decode cX8_back 71 = .ok (.imul, 1) := by decide +kernel
theorem dX8_back_72 : decode cX8_back 72 = .ok (.iload_n 2, 1) := by decide +kernel
theorem dX8_back_73 : decode cX8_back 73 = .ok (.iadd, 1) := by decide +kernel
theorem dX8_back_74 : decode cX8_back 74 = .ok (.iload_n 3, 1) := by decide +kernel
theorem dX8_back_75 : decode cX8_back 75 = .ok (.iastore, 1) := by decide +kernel
theorem dX8_back_76 : decode cX8_back 76 = .ok (.iinc 2 1, 3) := by decide +kernel
theorem dX8_back_79 : decode cX8_back 79 = .ok (.goto (-55), 3) := by decide +kernel
theorem dX8_back_82 : decode cX8_back 82 = .ok (.aload_n 0, 1) := by decide +kernel
theorem dX8_back_83 : decode cX8_back 83 = .ok (.getfield 68, 3) := by decide +kernel
theorem dX8_back_86 : decode cX8_back 86 = .ok (.iload_n 1, 1) := by decide +kernel
theorem dX8_back_87 : decode cX8_back 87 = .ok (.bipush (-9), 2) := by decide +kernel
theorem dX8_back_89 : decode cX8_back 89 = .ok (.iastore, 1) := by decide +kernel
theorem dX8_back_90 : decode cX8_back 90 = .ok (.iconst 1, 1) := by decide +kernel
theorem dX8_back_91 : decode cX8_back 91 = .ok (.ireturn, 1) := by decide +kernel
theorem dX8_partIn_0 : decode cX8_partIn 0 = .ok (.iconst 0, 1) := by decide +kernel
theorem dX8_partIn_1 : decode cX8_partIn 1 = .ok (.istore_n 3, 1) := by decide +kernel
theorem dX8_partIn_2 : decode cX8_partIn 2 = .ok (.iload_n 3, 1) := by decide +kernel
theorem dX8_partIn_3 : decode cX8_partIn 3 = .ok (.aload_n 0, 1) := by decide +kernel
theorem dX8_partIn_4 : decode cX8_partIn 4 = .ok (.getfield 143, 3) := by decide +kernel
theorem dX8_partIn_7 : decode cX8_partIn 7 = .ok (.if_icmp .ge 26, 3) := by decide +kernel
theorem dX8_partIn_10 : decode cX8_partIn 10 = .ok (.aload_n 0, 1) := by decide +kernel
theorem dX8_partIn_11 : decode cX8_partIn 11 = .ok (.getfield 44, 3) := by decide +kernel
theorem dX8_partIn_14 : decode cX8_partIn 14 = .ok (.bipush 10, 2) := by decide +kernel
theorem dX8_partIn_16 : decode cX8_partIn 16 = .ok (.iload_n 1, 1) := by decide +kernel
theorem dX8_partIn_17 : decode cX8_partIn 17 = .ok (.imul, 1) := by decide +kernel
theorem dX8_partIn_18 : decode cX8_partIn 18 = .ok (.iload_n 3, 1) := by decide +kernel
theorem dX8_partIn_19 : decode cX8_partIn 19 = .ok (.iadd, 1) := by decide +kernel
theorem dX8_partIn_20 : decode cX8_partIn 20 = .ok (.iaload, 1) := by decide +kernel
theorem dX8_partIn_21 : decode cX8_partIn 21 = .ok (.iload_n 2, 1) := by decide +kernel
theorem dX8_partIn_22 : decode cX8_partIn 22 = .ok (.if_icmp .ne 5, 3) := by decide +kernel
theorem dX8_partIn_25 : decode cX8_partIn 25 = .ok (.iload_n 3, 1) := by decide +kernel
theorem dX8_partIn_26 : decode cX8_partIn 26 = .ok (.ireturn, 1) := by decide +kernel
theorem dX8_partIn_27 : decode cX8_partIn 27 = .ok (.iinc 3 1, 3) := by decide +kernel
theorem dX8_partIn_30 : decode cX8_partIn 30 = .ok (.goto (-28), 3) := by decide +kernel
theorem dX8_partIn_33 : decode cX8_partIn 33 = .ok (.bipush (-9), 2) := by decide +kernel
theorem dX8_partIn_35 : decode cX8_partIn 35 = .ok (.ireturn, 1) := by decide +kernel
theorem dX8_isPlace_0 : decode cX8_isPlace 0 = .ok (.iload_n 0, 1) := by decide +kernel
theorem dX8_isPlace_1 : decode cX8_isPlace 1 = .ok (.i2l, 1) := by decide +kernel
theorem dX8_isPlace_2 : decode cX8_isPlace 2 = .ok (.lconst 0, 1) := by decide +kernel
theorem dX8_isPlace_3 : decode cX8_isPlace 3 = .ok (.ldc2_w 241, 3) := by decide +kernel
theorem dX8_isPlace_6 : decode cX8_isPlace 6 = .ok (.invokestatic 128, 3) := by decide +kernel
theorem dX8_isPlace_9 : decode cX8_isPlace 9 = .ok (.ireturn, 1) := by decide +kernel
theorem dX8_at_0 : decode cX8_at 0 = .ok (.aload_n 0, 1) := by decide +kernel
theorem dX8_at_1 : decode cX8_at 1 = .ok (.iload_n 1, 1) := by decide +kernel
theorem dX8_at_2 : decode cX8_at 2 = .ok (.invokevirtual 175, 3) := by decide +kernel
theorem dX8_at_5 : decode cX8_at 5 = .ok (.ifCond .ne 10, 3) := by decide +kernel
theorem dX8_at_8 : decode cX8_at 8 = .ok (.iload_n 2, 1) := by decide +kernel
theorem dX8_at_9 : decode cX8_at 9 = .ok (.invokestatic 243, 3) := by decide +kernel
theorem dX8_at_12 : decode cX8_at 12 = .ok (.ifCond .ne 7, 3) := by decide +kernel
theorem dX8_at_15 : decode cX8_at 15 = .ok (.iconst (-1), 1) := by decide +kernel
theorem dX8_at_16 : decode cX8_at 16 = .ok (.goto 9, 3) := by decide +kernel
theorem dX8_at_19 : decode cX8_at 19 = .ok (.aload_n 0, 1) := by decide +kernel
theorem dX8_at_20 : decode cX8_at 20 = .ok (.iload_n 1, 1) := by decide +kernel
theorem dX8_at_21 : decode cX8_at 21 = .ok (.iload_n 2, 1) := by decide +kernel
theorem dX8_at_22 : decode cX8_at 22 = .ok (.invokevirtual 246, 3) := by decide +kernel
theorem dX8_at_25 : decode cX8_at 25 = .ok (.ireturn, 1) := by decide +kernel
theorem dX8_price_0 : decode cX8_price 0 = .ok (.aload_n 0, 1) := by decide +kernel
theorem dX8_price_1 : decode cX8_price 1 = .ok (.iload_n 1, 1) := by decide +kernel
theorem dX8_price_2 : decode cX8_price 2 = .ok (.invokevirtual 175, 3) := by decide +kernel
theorem dX8_price_5 : decode cX8_price 5 = .ok (.ifCond .eq 5, 3) := by decide +kernel
theorem dX8_price_8 : decode cX8_price 8 = .ok (.iconst (-1), 1) := by decide +kernel
theorem dX8_price_9 : decode cX8_price 9 = .ok (.ireturn, 1) := by decide +kernel
theorem dX8_price_10 : decode cX8_price 10 = .ok (.aload_n 0, 1) := by decide +kernel
theorem dX8_price_11 : decode cX8_price 11 = .ok (.getfield 37, 3) := by decide +kernel
theorem dX8_price_14 : decode cX8_price 14 = .ok (.iload_n 1, 1) := by decide +kernel
theorem dX8_price_15 : decode cX8_price 15 = .ok (.baload, 1) := by decide +kernel
theorem dX8_price_16 : decode cX8_price 16 = .ok (.ifCond .eq 11, 3) := by decide +kernel
theorem dX8_price_19 : decode cX8_price 19 = .ok (.aload_n 0, 1) := by decide +kernel
theorem dX8_price_20 : decode cX8_price 20 = .ok (.iload_n 1, 1) := by decide +kernel
theorem dX8_price_21 : decode cX8_price 21 = .ok (.invokevirtual 238, 3) := by decide +kernel
theorem dX8_price_24 : decode cX8_price 24 = .ok (.goto 5, 3) := by decide +kernel
theorem dX8_price_27 : decode cX8_price 27 = .ok (.bipush (-3), 2) := by decide +kernel
theorem dX8_price_29 : decode cX8_price 29 = .ok (.ireturn, 1) := by decide +kernel
theorem dX8_leastNode_0 : decode cX8_leastNode 0 = .ok (.bipush (-9), 2) := by decide +kernel
theorem dX8_leastNode_2 : decode cX8_leastNode 2 = .ok (.istore_n 1, 1) := by decide +kernel
theorem dX8_leastNode_3 : decode cX8_leastNode 3 = .ok (.iconst 0, 1) := by decide +kernel
theorem dX8_leastNode_4 : decode cX8_leastNode 4 = .ok (.istore_n 2, 1) := by decide +kernel
theorem dX8_leastNode_5 : decode cX8_leastNode 5 = .ok (.iload_n 2, 1) := by decide +kernel
theorem dX8_leastNode_6 : decode cX8_leastNode 6 = .ok (.aload_n 0, 1) := by decide +kernel
theorem dX8_leastNode_7 : decode cX8_leastNode 7 = .ok (.getfield 249, 3) := by decide +kernel
theorem dX8_leastNode_10 : decode cX8_leastNode 10 = .ok (.if_icmp .ge 43, 3) := by decide +kernel
theorem dX8_leastNode_13 : decode cX8_leastNode 13 = .ok (.aload_n 0, 1) := by decide +kernel
theorem dX8_leastNode_14 : decode cX8_leastNode 14 = .ok (.getfield 62, 3) := by decide +kernel
theorem dX8_leastNode_17 : decode cX8_leastNode 17 = .ok (.iload_n 2, 1) := by decide +kernel
theorem dX8_leastNode_18 : decode cX8_leastNode 18 = .ok (.iaload, 1) := by decide +kernel
theorem dX8_leastNode_19 : decode cX8_leastNode 19 = .ok (.ifCond .ge 26, 3) := by decide +kernel
theorem dX8_leastNode_22 : decode cX8_leastNode 22 = .ok (.iload_n 1, 1) := by decide +kernel
theorem dX8_leastNode_23 : decode cX8_leastNode 23 = .ok (.ifCond .lt 18, 3) := by decide +kernel
theorem dX8_leastNode_26 : decode cX8_leastNode 26 = .ok (.aload_n 0, 1) := by decide +kernel
theorem dX8_leastNode_27 : decode cX8_leastNode 27 = .ok (.getfield 59, 3) := by decide +kernel
theorem dX8_leastNode_30 : decode cX8_leastNode 30 = .ok (.iload_n 2, 1) := by decide +kernel
theorem dX8_leastNode_31 : decode cX8_leastNode 31 = .ok (.iaload, 1) := by decide +kernel
theorem dX8_leastNode_32 : decode cX8_leastNode 32 = .ok (.aload_n 0, 1) := by decide +kernel
theorem dX8_leastNode_33 : decode cX8_leastNode 33 = .ok (.getfield 59, 3) := by decide +kernel
theorem dX8_leastNode_36 : decode cX8_leastNode 36 = .ok (.iload_n 1, 1) := by decide +kernel
theorem dX8_leastNode_37 : decode cX8_leastNode 37 = .ok (.iaload, 1) := by decide +kernel
theorem dX8_leastNode_38 : decode cX8_leastNode 38 = .ok (.if_icmp .ge 7, 3) := by decide +kernel
theorem dX8_leastNode_41 : decode cX8_leastNode 41 = .ok (.iload_n 2, 1) := by decide +kernel
theorem dX8_leastNode_42 : decode cX8_leastNode 42 = .ok (.goto 4, 3) := by decide +kernel
theorem dX8_leastNode_45 : decode cX8_leastNode 45 = .ok (.iload_n 1, 1) := by decide +kernel
theorem dX8_leastNode_46 : decode cX8_leastNode 46 = .ok (.istore_n 1, 1) := by decide +kernel
theorem dX8_leastNode_47 : decode cX8_leastNode 47 = .ok (.iinc 2 1, 3) := by decide +kernel
theorem dX8_leastNode_50 : decode cX8_leastNode 50 = .ok (.goto (-45), 3) := by decide +kernel
theorem dX8_leastNode_53 : decode cX8_leastNode 53 = .ok (.iload_n 1, 1) := by decide +kernel
theorem dX8_leastNode_54 : decode cX8_leastNode 54 = .ok (.ireturn, 1) := by decide +kernel
theorem dX8_join_0 : decode cX8_join 0 = .ok (.iconst 0, 1) := by decide +kernel
theorem dX8_join_1 : decode cX8_join 1 = .ok (.istore_n 2, 1) := by decide +kernel
theorem dX8_join_2 : decode cX8_join 2 = .ok (.iconst 0, 1) := by decide +kernel
theorem dX8_join_3 : decode cX8_join 3 = .ok (.istore_n 3, 1) := by decide +kernel
theorem dX8_join_4 : decode cX8_join 4 = .ok (.iload_n 3, 1) := by decide +kernel
theorem dX8_join_5 : decode cX8_join 5 = .ok (.iload_n 1, 1) := by decide +kernel
theorem dX8_join_6 : decode cX8_join 6 = .ok (.if_icmp .ge 36, 3) := by decide +kernel
theorem dX8_join_9 : decode cX8_join 9 = .ok (.aload_n 0, 1) := by decide +kernel
theorem dX8_join_10 : decode cX8_join 10 = .ok (.invokevirtual 252, 3) := by decide +kernel
theorem dX8_join_13 : decode cX8_join 13 = .ok (.istore 4, 2) := by decide +kernel
theorem dX8_join_15 : decode cX8_join 15 = .ok (.aload_n 0, 1) := by decide +kernel
theorem dX8_join_16 : decode cX8_join 16 = .ok (.getfield 62, 3) := by decide +kernel
theorem dX8_join_19 : decode cX8_join 19 = .ok (.iload 4, 2) := by decide +kernel
theorem dX8_join_21 : decode cX8_join 21 = .ok (.aload_n 0, 1) := by decide +kernel
theorem dX8_join_22 : decode cX8_join 22 = .ok (.getfield 249, 3) := by decide +kernel
theorem dX8_join_25 : decode cX8_join 25 = .ok (.iastore, 1) := by decide +kernel
theorem dX8_join_26 : decode cX8_join 26 = .ok (.iload_n 2, 1) := by decide +kernel
theorem dX8_join_27 : decode cX8_join 27 = .ok (.aload_n 0, 1) := by decide +kernel
theorem dX8_join_28 : decode cX8_join 28 = .ok (.getfield 59, 3) := by decide +kernel
theorem dX8_join_31 : decode cX8_join 31 = .ok (.iload 4, 2) := by decide +kernel
theorem dX8_join_33 : decode cX8_join 33 = .ok (.iaload, 1) := by decide +kernel
theorem dX8_join_34 : decode cX8_join 34 = .ok (.iadd, 1) := by decide +kernel
theorem dX8_join_35 : decode cX8_join 35 = .ok (.istore_n 2, 1) := by decide +kernel
theorem dX8_join_36 : decode cX8_join 36 = .ok (.iinc 3 1, 3) := by decide +kernel
theorem dX8_join_39 : decode cX8_join 39 = .ok (.goto (-35), 3) := by decide +kernel
theorem dX8_join_42 : decode cX8_join 42 = .ok (.aload_n 0, 1) := by decide +kernel
theorem dX8_join_43 : decode cX8_join 43 = .ok (.getfield 59, 3) := by decide +kernel
theorem dX8_join_46 : decode cX8_join 46 = .ok (.aload_n 0, 1) := by decide +kernel
theorem dX8_join_47 : decode cX8_join 47 = .ok (.getfield 249, 3) := by decide +kernel
theorem dX8_join_50 : decode cX8_join 50 = .ok (.iload_n 2, 1) := by decide +kernel
theorem dX8_join_51 : decode cX8_join 51 = .ok (.iastore, 1) := by decide +kernel
theorem dX8_join_52 : decode cX8_join 52 = .ok (.aload_n 0, 1) := by decide +kernel
theorem dX8_join_53 : decode cX8_join 53 = .ok (.getfield 62, 3) := by decide +kernel
theorem dX8_join_56 : decode cX8_join 56 = .ok (.aload_n 0, 1) := by decide +kernel
theorem dX8_join_57 : decode cX8_join 57 = .ok (.getfield 249, 3) := by decide +kernel
theorem dX8_join_60 : decode cX8_join 60 = .ok (.bipush (-9), 2) := by decide +kernel
theorem dX8_join_62 : decode cX8_join 62 = .ok (.iastore, 1) := by decide +kernel
theorem dX8_join_63 : decode cX8_join 63 = .ok (.aload_n 0, 1) := by decide +kernel
theorem dX8_join_64 : decode cX8_join 64 = .ok (.dup, 1) := by decide +kernel
theorem dX8_join_65 : decode cX8_join 65 = .ok (.getfield 249, 3) := by decide +kernel
theorem dX8_join_68 : decode cX8_join 68 = .ok (.iconst 1, 1) := by decide +kernel
theorem dX8_join_69 : decode cX8_join 69 = .ok (.iadd, 1) := by decide +kernel
theorem dX8_join_70 : decode cX8_join 70 = .ok (.putfield 249, 3) := by decide +kernel
theorem dX8_join_73 : decode cX8_join 73 = .ok (.return_, 1) := by decide +kernel
theorem dX8_layWays_0 : decode cX8_layWays 0 = .ok (.aload_n 0, 1) := by decide +kernel
theorem dX8_layWays_1 : decode cX8_layWays 1 = .ok (.iconst 0, 1) := by decide +kernel
theorem dX8_layWays_2 : decode cX8_layWays 2 = .ok (.putfield 249, 3) := by decide +kernel
theorem dX8_layWays_5 : decode cX8_layWays 5 = .ok (.iconst 0, 1) := by decide +kernel
theorem dX8_layWays_6 : decode cX8_layWays 6 = .ok (.istore_n 3, 1) := by decide +kernel
theorem dX8_layWays_7 : decode cX8_layWays 7 = .ok (.iload_n 3, 1) := by decide +kernel
theorem dX8_layWays_8 : decode cX8_layWays 8 = .ok (.aload_n 0, 1) := by decide +kernel
theorem dX8_layWays_9 : decode cX8_layWays 9 = .ok (.getfield 143, 3) := by decide +kernel
theorem dX8_layWays_12 : decode cX8_layWays 12 = .ok (.if_icmp .ge 61, 3) := by decide +kernel
theorem dX8_layWays_15 : decode cX8_layWays 15 = .ok (.aload_n 0, 1) := by decide +kernel
theorem dX8_layWays_16 : decode cX8_layWays 16 = .ok (.getfield 65, 3) := by decide +kernel
theorem dX8_layWays_19 : decode cX8_layWays 19 = .ok (.iload_n 3, 1) := by decide +kernel
theorem dX8_layWays_20 : decode cX8_layWays 20 = .ok (.bipush (-9), 2) := by decide +kernel
theorem dX8_layWays_22 : decode cX8_layWays 22 = .ok (.iastore, 1) := by decide +kernel
theorem dX8_layWays_23 : decode cX8_layWays 23 = .ok (.iload_n 1, 1) := by decide +kernel
theorem dX8_layWays_24 : decode cX8_layWays 24 = .ok (.iload_n 3, 1) := by decide +kernel
theorem dX8_layWays_25 : decode cX8_layWays 25 = .ok (.invokestatic 185, 3) := by decide +kernel
theorem dX8_layWays_28 : decode cX8_layWays 28 = .ok (.ifCond .eq 39, 3) := by decide +kernel
theorem dX8_layWays_31 : decode cX8_layWays 31 = .ok (.aload_n 0, 1) := by decide +kernel
theorem dX8_layWays_32 : decode cX8_layWays 32 = .ok (.getfield 59, 3) := by decide +kernel
theorem dX8_layWays_35 : decode cX8_layWays 35 = .ok (.aload_n 0, 1) := by decide +kernel
theorem dX8_layWays_36 : decode cX8_layWays 36 = .ok (.getfield 249, 3) := by decide +kernel
theorem dX8_layWays_39 : decode cX8_layWays 39 = .ok (.aload_n 0, 1) := by decide +kernel
theorem dX8_layWays_40 : decode cX8_layWays 40 = .ok (.getfield 13, 3) := by decide +kernel
theorem dX8_layWays_43 : decode cX8_layWays 43 = .ok (.iload_n 3, 1) := by decide +kernel
theorem dX8_layWays_44 : decode cX8_layWays 44 = .ok (.iaload, 1) := by decide +kernel
theorem dX8_layWays_45 : decode cX8_layWays 45 = .ok (.iastore, 1) := by decide +kernel
theorem dX8_layWays_46 : decode cX8_layWays 46 = .ok (.aload_n 0, 1) := by decide +kernel
theorem dX8_layWays_47 : decode cX8_layWays 47 = .ok (.getfield 62, 3) := by decide +kernel
theorem dX8_layWays_50 : decode cX8_layWays 50 = .ok (.aload_n 0, 1) := by decide +kernel
theorem dX8_layWays_51 : decode cX8_layWays 51 = .ok (.getfield 249, 3) := by decide +kernel
theorem dX8_layWays_54 : decode cX8_layWays 54 = .ok (.bipush (-9), 2) := by decide +kernel
theorem dX8_layWays_56 : decode cX8_layWays 56 = .ok (.iastore, 1) := by decide +kernel
theorem dX8_layWays_57 : decode cX8_layWays 57 = .ok (.aload_n 0, 1) := by decide +kernel
theorem dX8_layWays_58 : decode cX8_layWays 58 = .ok (.dup, 1) := by decide +kernel
theorem dX8_layWays_59 : decode cX8_layWays 59 = .ok (.getfield 249, 3) := by decide +kernel
theorem dX8_layWays_62 : decode cX8_layWays 62 = .ok (.iconst 1, 1) := by decide +kernel
theorem dX8_layWays_63 : decode cX8_layWays 63 = .ok (.iadd, 1) := by decide +kernel
theorem dX8_layWays_64 : decode cX8_layWays 64 = .ok (.putfield 249, 3) := by decide +kernel
theorem dX8_layWays_67 : decode cX8_layWays 67 = .ok (.iinc 3 1, 3) := by decide +kernel
theorem dX8_layWays_70 : decode cX8_layWays 70 = .ok (.goto (-63), 3) := by decide +kernel
theorem dX8_layWays_73 : decode cX8_layWays 73 = .ok (.aload_n 0, 1) := by decide +kernel
theorem dX8_layWays_74 : decode cX8_layWays 74 = .ok (.getfield 249, 3) := by decide +kernel
theorem dX8_layWays_77 : decode cX8_layWays 77 = .ok (.istore_n 3, 1) := by decide +kernel
theorem dX8_layWays_78 : decode cX8_layWays 78 = .ok (.iload_n 3, 1) := by decide +kernel
theorem dX8_layWays_79 : decode cX8_layWays 79 = .ok (.istore 4, 2) := by decide +kernel
theorem dX8_layWays_81 : decode cX8_layWays 81 = .ok (.iload_n 3, 1) := by decide +kernel
theorem dX8_layWays_82 : decode cX8_layWays 82 = .ok (.iconst 1, 1) := by decide +kernel
theorem dX8_layWays_83 : decode cX8_layWays 83 = .ok (.if_icmp .ne 8, 3) := by decide +kernel
theorem dX8_layWays_86 : decode cX8_layWays 86 = .ok (.aload_n 0, 1) := by decide +kernel
theorem dX8_layWays_87 : decode cX8_layWays 87 = .ok (.iconst 1, 1) := by decide +kernel
theorem dX8_layWays_88 : decode cX8_layWays 88 = .ok (.invokevirtual 255, 3) := by decide +kernel
theorem dX8_layWays_91 : decode cX8_layWays 91 = .ok (.iload 4, 2) := by decide +kernel
theorem dX8_layWays_93 : decode cX8_layWays 93 = .ok (.iconst 1, 1) := by decide +kernel
theorem dX8_layWays_94 : decode cX8_layWays 94 = .ok (.if_icmp .le 42, 3) := by decide +kernel
theorem dX8_layWays_97 : decode cX8_layWays 97 = .ok (.iload 4, 2) := by decide +kernel
theorem dX8_layWays_99 : decode cX8_layWays 99 = .ok (.iload_n 3, 1) := by decide +kernel
theorem dX8_layWays_100 : decode cX8_layWays 100 = .ok (.if_icmp .ne 15, 3) := by decide +kernel
theorem dX8_layWays_103 : decode cX8_layWays 103 = .ok (.iconst 2, 1) := by decide +kernel
theorem dX8_layWays_104 : decode cX8_layWays 104 = .ok (.iload_n 3, 1) := by decide +kernel
theorem dX8_layWays_105 : decode cX8_layWays 105 = .ok (.iconst 2, 1) := by decide +kernel
theorem dX8_layWays_106 : decode cX8_layWays 106 = .ok (.isub, 1) := by decide +kernel
theorem dX8_layWays_107 : decode cX8_layWays 107 = .ok (.iload_n 2, 1) := by decide +kernel
theorem dX8_layWays_108 : decode cX8_layWays 108 = .ok (.iconst 1, 1) := by decide +kernel
theorem dX8_layWays_109 : decode cX8_layWays 109 = .ok (.isub, 1) := by decide +kernel
theorem dX8_layWays_110 : decode cX8_layWays 110 = .ok (.irem, 1) := by decide +kernel
theorem dX8_layWays_111 : decode cX8_layWays 111 = .ok (.iadd, 1) := by decide +kernel
theorem dX8_layWays_112 : decode cX8_layWays 112 = .ok (.goto 4, 3) := by decide +kernel
theorem dX8_layWays_115 : decode cX8_layWays 115 = .ok (.iload_n 2, 1) := by decide +kernel
theorem dX8_layWays_116 : decode cX8_layWays 116 = .ok (.istore 5, 2) := by decide +kernel
theorem dX8_layWays_118 : decode cX8_layWays 118 = .ok (.aload_n 0, 1) := by decide +kernel
theorem dX8_layWays_119 : decode cX8_layWays 119 = .ok (.iload 5, 2) := by decide +kernel
theorem dX8_layWays_121 : decode cX8_layWays 121 = .ok (.invokevirtual 255, 3) := by decide +kernel
theorem dX8_layWays_124 : decode cX8_layWays 124 = .ok (.iload 4, 2) := by decide +kernel
theorem dX8_layWays_126 : decode cX8_layWays 126 = .ok (.iload 5, 2) := by decide +kernel
theorem dX8_layWays_128 : decode cX8_layWays 128 = .ok (.iconst 1, 1) := by decide +kernel
theorem dX8_layWays_129 : decode cX8_layWays 129 = .ok (.isub, 1) := by decide +kernel
theorem dX8_layWays_130 : decode cX8_layWays 130 = .ok (.isub, 1) := by decide +kernel
theorem dX8_layWays_131 : decode cX8_layWays 131 = .ok (.istore 4, 2) := by decide +kernel
theorem dX8_layWays_133 : decode cX8_layWays 133 = .ok (.goto (-42), 3) := by decide +kernel
theorem dX8_layWays_136 : decode cX8_layWays 136 = .ok (.iconst 0, 1) := by decide +kernel
theorem dX8_layWays_137 : decode cX8_layWays 137 = .ok (.istore 5, 2) := by decide +kernel
theorem dX8_layWays_139 : decode cX8_layWays 139 = .ok (.iconst 0, 1) := by decide +kernel
theorem dX8_layWays_140 : decode cX8_layWays 140 = .ok (.istore 6, 2) := by decide +kernel
theorem dX8_layWays_142 : decode cX8_layWays 142 = .ok (.iload 6, 2) := by decide +kernel
theorem dX8_layWays_144 : decode cX8_layWays 144 = .ok (.aload_n 0, 1) := by decide +kernel
theorem dX8_layWays_145 : decode cX8_layWays 145 = .ok (.getfield 143, 3) := by decide +kernel
theorem dX8_layWays_148 : decode cX8_layWays 148 = .ok (.if_icmp .ge 66, 3) := by decide +kernel
theorem dX8_layWays_151 : decode cX8_layWays 151 = .ok (.iload_n 1, 1) := by decide +kernel
theorem dX8_layWays_152 : decode cX8_layWays 152 = .ok (.iload 6, 2) := by decide +kernel
theorem dX8_layWays_154 : decode cX8_layWays 154 = .ok (.invokestatic 185, 3) := by decide +kernel
theorem dX8_layWays_157 : decode cX8_layWays 157 = .ok (.ifCond .eq 51, 3) := by decide +kernel
theorem dX8_layWays_160 : decode cX8_layWays 160 = .ok (.aload_n 0, 1) := by decide +kernel
theorem dX8_layWays_161 : decode cX8_layWays 161 = .ok (.getfield 65, 3) := by decide +kernel
theorem dX8_layWays_164 : decode cX8_layWays 164 = .ok (.iload 6, 2) := by decide +kernel
theorem dX8_layWays_166 : decode cX8_layWays 166 = .ok (.iconst 0, 1) := by decide +kernel
theorem dX8_layWays_167 : decode cX8_layWays 167 = .ok (.iastore, 1) := by decide +kernel
theorem dX8_layWays_168 : decode cX8_layWays 168 = .ok (.aload_n 0, 1) := by decide +kernel
theorem dX8_layWays_169 : decode cX8_layWays 169 = .ok (.getfield 62, 3) := by decide +kernel
theorem dX8_layWays_172 : decode cX8_layWays 172 = .ok (.iload 5, 2) := by decide +kernel
theorem dX8_layWays_174 : decode cX8_layWays 174 = .ok (.iaload, 1) := by decide +kernel
theorem dX8_layWays_175 : decode cX8_layWays 175 = .ok (.istore 7, 2) := by decide +kernel
theorem dX8_layWays_177 : decode cX8_layWays 177 = .ok (.iload 7, 2) := by decide +kernel
theorem dX8_layWays_179 : decode cX8_layWays 179 = .ok (.ifCond .lt 26, 3) := by decide +kernel
theorem dX8_layWays_182 : decode cX8_layWays 182 = .ok (.aload_n 0, 1) := by decide +kernel
theorem dX8_layWays_183 : decode cX8_layWays 183 = .ok (.getfield 65, 3) := by decide +kernel
theorem dX8_layWays_186 : decode cX8_layWays 186 = .ok (.iload 6, 2) := by decide +kernel
theorem dX8_layWays_188 : decode cX8_layWays 188 = .ok (.dup2, 1) := by decide +kernel
theorem dX8_layWays_189 : decode cX8_layWays 189 = .ok (.iaload, 1) := by decide +kernel
theorem dX8_layWays_190 : decode cX8_layWays 190 = .ok (.iconst 1, 1) := by decide +kernel
theorem dX8_layWays_191 : decode cX8_layWays 191 = .ok (.iadd, 1) := by decide +kernel
theorem dX8_layWays_192 : decode cX8_layWays 192 = .ok (.iastore, 1) := by decide +kernel
theorem dX8_layWays_193 : decode cX8_layWays 193 = .ok (.aload_n 0, 1) := by decide +kernel
theorem dX8_layWays_194 : decode cX8_layWays 194 = .ok (.getfield 62, 3) := by decide +kernel
theorem dX8_layWays_197 : decode cX8_layWays 197 = .ok (.iload 7, 2) := by decide +kernel
theorem dX8_layWays_199 : decode cX8_layWays 199 = .ok (.iaload, 1) := by decide +kernel
theorem dX8_layWays_200 : decode cX8_layWays 200 = .ok (.istore 7, 2) := by decide +kernel
theorem dX8_layWays_202 : decode cX8_layWays 202 = .ok (.goto (-25), 3) := by decide +kernel
theorem dX8_layWays_205 : decode cX8_layWays 205 = .ok (.iinc 5 1, 3) := by decide +kernel
theorem dX8_layWays_208 : decode cX8_layWays 208 = .ok (.iinc 6 1, 3) := by decide +kernel
theorem dX8_layWays_211 : decode cX8_layWays 211 = .ok (.goto (-69), 3) := by decide +kernel
theorem dX8_layWays_214 : decode cX8_layWays 214 = .ok (.return_, 1) := by decide +kernel
theorem dX8_areParts_0 : decode cX8_areParts 0 = .ok (.iload_n 1, 1) := by decide +kernel
theorem dX8_areParts_1 : decode cX8_areParts 1 = .ok (.i2l, 1) := by decide +kernel
theorem dX8_areParts_2 : decode cX8_areParts 2 = .ok (.lconst 1, 1) := by decide +kernel
theorem dX8_areParts_3 : decode cX8_areParts 3 = .ok (.lconst 1, 1) := by decide +kernel
theorem dX8_areParts_4 : decode cX8_areParts 4 = .ok (.aload_n 0, 1) := by decide +kernel
theorem dX8_areParts_5 : decode cX8_areParts 5 = .ok (.getfield 143, 3) := by decide +kernel
theorem dX8_areParts_8 : decode cX8_areParts 8 = .ok (.lshl, 1) := by decide +kernel
theorem dX8_areParts_9 : decode cX8_areParts 9 = .ok (.lconst 1, 1) := by decide +kernel
theorem dX8_areParts_10 : decode cX8_areParts 10 = .ok (.lsub, 1) := by decide +kernel
theorem dX8_areParts_11 : decode cX8_areParts 11 = .ok (.invokestatic 128, 3) := by decide +kernel
theorem dX8_areParts_14 : decode cX8_areParts 14 = .ok (.ireturn, 1) := by decide +kernel
theorem dX8_ways_0 : decode cX8_ways 0 = .ok (.aload_n 0, 1) := by decide +kernel
theorem dX8_ways_1 : decode cX8_ways 1 = .ok (.iload_n 1, 1) := by decide +kernel
theorem dX8_ways_2 : decode cX8_ways 2 = .ok (.invokevirtual 258, 3) := by decide +kernel
theorem dX8_ways_5 : decode cX8_ways 5 = .ok (.ifCond .eq 17, 3) := by decide +kernel
theorem dX8_ways_8 : decode cX8_ways 8 = .ok (.iload_n 2, 1) := by decide +kernel
theorem dX8_ways_9 : decode cX8_ways 9 = .ok (.i2l, 1) := by decide +kernel
theorem dX8_ways_10 : decode cX8_ways 10 = .ok (.ldc2_w 126, 3) := by decide +kernel
theorem dX8_ways_13 : decode cX8_ways 13 = .ok (.ldc2_w 261, 3) := by decide +kernel
theorem dX8_ways_16 : decode cX8_ways 16 = .ok (.invokestatic 128, 3) := by decide +kernel
theorem dX8_ways_19 : decode cX8_ways 19 = .ok (.ifCond .ne 6, 3) := by decide +kernel
theorem dX8_ways_22 : decode cX8_ways 22 = .ok (.bipush (-2), 2) := by decide +kernel
theorem dX8_ways_24 : decode cX8_ways 24 = .ok (.ireturn, 1) := by decide +kernel
theorem dX8_ways_25 : decode cX8_ways 25 = .ok (.iload_n 3, 1) := by decide +kernel
theorem dX8_ways_26 : decode cX8_ways 26 = .ok (.i2l, 1) := by decide +kernel
theorem dX8_ways_27 : decode cX8_ways 27 = .ok (.ldc2_w 221, 3) := by decide +kernel
theorem dX8_ways_30 : decode cX8_ways 30 = .ok (.aload_n 0, 1) := by decide +kernel
theorem dX8_ways_31 : decode cX8_ways 31 = .ok (.getfield 143, 3) := by decide +kernel
theorem dX8_ways_34 : decode cX8_ways 34 = .ok (.i2l, 1) := by decide +kernel
theorem dX8_ways_35 : decode cX8_ways 35 = .ok (.lconst 1, 1) := by decide +kernel
theorem dX8_ways_36 : decode cX8_ways 36 = .ok (.lsub, 1) := by decide +kernel
theorem dX8_ways_37 : decode cX8_ways 37 = .ok (.invokestatic 128, 3) := by decide +kernel
theorem dX8_ways_40 : decode cX8_ways 40 = .ok (.ifCond .ne 5, 3) := by decide +kernel
theorem dX8_ways_43 : decode cX8_ways 43 = .ok (.iconst (-1), 1) := by decide +kernel
theorem dX8_ways_44 : decode cX8_ways 44 = .ok (.ireturn, 1) := by decide +kernel
theorem dX8_ways_45 : decode cX8_ways 45 = .ok (.aload_n 0, 1) := by decide +kernel
theorem dX8_ways_46 : decode cX8_ways 46 = .ok (.iload_n 1, 1) := by decide +kernel
theorem dX8_ways_47 : decode cX8_ways 47 = .ok (.iload_n 2, 1) := by decide +kernel
theorem dX8_ways_48 : decode cX8_ways 48 = .ok (.invokevirtual 263, 3) := by decide +kernel
theorem dX8_ways_51 : decode cX8_ways 51 = .ok (.iconst 0, 1) := by decide +kernel
theorem dX8_ways_52 : decode cX8_ways 52 = .ok (.istore 4, 2) := by decide +kernel
theorem dX8_ways_54 : decode cX8_ways 54 = .ok (.iconst 0, 1) := by decide +kernel
theorem dX8_ways_55 : decode cX8_ways 55 = .ok (.istore 5, 2) := by decide +kernel
theorem dX8_ways_57 : decode cX8_ways 57 = .ok (.iload 5, 2) := by decide +kernel
theorem dX8_ways_59 : decode cX8_ways 59 = .ok (.aload_n 0, 1) := by decide +kernel
theorem dX8_ways_60 : decode cX8_ways 60 = .ok (.getfield 143, 3) := by decide +kernel
theorem dX8_ways_63 : decode cX8_ways 63 = .ok (.if_icmp .ge 43, 3) := by decide +kernel
theorem dX8_ways_66 : decode cX8_ways 66 = .ok (.iload 4, 2) := by decide +kernel
theorem dX8_ways_68 : decode cX8_ways 68 = .ok (.aload_n 0, 1) := by decide +kernel
theorem dX8_ways_69 : decode cX8_ways 69 = .ok (.getfield 65, 3) := by decide +kernel
theorem dX8_ways_72 : decode cX8_ways 72 = .ok (.iload 5, 2) := by decide +kernel
theorem dX8_ways_74 : decode cX8_ways 74 = .ok (.iaload, 1) := by decide +kernel
theorem dX8_ways_75 : decode cX8_ways 75 = .ok (.ifCond .ge 7, 3) := by decide +kernel
theorem dX8_ways_78 : decode cX8_ways 78 = .ok (.iconst 0, 1) := by decide +kernel
theorem dX8_ways_79 : decode cX8_ways 79 = .ok (.goto 18, 3) := by decide +kernel
theorem dX8_ways_82 : decode cX8_ways 82 = .ok (.aload_n 0, 1) := by decide +kernel
theorem dX8_ways_83 : decode cX8_ways 83 = .ok (.getfield 13, 3) := by decide +kernel
theorem dX8_ways_86 : decode cX8_ways 86 = .ok (.iload 5, 2) := by decide +kernel
theorem dX8_ways_88 : decode cX8_ways 88 = .ok (.iaload, 1) := by decide +kernel
theorem dX8_ways_89 : decode cX8_ways 89 = .ok (.aload_n 0, 1) := by decide +kernel
theorem dX8_ways_90 : decode cX8_ways 90 = .ok (.getfield 65, 3) := by decide +kernel
theorem dX8_ways_93 : decode cX8_ways 93 = .ok (.iload 5, 2) := by decide +kernel
theorem dX8_ways_95 : decode cX8_ways 95 = .ok (.iaload, 1) := by decide +kernel
theorem dX8_ways_96 : decode cX8_ways 96 = .ok (.imul, 1) := by decide +kernel
theorem dX8_ways_97 : decode cX8_ways 97 = .ok (.iadd, 1) := by decide +kernel
theorem dX8_ways_98 : decode cX8_ways 98 = .ok (.istore 4, 2) := by decide +kernel
theorem dX8_ways_100 : decode cX8_ways 100 = .ok (.iinc 5 1, 3) := by decide +kernel
theorem dX8_ways_103 : decode cX8_ways 103 = .ok (.goto (-46), 3) := by decide +kernel
theorem dX8_ways_106 : decode cX8_ways 106 = .ok (.iload_n 3, 1) := by decide +kernel
theorem dX8_ways_107 : decode cX8_ways 107 = .ok (.ifCond .ge 8, 3) := by decide +kernel
theorem dX8_ways_110 : decode cX8_ways 110 = .ok (.iload 4, 2) := by decide +kernel
theorem dX8_ways_112 : decode cX8_ways 112 = .ok (.goto 9, 3) := by decide +kernel
theorem dX8_ways_115 : decode cX8_ways 115 = .ok (.aload_n 0, 1) := by decide +kernel
theorem dX8_ways_116 : decode cX8_ways 116 = .ok (.getfield 65, 3) := by decide +kernel
theorem dX8_ways_119 : decode cX8_ways 119 = .ok (.iload_n 3, 1) := by decide +kernel
theorem dX8_ways_120 : decode cX8_ways 120 = .ok (.iaload, 1) := by decide +kernel
theorem dX8_ways_121 : decode cX8_ways 121 = .ok (.ireturn, 1) := by decide +kernel
theorem dX8_kept_0 : decode cX8_kept 0 = .ok (.aload_n 0, 1) := by decide +kernel
theorem dX8_kept_1 : decode cX8_kept 1 = .ok (.iload_n 1, 1) := by decide +kernel
theorem dX8_kept_2 : decode cX8_kept 2 = .ok (.invokevirtual 175, 3) := by decide +kernel
theorem dX8_kept_5 : decode cX8_kept 5 = .ok (.ifCond .eq 5, 3) := by decide +kernel
theorem dX8_kept_8 : decode cX8_kept 8 = .ok (.iconst (-1), 1) := by decide +kernel
theorem dX8_kept_9 : decode cX8_kept 9 = .ok (.ireturn, 1) := by decide +kernel
theorem dX8_kept_10 : decode cX8_kept 10 = .ok (.aload_n 0, 1) := by decide +kernel
theorem dX8_kept_11 : decode cX8_kept 11 = .ok (.iload_n 2, 1) := by decide +kernel
theorem dX8_kept_12 : decode cX8_kept 12 = .ok (.invokevirtual 258, 3) := by decide +kernel
theorem dX8_kept_15 : decode cX8_kept 15 = .ok (.ifCond .eq 15, 3) := by decide +kernel
theorem dX8_kept_18 : decode cX8_kept 18 = .ok (.iload_n 3, 1) := by decide +kernel
theorem dX8_kept_19 : decode cX8_kept 19 = .ok (.i2l, 1) := by decide +kernel
theorem dX8_kept_20 : decode cX8_kept 20 = .ok (.lconst 1, 1) := by decide +kernel
theorem dX8_kept_21 : decode cX8_kept 21 = .ok (.ldc2_w 261, 3) := by decide +kernel
theorem dX8_kept_24 : decode cX8_kept 24 = .ok (.invokestatic 128, 3) := by decide +kernel
theorem dX8_kept_27 : decode cX8_kept 27 = .ok (.ifCond .ne 6, 3) := by decide +kernel
theorem dX8_kept_30 : decode cX8_kept 30 = .ok (.bipush (-2), 2) := by decide +kernel
theorem dX8_kept_32 : decode cX8_kept 32 = .ok (.ireturn, 1) := by decide +kernel
theorem dX8_kept_33 : decode cX8_kept 33 = .ok (.aload_n 0, 1) := by decide +kernel
theorem dX8_kept_34 : decode cX8_kept 34 = .ok (.getfield 34, 3) := by decide +kernel
theorem dX8_kept_37 : decode cX8_kept 37 = .ok (.iload_n 1, 1) := by decide +kernel
theorem dX8_kept_38 : decode cX8_kept 38 = .ok (.iaload, 1) := by decide +kernel
theorem dX8_kept_39 : decode cX8_kept 39 = .ok (.istore 4, 2) := by decide +kernel
theorem dX8_kept_41 : decode cX8_kept 41 = .ok (.aload_n 0, 1) := by decide +kernel
theorem dX8_kept_42 : decode cX8_kept 42 = .ok (.iload_n 2, 1) := by decide +kernel
theorem dX8_kept_43 : decode cX8_kept 43 = .ok (.iload 4, 2) := by decide +kernel
theorem dX8_kept_45 : decode cX8_kept 45 = .ok (.iconst 2, 1) := by decide +kernel
theorem dX8_kept_46 : decode cX8_kept 46 = .ok (.if_icmp .ge 7, 3) := by decide +kernel
theorem dX8_kept_49 : decode cX8_kept 49 = .ok (.iconst 2, 1) := by decide +kernel
theorem dX8_kept_50 : decode cX8_kept 50 = .ok (.goto 17, 3) := by decide +kernel
theorem dX8_kept_53 : decode cX8_kept 53 = .ok (.iload 4, 2) := by decide +kernel
theorem dX8_kept_55 : decode cX8_kept 55 = .ok (.bipush 9, 2) := by decide +kernel
theorem dX8_kept_57 : decode cX8_kept 57 = .ok (.if_icmp .le 8, 3) := by decide +kernel
theorem dX8_kept_60 : decode cX8_kept 60 = .ok (.bipush 9, 2) := by decide +kernel
theorem dX8_kept_62 : decode cX8_kept 62 = .ok (.goto 5, 3) := by decide +kernel
theorem dX8_kept_65 : decode cX8_kept 65 = .ok (.iload 4, 2) := by decide +kernel
theorem dX8_kept_67 : decode cX8_kept 67 = .ok (.invokevirtual 263, 3) := by decide +kernel
theorem dX8_kept_70 : decode cX8_kept 70 = .ok (.iconst 0, 1) := by decide +kernel
theorem dX8_kept_71 : decode cX8_kept 71 = .ok (.istore 5, 2) := by decide +kernel
theorem dX8_kept_73 : decode cX8_kept 73 = .ok (.iconst 0, 1) := by decide +kernel
theorem dX8_kept_74 : decode cX8_kept 74 = .ok (.istore 6, 2) := by decide +kernel
theorem dX8_kept_76 : decode cX8_kept 76 = .ok (.iload 6, 2) := by decide +kernel
theorem dX8_kept_78 : decode cX8_kept 78 = .ok (.aload_n 0, 1) := by decide +kernel
theorem dX8_kept_79 : decode cX8_kept 79 = .ok (.getfield 143, 3) := by decide +kernel
theorem dX8_kept_82 : decode cX8_kept 82 = .ok (.if_icmp .ge 43, 3) := by decide +kernel
theorem dX8_kept_85 : decode cX8_kept 85 = .ok (.iload 5, 2) := by decide +kernel
theorem dX8_kept_87 : decode cX8_kept 87 = .ok (.aload_n 0, 1) := by decide +kernel
theorem dX8_kept_88 : decode cX8_kept 88 = .ok (.getfield 7, 3) := by decide +kernel
theorem dX8_kept_91 : decode cX8_kept 91 = .ok (.iload 6, 2) := by decide +kernel
theorem dX8_kept_93 : decode cX8_kept 93 = .ok (.iaload, 1) := by decide +kernel
theorem dX8_kept_94 : decode cX8_kept 94 = .ok (.ifCond .le 21, 3) := by decide +kernel
theorem dX8_kept_97 : decode cX8_kept 97 = .ok (.aload_n 0, 1) := by decide +kernel
theorem dX8_kept_98 : decode cX8_kept 98 = .ok (.getfield 65, 3) := by decide +kernel
theorem dX8_kept_101 : decode cX8_kept 101 = .ok (.iload 6, 2) := by decide +kernel
theorem dX8_kept_103 : decode cX8_kept 103 = .ok (.iaload, 1) := by decide +kernel
theorem dX8_kept_104 : decode cX8_kept 104 = .ok (.iload_n 3, 1) := by decide +kernel
theorem dX8_kept_105 : decode cX8_kept 105 = .ok (.if_icmp .le 10, 3) := by decide +kernel
theorem dX8_kept_108 : decode cX8_kept 108 = .ok (.iconst 1, 1) := by decide +kernel
theorem dX8_kept_109 : decode cX8_kept 109 = .ok (.iload 6, 2) := by decide +kernel
theorem dX8_kept_111 : decode cX8_kept 111 = .ok (.ishl, 1) := by decide +kernel
theorem dX8_kept_112 : decode cX8_kept 112 = .ok (.goto 4, 3) := by decide +kernel
theorem dX8_kept_115 : decode cX8_kept 115 = .ok (.iconst 0, 1) := by decide +kernel
theorem dX8_kept_116 : decode cX8_kept 116 = .ok (.ior, 1) := by decide +kernel
theorem dX8_kept_117 : decode cX8_kept 117 = .ok (.istore 5, 2) := by decide +kernel
theorem dX8_kept_119 : decode cX8_kept 119 = .ok (.iinc 6 1, 3) := by decide +kernel
theorem dX8_kept_122 : decode cX8_kept 122 = .ok (.goto (-46), 3) := by decide +kernel
theorem dX8_kept_125 : decode cX8_kept 125 = .ok (.iload 5, 2) := by decide +kernel
theorem dX8_kept_127 : decode cX8_kept 127 = .ok (.ireturn, 1) := by decide +kernel
theorem dX8_rule_0 : decode cX8_rule 0 = .ok (.iload_n 1, 1) := by decide +kernel
theorem dX8_rule_1 : decode cX8_rule 1 = .ok (.i2l, 1) := by decide +kernel
theorem dX8_rule_2 : decode cX8_rule 2 = .ok (.lconst 0, 1) := by decide +kernel
theorem dX8_rule_3 : decode cX8_rule 3 = .ok (.lconst 1, 1) := by decide +kernel
theorem dX8_rule_4 : decode cX8_rule 4 = .ok (.invokestatic 128, 3) := by decide +kernel
theorem dX8_rule_7 : decode cX8_rule 7 = .ok (.ifCond .eq 25, 3) := by decide +kernel
theorem dX8_rule_10 : decode cX8_rule 10 = .ok (.iload_n 2, 1) := by decide +kernel
theorem dX8_rule_11 : decode cX8_rule 11 = .ok (.i2l, 1) := by decide +kernel
theorem dX8_rule_12 : decode cX8_rule 12 = .ok (.lconst 0, 1) := by decide +kernel
theorem dX8_rule_13 : decode cX8_rule 13 = .ok (.iload_n 1, 1) := by decide +kernel
theorem dX8_rule_14 : decode cX8_rule 14 = .ok (.ifCond .ne 9, 3) := by decide +kernel
theorem dX8_rule_17 : decode cX8_rule 17 = .ok (.ldc2_w 180, 3) := by decide +kernel
theorem dX8_rule_20 : decode cX8_rule 20 = .ok (.goto 6, 3) := by decide +kernel
theorem dX8_rule_23 : decode cX8_rule 23 = .ok (.ldc2_w 170, 3) := by decide +kernel
theorem dX8_rule_26 : decode cX8_rule 26 = .ok (.invokestatic 128, 3) := by decide +kernel
