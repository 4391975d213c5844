theorem dX8_speak_11 : decode cX8_speak 11 = .ok (.aload_n 0, 1) := by decide +kernel
theorem dX8_speak_12 : decode cX8_speak 12 = .ok (.getfield 7, 3) := by decide +kernel
theorem dX8_speak_15 : decode cX8_speak 15 = .ok (.iload_n 1, 1) := by decide +kernel
theorem dX8_speak_16 : decode cX8_speak 16 = .ok (.iaload, 1) := by decide +kernel
theorem dX8_speak_17 : decode cX8_speak 17 = .ok (.iconst 2, 1) := by decide +kernel
theorem dX8_speak_18 : decode cX8_speak 18 = .ok (.if_icmp .ne 7, 3) := by decide +kernel
theorem dX8_speak_21 : decode cX8_speak 21 = .ok (.iconst 5, 1) := by decide +kernel
theorem dX8_speak_22 : decode cX8_speak 22 = .ok (.goto 4, 3) := by decide +kernel
theorem dX8_speak_25 : decode cX8_speak 25 = .ok (.iconst 4, 1) := by decide +kernel
theorem dX8_speak_26 : decode cX8_speak 26 = .ok (.invokevirtual 304, 3) := by decide +kernel
theorem dX8_speak_29 : decode cX8_speak 29 = .ok (.aload_n 0, 1) := by decide +kernel
theorem dX8_speak_30 : decode cX8_speak 30 = .ok (.getfield 7, 3) := by decide +kernel
theorem dX8_speak_33 : decode cX8_speak 33 = .ok (.iload_n 1, 1) := by decide +kernel
theorem dX8_speak_34 : decode cX8_speak 34 = .ok (.iaload, 1) := by decide +kernel
theorem dX8_speak_35 : decode cX8_speak 35 = .ok (.iconst 2, 1) := by decide +kernel
theorem dX8_speak_36 : decode cX8_speak 36 = .ok (.if_icmp .ne 8, 3) := by decide +kernel
theorem dX8_speak_39 : decode cX8_speak 39 = .ok (.bipush 99, 2) := by decide +kernel
theorem dX8_speak_41 : decode cX8_speak 41 = .ok (.goto 4, 3) := by decide +kernel
theorem dX8_speak_44 : decode cX8_speak 44 = .ok (.iload_n 1, 1) := by decide +kernel
theorem dX8_speak_45 : decode cX8_speak 45 = .ok (.ireturn, 1) := by decide +kernel
theorem dX8_as_0 : decode cX8_as 0 = .ok (.aload_n 0, 1) := by decide +kernel
theorem dX8_as_1 : decode cX8_as 1 = .ok (.iload_n 1, 1) := by decide +kernel
theorem dX8_as_2 : decode cX8_as 2 = .ok (.invokevirtual 165, 3) := by decide +kernel
theorem dX8_as_5 : decode cX8_as 5 = .ok (.ifCond .eq 9, 3) := by decide +kernel
theorem dX8_as_8 : decode cX8_as 8 = .ok (.aload_n 0, 1) := by decide +kernel
theorem dX8_as_9 : decode cX8_as 9 = .ok (.iconst (-1), 1) := by decide +kernel
theorem dX8_as_10 : decode cX8_as 10 = .ok (.invokevirtual 132, 3) := by decide +kernel
theorem dX8_as_13 : decode cX8_as 13 = .ok (.ireturn, 1) := by decide +kernel
theorem dX8_as_14 : decode cX8_as 14 = .ok (.iload_n 2, 1) := by decide +kernel
theorem dX8_as_15 : decode cX8_as 15 = .ok (.i2l, 1) := by decide +kernel
theorem dX8_as_16 : decode cX8_as 16 = .ok (.lconst 0, 1) := by decide +kernel
theorem dX8_as_17 : decode cX8_as 17 = .ok (.ldc2_w 126, 3) := by decide +kernel
theorem dX8_as_20 : decode cX8_as 20 = .ok (.invokestatic 128, 3) := by decide +kernel
theorem dX8_as_23 : decode cX8_as 23 = .ok (.ifCond .ne 10, 3) := by decide +kernel
theorem dX8_as_26 : decode cX8_as 26 = .ok (.aload_n 0, 1) := by decide +kernel
theorem dX8_as_27 : decode cX8_as 27 = .ok (.bipush (-2), 2) := by decide +kernel
theorem dX8_as_29 : decode cX8_as 29 = .ok (.invokevirtual 132, 3) := by decide +kernel
theorem dX8_as_32 : decode cX8_as 32 = .ok (.ireturn, 1) := by decide +kernel
theorem dX8_as_33 : decode cX8_as 33 = .ok (.aload_n 0, 1) := by decide +kernel
theorem dX8_as_34 : decode cX8_as 34 = .ok (.getfield 7, 3) := by decide +kernel
theorem dX8_as_37 : decode cX8_as 37 = .ok (.iload_n 1, 1) := by decide +kernel
theorem dX8_as_38 : decode cX8_as 38 = .ok (.iaload, 1) := by decide +kernel
theorem dX8_as_39 : decode cX8_as 39 = .ok (.iload_n 2, 1) := by decide +kernel
theorem dX8_as_40 : decode cX8_as 40 = .ok (.if_icmp .lt 11, 3) := by decide +kernel
theorem dX8_as_43 : decode cX8_as 43 = .ok (.aload_n 0, 1) := by decide +kernel
theorem dX8_as_44 : decode cX8_as 44 = .ok (.iconst 1, 1) := by decide +kernel
theorem dX8_as_45 : decode cX8_as 45 = .ok (.invokevirtual 132, 3) := by decide +kernel
theorem dX8_as_48 : decode cX8_as 48 = .ok (.goto 8, 3) := by decide +kernel
theorem dX8_as_51 : decode cX8_as 51 = .ok (.aload_n 0, 1) := by decide +kernel
theorem dX8_as_52 : decode cX8_as 52 = .ok (.iconst 2, 1) := by decide +kernel
theorem dX8_as_53 : decode cX8_as 53 = .ok (.invokevirtual 136, 3) := by decide +kernel
theorem dX8_as_56 : decode cX8_as 56 = .ok (.ireturn, 1) := by decide +kernel
theorem dX8_trace_0 : decode cX8_trace 0 = .ok (.aload_n 0, 1) := by decide +kernel
theorem dX8_trace_1 : decode cX8_trace 1 = .ok (.getfield 301, 3) := by decide +kernel
theorem dX8_trace_4 : decode cX8_trace 4 = .ok (.ireturn, 1) := by decide +kernel
theorem dX8_fault_0 : decode cX8_fault 0 = .ok (.aload_n 0, 1) := by decide +kernel
theorem dX8_fault_1 : decode cX8_fault 1 = .ok (.getfield 119, 3) := by decide +kernel
theorem dX8_fault_4 : decode cX8_fault 4 = .ok (.ireturn, 1) := by decide +kernel
theorem dX8_many_0 : decode cX8_many 0 = .ok (.iload_n 1, 1) := by decide +kernel
theorem dX8_many_1 : decode cX8_many 1 = .ok (.ifCond .ne 10, 3) := by decide +kernel
theorem dX8_many_4 : decode cX8_many 4 = .ok (.aload_n 0, 1) := by decide +kernel
theorem dX8_many_5 : decode cX8_many 5 = .ok (.getfield 143, 3) := by decide +kernel
theorem dX8_many_8 : decode cX8_many 8 = .ok (.goto 17, 3) := by decide +kernel
theorem dX8_many_11 : decode cX8_many 11 = .ok (.iload_n 1, 1) := by decide +kernel
theorem dX8_many_12 : decode cX8_many 12 = .ok (.iconst 1, 1) := by decide +kernel
theorem dX8_many_13 : decode cX8_many 13 = .ok (.if_icmp .ne 10, 3) := by decide +kernel
theorem dX8_many_16 : decode cX8_many 16 = .ok (.aload_n 0, 1) := by decide +kernel
theorem dX8_many_17 : decode cX8_many 17 = .ok (.getfield 172, 3) := by decide +kernel
theorem dX8_many_20 : decode cX8_many 20 = .ok (.goto 5, 3) := by decide +kernel
theorem dX8_many_23 : decode cX8_many 23 = .ok (.bipush (-2), 2) := by decide +kernel
theorem dX8_many_25 : decode cX8_many 25 = .ok (.ireturn, 1) := by decide +kernel
