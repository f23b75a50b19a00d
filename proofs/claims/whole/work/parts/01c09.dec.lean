theorem d_T_growth_2 : decode b_T_growth 2 = .ok (.getfield 77, 3) := by decide +kernel
theorem d_T_growth_5 : decode b_T_growth 5 = .ok (.i2l, 1) := by decide +kernel
theorem d_T_growth_6 : decode b_T_growth 6 = .ok (.lmul, 1) := by decide +kernel
theorem d_T_growth_7 : decode b_T_growth 7 = .ok (.lstore_n 3, 1) := by decide +kernel
theorem d_T_growth_8 : decode b_T_growth 8 = .ok (.lload_n 3, 1) := by decide +kernel
theorem d_T_growth_9 : decode b_T_growth 9 = .ok (.ldc2_w 83, 3) := by decide +kernel
theorem d_T_growth_12 : decode b_T_growth 12 = .ok (.ldiv, 1) := by decide +kernel
theorem d_T_growth_13 : decode b_T_growth 13 = .ok (.lstore 5, 2) := by decide +kernel
theorem d_T_growth_15 : decode b_T_growth 15 = .ok (.lload 5, 2) := by decide +kernel
theorem d_T_growth_17 : decode b_T_growth 17 = .ok (.ldc2_w 83, 3) := by decide +kernel
theorem d_T_growth_20 : decode b_T_growth 20 = .ok (.lmul, 1) := by decide +kernel
theorem d_T_growth_21 : decode b_T_growth 21 = .ok (.lload_n 3, 1) := by decide +kernel
theorem d_T_growth_22 : decode b_T_growth 22 = .ok (.lcmp, 1) := by decide +kernel
theorem d_T_growth_23 : decode b_T_growth 23 = .ok (.ifCond .ge 10, 3) := by decide +kernel
theorem d_T_growth_26 : decode b_T_growth 26 = .ok (.lload 5, 2) := by decide +kernel
theorem d_T_growth_28 : decode b_T_growth 28 = .ok (.lconst 1, 1) := by decide +kernel
theorem d_T_growth_29 : decode b_T_growth 29 = .ok (.ladd, 1) := by decide +kernel
theorem d_T_growth_30 : decode b_T_growth 30 = .ok (.goto 5, 3) := by decide +kernel
theorem d_T_growth_33 : decode b_T_growth 33 = .ok (.lload 5, 2) := by decide +kernel
theorem d_T_growth_35 : decode b_T_growth 35 = .ok (.lreturn, 1) := by decide +kernel
theorem d_T_advance_0 : decode b_T_advance 0 = .ok (.iload_n 1, 1) := by decide +kernel
theorem d_T_advance_1 : decode b_T_advance 1 = .ok (.ifCond .lt 9, 3) := by decide +kernel
theorem d_T_advance_4 : decode b_T_advance 4 = .ok (.iload_n 1, 1) := by decide +kernel
theorem d_T_advance_5 : decode b_T_advance 5 = .ok (.ldc 85, 2) := by decide +kernel
theorem d_T_advance_7 : decode b_T_advance 7 = .ok (.if_icmp .le 5, 3) := by decide +kernel
theorem d_T_advance_10 : decode b_T_advance 10 = .ok (.iconst 0, 1) := by decide +kernel
theorem d_T_advance_11 : decode b_T_advance 11 = .ok (.ireturn, 1) := by decide +kernel
theorem d_T_advance_12 : decode b_T_advance 12 = .ok (.aload_n 0, 1) := by decide +kernel
theorem d_T_advance_13 : decode b_T_advance 13 = .ok (.aload_n 0, 1) := by decide +kernel
theorem d_T_advance_14 : decode b_T_advance 14 = .ok (.getfield 86, 3) := by decide +kernel
theorem d_T_advance_17 : decode b_T_advance 17 = .ok (.iload_n 1, 1) := by decide +kernel
theorem d_T_advance_18 : decode b_T_advance 18 = .ok (.i2l, 1) := by decide +kernel
theorem d_T_advance_19 : decode b_T_advance 19 = .ok (.ladd, 1) := by decide +kernel
theorem d_T_advance_20 : decode b_T_advance 20 = .ok (.putfield 86, 3) := by decide +kernel
theorem d_T_advance_23 : decode b_T_advance 23 = .ok (.iconst 1, 1) := by decide +kernel
theorem d_T_advance_24 : decode b_T_advance 24 = .ok (.ireturn, 1) := by decide +kernel
theorem d_T_hardware_0 : decode b_T_hardware 0 = .ok (.aload_n 0, 1) := by decide +kernel
theorem d_T_hardware_1 : decode b_T_hardware 1 = .ok (.getfield 86, 3) := by decide +kernel
theorem d_T_hardware_4 : decode b_T_hardware 4 = .ok (.lreturn, 1) := by decide +kernel
theorem d_T_mixed_0 : decode b_T_mixed 0 = .ok (.lload_n 0, 1) := by decide +kernel
theorem d_T_mixed_1 : decode b_T_mixed 1 = .ok (.lload_n 2, 1) := by decide +kernel
theorem d_T_mixed_2 : decode b_T_mixed 2 = .ok (.lxor, 1) := by decide +kernel
theorem d_T_mixed_3 : decode b_T_mixed 3 = .ok (.ldc2_w 94, 3) := by decide +kernel
theorem d_T_mixed_6 : decode b_T_mixed 6 = .ok (.lmul, 1) := by decide +kernel
theorem d_T_mixed_7 : decode b_T_mixed 7 = .ok (.lstore 4, 2) := by decide +kernel
theorem d_T_mixed_9 : decode b_T_mixed 9 = .ok (.lload 4, 2) := by decide +kernel
theorem d_T_mixed_11 : decode b_T_mixed 11 = .ok (.lload 4, 2) := by decide +kernel
theorem d_T_mixed_13 : decode b_T_mixed 13 = .ok (.bipush 29, 2) := by decide +kernel
theorem d_T_mixed_15 : decode b_T_mixed 15 = .ok (.lushr, 1) := by decide +kernel
theorem d_T_mixed_16 : decode b_T_mixed 16 = .ok (.lxor, 1) := by decide +kernel
theorem d_T_mixed_17 : decode b_T_mixed 17 = .ok (.lreturn, 1) := by decide +kernel
theorem d_T_key_0 : decode b_T_key 0 = .ok (.aload_n 0, 1) := by decide +kernel
theorem d_T_key_1 : decode b_T_key 1 = .ok (.iload_n 1, 1) := by decide +kernel
theorem d_T_key_2 : decode b_T_key 2 = .ok (.invokevirtual 90, 3) := by decide +kernel
theorem d_T_key_5 : decode b_T_key 5 = .ok (.ifCond .ne 5, 3) := by decide +kernel
theorem d_T_key_8 : decode b_T_key 8 = .ok (.iconst 0, 1) := by decide +kernel
theorem d_T_key_9 : decode b_T_key 9 = .ok (.ireturn, 1) := by decide +kernel
theorem d_T_key_10 : decode b_T_key 10 = .ok (.aload_n 0, 1) := by decide +kernel
theorem d_T_key_11 : decode b_T_key 11 = .ok (.getfield 7, 3) := by decide +kernel
theorem d_T_key_14 : decode b_T_key 14 = .ok (.iload_n 1, 1) := by decide +kernel
theorem d_T_key_15 : decode b_T_key 15 = .ok (.lload_n 2, 1) := by decide +kernel
theorem d_T_key_16 : decode b_T_key 16 = .ok (.lastore, 1) := by decide +kernel
theorem d_T_key_17 : decode b_T_key 17 = .ok (.iconst 1, 1) := by decide +kernel
theorem d_T_key_18 : decode b_T_key 18 = .ok (.ireturn, 1) := by decide +kernel
theorem d_T_seal_0 : decode b_T_seal 0 = .ok (.aload_n 0, 1) := by decide +kernel
theorem d_T_seal_1 : decode b_T_seal 1 = .ok (.iload_n 1, 1) := by decide +kernel
theorem d_T_seal_2 : decode b_T_seal 2 = .ok (.invokevirtual 90, 3) := by decide +kernel
theorem d_T_seal_5 : decode b_T_seal 5 = .ok (.ifCond .ne 5, 3) := by decide +kernel
theorem d_T_seal_8 : decode b_T_seal 8 = .ok (.iconst 0, 1) := by decide +kernel
theorem d_T_seal_9 : decode b_T_seal 9 = .ok (.ireturn, 1) := by decide +kernel
theorem d_T_seal_10 : decode b_T_seal 10 = .ok (.aload_n 0, 1) := by decide +kernel
theorem d_T_seal_11 : decode b_T_seal 11 = .ok (.getfield 7, 3) := by decide +kernel
theorem d_T_seal_14 : decode b_T_seal 14 = .ok (.iload_n 1, 1) := by decide +kernel
theorem d_T_seal_15 : decode b_T_seal 15 = .ok (.laload, 1) := by decide +kernel
theorem d_T_seal_16 : decode b_T_seal 16 = .ok (.lload_n 2, 1) := by decide +kernel
theorem d_T_seal_17 : decode b_T_seal 17 = .ok (.invokestatic 96, 3) := by decide +kernel
theorem d_T_seal_20 : decode b_T_seal 20 = .ok (.lstore 8, 2) := by decide +kernel
theorem d_T_seal_22 : decode b_T_seal 22 = .ok (.lload 8, 2) := by decide +kernel
theorem d_T_seal_24 : decode b_T_seal 24 = .ok (.lload 4, 2) := by decide +kernel
theorem d_T_seal_26 : decode b_T_seal 26 = .ok (.invokestatic 96, 3) := by decide +kernel
theorem d_T_seal_29 : decode b_T_seal 29 = .ok (.lstore 10, 2) := by decide +kernel
theorem d_T_seal_31 : decode b_T_seal 31 = .ok (.lload 10, 2) := by decide +kernel
theorem d_T_seal_33 : decode b_T_seal 33 = .ok (.lload 6, 2) := by decide +kernel
theorem d_T_seal_35 : decode b_T_seal 35 = .ok (.invokestatic 96, 3) := by decide +kernel
theorem d_T_seal_38 : decode b_T_seal 38 = .ok (.lstore 12, 2) := by decide +kernel
theorem d_T_seal_40 : decode b_T_seal 40 = .ok (.lload 12, 2) := by decide +kernel
theorem d_T_seal_42 : decode b_T_seal 42 = .ok (.bipush 32, 2) := by decide +kernel
theorem d_T_seal_44 : decode b_T_seal 44 = .ok (.lshr, 1) := by decide +kernel
theorem d_T_seal_45 : decode b_T_seal 45 = .ok (.l2i, 1) := by decide +kernel
theorem d_T_seal_46 : decode b_T_seal 46 = .ok (.ireturn, 1) := by decide +kernel
theorem d_T_ask_0 : decode b_T_ask 0 = .ok (.aload_n 0, 1) := by decide +kernel
theorem d_T_ask_1 : decode b_T_ask 1 = .ok (.iload_n 1, 1) := by decide +kernel
theorem d_T_ask_2 : decode b_T_ask 2 = .ok (.invokevirtual 90, 3) := by decide +kernel
theorem d_T_ask_5 : decode b_T_ask 5 = .ok (.ifCond .ne 7, 3) := by decide +kernel
theorem d_T_ask_8 : decode b_T_ask 8 = .ok (.ldc2_w 100, 3) := by decide +kernel
theorem d_T_ask_11 : decode b_T_ask 11 = .ok (.lreturn, 1) := by decide +kernel
theorem d_T_ask_12 : decode b_T_ask 12 = .ok (.aload_n 0, 1) := by decide +kernel
theorem d_T_ask_13 : decode b_T_ask 13 = .ok (.aload_n 0, 1) := by decide +kernel
theorem d_T_ask_14 : decode b_T_ask 14 = .ok (.getfield 102, 3) := by decide +kernel
theorem d_T_ask_17 : decode b_T_ask 17 = .ok (.ifCond .eq 24, 3) := by decide +kernel
theorem d_T_ask_20 : decode b_T_ask 20 = .ok (.aload_n 0, 1) := by decide +kernel
theorem d_T_ask_21 : decode b_T_ask 21 = .ok (.getfield 106, 3) := by decide +kernel
theorem d_T_ask_24 : decode b_T_ask 24 = .ok (.aload_n 0, 1) := by decide +kernel
theorem d_T_ask_25 : decode b_T_ask 25 = .ok (.getfield 86, 3) := by decide +kernel
theorem d_T_ask_28 : decode b_T_ask 28 = .ok (.lcmp, 1) := by decide +kernel
theorem d_T_ask_29 : decode b_T_ask 29 = .ok (.ifCond .lt 12, 3) := by decide +kernel
theorem d_T_ask_32 : decode b_T_ask 32 = .ok (.aload_n 0, 1) := by decide +kernel
theorem d_T_ask_33 : decode b_T_ask 33 = .ok (.getfield 106, 3) := by decide +kernel
theorem d_T_ask_36 : decode b_T_ask 36 = .ok (.lconst 1, 1) := by decide +kernel
theorem d_T_ask_37 : decode b_T_ask 37 = .ok (.ladd, 1) := by decide +kernel
theorem d_T_ask_38 : decode b_T_ask 38 = .ok (.goto 7, 3) := by decide +kernel
theorem d_T_ask_41 : decode b_T_ask 41 = .ok (.aload_n 0, 1) := by decide +kernel
theorem d_T_ask_42 : decode b_T_ask 42 = .ok (.getfield 86, 3) := by decide +kernel
theorem d_T_ask_45 : decode b_T_ask 45 = .ok (.putfield 106, 3) := by decide +kernel
theorem d_T_ask_48 : decode b_T_ask 48 = .ok (.aload_n 0, 1) := by decide +kernel
theorem d_T_ask_49 : decode b_T_ask 49 = .ok (.iconst 1, 1) := by decide +kernel
theorem d_T_ask_50 : decode b_T_ask 50 = .ok (.putfield 102, 3) := by decide +kernel
theorem d_T_ask_53 : decode b_T_ask 53 = .ok (.aload_n 0, 1) := by decide +kernel
theorem d_T_ask_54 : decode b_T_ask 54 = .ok (.getfield 13, 3) := by decide +kernel
theorem d_T_ask_57 : decode b_T_ask 57 = .ok (.iload_n 1, 1) := by decide +kernel
theorem d_T_ask_58 : decode b_T_ask 58 = .ok (.iconst 1, 1) := by decide +kernel
theorem d_T_ask_59 : decode b_T_ask 59 = .ok (.bastore, 1) := by decide +kernel
theorem d_T_ask_60 : decode b_T_ask 60 = .ok (.aload_n 0, 1) := by decide +kernel
theorem d_T_ask_61 : decode b_T_ask 61 = .ok (.getfield 17, 3) := by decide +kernel
theorem d_T_ask_64 : decode b_T_ask 64 = .ok (.iload_n 1, 1) := by decide +kernel
theorem d_T_ask_65 : decode b_T_ask 65 = .ok (.aload_n 0, 1) := by decide +kernel
theorem d_T_ask_66 : decode b_T_ask 66 = .ok (.getfield 86, 3) := by decide +kernel
theorem d_T_ask_69 : decode b_T_ask 69 = .ok (.lastore, 1) := by decide +kernel
theorem d_T_ask_70 : decode b_T_ask 70 = .ok (.aload_n 0, 1) := by decide +kernel
theorem d_T_ask_71 : decode b_T_ask 71 = .ok (.getfield 20, 3) := by decide +kernel
theorem d_T_ask_74 : decode b_T_ask 74 = .ok (.iload_n 1, 1) := by decide +kernel
theorem d_T_ask_75 : decode b_T_ask 75 = .ok (.aload_n 0, 1) := by decide +kernel
theorem d_T_ask_76 : decode b_T_ask 76 = .ok (.getfield 106, 3) := by decide +kernel
theorem d_T_ask_79 : decode b_T_ask 79 = .ok (.lastore, 1) := by decide +kernel
theorem d_T_ask_80 : decode b_T_ask 80 = .ok (.aload_n 0, 1) := by decide +kernel
theorem d_T_ask_81 : decode b_T_ask 81 = .ok (.getfield 106, 3) := by decide +kernel
theorem d_T_ask_84 : decode b_T_ask 84 = .ok (.lreturn, 1) := by decide +kernel
theorem d_T_why_0 : decode b_T_why 0 = .ok (.lload 4, 2) := by decide +kernel
theorem d_T_why_2 : decode b_T_why 2 = .ok (.lconst 0, 1) := by decide +kernel
theorem d_T_why_3 : decode b_T_why 3 = .ok (.ldc2_w 109, 3) := by decide +kernel
theorem d_T_why_6 : decode b_T_why 6 = .ok (.invokestatic 111, 3) := by decide +kernel
theorem d_T_why_9 : decode b_T_why 9 = .ok (.ifCond .eq 23, 3) := by decide +kernel
theorem d_T_why_12 : decode b_T_why 12 = .ok (.lload 6, 2) := by decide +kernel
theorem d_T_why_14 : decode b_T_why 14 = .ok (.lconst 0, 1) := by decide +kernel
theorem d_T_why_15 : decode b_T_why 15 = .ok (.ldc2_w 109, 3) := by decide +kernel
theorem d_T_why_18 : decode b_T_why 18 = .ok (.invokestatic 111, 3) := by decide +kernel
theorem d_T_why_21 : decode b_T_why 21 = .ok (.ifCond .eq 11, 3) := by decide +kernel
theorem d_T_why_24 : decode b_T_why 24 = .ok (.lload 4, 2) := by decide +kernel
theorem d_T_why_26 : decode b_T_why 26 = .ok (.lload 6, 2) := by decide +kernel
theorem d_T_why_28 : decode b_T_why 28 = .ok (.lcmp, 1) := by decide +kernel
theorem d_T_why_29 : decode b_T_why 29 = .ok (.ifCond .le 6, 3) := by decide +kernel
theorem d_T_why_32 : decode b_T_why 32 = .ok (.bipush (-2), 2) := by decide +kernel
theorem d_T_why_34 : decode b_T_why 34 = .ok (.ireturn, 1) := by decide +kernel
theorem d_T_why_35 : decode b_T_why 35 = .ok (.aload_n 0, 1) := by decide +kernel
theorem d_T_why_36 : decode b_T_why 36 = .ok (.iload_n 1, 1) := by decide +kernel
theorem d_T_why_37 : decode b_T_why 37 = .ok (.lload_n 2, 1) := by decide +kernel
theorem d_T_why_38 : decode b_T_why 38 = .ok (.lload 4, 2) := by decide +kernel
theorem d_T_why_40 : decode b_T_why 40 = .ok (.lload 6, 2) := by decide +kernel
theorem d_T_why_42 : decode b_T_why 42 = .ok (.invokevirtual 115, 3) := by decide +kernel
theorem d_T_why_45 : decode b_T_why 45 = .ok (.istore 9, 2) := by decide +kernel
