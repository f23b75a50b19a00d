theorem d_T_high_2 : decode b_T_high 2 = .ok (.invokevirtual 90, 3) := by decide +kernel
theorem d_T_high_5 : decode b_T_high 5 = .ok (.ifCond .eq 12, 3) := by decide +kernel
theorem d_T_high_8 : decode b_T_high 8 = .ok (.aload_n 0, 1) := by decide +kernel
theorem d_T_high_9 : decode b_T_high 9 = .ok (.getfield 29, 3) := by decide +kernel
theorem d_T_high_12 : decode b_T_high 12 = .ok (.iload_n 1, 1) := by decide +kernel
theorem d_T_high_13 : decode b_T_high 13 = .ok (.iaload, 1) := by decide +kernel
theorem d_T_high_14 : decode b_T_high 14 = .ok (.ifCond .ne 7, 3) := by decide +kernel
theorem d_T_high_17 : decode b_T_high 17 = .ok (.ldc2_w 100, 3) := by decide +kernel
theorem d_T_high_20 : decode b_T_high 20 = .ok (.lreturn, 1) := by decide +kernel
theorem d_T_high_21 : decode b_T_high 21 = .ok (.aload_n 0, 1) := by decide +kernel
theorem d_T_high_22 : decode b_T_high 22 = .ok (.iload_n 1, 1) := by decide +kernel
theorem d_T_high_23 : decode b_T_high 23 = .ok (.invokevirtual 127, 3) := by decide +kernel
theorem d_T_high_26 : decode b_T_high 26 = .ok (.aload_n 0, 1) := by decide +kernel
theorem d_T_high_27 : decode b_T_high 27 = .ok (.getfield 54, 3) := by decide +kernel
theorem d_T_high_30 : decode b_T_high 30 = .ok (.iload_n 1, 1) := by decide +kernel
theorem d_T_high_31 : decode b_T_high 31 = .ok (.laload, 1) := by decide +kernel
theorem d_T_high_32 : decode b_T_high 32 = .ok (.lreturn, 1) := by decide +kernel
theorem d_T_usable_0 : decode b_T_usable 0 = .ok (.aload_n 0, 1) := by decide +kernel
theorem d_T_usable_1 : decode b_T_usable 1 = .ok (.getfield 42, 3) := by decide +kernel
theorem d_T_usable_4 : decode b_T_usable 4 = .ok (.iload_n 1, 1) := by decide +kernel
theorem d_T_usable_5 : decode b_T_usable 5 = .ok (.iaload, 1) := by decide +kernel
theorem d_T_usable_6 : decode b_T_usable 6 = .ok (.iconst 1, 1) := by decide +kernel
theorem d_T_usable_7 : decode b_T_usable 7 = .ok (.if_icmp .lt 31, 3) := by decide +kernel
theorem d_T_usable_10 : decode b_T_usable 10 = .ok (.aload_n 0, 1) := by decide +kernel
theorem d_T_usable_11 : decode b_T_usable 11 = .ok (.getfield 42, 3) := by decide +kernel
theorem d_T_usable_14 : decode b_T_usable 14 = .ok (.iload_n 1, 1) := by decide +kernel
theorem d_T_usable_15 : decode b_T_usable 15 = .ok (.iaload, 1) := by decide +kernel
theorem d_T_usable_16 : decode b_T_usable 16 = .ok (.bipush 14, 2) := by decide +kernel
theorem d_T_usable_18 : decode b_T_usable 18 = .ok (.if_icmp .gt 20, 3) := by decide +kernel
theorem d_T_usable_21 : decode b_T_usable 21 = .ok (.aload_n 0, 1) := by decide +kernel
theorem d_T_usable_22 : decode b_T_usable 22 = .ok (.getfield 45, 3) := by decide +kernel
theorem d_T_usable_25 : decode b_T_usable 25 = .ok (.iload_n 1, 1) := by decide +kernel
theorem d_T_usable_26 : decode b_T_usable 26 = .ok (.iaload, 1) := by decide +kernel
theorem d_T_usable_27 : decode b_T_usable 27 = .ok (.aload_n 0, 1) := by decide +kernel
theorem d_T_usable_28 : decode b_T_usable 28 = .ok (.getfield 80, 3) := by decide +kernel
theorem d_T_usable_31 : decode b_T_usable 31 = .ok (.if_icmp .eq 7, 3) := by decide +kernel
theorem d_T_usable_34 : decode b_T_usable 34 = .ok (.iconst 1, 1) := by decide +kernel
theorem d_T_usable_35 : decode b_T_usable 35 = .ok (.goto 4, 3) := by decide +kernel
theorem d_T_usable_38 : decode b_T_usable 38 = .ok (.iconst 0, 1) := by decide +kernel
theorem d_T_usable_39 : decode b_T_usable 39 = .ok (.istore_n 2, 1) := by decide +kernel
theorem d_T_usable_40 : decode b_T_usable 40 = .ok (.iload_n 2, 1) := by decide +kernel
theorem d_T_usable_41 : decode b_T_usable 41 = .ok (.ifCond .eq 37, 3) := by decide +kernel
theorem d_T_usable_44 : decode b_T_usable 44 = .ok (.aload_n 0, 1) := by decide +kernel
theorem d_T_usable_45 : decode b_T_usable 45 = .ok (.getfield 29, 3) := by decide +kernel
theorem d_T_usable_48 : decode b_T_usable 48 = .ok (.iload_n 1, 1) := by decide +kernel
theorem d_T_usable_49 : decode b_T_usable 49 = .ok (.iaload, 1) := by decide +kernel
theorem d_T_usable_50 : decode b_T_usable 50 = .ok (.ifCond .le 28, 3) := by decide +kernel
theorem d_T_usable_53 : decode b_T_usable 53 = .ok (.aload_n 0, 1) := by decide +kernel
theorem d_T_usable_54 : decode b_T_usable 54 = .ok (.getfield 86, 3) := by decide +kernel
theorem d_T_usable_57 : decode b_T_usable 57 = .ok (.aload_n 0, 1) := by decide +kernel
theorem d_T_usable_58 : decode b_T_usable 58 = .ok (.getfield 39, 3) := by decide +kernel
theorem d_T_usable_61 : decode b_T_usable 61 = .ok (.bipush 8, 2) := by decide +kernel
theorem d_T_usable_63 : decode b_T_usable 63 = .ok (.iload_n 1, 1) := by decide +kernel
theorem d_T_usable_64 : decode b_T_usable 64 = .ok (.imul, 1) := by decide +kernel
theorem d_T_usable_65 : decode b_T_usable 65 = .ok (.laload, 1) := by decide +kernel
theorem d_T_usable_66 : decode b_T_usable 66 = .ok (.lsub, 1) := by decide +kernel
theorem d_T_usable_67 : decode b_T_usable 67 = .ok (.ldc2_w 83, 3) := by decide +kernel
theorem d_T_usable_70 : decode b_T_usable 70 = .ok (.lcmp, 1) := by decide +kernel
theorem d_T_usable_71 : decode b_T_usable 71 = .ok (.ifCond .gt 7, 3) := by decide +kernel
theorem d_T_usable_74 : decode b_T_usable 74 = .ok (.iconst 1, 1) := by decide +kernel
theorem d_T_usable_75 : decode b_T_usable 75 = .ok (.goto 4, 3) := by decide +kernel
theorem d_T_usable_78 : decode b_T_usable 78 = .ok (.iconst 0, 1) := by decide +kernel
theorem d_T_usable_79 : decode b_T_usable 79 = .ok (.ireturn, 1) := by decide +kernel
theorem d_T_left_0 : decode b_T_left 0 = .ok (.iconst 0, 1) := by decide +kernel
theorem d_T_left_1 : decode b_T_left 1 = .ok (.istore_n 1, 1) := by decide +kernel
theorem d_T_left_2 : decode b_T_left 2 = .ok (.iconst 0, 1) := by decide +kernel
theorem d_T_left_3 : decode b_T_left 3 = .ok (.istore_n 2, 1) := by decide +kernel
theorem d_T_left_4 : decode b_T_left 4 = .ok (.iload_n 2, 1) := by decide +kernel
theorem d_T_left_5 : decode b_T_left 5 = .ok (.aload_n 0, 1) := by decide +kernel
theorem d_T_left_6 : decode b_T_left 6 = .ok (.getfield 73, 3) := by decide +kernel
theorem d_T_left_9 : decode b_T_left 9 = .ok (.if_icmp .ge 26, 3) := by decide +kernel
theorem d_T_left_12 : decode b_T_left 12 = .ok (.aload_n 0, 1) := by decide +kernel
theorem d_T_left_13 : decode b_T_left 13 = .ok (.getfield 57, 3) := by decide +kernel
theorem d_T_left_16 : decode b_T_left 16 = .ok (.iload_n 2, 1) := by decide +kernel
theorem d_T_left_17 : decode b_T_left 17 = .ok (.baload, 1) := by decide +kernel
theorem d_T_left_18 : decode b_T_left 18 = .ok (.ifCond .eq 9, 3) := by decide +kernel
theorem d_T_left_21 : decode b_T_left 21 = .ok (.iload_n 1, 1) := by decide +kernel
theorem d_T_left_22 : decode b_T_left 22 = .ok (.iconst 1, 1) := by decide +kernel
theorem d_T_left_23 : decode b_T_left 23 = .ok (.iadd, 1) := by decide +kernel
theorem d_T_left_24 : decode b_T_left 24 = .ok (.goto 4, 3) := by decide +kernel
theorem d_T_left_27 : decode b_T_left 27 = .ok (.iload_n 1, 1) := by decide +kernel
theorem d_T_left_28 : decode b_T_left 28 = .ok (.istore_n 1, 1) := by decide +kernel
theorem d_T_left_29 : decode b_T_left 29 = .ok (.iinc 2 1, 3) := by decide +kernel
theorem d_T_left_32 : decode b_T_left 32 = .ok (.goto (-28), 3) := by decide +kernel
theorem d_T_left_35 : decode b_T_left 35 = .ok (.iload_n 1, 1) := by decide +kernel
theorem d_T_left_36 : decode b_T_left 36 = .ok (.ireturn, 1) := by decide +kernel
theorem d_T_covering_0 : decode b_T_covering 0 = .ok (.iconst 0, 1) := by decide +kernel
theorem d_T_covering_1 : decode b_T_covering 1 = .ok (.istore_n 3, 1) := by decide +kernel
theorem d_T_covering_2 : decode b_T_covering 2 = .ok (.iconst 0, 1) := by decide +kernel
theorem d_T_covering_3 : decode b_T_covering 3 = .ok (.istore 4, 2) := by decide +kernel
theorem d_T_covering_5 : decode b_T_covering 5 = .ok (.iload 4, 2) := by decide +kernel
theorem d_T_covering_7 : decode b_T_covering 7 = .ok (.aload_n 0, 1) := by decide +kernel
theorem d_T_covering_8 : decode b_T_covering 8 = .ok (.getfield 73, 3) := by decide +kernel
theorem d_T_covering_11 : decode b_T_covering 11 = .ok (.if_icmp .ge 48, 3) := by decide +kernel
theorem d_T_covering_14 : decode b_T_covering 14 = .ok (.aload_n 0, 1) := by decide +kernel
theorem d_T_covering_15 : decode b_T_covering 15 = .ok (.getfield 57, 3) := by decide +kernel
theorem d_T_covering_18 : decode b_T_covering 18 = .ok (.iload 4, 2) := by decide +kernel
theorem d_T_covering_20 : decode b_T_covering 20 = .ok (.baload, 1) := by decide +kernel
theorem d_T_covering_21 : decode b_T_covering 21 = .ok (.ifCond .eq 30, 3) := by decide +kernel
theorem d_T_covering_24 : decode b_T_covering 24 = .ok (.lload_n 1, 1) := by decide +kernel
theorem d_T_covering_25 : decode b_T_covering 25 = .ok (.aload_n 0, 1) := by decide +kernel
theorem d_T_covering_26 : decode b_T_covering 26 = .ok (.getfield 51, 3) := by decide +kernel
theorem d_T_covering_29 : decode b_T_covering 29 = .ok (.iload 4, 2) := by decide +kernel
theorem d_T_covering_31 : decode b_T_covering 31 = .ok (.laload, 1) := by decide +kernel
theorem d_T_covering_32 : decode b_T_covering 32 = .ok (.aload_n 0, 1) := by decide +kernel
theorem d_T_covering_33 : decode b_T_covering 33 = .ok (.getfield 54, 3) := by decide +kernel
theorem d_T_covering_36 : decode b_T_covering 36 = .ok (.iload 4, 2) := by decide +kernel
theorem d_T_covering_38 : decode b_T_covering 38 = .ok (.laload, 1) := by decide +kernel
theorem d_T_covering_39 : decode b_T_covering 39 = .ok (.invokestatic 111, 3) := by decide +kernel
theorem d_T_covering_42 : decode b_T_covering 42 = .ok (.ifCond .eq 9, 3) := by decide +kernel
theorem d_T_covering_45 : decode b_T_covering 45 = .ok (.iload_n 3, 1) := by decide +kernel
theorem d_T_covering_46 : decode b_T_covering 46 = .ok (.iconst 1, 1) := by decide +kernel
theorem d_T_covering_47 : decode b_T_covering 47 = .ok (.iadd, 1) := by decide +kernel
theorem d_T_covering_48 : decode b_T_covering 48 = .ok (.goto 4, 3) := by decide +kernel
theorem d_T_covering_51 : decode b_T_covering 51 = .ok (.iload_n 3, 1) := by decide +kernel
theorem d_T_covering_52 : decode b_T_covering 52 = .ok (.istore_n 3, 1) := by decide +kernel
theorem d_T_covering_53 : decode b_T_covering 53 = .ok (.iinc 4 1, 3) := by decide +kernel
theorem d_T_covering_56 : decode b_T_covering 56 = .ok (.goto (-51), 3) := by decide +kernel
theorem d_T_covering_59 : decode b_T_covering 59 = .ok (.iload_n 3, 1) := by decide +kernel
theorem d_T_covering_60 : decode b_T_covering 60 = .ok (.ireturn, 1) := by decide +kernel
theorem d_T_hullOf_0 : decode b_T_hullOf 0 = .ok (.iconst 0, 1) := by decide +kernel
theorem d_T_hullOf_1 : decode b_T_hullOf 1 = .ok (.istore_n 2, 1) := by decide +kernel
theorem d_T_hullOf_2 : decode b_T_hullOf 2 = .ok (.iconst 0, 1) := by decide +kernel
theorem d_T_hullOf_3 : decode b_T_hullOf 3 = .ok (.istore_n 3, 1) := by decide +kernel
theorem d_T_hullOf_4 : decode b_T_hullOf 4 = .ok (.iload_n 3, 1) := by decide +kernel
theorem d_T_hullOf_5 : decode b_T_hullOf 5 = .ok (.aload_n 0, 1) := by decide +kernel
theorem d_T_hullOf_6 : decode b_T_hullOf 6 = .ok (.getfield 73, 3) := by decide +kernel
theorem d_T_hullOf_9 : decode b_T_hullOf 9 = .ok (.if_icmp .ge 199, 3) := by decide +kernel
theorem d_T_hullOf_12 : decode b_T_hullOf 12 = .ok (.aload_n 0, 1) := by decide +kernel
theorem d_T_hullOf_13 : decode b_T_hullOf 13 = .ok (.getfield 57, 3) := by decide +kernel
theorem d_T_hullOf_16 : decode b_T_hullOf 16 = .ok (.iload_n 3, 1) := by decide +kernel
theorem d_T_hullOf_17 : decode b_T_hullOf 17 = .ok (.baload, 1) := by decide +kernel
theorem d_T_hullOf_18 : decode b_T_hullOf 18 = .ok (.ifCond .eq 89, 3) := by decide +kernel
theorem d_T_hullOf_21 : decode b_T_hullOf 21 = .ok (.aload_n 0, 1) := by decide +kernel
theorem d_T_hullOf_22 : decode b_T_hullOf 22 = .ok (.aload_n 0, 1) := by decide +kernel
theorem d_T_hullOf_23 : decode b_T_hullOf 23 = .ok (.getfield 51, 3) := by decide +kernel
theorem d_T_hullOf_26 : decode b_T_hullOf 26 = .ok (.iload_n 3, 1) := by decide +kernel
theorem d_T_hullOf_27 : decode b_T_hullOf 27 = .ok (.laload, 1) := by decide +kernel
theorem d_T_hullOf_28 : decode b_T_hullOf 28 = .ok (.invokevirtual 131, 3) := by decide +kernel
theorem d_T_hullOf_31 : decode b_T_hullOf 31 = .ok (.iload_n 1, 1) := by decide +kernel
theorem d_T_hullOf_32 : decode b_T_hullOf 32 = .ok (.if_icmp .lt 75, 3) := by decide +kernel
theorem d_T_hullOf_35 : decode b_T_hullOf 35 = .ok (.aload_n 0, 1) := by decide +kernel
theorem d_T_hullOf_36 : decode b_T_hullOf 36 = .ok (.iload_n 2, 1) := by decide +kernel
theorem d_T_hullOf_37 : decode b_T_hullOf 37 = .ok (.ifCond .eq 24, 3) := by decide +kernel
theorem d_T_hullOf_40 : decode b_T_hullOf 40 = .ok (.aload_n 0, 1) := by decide +kernel
theorem d_T_hullOf_41 : decode b_T_hullOf 41 = .ok (.getfield 135, 3) := by decide +kernel
theorem d_T_hullOf_44 : decode b_T_hullOf 44 = .ok (.aload_n 0, 1) := by decide +kernel
theorem d_T_hullOf_45 : decode b_T_hullOf 45 = .ok (.getfield 51, 3) := by decide +kernel
theorem d_T_hullOf_48 : decode b_T_hullOf 48 = .ok (.iload_n 3, 1) := by decide +kernel
theorem d_T_hullOf_49 : decode b_T_hullOf 49 = .ok (.laload, 1) := by decide +kernel
theorem d_T_hullOf_50 : decode b_T_hullOf 50 = .ok (.lcmp, 1) := by decide +kernel
theorem d_T_hullOf_51 : decode b_T_hullOf 51 = .ok (.ifCond .ge 10, 3) := by decide +kernel
theorem d_T_hullOf_54 : decode b_T_hullOf 54 = .ok (.aload_n 0, 1) := by decide +kernel
theorem d_T_hullOf_55 : decode b_T_hullOf 55 = .ok (.getfield 135, 3) := by decide +kernel
theorem d_T_hullOf_58 : decode b_T_hullOf 58 = .ok (.goto 9, 3) := by decide +kernel
theorem d_T_hullOf_61 : decode b_T_hullOf 61 = .ok (.aload_n 0, 1) := by decide +kernel
theorem d_T_hullOf_62 : decode b_T_hullOf 62 = .ok (.getfield 51, 3) := by decide +kernel
theorem d_T_hullOf_65 : decode b_T_hullOf 65 = .ok (.iload_n 3, 1) := by decide +kernel
theorem d_T_hullOf_66 : decode b_T_hullOf 66 = .ok (.laload, 1) := by decide +kernel
theorem d_T_hullOf_67 : decode b_T_hullOf 67 = .ok (.putfield 135, 3) := by decide +kernel
