theorem d_Sv_lowerEnd_18 : decode b_Sv_lowerEnd 18 = .ok (.laload, 1) := by decide +kernel
theorem d_Sv_lowerEnd_19 : decode b_Sv_lowerEnd 19 = .ok (.lsub, 1) := by decide +kernel
theorem d_Sv_lowerEnd_20 : decode b_Sv_lowerEnd 20 = .ok (.iload 4, 2) := by decide +kernel
theorem d_Sv_lowerEnd_22 : decode b_Sv_lowerEnd 22 = .ok (.invokestatic 64, 3) := by decide +kernel
theorem d_Sv_lowerEnd_25 : decode b_Sv_lowerEnd 25 = .ok (.lsub, 1) := by decide +kernel
theorem d_Sv_lowerEnd_26 : decode b_Sv_lowerEnd 26 = .ok (.lreturn, 1) := by decide +kernel
theorem d_Sv_upperEnd_0 : decode b_Sv_upperEnd 0 = .ok (.aload_n 0, 1) := by decide +kernel
theorem d_Sv_upperEnd_1 : decode b_Sv_upperEnd 1 = .ok (.getfield 19, 3) := by decide +kernel
theorem d_Sv_upperEnd_4 : decode b_Sv_upperEnd 4 = .ok (.iload_n 1, 1) := by decide +kernel
theorem d_Sv_upperEnd_5 : decode b_Sv_upperEnd 5 = .ok (.laload, 1) := by decide +kernel
theorem d_Sv_upperEnd_6 : decode b_Sv_upperEnd 6 = .ok (.aload_n 0, 1) := by decide +kernel
theorem d_Sv_upperEnd_7 : decode b_Sv_upperEnd 7 = .ok (.getfield 61, 3) := by decide +kernel
theorem d_Sv_upperEnd_10 : decode b_Sv_upperEnd 10 = .ok (.i2l, 1) := by decide +kernel
theorem d_Sv_upperEnd_11 : decode b_Sv_upperEnd 11 = .ok (.ladd, 1) := by decide +kernel
theorem d_Sv_upperEnd_12 : decode b_Sv_upperEnd 12 = .ok (.lload_n 2, 1) := by decide +kernel
theorem d_Sv_upperEnd_13 : decode b_Sv_upperEnd 13 = .ok (.aload_n 0, 1) := by decide +kernel
theorem d_Sv_upperEnd_14 : decode b_Sv_upperEnd 14 = .ok (.getfield 22, 3) := by decide +kernel
theorem d_Sv_upperEnd_17 : decode b_Sv_upperEnd 17 = .ok (.iload_n 1, 1) := by decide +kernel
theorem d_Sv_upperEnd_18 : decode b_Sv_upperEnd 18 = .ok (.laload, 1) := by decide +kernel
theorem d_Sv_upperEnd_19 : decode b_Sv_upperEnd 19 = .ok (.lsub, 1) := by decide +kernel
theorem d_Sv_upperEnd_20 : decode b_Sv_upperEnd 20 = .ok (.iload 4, 2) := by decide +kernel
theorem d_Sv_upperEnd_22 : decode b_Sv_upperEnd 22 = .ok (.invokestatic 64, 3) := by decide +kernel
theorem d_Sv_upperEnd_25 : decode b_Sv_upperEnd 25 = .ok (.ladd, 1) := by decide +kernel
theorem d_Sv_upperEnd_26 : decode b_Sv_upperEnd 26 = .ok (.lreturn, 1) := by decide +kernel
theorem d_Sv_lengthOf_0 : decode b_Sv_lengthOf 0 = .ok (.aload_n 0, 1) := by decide +kernel
theorem d_Sv_lengthOf_1 : decode b_Sv_lengthOf 1 = .ok (.iload_n 1, 1) := by decide +kernel
theorem d_Sv_lengthOf_2 : decode b_Sv_lengthOf 2 = .ok (.lload_n 2, 1) := by decide +kernel
theorem d_Sv_lengthOf_3 : decode b_Sv_lengthOf 3 = .ok (.iload 4, 2) := by decide +kernel
theorem d_Sv_lengthOf_5 : decode b_Sv_lengthOf 5 = .ok (.invokevirtual 55, 3) := by decide +kernel
theorem d_Sv_lengthOf_8 : decode b_Sv_lengthOf 8 = .ok (.aload_n 0, 1) := by decide +kernel
theorem d_Sv_lengthOf_9 : decode b_Sv_lengthOf 9 = .ok (.iload_n 1, 1) := by decide +kernel
theorem d_Sv_lengthOf_10 : decode b_Sv_lengthOf 10 = .ok (.lload_n 2, 1) := by decide +kernel
theorem d_Sv_lengthOf_11 : decode b_Sv_lengthOf 11 = .ok (.iload 4, 2) := by decide +kernel
theorem d_Sv_lengthOf_13 : decode b_Sv_lengthOf 13 = .ok (.invokevirtual 58, 3) := by decide +kernel
theorem d_Sv_lengthOf_16 : decode b_Sv_lengthOf 16 = .ok (.lsub, 1) := by decide +kernel
theorem d_Sv_lengthOf_17 : decode b_Sv_lengthOf 17 = .ok (.lreturn, 1) := by decide +kernel
theorem d_Sv_init_0 : decode b_Sv_init 0 = .ok (.aload_n 0, 1) := by decide +kernel
theorem d_Sv_init_1 : decode b_Sv_init 1 = .ok (.invokespecial 3, 3) := by decide +kernel
theorem d_Sv_init_4 : decode b_Sv_init 4 = .ok (.aload_n 0, 1) := by decide +kernel
theorem d_Sv_init_5 : decode b_Sv_init 5 = .ok (.bipush 16, 2) := by decide +kernel
theorem d_Sv_init_7 : decode b_Sv_init 7 = .ok (.putfield 9, 3) := by decide +kernel
theorem d_Sv_init_10 : decode b_Sv_init 10 = .ok (.aload_n 0, 1) := by decide +kernel
theorem d_Sv_init_11 : decode b_Sv_init 11 = .ok (.bipush 8, 2) := by decide +kernel
theorem d_Sv_init_13 : decode b_Sv_init 13 = .ok (.newarray .long, 2) := by decide +kernel
theorem d_Sv_init_15 : decode b_Sv_init 15 = .ok (.putfield 15, 3) := by decide +kernel
theorem d_Sv_init_18 : decode b_Sv_init 18 = .ok (.aload_n 0, 1) := by decide +kernel
theorem d_Sv_init_19 : decode b_Sv_init 19 = .ok (.bipush 8, 2) := by decide +kernel
theorem d_Sv_init_21 : decode b_Sv_init 21 = .ok (.newarray .long, 2) := by decide +kernel
theorem d_Sv_init_23 : decode b_Sv_init 23 = .ok (.putfield 19, 3) := by decide +kernel
theorem d_Sv_init_26 : decode b_Sv_init 26 = .ok (.aload_n 0, 1) := by decide +kernel
theorem d_Sv_init_27 : decode b_Sv_init 27 = .ok (.bipush 8, 2) := by decide +kernel
theorem d_Sv_init_29 : decode b_Sv_init 29 = .ok (.newarray .long, 2) := by decide +kernel
theorem d_Sv_init_31 : decode b_Sv_init 31 = .ok (.putfield 22, 3) := by decide +kernel
theorem d_Sv_init_34 : decode b_Sv_init 34 = .ok (.return_, 1) := by decide +kernel
theorem d_Sv_makeRoomForSample_0 : decode b_Sv_makeRoomForSample 0 = .ok (.aload_n 0, 1) := by decide +kernel
theorem d_Sv_makeRoomForSample_1 : decode b_Sv_makeRoomForSample 1 = .ok (.aload_n 0, 1) := by decide +kernel
theorem d_Sv_makeRoomForSample_2 : decode b_Sv_makeRoomForSample 2 = .ok (.getfield 36, 3) := by decide +kernel
theorem d_Sv_makeRoomForSample_5 : decode b_Sv_makeRoomForSample 5 = .ok (.iconst 1, 1) := by decide +kernel
theorem d_Sv_makeRoomForSample_6 : decode b_Sv_makeRoomForSample 6 = .ok (.iadd, 1) := by decide +kernel
theorem d_Sv_makeRoomForSample_7 : decode b_Sv_makeRoomForSample 7 = .ok (.bipush 8, 2) := by decide +kernel
theorem d_Sv_makeRoomForSample_9 : decode b_Sv_makeRoomForSample 9 = .ok (.invokestatic 45, 3) := by decide +kernel
theorem d_Sv_makeRoomForSample_12 : decode b_Sv_makeRoomForSample 12 = .ok (.putfield 36, 3) := by decide +kernel
theorem d_Sv_makeRoomForSample_15 : decode b_Sv_makeRoomForSample 15 = .ok (.aload_n 0, 1) := by decide +kernel
theorem d_Sv_makeRoomForSample_16 : decode b_Sv_makeRoomForSample 16 = .ok (.getfield 36, 3) := by decide +kernel
theorem d_Sv_makeRoomForSample_19 : decode b_Sv_makeRoomForSample 19 = .ok (.iconst 1, 1) := by decide +kernel
theorem d_Sv_makeRoomForSample_20 : decode b_Sv_makeRoomForSample 20 = .ok (.isub, 1) := by decide +kernel
theorem d_Sv_makeRoomForSample_21 : decode b_Sv_makeRoomForSample 21 = .ok (.istore_n 1, 1) := by decide +kernel
theorem d_Sv_makeRoomForSample_22 : decode b_Sv_makeRoomForSample 22 = .ok (.iload_n 1, 1) := by decide +kernel
theorem d_Sv_makeRoomForSample_23 : decode b_Sv_makeRoomForSample 23 = .ok (.ifCond .le 51, 3) := by decide +kernel
theorem d_Sv_makeRoomForSample_26 : decode b_Sv_makeRoomForSample 26 = .ok (.aload_n 0, 1) := by decide +kernel
theorem d_Sv_makeRoomForSample_27 : decode b_Sv_makeRoomForSample 27 = .ok (.getfield 15, 3) := by decide +kernel
theorem d_Sv_makeRoomForSample_30 : decode b_Sv_makeRoomForSample 30 = .ok (.iload_n 1, 1) := by decide +kernel
theorem d_Sv_makeRoomForSample_31 : decode b_Sv_makeRoomForSample 31 = .ok (.aload_n 0, 1) := by decide +kernel
theorem d_Sv_makeRoomForSample_32 : decode b_Sv_makeRoomForSample 32 = .ok (.getfield 15, 3) := by decide +kernel
theorem d_Sv_makeRoomForSample_35 : decode b_Sv_makeRoomForSample 35 = .ok (.iload_n 1, 1) := by decide +kernel
theorem d_Sv_makeRoomForSample_36 : decode b_Sv_makeRoomForSample 36 = .ok (.iconst 1, 1) := by decide +kernel
theorem d_Sv_makeRoomForSample_37 : decode b_Sv_makeRoomForSample 37 = .ok (.isub, 1) := by decide +kernel
theorem d_Sv_makeRoomForSample_38 : decode b_Sv_makeRoomForSample 38 = .ok (.laload, 1) := by decide +kernel
theorem d_Sv_makeRoomForSample_39 : decode b_Sv_makeRoomForSample 39 = .ok (.lastore, 1) := by decide +kernel
theorem d_Sv_makeRoomForSample_40 : decode b_Sv_makeRoomForSample 40 = .ok (.aload_n 0, 1) := by decide +kernel
theorem d_Sv_makeRoomForSample_41 : decode b_Sv_makeRoomForSample 41 = .ok (.getfield 19, 3) := by decide +kernel
theorem d_Sv_makeRoomForSample_44 : decode b_Sv_makeRoomForSample 44 = .ok (.iload_n 1, 1) := by decide +kernel
theorem d_Sv_makeRoomForSample_45 : decode b_Sv_makeRoomForSample 45 = .ok (.aload_n 0, 1) := by decide +kernel
theorem d_Sv_makeRoomForSample_46 : decode b_Sv_makeRoomForSample 46 = .ok (.getfield 19, 3) := by decide +kernel
theorem d_Sv_makeRoomForSample_49 : decode b_Sv_makeRoomForSample 49 = .ok (.iload_n 1, 1) := by decide +kernel
theorem d_Sv_makeRoomForSample_50 : decode b_Sv_makeRoomForSample 50 = .ok (.iconst 1, 1) := by decide +kernel
theorem d_Sv_makeRoomForSample_51 : decode b_Sv_makeRoomForSample 51 = .ok (.isub, 1) := by decide +kernel
theorem d_Sv_makeRoomForSample_52 : decode b_Sv_makeRoomForSample 52 = .ok (.laload, 1) := by decide +kernel
theorem d_Sv_makeRoomForSample_53 : decode b_Sv_makeRoomForSample 53 = .ok (.lastore, 1) := by decide +kernel
theorem d_Sv_makeRoomForSample_54 : decode b_Sv_makeRoomForSample 54 = .ok (.aload_n 0, 1) := by decide +kernel
theorem d_Sv_makeRoomForSample_55 : decode b_Sv_makeRoomForSample 55 = .ok (.getfield 22, 3) := by decide +kernel
theorem d_Sv_makeRoomForSample_58 : decode b_Sv_makeRoomForSample 58 = .ok (.iload_n 1, 1) := by decide +kernel
theorem d_Sv_makeRoomForSample_59 : decode b_Sv_makeRoomForSample 59 = .ok (.aload_n 0, 1) := by decide +kernel
theorem d_Sv_makeRoomForSample_60 : decode b_Sv_makeRoomForSample 60 = .ok (.getfield 22, 3) := by decide +kernel
theorem d_Sv_makeRoomForSample_63 : decode b_Sv_makeRoomForSample 63 = .ok (.iload_n 1, 1) := by decide +kernel
theorem d_Sv_makeRoomForSample_64 : decode b_Sv_makeRoomForSample 64 = .ok (.iconst 1, 1) := by decide +kernel
theorem d_Sv_makeRoomForSample_65 : decode b_Sv_makeRoomForSample 65 = .ok (.isub, 1) := by decide +kernel
theorem d_Sv_makeRoomForSample_66 : decode b_Sv_makeRoomForSample 66 = .ok (.laload, 1) := by decide +kernel
theorem d_Sv_makeRoomForSample_67 : decode b_Sv_makeRoomForSample 67 = .ok (.lastore, 1) := by decide +kernel
theorem d_Sv_makeRoomForSample_68 : decode b_Sv_makeRoomForSample 68 = .ok (.iinc 1 (-1), 3) := by decide +kernel
theorem d_Sv_makeRoomForSample_71 : decode b_Sv_makeRoomForSample 71 = .ok (.goto (-49), 3) := by decide +kernel
theorem d_Sv_makeRoomForSample_74 : decode b_Sv_makeRoomForSample 74 = .ok (.return_, 1) := by decide +kernel
theorem d_Sv_accept_0 : decode b_Sv_accept 0 = .ok (.aload_n 0, 1) := by decide +kernel
theorem d_Sv_accept_1 : decode b_Sv_accept 1 = .ok (.invokevirtual 42, 3) := by decide +kernel
theorem d_Sv_accept_4 : decode b_Sv_accept 4 = .ok (.aload_n 0, 1) := by decide +kernel
theorem d_Sv_accept_5 : decode b_Sv_accept 5 = .ok (.getfield 15, 3) := by decide +kernel
theorem d_Sv_accept_8 : decode b_Sv_accept 8 = .ok (.iconst 0, 1) := by decide +kernel
theorem d_Sv_accept_9 : decode b_Sv_accept 9 = .ok (.lload 5, 2) := by decide +kernel
theorem d_Sv_accept_11 : decode b_Sv_accept 11 = .ok (.lload 7, 2) := by decide +kernel
theorem d_Sv_accept_13 : decode b_Sv_accept 13 = .ok (.lsub, 1) := by decide +kernel
theorem d_Sv_accept_14 : decode b_Sv_accept 14 = .ok (.lastore, 1) := by decide +kernel
theorem d_Sv_accept_15 : decode b_Sv_accept 15 = .ok (.aload_n 0, 1) := by decide +kernel
theorem d_Sv_accept_16 : decode b_Sv_accept 16 = .ok (.getfield 19, 3) := by decide +kernel
theorem d_Sv_accept_19 : decode b_Sv_accept 19 = .ok (.iconst 0, 1) := by decide +kernel
theorem d_Sv_accept_20 : decode b_Sv_accept 20 = .ok (.lload_n 3, 1) := by decide +kernel
theorem d_Sv_accept_21 : decode b_Sv_accept 21 = .ok (.aload_n 0, 1) := by decide +kernel
theorem d_Sv_accept_22 : decode b_Sv_accept 22 = .ok (.getfield 33, 3) := by decide +kernel
theorem d_Sv_accept_25 : decode b_Sv_accept 25 = .ok (.lsub, 1) := by decide +kernel
theorem d_Sv_accept_26 : decode b_Sv_accept 26 = .ok (.lastore, 1) := by decide +kernel
theorem d_Sv_accept_27 : decode b_Sv_accept 27 = .ok (.aload_n 0, 1) := by decide +kernel
theorem d_Sv_accept_28 : decode b_Sv_accept 28 = .ok (.getfield 22, 3) := by decide +kernel
theorem d_Sv_accept_31 : decode b_Sv_accept 31 = .ok (.iconst 0, 1) := by decide +kernel
theorem d_Sv_accept_32 : decode b_Sv_accept 32 = .ok (.lload 7, 2) := by decide +kernel
theorem d_Sv_accept_34 : decode b_Sv_accept 34 = .ok (.lastore, 1) := by decide +kernel
theorem d_Sv_accept_35 : decode b_Sv_accept 35 = .ok (.aload_n 0, 1) := by decide +kernel
theorem d_Sv_accept_36 : decode b_Sv_accept 36 = .ok (.lload_n 1, 1) := by decide +kernel
theorem d_Sv_accept_37 : decode b_Sv_accept 37 = .ok (.putfield 39, 3) := by decide +kernel
theorem d_Sv_accept_40 : decode b_Sv_accept 40 = .ok (.aload_n 0, 1) := by decide +kernel
theorem d_Sv_accept_41 : decode b_Sv_accept 41 = .ok (.iconst 0, 1) := by decide +kernel
theorem d_Sv_accept_42 : decode b_Sv_accept 42 = .ok (.putfield 25, 3) := by decide +kernel
theorem d_Sv_accept_45 : decode b_Sv_accept 45 = .ok (.return_, 1) := by decide +kernel
theorem d_Sv_shortestSample_0 : decode b_Sv_shortestSample 0 = .ok (.iconst 0, 1) := by decide +kernel
theorem d_Sv_shortestSample_1 : decode b_Sv_shortestSample 1 = .ok (.istore 4, 2) := by decide +kernel
theorem d_Sv_shortestSample_3 : decode b_Sv_shortestSample 3 = .ok (.iconst 1, 1) := by decide +kernel
theorem d_Sv_shortestSample_4 : decode b_Sv_shortestSample 4 = .ok (.istore 5, 2) := by decide +kernel
theorem d_Sv_shortestSample_6 : decode b_Sv_shortestSample 6 = .ok (.iload 5, 2) := by decide +kernel
theorem d_Sv_shortestSample_8 : decode b_Sv_shortestSample 8 = .ok (.aload_n 0, 1) := by decide +kernel
theorem d_Sv_shortestSample_9 : decode b_Sv_shortestSample 9 = .ok (.getfield 36, 3) := by decide +kernel
theorem d_Sv_shortestSample_12 : decode b_Sv_shortestSample 12 = .ok (.if_icmp .ge 33, 3) := by decide +kernel
theorem d_Sv_shortestSample_15 : decode b_Sv_shortestSample 15 = .ok (.aload_n 0, 1) := by decide +kernel
theorem d_Sv_shortestSample_16 : decode b_Sv_shortestSample 16 = .ok (.iload 5, 2) := by decide +kernel
theorem d_Sv_shortestSample_18 : decode b_Sv_shortestSample 18 = .ok (.lload_n 1, 1) := by decide +kernel
theorem d_Sv_shortestSample_19 : decode b_Sv_shortestSample 19 = .ok (.iload_n 3, 1) := by decide +kernel
theorem d_Sv_shortestSample_20 : decode b_Sv_shortestSample 20 = .ok (.invokevirtual 51, 3) := by decide +kernel
theorem d_Sv_shortestSample_23 : decode b_Sv_shortestSample 23 = .ok (.aload_n 0, 1) := by decide +kernel
theorem d_Sv_shortestSample_24 : decode b_Sv_shortestSample 24 = .ok (.iload 4, 2) := by decide +kernel
theorem d_Sv_shortestSample_26 : decode b_Sv_shortestSample 26 = .ok (.lload_n 1, 1) := by decide +kernel
theorem d_Sv_shortestSample_27 : decode b_Sv_shortestSample 27 = .ok (.iload_n 3, 1) := by decide +kernel
theorem d_Sv_shortestSample_28 : decode b_Sv_shortestSample 28 = .ok (.invokevirtual 51, 3) := by decide +kernel
theorem d_Sv_shortestSample_31 : decode b_Sv_shortestSample 31 = .ok (.lcmp, 1) := by decide +kernel
theorem d_Sv_shortestSample_32 : decode b_Sv_shortestSample 32 = .ok (.ifCond .ge 7, 3) := by decide +kernel
theorem d_Sv_shortestSample_35 : decode b_Sv_shortestSample 35 = .ok (.iload 5, 2) := by decide +kernel
theorem d_Sv_shortestSample_37 : decode b_Sv_shortestSample 37 = .ok (.istore 4, 2) := by decide +kernel
theorem d_Sv_shortestSample_39 : decode b_Sv_shortestSample 39 = .ok (.iinc 5 1, 3) := by decide +kernel
theorem d_Sv_shortestSample_42 : decode b_Sv_shortestSample 42 = .ok (.goto (-36), 3) := by decide +kernel
theorem d_Sv_shortestSample_45 : decode b_Sv_shortestSample 45 = .ok (.iload 4, 2) := by decide +kernel
theorem d_Sv_shortestSample_47 : decode b_Sv_shortestSample 47 = .ok (.ireturn, 1) := by decide +kernel
theorem d_E_init_0 : decode b_E_init 0 = .ok (.aload_n 0, 1) := by decide +kernel
theorem d_E_init_1 : decode b_E_init 1 = .ok (.invokespecial 3, 3) := by decide +kernel
theorem d_E_init_4 : decode b_E_init 4 = .ok (.aload_n 0, 1) := by decide +kernel
