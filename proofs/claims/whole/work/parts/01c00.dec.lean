theorem d_J_max_II_0 : decode b_J_max_II 0 = .ok (.iload_n 0, 1) := by decide +kernel
theorem d_J_max_II_1 : decode b_J_max_II 1 = .ok (.iload_n 1, 1) := by decide +kernel
theorem d_J_max_II_2 : decode b_J_max_II 2 = .ok (.if_icmp .lt 7, 3) := by decide +kernel
theorem d_J_max_II_5 : decode b_J_max_II 5 = .ok (.iload_n 0, 1) := by decide +kernel
theorem d_J_max_II_6 : decode b_J_max_II 6 = .ok (.goto 4, 3) := by decide +kernel
theorem d_J_max_II_9 : decode b_J_max_II 9 = .ok (.iload_n 1, 1) := by decide +kernel
theorem d_J_max_II_10 : decode b_J_max_II 10 = .ok (.ireturn, 1) := by decide +kernel
theorem d_J_max_JJ_0 : decode b_J_max_JJ 0 = .ok (.lload_n 0, 1) := by decide +kernel
theorem d_J_max_JJ_1 : decode b_J_max_JJ 1 = .ok (.lload_n 2, 1) := by decide +kernel
theorem d_J_max_JJ_2 : decode b_J_max_JJ 2 = .ok (.lcmp, 1) := by decide +kernel
theorem d_J_max_JJ_3 : decode b_J_max_JJ 3 = .ok (.ifCond .lt 7, 3) := by decide +kernel
theorem d_J_max_JJ_6 : decode b_J_max_JJ 6 = .ok (.lload_n 0, 1) := by decide +kernel
theorem d_J_max_JJ_7 : decode b_J_max_JJ 7 = .ok (.goto 4, 3) := by decide +kernel
theorem d_J_max_JJ_10 : decode b_J_max_JJ 10 = .ok (.lload_n 2, 1) := by decide +kernel
theorem d_J_max_JJ_11 : decode b_J_max_JJ 11 = .ok (.lreturn, 1) := by decide +kernel
theorem d_J_min_II_0 : decode b_J_min_II 0 = .ok (.iload_n 0, 1) := by decide +kernel
theorem d_J_min_II_1 : decode b_J_min_II 1 = .ok (.iload_n 1, 1) := by decide +kernel
theorem d_J_min_II_2 : decode b_J_min_II 2 = .ok (.if_icmp .gt 7, 3) := by decide +kernel
theorem d_J_min_II_5 : decode b_J_min_II 5 = .ok (.iload_n 0, 1) := by decide +kernel
theorem d_J_min_II_6 : decode b_J_min_II 6 = .ok (.goto 4, 3) := by decide +kernel
theorem d_J_min_II_9 : decode b_J_min_II 9 = .ok (.iload_n 1, 1) := by decide +kernel
theorem d_J_min_II_10 : decode b_J_min_II 10 = .ok (.ireturn, 1) := by decide +kernel
theorem d_J_min_JJ_0 : decode b_J_min_JJ 0 = .ok (.lload_n 0, 1) := by decide +kernel
theorem d_J_min_JJ_1 : decode b_J_min_JJ 1 = .ok (.lload_n 2, 1) := by decide +kernel
theorem d_J_min_JJ_2 : decode b_J_min_JJ 2 = .ok (.lcmp, 1) := by decide +kernel
theorem d_J_min_JJ_3 : decode b_J_min_JJ 3 = .ok (.ifCond .gt 7, 3) := by decide +kernel
theorem d_J_min_JJ_6 : decode b_J_min_JJ 6 = .ok (.lload_n 0, 1) := by decide +kernel
theorem d_J_min_JJ_7 : decode b_J_min_JJ 7 = .ok (.goto 4, 3) := by decide +kernel
theorem d_J_min_JJ_10 : decode b_J_min_JJ 10 = .ok (.lload_n 2, 1) := by decide +kernel
theorem d_J_min_JJ_11 : decode b_J_min_JJ 11 = .ok (.lreturn, 1) := by decide +kernel
theorem d_J_abs_0 : decode b_J_abs 0 = .ok (.lload_n 0, 1) := by decide +kernel
theorem d_J_abs_1 : decode b_J_abs 1 = .ok (.lconst 0, 1) := by decide +kernel
theorem d_J_abs_2 : decode b_J_abs 2 = .ok (.lcmp, 1) := by decide +kernel
theorem d_J_abs_3 : decode b_J_abs 3 = .ok (.ifCond .ge 8, 3) := by decide +kernel
theorem d_J_abs_6 : decode b_J_abs 6 = .ok (.lload_n 0, 1) := by decide +kernel
theorem d_J_abs_7 : decode b_J_abs 7 = .ok (.lneg, 1) := by decide +kernel
theorem d_J_abs_8 : decode b_J_abs 8 = .ok (.goto 4, 3) := by decide +kernel
theorem d_J_abs_11 : decode b_J_abs 11 = .ok (.lload_n 0, 1) := by decide +kernel
theorem d_J_abs_12 : decode b_J_abs 12 = .ok (.lreturn, 1) := by decide +kernel
theorem d_J_floorDiv_0 : decode b_J_floorDiv 0 = .ok (.lload_n 0, 1) := by decide +kernel
theorem d_J_floorDiv_1 : decode b_J_floorDiv 1 = .ok (.lload_n 2, 1) := by decide +kernel
theorem d_J_floorDiv_2 : decode b_J_floorDiv 2 = .ok (.ldiv, 1) := by decide +kernel
theorem d_J_floorDiv_3 : decode b_J_floorDiv 3 = .ok (.lstore 4, 2) := by decide +kernel
theorem d_J_floorDiv_5 : decode b_J_floorDiv 5 = .ok (.lload_n 0, 1) := by decide +kernel
theorem d_J_floorDiv_6 : decode b_J_floorDiv 6 = .ok (.lload_n 2, 1) := by decide +kernel
theorem d_J_floorDiv_7 : decode b_J_floorDiv 7 = .ok (.lxor, 1) := by decide +kernel
theorem d_J_floorDiv_8 : decode b_J_floorDiv 8 = .ok (.lconst 0, 1) := by decide +kernel
theorem d_J_floorDiv_9 : decode b_J_floorDiv 9 = .ok (.lcmp, 1) := by decide +kernel
theorem d_J_floorDiv_10 : decode b_J_floorDiv 10 = .ok (.ifCond .ge 17, 3) := by decide +kernel
theorem d_J_floorDiv_13 : decode b_J_floorDiv 13 = .ok (.lload 4, 2) := by decide +kernel
theorem d_J_floorDiv_15 : decode b_J_floorDiv 15 = .ok (.lload_n 2, 1) := by decide +kernel
theorem d_J_floorDiv_16 : decode b_J_floorDiv 16 = .ok (.lmul, 1) := by decide +kernel
theorem d_J_floorDiv_17 : decode b_J_floorDiv 17 = .ok (.lload_n 0, 1) := by decide +kernel
theorem d_J_floorDiv_18 : decode b_J_floorDiv 18 = .ok (.lcmp, 1) := by decide +kernel
theorem d_J_floorDiv_19 : decode b_J_floorDiv 19 = .ok (.ifCond .eq 8, 3) := by decide +kernel
theorem d_J_floorDiv_22 : decode b_J_floorDiv 22 = .ok (.lload 4, 2) := by decide +kernel
theorem d_J_floorDiv_24 : decode b_J_floorDiv 24 = .ok (.lconst 1, 1) := by decide +kernel
theorem d_J_floorDiv_25 : decode b_J_floorDiv 25 = .ok (.lsub, 1) := by decide +kernel
theorem d_J_floorDiv_26 : decode b_J_floorDiv 26 = .ok (.lreturn, 1) := by decide +kernel
theorem d_J_floorDiv_27 : decode b_J_floorDiv 27 = .ok (.lload 4, 2) := by decide +kernel
theorem d_J_floorDiv_29 : decode b_J_floorDiv 29 = .ok (.lreturn, 1) := by decide +kernel
theorem d_M_growth_0 : decode b_M_growth 0 = .ok (.lload_n 0, 1) := by decide +kernel
theorem d_M_growth_1 : decode b_M_growth 1 = .ok (.iload_n 2, 1) := by decide +kernel
theorem d_M_growth_2 : decode b_M_growth 2 = .ok (.i2l, 1) := by decide +kernel
theorem d_M_growth_3 : decode b_M_growth 3 = .ok (.lmul, 1) := by decide +kernel
theorem d_M_growth_4 : decode b_M_growth 4 = .ok (.ldc2_w 211, 3) := by decide +kernel
theorem d_M_growth_7 : decode b_M_growth 7 = .ok (.ladd, 1) := by decide +kernel
theorem d_M_growth_8 : decode b_M_growth 8 = .ok (.lconst 1, 1) := by decide +kernel
theorem d_M_growth_9 : decode b_M_growth 9 = .ok (.lsub, 1) := by decide +kernel
theorem d_M_growth_10 : decode b_M_growth 10 = .ok (.ldc2_w 211, 3) := by decide +kernel
theorem d_M_growth_13 : decode b_M_growth 13 = .ok (.invokestatic 240, 3) := by decide +kernel
theorem d_M_growth_16 : decode b_M_growth 16 = .ok (.lreturn, 1) := by decide +kernel
theorem d_M_mixed_0 : decode b_M_mixed 0 = .ok (.lload_n 0, 1) := by decide +kernel
theorem d_M_mixed_1 : decode b_M_mixed 1 = .ok (.lload_n 2, 1) := by decide +kernel
theorem d_M_mixed_2 : decode b_M_mixed 2 = .ok (.lxor, 1) := by decide +kernel
theorem d_M_mixed_3 : decode b_M_mixed 3 = .ok (.ldc2_w 238, 3) := by decide +kernel
theorem d_M_mixed_6 : decode b_M_mixed 6 = .ok (.lmul, 1) := by decide +kernel
theorem d_M_mixed_7 : decode b_M_mixed 7 = .ok (.lstore 4, 2) := by decide +kernel
theorem d_M_mixed_9 : decode b_M_mixed 9 = .ok (.lload 4, 2) := by decide +kernel
theorem d_M_mixed_11 : decode b_M_mixed 11 = .ok (.lload 4, 2) := by decide +kernel
theorem d_M_mixed_13 : decode b_M_mixed 13 = .ok (.bipush 29, 2) := by decide +kernel
theorem d_M_mixed_15 : decode b_M_mixed 15 = .ok (.lushr, 1) := by decide +kernel
theorem d_M_mixed_16 : decode b_M_mixed 16 = .ok (.lxor, 1) := by decide +kernel
theorem d_M_mixed_17 : decode b_M_mixed 17 = .ok (.lreturn, 1) := by decide +kernel
theorem d_M_sealUnder_0 : decode b_M_sealUnder 0 = .ok (.lload_n 0, 1) := by decide +kernel
theorem d_M_sealUnder_1 : decode b_M_sealUnder 1 = .ok (.lload_n 2, 1) := by decide +kernel
theorem d_M_sealUnder_2 : decode b_M_sealUnder 2 = .ok (.invokestatic 235, 3) := by decide +kernel
theorem d_M_sealUnder_5 : decode b_M_sealUnder 5 = .ok (.lload 4, 2) := by decide +kernel
theorem d_M_sealUnder_7 : decode b_M_sealUnder 7 = .ok (.invokestatic 235, 3) := by decide +kernel
theorem d_M_sealUnder_10 : decode b_M_sealUnder 10 = .ok (.lload 6, 2) := by decide +kernel
theorem d_M_sealUnder_12 : decode b_M_sealUnder 12 = .ok (.invokestatic 235, 3) := by decide +kernel
theorem d_M_sealUnder_15 : decode b_M_sealUnder 15 = .ok (.lstore 8, 2) := by decide +kernel
theorem d_M_sealUnder_17 : decode b_M_sealUnder 17 = .ok (.lload 8, 2) := by decide +kernel
theorem d_M_sealUnder_19 : decode b_M_sealUnder 19 = .ok (.bipush 32, 2) := by decide +kernel
theorem d_M_sealUnder_21 : decode b_M_sealUnder 21 = .ok (.lushr, 1) := by decide +kernel
theorem d_M_sealUnder_22 : decode b_M_sealUnder 22 = .ok (.l2i, 1) := by decide +kernel
theorem d_M_sealUnder_23 : decode b_M_sealUnder 23 = .ok (.ireturn, 1) := by decide +kernel
theorem d_M_isReplyTime_0 : decode b_M_isReplyTime 0 = .ok (.lload_n 0, 1) := by decide +kernel
theorem d_M_isReplyTime_1 : decode b_M_isReplyTime 1 = .ok (.lconst 0, 1) := by decide +kernel
theorem d_M_isReplyTime_2 : decode b_M_isReplyTime 2 = .ok (.lcmp, 1) := by decide +kernel
theorem d_M_isReplyTime_3 : decode b_M_isReplyTime 3 = .ok (.ifCond .lt 15, 3) := by decide +kernel
theorem d_M_isReplyTime_6 : decode b_M_isReplyTime 6 = .ok (.lload_n 0, 1) := by decide +kernel
theorem d_M_isReplyTime_7 : decode b_M_isReplyTime 7 = .ok (.ldc2_w 199, 3) := by decide +kernel
theorem d_M_isReplyTime_10 : decode b_M_isReplyTime 10 = .ok (.lcmp, 1) := by decide +kernel
theorem d_M_isReplyTime_11 : decode b_M_isReplyTime 11 = .ok (.ifCond .gt 7, 3) := by decide +kernel
theorem d_M_isReplyTime_14 : decode b_M_isReplyTime 14 = .ok (.iconst 1, 1) := by decide +kernel
theorem d_M_isReplyTime_15 : decode b_M_isReplyTime 15 = .ok (.goto 4, 3) := by decide +kernel
theorem d_M_isReplyTime_18 : decode b_M_isReplyTime 18 = .ok (.iconst 0, 1) := by decide +kernel
theorem d_M_isReplyTime_19 : decode b_M_isReplyTime 19 = .ok (.ireturn, 1) := by decide +kernel
theorem d_Sv_expectReply_0 : decode b_Sv_expectReply 0 = .ok (.aload_n 0, 1) := by decide +kernel
theorem d_Sv_expectReply_1 : decode b_Sv_expectReply 1 = .ok (.iconst 1, 1) := by decide +kernel
theorem d_Sv_expectReply_2 : decode b_Sv_expectReply 2 = .ok (.putfield 25, 3) := by decide +kernel
theorem d_Sv_expectReply_5 : decode b_Sv_expectReply 5 = .ok (.aload_n 0, 1) := by decide +kernel
theorem d_Sv_expectReply_6 : decode b_Sv_expectReply 6 = .ok (.lload_n 1, 1) := by decide +kernel
theorem d_Sv_expectReply_7 : decode b_Sv_expectReply 7 = .ok (.putfield 29, 3) := by decide +kernel
theorem d_Sv_expectReply_10 : decode b_Sv_expectReply 10 = .ok (.aload_n 0, 1) := by decide +kernel
theorem d_Sv_expectReply_11 : decode b_Sv_expectReply 11 = .ok (.lload_n 3, 1) := by decide +kernel
theorem d_Sv_expectReply_12 : decode b_Sv_expectReply 12 = .ok (.putfield 33, 3) := by decide +kernel
theorem d_Sv_expectReply_15 : decode b_Sv_expectReply 15 = .ok (.return_, 1) := by decide +kernel
theorem d_Sv_acceptedLast_0 : decode b_Sv_acceptedLast 0 = .ok (.aload_n 0, 1) := by decide +kernel
theorem d_Sv_acceptedLast_1 : decode b_Sv_acceptedLast 1 = .ok (.getfield 36, 3) := by decide +kernel
theorem d_Sv_acceptedLast_4 : decode b_Sv_acceptedLast 4 = .ok (.ifCond .le 16, 3) := by decide +kernel
theorem d_Sv_acceptedLast_7 : decode b_Sv_acceptedLast 7 = .ok (.aload_n 0, 1) := by decide +kernel
theorem d_Sv_acceptedLast_8 : decode b_Sv_acceptedLast 8 = .ok (.getfield 39, 3) := by decide +kernel
theorem d_Sv_acceptedLast_11 : decode b_Sv_acceptedLast 11 = .ok (.lload_n 1, 1) := by decide +kernel
theorem d_Sv_acceptedLast_12 : decode b_Sv_acceptedLast 12 = .ok (.lcmp, 1) := by decide +kernel
theorem d_Sv_acceptedLast_13 : decode b_Sv_acceptedLast 13 = .ok (.ifCond .ne 7, 3) := by decide +kernel
theorem d_Sv_acceptedLast_16 : decode b_Sv_acceptedLast 16 = .ok (.iconst 1, 1) := by decide +kernel
theorem d_Sv_acceptedLast_17 : decode b_Sv_acceptedLast 17 = .ok (.goto 4, 3) := by decide +kernel
theorem d_Sv_acceptedLast_20 : decode b_Sv_acceptedLast 20 = .ok (.iconst 0, 1) := by decide +kernel
theorem d_Sv_acceptedLast_21 : decode b_Sv_acceptedLast 21 = .ok (.ireturn, 1) := by decide +kernel
theorem d_Sv_expects_0 : decode b_Sv_expects 0 = .ok (.aload_n 0, 1) := by decide +kernel
theorem d_Sv_expects_1 : decode b_Sv_expects 1 = .ok (.getfield 25, 3) := by decide +kernel
theorem d_Sv_expects_4 : decode b_Sv_expects 4 = .ok (.ifCond .eq 16, 3) := by decide +kernel
theorem d_Sv_expects_7 : decode b_Sv_expects 7 = .ok (.aload_n 0, 1) := by decide +kernel
theorem d_Sv_expects_8 : decode b_Sv_expects 8 = .ok (.getfield 29, 3) := by decide +kernel
theorem d_Sv_expects_11 : decode b_Sv_expects 11 = .ok (.lload_n 1, 1) := by decide +kernel
theorem d_Sv_expects_12 : decode b_Sv_expects 12 = .ok (.lcmp, 1) := by decide +kernel
theorem d_Sv_expects_13 : decode b_Sv_expects 13 = .ok (.ifCond .ne 7, 3) := by decide +kernel
theorem d_Sv_expects_16 : decode b_Sv_expects 16 = .ok (.iconst 1, 1) := by decide +kernel
theorem d_Sv_expects_17 : decode b_Sv_expects 17 = .ok (.goto 4, 3) := by decide +kernel
theorem d_Sv_expects_20 : decode b_Sv_expects 20 = .ok (.iconst 0, 1) := by decide +kernel
theorem d_Sv_expects_21 : decode b_Sv_expects 21 = .ok (.ireturn, 1) := by decide +kernel
theorem d_Sv_latestSampleTime_0 : decode b_Sv_latestSampleTime 0 = .ok (.aload_n 0, 1) := by decide +kernel
theorem d_Sv_latestSampleTime_1 : decode b_Sv_latestSampleTime 1 = .ok (.getfield 22, 3) := by decide +kernel
theorem d_Sv_latestSampleTime_4 : decode b_Sv_latestSampleTime 4 = .ok (.iconst 0, 1) := by decide +kernel
theorem d_Sv_latestSampleTime_5 : decode b_Sv_latestSampleTime 5 = .ok (.laload, 1) := by decide +kernel
theorem d_Sv_latestSampleTime_6 : decode b_Sv_latestSampleTime 6 = .ok (.lreturn, 1) := by decide +kernel
theorem d_Sv_lowerEnd_0 : decode b_Sv_lowerEnd 0 = .ok (.aload_n 0, 1) := by decide +kernel
theorem d_Sv_lowerEnd_1 : decode b_Sv_lowerEnd 1 = .ok (.getfield 15, 3) := by decide +kernel
theorem d_Sv_lowerEnd_4 : decode b_Sv_lowerEnd 4 = .ok (.iload_n 1, 1) := by decide +kernel
theorem d_Sv_lowerEnd_5 : decode b_Sv_lowerEnd 5 = .ok (.laload, 1) := by decide +kernel
theorem d_Sv_lowerEnd_6 : decode b_Sv_lowerEnd 6 = .ok (.aload_n 0, 1) := by decide +kernel
theorem d_Sv_lowerEnd_7 : decode b_Sv_lowerEnd 7 = .ok (.getfield 61, 3) := by decide +kernel
theorem d_Sv_lowerEnd_10 : decode b_Sv_lowerEnd 10 = .ok (.i2l, 1) := by decide +kernel
theorem d_Sv_lowerEnd_11 : decode b_Sv_lowerEnd 11 = .ok (.lsub, 1) := by decide +kernel
theorem d_Sv_lowerEnd_12 : decode b_Sv_lowerEnd 12 = .ok (.lload_n 2, 1) := by decide +kernel
theorem d_Sv_lowerEnd_13 : decode b_Sv_lowerEnd 13 = .ok (.aload_n 0, 1) := by decide +kernel
theorem d_Sv_lowerEnd_14 : decode b_Sv_lowerEnd 14 = .ok (.getfield 22, 3) := by decide +kernel
theorem d_Sv_lowerEnd_17 : decode b_Sv_lowerEnd 17 = .ok (.iload_n 1, 1) := by decide +kernel
