theorem d_T_keep_210 : decode b_T_keep 210 = .ok (.putfield 190, 3) := by decide +kernel
theorem d_T_keep_213 : decode b_T_keep 213 = .ok (.aload_n 0, 1) := by decide +kernel
theorem d_T_keep_214 : decode b_T_keep 214 = .ok (.aload_n 0, 1) := by decide +kernel
theorem d_T_keep_215 : decode b_T_keep 215 = .ok (.getfield 86, 3) := by decide +kernel
theorem d_T_keep_218 : decode b_T_keep 218 = .ok (.putfield 193, 3) := by decide +kernel
theorem d_T_keep_221 : decode b_T_keep 221 = .ok (.aload_n 0, 1) := by decide +kernel
theorem d_T_keep_222 : decode b_T_keep 222 = .ok (.iload 4, 2) := by decide +kernel
theorem d_T_keep_224 : decode b_T_keep 224 = .ok (.putfield 196, 3) := by decide +kernel
theorem d_T_keep_227 : decode b_T_keep 227 = .ok (.aload_n 0, 1) := by decide +kernel
theorem d_T_keep_228 : decode b_T_keep 228 = .ok (.iload 5, 2) := by decide +kernel
theorem d_T_keep_230 : decode b_T_keep 230 = .ok (.putfield 199, 3) := by decide +kernel
theorem d_T_keep_233 : decode b_T_keep 233 = .ok (.return_, 1) := by decide +kernel
theorem d_T_survivors_0 : decode b_T_survivors 0 = .ok (.aload_n 0, 1) := by decide +kernel
theorem d_T_survivors_1 : decode b_T_survivors 1 = .ok (.getfield 196, 3) := by decide +kernel
theorem d_T_survivors_4 : decode b_T_survivors 4 = .ok (.ireturn, 1) := by decide +kernel
theorem d_T_stratum_0 : decode b_T_stratum 0 = .ok (.aload_n 0, 1) := by decide +kernel
theorem d_T_stratum_1 : decode b_T_stratum 1 = .ok (.getfield 171, 3) := by decide +kernel
theorem d_T_stratum_4 : decode b_T_stratum 4 = .ok (.ifCond .eq 12, 3) := by decide +kernel
theorem d_T_stratum_7 : decode b_T_stratum 7 = .ok (.aload_n 0, 1) := by decide +kernel
theorem d_T_stratum_8 : decode b_T_stratum 8 = .ok (.getfield 199, 3) := by decide +kernel
theorem d_T_stratum_11 : decode b_T_stratum 11 = .ok (.iconst 1, 1) := by decide +kernel
theorem d_T_stratum_12 : decode b_T_stratum 12 = .ok (.iadd, 1) := by decide +kernel
theorem d_T_stratum_13 : decode b_T_stratum 13 = .ok (.goto 5, 3) := by decide +kernel
theorem d_T_stratum_16 : decode b_T_stratum 16 = .ok (.bipush 16, 2) := by decide +kernel
theorem d_T_stratum_18 : decode b_T_stratum 18 = .ok (.ireturn, 1) := by decide +kernel
theorem d_T_time_0 : decode b_T_time 0 = .ok (.aload_n 0, 1) := by decide +kernel
theorem d_T_time_1 : decode b_T_time 1 = .ok (.getfield 171, 3) := by decide +kernel
theorem d_T_time_4 : decode b_T_time 4 = .ok (.ifCond .ne 7, 3) := by decide +kernel
theorem d_T_time_7 : decode b_T_time 7 = .ok (.ldc2_w 100, 3) := by decide +kernel
theorem d_T_time_10 : decode b_T_time 10 = .ok (.lreturn, 1) := by decide +kernel
theorem d_T_time_11 : decode b_T_time 11 = .ok (.aload_n 0, 1) := by decide +kernel
theorem d_T_time_12 : decode b_T_time 12 = .ok (.getfield 86, 3) := by decide +kernel
theorem d_T_time_15 : decode b_T_time 15 = .ok (.aload_n 0, 1) := by decide +kernel
theorem d_T_time_16 : decode b_T_time 16 = .ok (.invokevirtual 174, 3) := by decide +kernel
theorem d_T_time_19 : decode b_T_time 19 = .ok (.ladd, 1) := by decide +kernel
theorem d_T_time_20 : decode b_T_time 20 = .ok (.lreturn, 1) := by decide +kernel
theorem d_T_bound_0 : decode b_T_bound 0 = .ok (.aload_n 0, 1) := by decide +kernel
theorem d_T_bound_1 : decode b_T_bound 1 = .ok (.getfield 171, 3) := by decide +kernel
theorem d_T_bound_4 : decode b_T_bound 4 = .ok (.ifCond .ne 7, 3) := by decide +kernel
theorem d_T_bound_7 : decode b_T_bound 7 = .ok (.ldc2_w 100, 3) := by decide +kernel
theorem d_T_bound_10 : decode b_T_bound 10 = .ok (.lreturn, 1) := by decide +kernel
theorem d_T_bound_11 : decode b_T_bound 11 = .ok (.aload_n 0, 1) := by decide +kernel
theorem d_T_bound_12 : decode b_T_bound 12 = .ok (.invokevirtual 174, 3) := by decide +kernel
theorem d_T_bound_15 : decode b_T_bound 15 = .ok (.aload_n 0, 1) := by decide +kernel
theorem d_T_bound_16 : decode b_T_bound 16 = .ok (.getfield 181, 3) := by decide +kernel
theorem d_T_bound_19 : decode b_T_bound 19 = .ok (.lsub, 1) := by decide +kernel
theorem d_T_bound_20 : decode b_T_bound 20 = .ok (.lstore_n 1, 1) := by decide +kernel
theorem d_T_bound_21 : decode b_T_bound 21 = .ok (.aload_n 0, 1) := by decide +kernel
theorem d_T_bound_22 : decode b_T_bound 22 = .ok (.getfield 190, 3) := by decide +kernel
theorem d_T_bound_25 : decode b_T_bound 25 = .ok (.aload_n 0, 1) := by decide +kernel
theorem d_T_bound_26 : decode b_T_bound 26 = .ok (.aload_n 0, 1) := by decide +kernel
theorem d_T_bound_27 : decode b_T_bound 27 = .ok (.getfield 86, 3) := by decide +kernel
theorem d_T_bound_30 : decode b_T_bound 30 = .ok (.aload_n 0, 1) := by decide +kernel
theorem d_T_bound_31 : decode b_T_bound 31 = .ok (.getfield 193, 3) := by decide +kernel
theorem d_T_bound_34 : decode b_T_bound 34 = .ok (.lsub, 1) := by decide +kernel
theorem d_T_bound_35 : decode b_T_bound 35 = .ok (.invokevirtual 123, 3) := by decide +kernel
theorem d_T_bound_38 : decode b_T_bound 38 = .ok (.ladd, 1) := by decide +kernel
theorem d_T_bound_39 : decode b_T_bound 39 = .ok (.lload_n 1, 1) := by decide +kernel
theorem d_T_bound_40 : decode b_T_bound 40 = .ok (.lconst 0, 1) := by decide +kernel
theorem d_T_bound_41 : decode b_T_bound 41 = .ok (.lcmp, 1) := by decide +kernel
theorem d_T_bound_42 : decode b_T_bound 42 = .ok (.ifCond .ge 8, 3) := by decide +kernel
theorem d_T_bound_45 : decode b_T_bound 45 = .ok (.lload_n 1, 1) := by decide +kernel
theorem d_T_bound_46 : decode b_T_bound 46 = .ok (.lneg, 1) := by decide +kernel
theorem d_T_bound_47 : decode b_T_bound 47 = .ok (.goto 4, 3) := by decide +kernel
theorem d_T_bound_50 : decode b_T_bound 50 = .ok (.lload_n 1, 1) := by decide +kernel
theorem d_T_bound_51 : decode b_T_bound 51 = .ok (.ladd, 1) := by decide +kernel
theorem d_T_bound_52 : decode b_T_bound 52 = .ok (.lreturn, 1) := by decide +kernel
theorem d_T_hull_0 : decode b_T_hull 0 = .ok (.aload_n 0, 1) := by decide +kernel
theorem d_T_hull_1 : decode b_T_hull 1 = .ok (.getfield 171, 3) := by decide +kernel
theorem d_T_hull_4 : decode b_T_hull 4 = .ok (.ifCond .ne 9, 3) := by decide +kernel
theorem d_T_hull_7 : decode b_T_hull 7 = .ok (.ldc2_w 100, 3) := by decide +kernel
theorem d_T_hull_10 : decode b_T_hull 10 = .ok (.goto 18, 3) := by decide +kernel
theorem d_T_hull_13 : decode b_T_hull 13 = .ok (.iload_n 1, 1) := by decide +kernel
theorem d_T_hull_14 : decode b_T_hull 14 = .ok (.ifCond .eq 10, 3) := by decide +kernel
theorem d_T_hull_17 : decode b_T_hull 17 = .ok (.aload_n 0, 1) := by decide +kernel
theorem d_T_hull_18 : decode b_T_hull 18 = .ok (.getfield 187, 3) := by decide +kernel
theorem d_T_hull_21 : decode b_T_hull 21 = .ok (.goto 7, 3) := by decide +kernel
theorem d_T_hull_24 : decode b_T_hull 24 = .ok (.aload_n 0, 1) := by decide +kernel
theorem d_T_hull_25 : decode b_T_hull 25 = .ok (.getfield 184, 3) := by decide +kernel
theorem d_T_hull_28 : decode b_T_hull 28 = .ok (.lreturn, 1) := by decide +kernel
theorem d_T_isLease_0 : decode b_T_isLease 0 = .ok (.iload_n 0, 1) := by decide +kernel
theorem d_T_isLease_1 : decode b_T_isLease 1 = .ok (.ifCond .lt 12, 3) := by decide +kernel
theorem d_T_isLease_4 : decode b_T_isLease 4 = .ok (.iload_n 0, 1) := by decide +kernel
theorem d_T_isLease_5 : decode b_T_isLease 5 = .ok (.iconst 3, 1) := by decide +kernel
theorem d_T_isLease_6 : decode b_T_isLease 6 = .ok (.if_icmp .gt 7, 3) := by decide +kernel
theorem d_T_isLease_9 : decode b_T_isLease 9 = .ok (.iconst 1, 1) := by decide +kernel
theorem d_T_isLease_10 : decode b_T_isLease 10 = .ok (.goto 4, 3) := by decide +kernel
theorem d_T_isLease_13 : decode b_T_isLease 13 = .ok (.iconst 0, 1) := by decide +kernel
theorem d_T_isLease_14 : decode b_T_isLease 14 = .ok (.ireturn, 1) := by decide +kernel
theorem d_T_grant_0 : decode b_T_grant 0 = .ok (.iload_n 1, 1) := by decide +kernel
theorem d_T_grant_1 : decode b_T_grant 1 = .ok (.invokestatic 204, 3) := by decide +kernel
theorem d_T_grant_4 : decode b_T_grant 4 = .ok (.ifCond .eq 25, 3) := by decide +kernel
theorem d_T_grant_7 : decode b_T_grant 7 = .ok (.iload_n 2, 1) := by decide +kernel
theorem d_T_grant_8 : decode b_T_grant 8 = .ok (.ifCond .lt 21, 3) := by decide +kernel
theorem d_T_grant_11 : decode b_T_grant 11 = .ok (.iload_n 3, 1) := by decide +kernel
theorem d_T_grant_12 : decode b_T_grant 12 = .ok (.iconst 1, 1) := by decide +kernel
theorem d_T_grant_13 : decode b_T_grant 13 = .ok (.if_icmp .lt 16, 3) := by decide +kernel
theorem d_T_grant_16 : decode b_T_grant 16 = .ok (.iload_n 3, 1) := by decide +kernel
theorem d_T_grant_17 : decode b_T_grant 17 = .ok (.ldc 85, 2) := by decide +kernel
theorem d_T_grant_19 : decode b_T_grant 19 = .ok (.if_icmp .gt 10, 3) := by decide +kernel
theorem d_T_grant_22 : decode b_T_grant 22 = .ok (.aload_n 0, 1) := by decide +kernel
theorem d_T_grant_23 : decode b_T_grant 23 = .ok (.getfield 171, 3) := by decide +kernel
theorem d_T_grant_26 : decode b_T_grant 26 = .ok (.ifCond .ne 7, 3) := by decide +kernel
theorem d_T_grant_29 : decode b_T_grant 29 = .ok (.ldc2_w 100, 3) := by decide +kernel
theorem d_T_grant_32 : decode b_T_grant 32 = .ok (.lreturn, 1) := by decide +kernel
theorem d_T_grant_33 : decode b_T_grant 33 = .ok (.aload_n 0, 1) := by decide +kernel
theorem d_T_grant_34 : decode b_T_grant 34 = .ok (.invokevirtual 207, 3) := by decide +kernel
theorem d_T_grant_37 : decode b_T_grant 37 = .ok (.lstore 4, 2) := by decide +kernel
theorem d_T_grant_39 : decode b_T_grant 39 = .ok (.aload_n 0, 1) := by decide +kernel
theorem d_T_grant_40 : decode b_T_grant 40 = .ok (.invokevirtual 210, 3) := by decide +kernel
theorem d_T_grant_43 : decode b_T_grant 43 = .ok (.lstore 6, 2) := by decide +kernel
theorem d_T_grant_45 : decode b_T_grant 45 = .ok (.lload 4, 2) := by decide +kernel
theorem d_T_grant_47 : decode b_T_grant 47 = .ok (.iload_n 3, 1) := by decide +kernel
theorem d_T_grant_48 : decode b_T_grant 48 = .ok (.i2l, 1) := by decide +kernel
theorem d_T_grant_49 : decode b_T_grant 49 = .ok (.ladd, 1) := by decide +kernel
theorem d_T_grant_50 : decode b_T_grant 50 = .ok (.lstore 8, 2) := by decide +kernel
theorem d_T_grant_52 : decode b_T_grant 52 = .ok (.aload_n 0, 1) := by decide +kernel
theorem d_T_grant_53 : decode b_T_grant 53 = .ok (.getfield 60, 3) := by decide +kernel
theorem d_T_grant_56 : decode b_T_grant 56 = .ok (.iload_n 1, 1) := by decide +kernel
theorem d_T_grant_57 : decode b_T_grant 57 = .ok (.baload, 1) := by decide +kernel
theorem d_T_grant_58 : decode b_T_grant 58 = .ok (.ifCond .eq 71, 3) := by decide +kernel
theorem d_T_grant_61 : decode b_T_grant 61 = .ok (.aload_n 0, 1) := by decide +kernel
theorem d_T_grant_62 : decode b_T_grant 62 = .ok (.getfield 63, 3) := by decide +kernel
theorem d_T_grant_65 : decode b_T_grant 65 = .ok (.iload_n 1, 1) := by decide +kernel
theorem d_T_grant_66 : decode b_T_grant 66 = .ok (.iaload, 1) := by decide +kernel
theorem d_T_grant_67 : decode b_T_grant 67 = .ok (.iload_n 2, 1) := by decide +kernel
theorem d_T_grant_68 : decode b_T_grant 68 = .ok (.if_icmp .eq 7, 3) := by decide +kernel
theorem d_T_grant_71 : decode b_T_grant 71 = .ok (.iconst 1, 1) := by decide +kernel
theorem d_T_grant_72 : decode b_T_grant 72 = .ok (.goto 4, 3) := by decide +kernel
theorem d_T_grant_75 : decode b_T_grant 75 = .ok (.iconst 0, 1) := by decide +kernel
theorem d_T_grant_76 : decode b_T_grant 76 = .ok (.istore 10, 2) := by decide +kernel
theorem d_T_grant_78 : decode b_T_grant 78 = .ok (.lload 4, 2) := by decide +kernel
theorem d_T_grant_80 : decode b_T_grant 80 = .ok (.lload 6, 2) := by decide +kernel
theorem d_T_grant_82 : decode b_T_grant 82 = .ok (.lsub, 1) := by decide +kernel
theorem d_T_grant_83 : decode b_T_grant 83 = .ok (.aload_n 0, 1) := by decide +kernel
theorem d_T_grant_84 : decode b_T_grant 84 = .ok (.getfield 66, 3) := by decide +kernel
theorem d_T_grant_87 : decode b_T_grant 87 = .ok (.iload_n 1, 1) := by decide +kernel
theorem d_T_grant_88 : decode b_T_grant 88 = .ok (.laload, 1) := by decide +kernel
theorem d_T_grant_89 : decode b_T_grant 89 = .ok (.lcmp, 1) := by decide +kernel
theorem d_T_grant_90 : decode b_T_grant 90 = .ok (.ifCond .lt 7, 3) := by decide +kernel
theorem d_T_grant_93 : decode b_T_grant 93 = .ok (.iconst 1, 1) := by decide +kernel
theorem d_T_grant_94 : decode b_T_grant 94 = .ok (.goto 4, 3) := by decide +kernel
theorem d_T_grant_97 : decode b_T_grant 97 = .ok (.iconst 0, 1) := by decide +kernel
theorem d_T_grant_98 : decode b_T_grant 98 = .ok (.istore 11, 2) := by decide +kernel
theorem d_T_grant_100 : decode b_T_grant 100 = .ok (.iload 10, 2) := by decide +kernel
theorem d_T_grant_102 : decode b_T_grant 102 = .ok (.ifCond .eq 11, 3) := by decide +kernel
theorem d_T_grant_105 : decode b_T_grant 105 = .ok (.iload 11, 2) := by decide +kernel
theorem d_T_grant_107 : decode b_T_grant 107 = .ok (.ifCond .ne 22, 3) := by decide +kernel
theorem d_T_grant_110 : decode b_T_grant 110 = .ok (.goto 15, 3) := by decide +kernel
theorem d_T_grant_113 : decode b_T_grant 113 = .ok (.lload 8, 2) := by decide +kernel
theorem d_T_grant_115 : decode b_T_grant 115 = .ok (.aload_n 0, 1) := by decide +kernel
theorem d_T_grant_116 : decode b_T_grant 116 = .ok (.getfield 66, 3) := by decide +kernel
theorem d_T_grant_119 : decode b_T_grant 119 = .ok (.iload_n 1, 1) := by decide +kernel
theorem d_T_grant_120 : decode b_T_grant 120 = .ok (.laload, 1) := by decide +kernel
theorem d_T_grant_121 : decode b_T_grant 121 = .ok (.lcmp, 1) := by decide +kernel
theorem d_T_grant_122 : decode b_T_grant 122 = .ok (.ifCond .ge 7, 3) := by decide +kernel
theorem d_T_grant_125 : decode b_T_grant 125 = .ok (.ldc2_w 100, 3) := by decide +kernel
theorem d_T_grant_128 : decode b_T_grant 128 = .ok (.lreturn, 1) := by decide +kernel
theorem d_T_grant_129 : decode b_T_grant 129 = .ok (.aload_n 0, 1) := by decide +kernel
theorem d_T_grant_130 : decode b_T_grant 130 = .ok (.getfield 60, 3) := by decide +kernel
