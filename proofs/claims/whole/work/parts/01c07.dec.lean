theorem d_M_reply_38 : decode b_M_reply 38 = .ok (.bipush (-2), 2) := by decide +kernel
theorem d_M_reply_40 : decode b_M_reply 40 = .ok (.ireturn, 1) := by decide +kernel
theorem d_M_reply_41 : decode b_M_reply 41 = .ok (.iload 8, 2) := by decide +kernel
theorem d_M_reply_43 : decode b_M_reply 43 = .ok (.aload 9, 2) := by decide +kernel
theorem d_M_reply_45 : decode b_M_reply 45 = .ok (.getfield 67, 3) := by decide +kernel
theorem d_M_reply_48 : decode b_M_reply 48 = .ok (.lload_n 2, 1) := by decide +kernel
theorem d_M_reply_49 : decode b_M_reply 49 = .ok (.lload 4, 2) := by decide +kernel
theorem d_M_reply_51 : decode b_M_reply 51 = .ok (.lload 6, 2) := by decide +kernel
theorem d_M_reply_53 : decode b_M_reply 53 = .ok (.invokestatic 70, 3) := by decide +kernel
theorem d_M_reply_56 : decode b_M_reply 56 = .ok (.if_icmp .eq 6, 3) := by decide +kernel
theorem d_M_reply_59 : decode b_M_reply 59 = .ok (.bipush (-3), 2) := by decide +kernel
theorem d_M_reply_61 : decode b_M_reply 61 = .ok (.ireturn, 1) := by decide +kernel
theorem d_M_reply_62 : decode b_M_reply 62 = .ok (.aload 9, 2) := by decide +kernel
theorem d_M_reply_64 : decode b_M_reply 64 = .ok (.lload_n 2, 1) := by decide +kernel
theorem d_M_reply_65 : decode b_M_reply 65 = .ok (.invokevirtual 87, 3) := by decide +kernel
theorem d_M_reply_68 : decode b_M_reply 68 = .ok (.ifCond .eq 6, 3) := by decide +kernel
theorem d_M_reply_71 : decode b_M_reply 71 = .ok (.bipush (-4), 2) := by decide +kernel
theorem d_M_reply_73 : decode b_M_reply 73 = .ok (.ireturn, 1) := by decide +kernel
theorem d_M_reply_74 : decode b_M_reply 74 = .ok (.aload 9, 2) := by decide +kernel
theorem d_M_reply_76 : decode b_M_reply 76 = .ok (.lload_n 2, 1) := by decide +kernel
theorem d_M_reply_77 : decode b_M_reply 77 = .ok (.invokevirtual 90, 3) := by decide +kernel
theorem d_M_reply_80 : decode b_M_reply 80 = .ok (.ifCond .ne 6, 3) := by decide +kernel
theorem d_M_reply_83 : decode b_M_reply 83 = .ok (.bipush (-5), 2) := by decide +kernel
theorem d_M_reply_85 : decode b_M_reply 85 = .ok (.ireturn, 1) := by decide +kernel
theorem d_M_reply_86 : decode b_M_reply 86 = .ok (.lload 6, 2) := by decide +kernel
theorem d_M_reply_88 : decode b_M_reply 88 = .ok (.lload 4, 2) := by decide +kernel
theorem d_M_reply_90 : decode b_M_reply 90 = .ok (.lsub, 1) := by decide +kernel
theorem d_M_reply_91 : decode b_M_reply 91 = .ok (.aload_n 0, 1) := by decide +kernel
theorem d_M_reply_92 : decode b_M_reply 92 = .ok (.getfield 60, 3) := by decide +kernel
theorem d_M_reply_95 : decode b_M_reply 95 = .ok (.aload 9, 2) := by decide +kernel
theorem d_M_reply_97 : decode b_M_reply 97 = .ok (.getfield 93, 3) := by decide +kernel
theorem d_M_reply_100 : decode b_M_reply 100 = .ok (.lsub, 1) := by decide +kernel
theorem d_M_reply_101 : decode b_M_reply 101 = .ok (.lcmp, 1) := by decide +kernel
theorem d_M_reply_102 : decode b_M_reply 102 = .ok (.ifCond .le 6, 3) := by decide +kernel
theorem d_M_reply_105 : decode b_M_reply 105 = .ok (.bipush (-6), 2) := by decide +kernel
theorem d_M_reply_107 : decode b_M_reply 107 = .ok (.ireturn, 1) := by decide +kernel
theorem d_M_reply_108 : decode b_M_reply 108 = .ok (.aload 9, 2) := by decide +kernel
theorem d_M_reply_110 : decode b_M_reply 110 = .ok (.lload_n 2, 1) := by decide +kernel
theorem d_M_reply_111 : decode b_M_reply 111 = .ok (.lload 4, 2) := by decide +kernel
theorem d_M_reply_113 : decode b_M_reply 113 = .ok (.lload 6, 2) := by decide +kernel
theorem d_M_reply_115 : decode b_M_reply 115 = .ok (.aload_n 0, 1) := by decide +kernel
theorem d_M_reply_116 : decode b_M_reply 116 = .ok (.getfield 60, 3) := by decide +kernel
theorem d_M_reply_119 : decode b_M_reply 119 = .ok (.invokevirtual 96, 3) := by decide +kernel
theorem d_M_reply_122 : decode b_M_reply 122 = .ok (.aload 9, 2) := by decide +kernel
theorem d_M_reply_124 : decode b_M_reply 124 = .ok (.getfield 100, 3) := by decide +kernel
theorem d_M_reply_127 : decode b_M_reply 127 = .ok (.ireturn, 1) := by decide +kernel
theorem d_M_tell_0 : decode b_M_tell 0 = .ok (.aload_n 0, 1) := by decide +kernel
theorem d_M_tell_1 : decode b_M_tell 1 = .ok (.iload_n 1, 1) := by decide +kernel
theorem d_M_tell_2 : decode b_M_tell 2 = .ok (.invokevirtual 63, 3) := by decide +kernel
theorem d_M_tell_5 : decode b_M_tell 5 = .ok (.astore 5, 2) := by decide +kernel
theorem d_M_tell_7 : decode b_M_tell 7 = .ok (.aload 5, 2) := by decide +kernel
theorem d_M_tell_9 : decode b_M_tell 9 = .ok (.ifnull 26, 3) := by decide +kernel
theorem d_M_tell_12 : decode b_M_tell 12 = .ok (.iload_n 2, 1) := by decide +kernel
theorem d_M_tell_13 : decode b_M_tell 13 = .ok (.iconst 1, 1) := by decide +kernel
theorem d_M_tell_14 : decode b_M_tell 14 = .ok (.if_icmp .lt 21, 3) := by decide +kernel
theorem d_M_tell_17 : decode b_M_tell 17 = .ok (.iload_n 2, 1) := by decide +kernel
theorem d_M_tell_18 : decode b_M_tell 18 = .ok (.bipush 16, 2) := by decide +kernel
theorem d_M_tell_20 : decode b_M_tell 20 = .ok (.if_icmp .gt 15, 3) := by decide +kernel
theorem d_M_tell_23 : decode b_M_tell 23 = .ok (.iload 4, 2) := by decide +kernel
theorem d_M_tell_25 : decode b_M_tell 25 = .ok (.ifCond .lt 10, 3) := by decide +kernel
theorem d_M_tell_28 : decode b_M_tell 28 = .ok (.iload 4, 2) := by decide +kernel
theorem d_M_tell_30 : decode b_M_tell 30 = .ok (.ldc 59, 2) := by decide +kernel
theorem d_M_tell_32 : decode b_M_tell 32 = .ok (.if_icmp .le 5, 3) := by decide +kernel
theorem d_M_tell_35 : decode b_M_tell 35 = .ok (.iconst 0, 1) := by decide +kernel
theorem d_M_tell_36 : decode b_M_tell 36 = .ok (.ireturn, 1) := by decide +kernel
theorem d_M_tell_37 : decode b_M_tell 37 = .ok (.aload 5, 2) := by decide +kernel
theorem d_M_tell_39 : decode b_M_tell 39 = .ok (.iload_n 2, 1) := by decide +kernel
theorem d_M_tell_40 : decode b_M_tell 40 = .ok (.putfield 103, 3) := by decide +kernel
theorem d_M_tell_43 : decode b_M_tell 43 = .ok (.aload 5, 2) := by decide +kernel
theorem d_M_tell_45 : decode b_M_tell 45 = .ok (.iload_n 3, 1) := by decide +kernel
theorem d_M_tell_46 : decode b_M_tell 46 = .ok (.putfield 106, 3) := by decide +kernel
theorem d_M_tell_49 : decode b_M_tell 49 = .ok (.aload 5, 2) := by decide +kernel
theorem d_M_tell_51 : decode b_M_tell 51 = .ok (.iload 4, 2) := by decide +kernel
theorem d_M_tell_53 : decode b_M_tell 53 = .ok (.putfield 109, 3) := by decide +kernel
theorem d_M_tell_56 : decode b_M_tell 56 = .ok (.iconst 1, 1) := by decide +kernel
theorem d_M_tell_57 : decode b_M_tell 57 = .ok (.ireturn, 1) := by decide +kernel
theorem d_M_low_0 : decode b_M_low 0 = .ok (.aload_n 0, 1) := by decide +kernel
theorem d_M_low_1 : decode b_M_low 1 = .ok (.iload_n 1, 1) := by decide +kernel
theorem d_M_low_2 : decode b_M_low 2 = .ok (.invokevirtual 63, 3) := by decide +kernel
theorem d_M_low_5 : decode b_M_low 5 = .ok (.astore_n 2, 1) := by decide +kernel
theorem d_M_low_6 : decode b_M_low 6 = .ok (.aload_n 2, 1) := by decide +kernel
theorem d_M_low_7 : decode b_M_low 7 = .ok (.ifnull 10, 3) := by decide +kernel
theorem d_M_low_10 : decode b_M_low 10 = .ok (.aload_n 2, 1) := by decide +kernel
theorem d_M_low_11 : decode b_M_low 11 = .ok (.getfield 100, 3) := by decide +kernel
theorem d_M_low_14 : decode b_M_low 14 = .ok (.ifCond .ne 7, 3) := by decide +kernel
theorem d_M_low_17 : decode b_M_low 17 = .ok (.ldc2_w 74, 3) := by decide +kernel
theorem d_M_low_20 : decode b_M_low 20 = .ok (.lreturn, 1) := by decide +kernel
theorem d_M_low_21 : decode b_M_low 21 = .ok (.aload_n 2, 1) := by decide +kernel
theorem d_M_low_22 : decode b_M_low 22 = .ok (.aload_n 2, 1) := by decide +kernel
theorem d_M_low_23 : decode b_M_low 23 = .ok (.aload_n 0, 1) := by decide +kernel
theorem d_M_low_24 : decode b_M_low 24 = .ok (.getfield 60, 3) := by decide +kernel
theorem d_M_low_27 : decode b_M_low 27 = .ok (.aload_n 0, 1) := by decide +kernel
theorem d_M_low_28 : decode b_M_low 28 = .ok (.getfield 24, 3) := by decide +kernel
theorem d_M_low_31 : decode b_M_low 31 = .ok (.invokevirtual 112, 3) := by decide +kernel
theorem d_M_low_34 : decode b_M_low 34 = .ok (.aload_n 0, 1) := by decide +kernel
theorem d_M_low_35 : decode b_M_low 35 = .ok (.getfield 60, 3) := by decide +kernel
theorem d_M_low_38 : decode b_M_low 38 = .ok (.aload_n 0, 1) := by decide +kernel
theorem d_M_low_39 : decode b_M_low 39 = .ok (.getfield 24, 3) := by decide +kernel
theorem d_M_low_42 : decode b_M_low 42 = .ok (.invokevirtual 116, 3) := by decide +kernel
theorem d_M_low_45 : decode b_M_low 45 = .ok (.lreturn, 1) := by decide +kernel
theorem d_M_high_0 : decode b_M_high 0 = .ok (.aload_n 0, 1) := by decide +kernel
theorem d_M_high_1 : decode b_M_high 1 = .ok (.iload_n 1, 1) := by decide +kernel
theorem d_M_high_2 : decode b_M_high 2 = .ok (.invokevirtual 63, 3) := by decide +kernel
theorem d_M_high_5 : decode b_M_high 5 = .ok (.astore_n 2, 1) := by decide +kernel
theorem d_M_high_6 : decode b_M_high 6 = .ok (.aload_n 2, 1) := by decide +kernel
theorem d_M_high_7 : decode b_M_high 7 = .ok (.ifnull 10, 3) := by decide +kernel
theorem d_M_high_10 : decode b_M_high 10 = .ok (.aload_n 2, 1) := by decide +kernel
theorem d_M_high_11 : decode b_M_high 11 = .ok (.getfield 100, 3) := by decide +kernel
theorem d_M_high_14 : decode b_M_high 14 = .ok (.ifCond .ne 7, 3) := by decide +kernel
theorem d_M_high_17 : decode b_M_high 17 = .ok (.ldc2_w 74, 3) := by decide +kernel
theorem d_M_high_20 : decode b_M_high 20 = .ok (.lreturn, 1) := by decide +kernel
theorem d_M_high_21 : decode b_M_high 21 = .ok (.aload_n 2, 1) := by decide +kernel
theorem d_M_high_22 : decode b_M_high 22 = .ok (.aload_n 2, 1) := by decide +kernel
theorem d_M_high_23 : decode b_M_high 23 = .ok (.aload_n 0, 1) := by decide +kernel
theorem d_M_high_24 : decode b_M_high 24 = .ok (.getfield 60, 3) := by decide +kernel
theorem d_M_high_27 : decode b_M_high 27 = .ok (.aload_n 0, 1) := by decide +kernel
theorem d_M_high_28 : decode b_M_high 28 = .ok (.getfield 24, 3) := by decide +kernel
theorem d_M_high_31 : decode b_M_high 31 = .ok (.invokevirtual 112, 3) := by decide +kernel
theorem d_M_high_34 : decode b_M_high 34 = .ok (.aload_n 0, 1) := by decide +kernel
theorem d_M_high_35 : decode b_M_high 35 = .ok (.getfield 60, 3) := by decide +kernel
theorem d_M_high_38 : decode b_M_high 38 = .ok (.aload_n 0, 1) := by decide +kernel
theorem d_M_high_39 : decode b_M_high 39 = .ok (.getfield 24, 3) := by decide +kernel
theorem d_M_high_42 : decode b_M_high 42 = .ok (.invokevirtual 120, 3) := by decide +kernel
theorem d_M_high_45 : decode b_M_high 45 = .ok (.lreturn, 1) := by decide +kernel
theorem d_M_isUsable_0 : decode b_M_isUsable 0 = .ok (.aload_n 1, 1) := by decide +kernel
theorem d_M_isUsable_1 : decode b_M_isUsable 1 = .ok (.getfield 103, 3) := by decide +kernel
theorem d_M_isUsable_4 : decode b_M_isUsable 4 = .ok (.iconst 1, 1) := by decide +kernel
theorem d_M_isUsable_5 : decode b_M_isUsable 5 = .ok (.if_icmp .lt 50, 3) := by decide +kernel
theorem d_M_isUsable_8 : decode b_M_isUsable 8 = .ok (.aload_n 1, 1) := by decide +kernel
theorem d_M_isUsable_9 : decode b_M_isUsable 9 = .ok (.getfield 103, 3) := by decide +kernel
theorem d_M_isUsable_12 : decode b_M_isUsable 12 = .ok (.bipush 14, 2) := by decide +kernel
theorem d_M_isUsable_14 : decode b_M_isUsable 14 = .ok (.if_icmp .gt 41, 3) := by decide +kernel
theorem d_M_isUsable_17 : decode b_M_isUsable 17 = .ok (.aload_n 1, 1) := by decide +kernel
theorem d_M_isUsable_18 : decode b_M_isUsable 18 = .ok (.getfield 106, 3) := by decide +kernel
theorem d_M_isUsable_21 : decode b_M_isUsable 21 = .ok (.aload_n 0, 1) := by decide +kernel
theorem d_M_isUsable_22 : decode b_M_isUsable 22 = .ok (.getfield 28, 3) := by decide +kernel
theorem d_M_isUsable_25 : decode b_M_isUsable 25 = .ok (.if_icmp .eq 30, 3) := by decide +kernel
theorem d_M_isUsable_28 : decode b_M_isUsable 28 = .ok (.aload_n 1, 1) := by decide +kernel
theorem d_M_isUsable_29 : decode b_M_isUsable 29 = .ok (.getfield 100, 3) := by decide +kernel
theorem d_M_isUsable_32 : decode b_M_isUsable 32 = .ok (.ifCond .le 23, 3) := by decide +kernel
theorem d_M_isUsable_35 : decode b_M_isUsable 35 = .ok (.aload_n 0, 1) := by decide +kernel
theorem d_M_isUsable_36 : decode b_M_isUsable 36 = .ok (.getfield 60, 3) := by decide +kernel
theorem d_M_isUsable_39 : decode b_M_isUsable 39 = .ok (.aload_n 1, 1) := by decide +kernel
theorem d_M_isUsable_40 : decode b_M_isUsable 40 = .ok (.invokevirtual 208, 3) := by decide +kernel
theorem d_M_isUsable_43 : decode b_M_isUsable 43 = .ok (.lsub, 1) := by decide +kernel
theorem d_M_isUsable_44 : decode b_M_isUsable 44 = .ok (.ldc2_w 211, 3) := by decide +kernel
theorem d_M_isUsable_47 : decode b_M_isUsable 47 = .ok (.lcmp, 1) := by decide +kernel
theorem d_M_isUsable_48 : decode b_M_isUsable 48 = .ok (.ifCond .gt 7, 3) := by decide +kernel
theorem d_M_isUsable_51 : decode b_M_isUsable 51 = .ok (.iconst 1, 1) := by decide +kernel
theorem d_M_isUsable_52 : decode b_M_isUsable 52 = .ok (.goto 4, 3) := by decide +kernel
theorem d_M_isUsable_55 : decode b_M_isUsable 55 = .ok (.iconst 0, 1) := by decide +kernel
theorem d_M_isUsable_56 : decode b_M_isUsable 56 = .ok (.ireturn, 1) := by decide +kernel
theorem d_M_callElection_0 : decode b_M_callElection 0 = .ok (.aload_n 0, 1) := by decide +kernel
theorem d_M_callElection_1 : decode b_M_callElection 1 = .ok (.getfield 48, 3) := by decide +kernel
theorem d_M_callElection_4 : decode b_M_callElection 4 = .ok (.invokevirtual 213, 3) := by decide +kernel
theorem d_M_callElection_7 : decode b_M_callElection 7 = .ok (.iconst 0, 1) := by decide +kernel
theorem d_M_callElection_8 : decode b_M_callElection 8 = .ok (.istore_n 1, 1) := by decide +kernel
theorem d_M_callElection_9 : decode b_M_callElection 9 = .ok (.iload_n 1, 1) := by decide +kernel
theorem d_M_callElection_10 : decode b_M_callElection 10 = .ok (.aload_n 0, 1) := by decide +kernel
theorem d_M_callElection_11 : decode b_M_callElection 11 = .ok (.getfield 33, 3) := by decide +kernel
