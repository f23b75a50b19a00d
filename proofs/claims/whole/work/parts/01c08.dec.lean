theorem d_M_callElection_14 : decode b_M_callElection 14 = .ok (.arraylength, 1) := by decide +kernel
theorem d_M_callElection_15 : decode b_M_callElection 15 = .ok (.if_icmp .ge 75, 3) := by decide +kernel
theorem d_M_callElection_18 : decode b_M_callElection 18 = .ok (.aload_n 0, 1) := by decide +kernel
theorem d_M_callElection_19 : decode b_M_callElection 19 = .ok (.getfield 33, 3) := by decide +kernel
theorem d_M_callElection_22 : decode b_M_callElection 22 = .ok (.iload_n 1, 1) := by decide +kernel
theorem d_M_callElection_23 : decode b_M_callElection 23 = .ok (.aaload, 1) := by decide +kernel
theorem d_M_callElection_24 : decode b_M_callElection 24 = .ok (.astore_n 2, 1) := by decide +kernel
theorem d_M_callElection_25 : decode b_M_callElection 25 = .ok (.aload_n 2, 1) := by decide +kernel
theorem d_M_callElection_26 : decode b_M_callElection 26 = .ok (.ifnull 58, 3) := by decide +kernel
theorem d_M_callElection_29 : decode b_M_callElection 29 = .ok (.aload_n 0, 1) := by decide +kernel
theorem d_M_callElection_30 : decode b_M_callElection 30 = .ok (.aload_n 2, 1) := by decide +kernel
theorem d_M_callElection_31 : decode b_M_callElection 31 = .ok (.invokevirtual 216, 3) := by decide +kernel
theorem d_M_callElection_34 : decode b_M_callElection 34 = .ok (.ifCond .eq 50, 3) := by decide +kernel
theorem d_M_callElection_37 : decode b_M_callElection 37 = .ok (.aload_n 2, 1) := by decide +kernel
theorem d_M_callElection_38 : decode b_M_callElection 38 = .ok (.aload_n 0, 1) := by decide +kernel
theorem d_M_callElection_39 : decode b_M_callElection 39 = .ok (.getfield 60, 3) := by decide +kernel
theorem d_M_callElection_42 : decode b_M_callElection 42 = .ok (.aload_n 0, 1) := by decide +kernel
theorem d_M_callElection_43 : decode b_M_callElection 43 = .ok (.getfield 24, 3) := by decide +kernel
theorem d_M_callElection_46 : decode b_M_callElection 46 = .ok (.invokevirtual 112, 3) := by decide +kernel
theorem d_M_callElection_49 : decode b_M_callElection 49 = .ok (.istore_n 3, 1) := by decide +kernel
theorem d_M_callElection_50 : decode b_M_callElection 50 = .ok (.aload_n 0, 1) := by decide +kernel
theorem d_M_callElection_51 : decode b_M_callElection 51 = .ok (.getfield 48, 3) := by decide +kernel
theorem d_M_callElection_54 : decode b_M_callElection 54 = .ok (.iload_n 1, 1) := by decide +kernel
theorem d_M_callElection_55 : decode b_M_callElection 55 = .ok (.aload_n 2, 1) := by decide +kernel
theorem d_M_callElection_56 : decode b_M_callElection 56 = .ok (.iload_n 3, 1) := by decide +kernel
theorem d_M_callElection_57 : decode b_M_callElection 57 = .ok (.aload_n 0, 1) := by decide +kernel
theorem d_M_callElection_58 : decode b_M_callElection 58 = .ok (.getfield 60, 3) := by decide +kernel
theorem d_M_callElection_61 : decode b_M_callElection 61 = .ok (.aload_n 0, 1) := by decide +kernel
theorem d_M_callElection_62 : decode b_M_callElection 62 = .ok (.getfield 24, 3) := by decide +kernel
theorem d_M_callElection_65 : decode b_M_callElection 65 = .ok (.invokevirtual 116, 3) := by decide +kernel
theorem d_M_callElection_68 : decode b_M_callElection 68 = .ok (.aload_n 2, 1) := by decide +kernel
theorem d_M_callElection_69 : decode b_M_callElection 69 = .ok (.iload_n 3, 1) := by decide +kernel
theorem d_M_callElection_70 : decode b_M_callElection 70 = .ok (.aload_n 0, 1) := by decide +kernel
theorem d_M_callElection_71 : decode b_M_callElection 71 = .ok (.getfield 60, 3) := by decide +kernel
theorem d_M_callElection_74 : decode b_M_callElection 74 = .ok (.aload_n 0, 1) := by decide +kernel
theorem d_M_callElection_75 : decode b_M_callElection 75 = .ok (.getfield 24, 3) := by decide +kernel
theorem d_M_callElection_78 : decode b_M_callElection 78 = .ok (.invokevirtual 120, 3) := by decide +kernel
theorem d_M_callElection_81 : decode b_M_callElection 81 = .ok (.invokevirtual 220, 3) := by decide +kernel
theorem d_M_callElection_84 : decode b_M_callElection 84 = .ok (.iinc 1 1, 3) := by decide +kernel
theorem d_M_callElection_87 : decode b_M_callElection 87 = .ok (.goto (-78), 3) := by decide +kernel
theorem d_M_callElection_90 : decode b_M_callElection 90 = .ok (.return_, 1) := by decide +kernel
theorem d_M_survivorsLeastStratum_0 : decode b_M_survivorsLeastStratum 0 = .ok (.bipush 16, 2) := by decide +kernel
theorem d_M_survivorsLeastStratum_2 : decode b_M_survivorsLeastStratum 2 = .ok (.istore_n 1, 1) := by decide +kernel
theorem d_M_survivorsLeastStratum_3 : decode b_M_survivorsLeastStratum 3 = .ok (.iconst 0, 1) := by decide +kernel
theorem d_M_survivorsLeastStratum_4 : decode b_M_survivorsLeastStratum 4 = .ok (.istore_n 2, 1) := by decide +kernel
theorem d_M_survivorsLeastStratum_5 : decode b_M_survivorsLeastStratum 5 = .ok (.iload_n 2, 1) := by decide +kernel
theorem d_M_survivorsLeastStratum_6 : decode b_M_survivorsLeastStratum 6 = .ok (.aload_n 0, 1) := by decide +kernel
theorem d_M_survivorsLeastStratum_7 : decode b_M_survivorsLeastStratum 7 = .ok (.getfield 48, 3) := by decide +kernel
theorem d_M_survivorsLeastStratum_10 : decode b_M_survivorsLeastStratum 10 = .ok (.getfield 126, 3) := by decide +kernel
theorem d_M_survivorsLeastStratum_13 : decode b_M_survivorsLeastStratum 13 = .ok (.if_icmp .ge 36, 3) := by decide +kernel
theorem d_M_survivorsLeastStratum_16 : decode b_M_survivorsLeastStratum 16 = .ok (.aload_n 0, 1) := by decide +kernel
theorem d_M_survivorsLeastStratum_17 : decode b_M_survivorsLeastStratum 17 = .ok (.aload_n 0, 1) := by decide +kernel
theorem d_M_survivorsLeastStratum_18 : decode b_M_survivorsLeastStratum 18 = .ok (.getfield 48, 3) := by decide +kernel
theorem d_M_survivorsLeastStratum_21 : decode b_M_survivorsLeastStratum 21 = .ok (.getfield 224, 3) := by decide +kernel
theorem d_M_survivorsLeastStratum_24 : decode b_M_survivorsLeastStratum 24 = .ok (.iload_n 2, 1) := by decide +kernel
theorem d_M_survivorsLeastStratum_25 : decode b_M_survivorsLeastStratum 25 = .ok (.iaload, 1) := by decide +kernel
theorem d_M_survivorsLeastStratum_26 : decode b_M_survivorsLeastStratum 26 = .ok (.invokevirtual 63, 3) := by decide +kernel
theorem d_M_survivorsLeastStratum_29 : decode b_M_survivorsLeastStratum 29 = .ok (.astore_n 3, 1) := by decide +kernel
theorem d_M_survivorsLeastStratum_30 : decode b_M_survivorsLeastStratum 30 = .ok (.aload_n 3, 1) := by decide +kernel
theorem d_M_survivorsLeastStratum_31 : decode b_M_survivorsLeastStratum 31 = .ok (.ifnull 12, 3) := by decide +kernel
theorem d_M_survivorsLeastStratum_34 : decode b_M_survivorsLeastStratum 34 = .ok (.iload_n 1, 1) := by decide +kernel
theorem d_M_survivorsLeastStratum_35 : decode b_M_survivorsLeastStratum 35 = .ok (.aload_n 3, 1) := by decide +kernel
theorem d_M_survivorsLeastStratum_36 : decode b_M_survivorsLeastStratum 36 = .ok (.getfield 103, 3) := by decide +kernel
theorem d_M_survivorsLeastStratum_39 : decode b_M_survivorsLeastStratum 39 = .ok (.invokestatic 21, 3) := by decide +kernel
theorem d_M_survivorsLeastStratum_42 : decode b_M_survivorsLeastStratum 42 = .ok (.istore_n 1, 1) := by decide +kernel
theorem d_M_survivorsLeastStratum_43 : decode b_M_survivorsLeastStratum 43 = .ok (.iinc 2 1, 3) := by decide +kernel
theorem d_M_survivorsLeastStratum_46 : decode b_M_survivorsLeastStratum 46 = .ok (.goto (-41), 3) := by decide +kernel
theorem d_M_survivorsLeastStratum_49 : decode b_M_survivorsLeastStratum 49 = .ok (.iload_n 1, 1) := by decide +kernel
theorem d_M_survivorsLeastStratum_50 : decode b_M_survivorsLeastStratum 50 = .ok (.ireturn, 1) := by decide +kernel
theorem d_M_update_0 : decode b_M_update 0 = .ok (.aload_n 0, 1) := by decide +kernel
theorem d_M_update_1 : decode b_M_update 1 = .ok (.invokevirtual 123, 3) := by decide +kernel
theorem d_M_update_4 : decode b_M_update 4 = .ok (.aload_n 0, 1) := by decide +kernel
theorem d_M_update_5 : decode b_M_update 5 = .ok (.getfield 48, 3) := by decide +kernel
theorem d_M_update_8 : decode b_M_update 8 = .ok (.getfield 126, 3) := by decide +kernel
theorem d_M_update_11 : decode b_M_update 11 = .ok (.ifCond .ne 5, 3) := by decide +kernel
theorem d_M_update_14 : decode b_M_update 14 = .ok (.iconst 0, 1) := by decide +kernel
theorem d_M_update_15 : decode b_M_update 15 = .ok (.ireturn, 1) := by decide +kernel
theorem d_M_update_16 : decode b_M_update 16 = .ok (.aload_n 0, 1) := by decide +kernel
theorem d_M_update_17 : decode b_M_update 17 = .ok (.getfield 48, 3) := by decide +kernel
theorem d_M_update_20 : decode b_M_update 20 = .ok (.invokevirtual 129, 3) := by decide +kernel
theorem d_M_update_23 : decode b_M_update 23 = .ok (.ifCond .ne 5, 3) := by decide +kernel
theorem d_M_update_26 : decode b_M_update 26 = .ok (.iconst (-1), 1) := by decide +kernel
theorem d_M_update_27 : decode b_M_update 27 = .ok (.ireturn, 1) := by decide +kernel
theorem d_M_update_28 : decode b_M_update 28 = .ok (.aload_n 0, 1) := by decide +kernel
theorem d_M_update_29 : decode b_M_update 29 = .ok (.getfield 48, 3) := by decide +kernel
theorem d_M_update_32 : decode b_M_update 32 = .ok (.invokevirtual 133, 3) := by decide +kernel
theorem d_M_update_35 : decode b_M_update 35 = .ok (.aload_n 0, 1) := by decide +kernel
theorem d_M_update_36 : decode b_M_update 36 = .ok (.getfield 48, 3) := by decide +kernel
theorem d_M_update_39 : decode b_M_update 39 = .ok (.invokevirtual 136, 3) := by decide +kernel
theorem d_M_update_42 : decode b_M_update 42 = .ok (.aload_n 0, 1) := by decide +kernel
theorem d_M_update_43 : decode b_M_update 43 = .ok (.getfield 55, 3) := by decide +kernel
theorem d_M_update_46 : decode b_M_update 46 = .ok (.aload_n 0, 1) := by decide +kernel
theorem d_M_update_47 : decode b_M_update 47 = .ok (.getfield 48, 3) := by decide +kernel
theorem d_M_update_50 : decode b_M_update 50 = .ok (.invokevirtual 139, 3) := by decide +kernel
theorem d_M_update_53 : decode b_M_update 53 = .ok (.aload_n 0, 1) := by decide +kernel
theorem d_M_update_54 : decode b_M_update 54 = .ok (.getfield 60, 3) := by decide +kernel
theorem d_M_update_57 : decode b_M_update 57 = .ok (.invokevirtual 143, 3) := by decide +kernel
theorem d_M_update_60 : decode b_M_update 60 = .ok (.aload_n 0, 1) := by decide +kernel
theorem d_M_update_61 : decode b_M_update 61 = .ok (.getfield 55, 3) := by decide +kernel
theorem d_M_update_64 : decode b_M_update 64 = .ok (.aload_n 0, 1) := by decide +kernel
theorem d_M_update_65 : decode b_M_update 65 = .ok (.getfield 48, 3) := by decide +kernel
theorem d_M_update_68 : decode b_M_update 68 = .ok (.aload_n 0, 1) := by decide +kernel
theorem d_M_update_69 : decode b_M_update 69 = .ok (.invokevirtual 146, 3) := by decide +kernel
theorem d_M_update_72 : decode b_M_update 72 = .ok (.invokevirtual 150, 3) := by decide +kernel
theorem d_M_update_75 : decode b_M_update 75 = .ok (.aload_n 0, 1) := by decide +kernel
theorem d_M_update_76 : decode b_M_update 76 = .ok (.getfield 48, 3) := by decide +kernel
theorem d_M_update_79 : decode b_M_update 79 = .ok (.getfield 126, 3) := by decide +kernel
theorem d_M_update_82 : decode b_M_update 82 = .ok (.ireturn, 1) := by decide +kernel
theorem d_T_within_0 : decode b_T_within 0 = .ok (.iload_n 0, 1) := by decide +kernel
theorem d_T_within_1 : decode b_T_within 1 = .ok (.iload_n 1, 1) := by decide +kernel
theorem d_T_within_2 : decode b_T_within 2 = .ok (.if_icmp .ge 7, 3) := by decide +kernel
theorem d_T_within_5 : decode b_T_within 5 = .ok (.iload_n 1, 1) := by decide +kernel
theorem d_T_within_6 : decode b_T_within 6 = .ok (.goto 13, 3) := by decide +kernel
theorem d_T_within_9 : decode b_T_within 9 = .ok (.iload_n 0, 1) := by decide +kernel
theorem d_T_within_10 : decode b_T_within 10 = .ok (.iload_n 2, 1) := by decide +kernel
theorem d_T_within_11 : decode b_T_within 11 = .ok (.if_icmp .le 7, 3) := by decide +kernel
theorem d_T_within_14 : decode b_T_within 14 = .ok (.iload_n 2, 1) := by decide +kernel
theorem d_T_within_15 : decode b_T_within 15 = .ok (.goto 4, 3) := by decide +kernel
theorem d_T_within_18 : decode b_T_within 18 = .ok (.iload_n 0, 1) := by decide +kernel
theorem d_T_within_19 : decode b_T_within 19 = .ok (.ireturn, 1) := by decide +kernel
theorem d_T_between_0 : decode b_T_between 0 = .ok (.lload_n 2, 1) := by decide +kernel
theorem d_T_between_1 : decode b_T_between 1 = .ok (.lload_n 0, 1) := by decide +kernel
theorem d_T_between_2 : decode b_T_between 2 = .ok (.lcmp, 1) := by decide +kernel
theorem d_T_between_3 : decode b_T_between 3 = .ok (.ifCond .gt 14, 3) := by decide +kernel
theorem d_T_between_6 : decode b_T_between 6 = .ok (.lload_n 0, 1) := by decide +kernel
theorem d_T_between_7 : decode b_T_between 7 = .ok (.lload 4, 2) := by decide +kernel
theorem d_T_between_9 : decode b_T_between 9 = .ok (.lcmp, 1) := by decide +kernel
theorem d_T_between_10 : decode b_T_between 10 = .ok (.ifCond .gt 7, 3) := by decide +kernel
theorem d_T_between_13 : decode b_T_between 13 = .ok (.iconst 1, 1) := by decide +kernel
theorem d_T_between_14 : decode b_T_between 14 = .ok (.goto 4, 3) := by decide +kernel
theorem d_T_between_17 : decode b_T_between 17 = .ok (.iconst 0, 1) := by decide +kernel
theorem d_T_between_18 : decode b_T_between 18 = .ok (.ireturn, 1) := by decide +kernel
theorem d_T_isServer_0 : decode b_T_isServer 0 = .ok (.iload_n 1, 1) := by decide +kernel
theorem d_T_isServer_1 : decode b_T_isServer 1 = .ok (.ifCond .lt 15, 3) := by decide +kernel
theorem d_T_isServer_4 : decode b_T_isServer 4 = .ok (.iload_n 1, 1) := by decide +kernel
theorem d_T_isServer_5 : decode b_T_isServer 5 = .ok (.aload_n 0, 1) := by decide +kernel
theorem d_T_isServer_6 : decode b_T_isServer 6 = .ok (.getfield 73, 3) := by decide +kernel
theorem d_T_isServer_9 : decode b_T_isServer 9 = .ok (.if_icmp .ge 7, 3) := by decide +kernel
theorem d_T_isServer_12 : decode b_T_isServer 12 = .ok (.iconst 1, 1) := by decide +kernel
theorem d_T_isServer_13 : decode b_T_isServer 13 = .ok (.goto 4, 3) := by decide +kernel
theorem d_T_isServer_16 : decode b_T_isServer 16 = .ok (.iconst 0, 1) := by decide +kernel
theorem d_T_isServer_17 : decode b_T_isServer 17 = .ok (.ireturn, 1) := by decide +kernel
theorem d_T_down_0 : decode b_T_down 0 = .ok (.lload_n 0, 1) := by decide +kernel
theorem d_T_down_1 : decode b_T_down 1 = .ok (.lload_n 2, 1) := by decide +kernel
theorem d_T_down_2 : decode b_T_down 2 = .ok (.ldiv, 1) := by decide +kernel
theorem d_T_down_3 : decode b_T_down 3 = .ok (.lstore 4, 2) := by decide +kernel
theorem d_T_down_5 : decode b_T_down 5 = .ok (.lload 4, 2) := by decide +kernel
theorem d_T_down_7 : decode b_T_down 7 = .ok (.lload_n 2, 1) := by decide +kernel
theorem d_T_down_8 : decode b_T_down 8 = .ok (.lmul, 1) := by decide +kernel
theorem d_T_down_9 : decode b_T_down 9 = .ok (.lload_n 0, 1) := by decide +kernel
theorem d_T_down_10 : decode b_T_down 10 = .ok (.lcmp, 1) := by decide +kernel
theorem d_T_down_11 : decode b_T_down 11 = .ok (.ifCond .le 10, 3) := by decide +kernel
theorem d_T_down_14 : decode b_T_down 14 = .ok (.lload 4, 2) := by decide +kernel
theorem d_T_down_16 : decode b_T_down 16 = .ok (.lconst 1, 1) := by decide +kernel
theorem d_T_down_17 : decode b_T_down 17 = .ok (.lsub, 1) := by decide +kernel
theorem d_T_down_18 : decode b_T_down 18 = .ok (.goto 5, 3) := by decide +kernel
theorem d_T_down_21 : decode b_T_down 21 = .ok (.lload 4, 2) := by decide +kernel
theorem d_T_down_23 : decode b_T_down 23 = .ok (.lreturn, 1) := by decide +kernel
theorem d_T_growth_0 : decode b_T_growth 0 = .ok (.lload_n 1, 1) := by decide +kernel
theorem d_T_growth_1 : decode b_T_growth 1 = .ok (.aload_n 0, 1) := by decide +kernel
