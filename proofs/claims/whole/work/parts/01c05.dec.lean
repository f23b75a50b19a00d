theorem d_Le_give_11 : decode b_Le_give 11 = .ok (.lload_n 2, 1) := by decide +kernel
theorem d_Le_give_12 : decode b_Le_give 12 = .ok (.putfield 17, 3) := by decide +kernel
theorem d_Le_give_15 : decode b_Le_give 15 = .ok (.return_, 1) := by decide +kernel
theorem d_M_advance_0 : decode b_M_advance 0 = .ok (.iload_n 1, 1) := by decide +kernel
theorem d_M_advance_1 : decode b_M_advance 1 = .ok (.ifCond .lt 9, 3) := by decide +kernel
theorem d_M_advance_4 : decode b_M_advance 4 = .ok (.iload_n 1, 1) := by decide +kernel
theorem d_M_advance_5 : decode b_M_advance 5 = .ok (.ldc 59, 2) := by decide +kernel
theorem d_M_advance_7 : decode b_M_advance 7 = .ok (.if_icmp .le 5, 3) := by decide +kernel
theorem d_M_advance_10 : decode b_M_advance 10 = .ok (.iconst 0, 1) := by decide +kernel
theorem d_M_advance_11 : decode b_M_advance 11 = .ok (.ireturn, 1) := by decide +kernel
theorem d_M_advance_12 : decode b_M_advance 12 = .ok (.aload_n 0, 1) := by decide +kernel
theorem d_M_advance_13 : decode b_M_advance 13 = .ok (.dup, 1) := by decide +kernel
theorem d_M_advance_14 : decode b_M_advance 14 = .ok (.getfield 60, 3) := by decide +kernel
theorem d_M_advance_17 : decode b_M_advance 17 = .ok (.iload_n 1, 1) := by decide +kernel
theorem d_M_advance_18 : decode b_M_advance 18 = .ok (.i2l, 1) := by decide +kernel
theorem d_M_advance_19 : decode b_M_advance 19 = .ok (.ladd, 1) := by decide +kernel
theorem d_M_advance_20 : decode b_M_advance 20 = .ok (.putfield 60, 3) := by decide +kernel
theorem d_M_advance_23 : decode b_M_advance 23 = .ok (.iconst 1, 1) := by decide +kernel
theorem d_M_advance_24 : decode b_M_advance 24 = .ok (.ireturn, 1) := by decide +kernel
theorem d_M_hardware_0 : decode b_M_hardware 0 = .ok (.aload_n 0, 1) := by decide +kernel
theorem d_M_hardware_1 : decode b_M_hardware 1 = .ok (.getfield 60, 3) := by decide +kernel
theorem d_M_hardware_4 : decode b_M_hardware 4 = .ok (.lreturn, 1) := by decide +kernel
theorem d_M_survivors_0 : decode b_M_survivors 0 = .ok (.aload_n 0, 1) := by decide +kernel
theorem d_M_survivors_1 : decode b_M_survivors 1 = .ok (.getfield 55, 3) := by decide +kernel
theorem d_M_survivors_4 : decode b_M_survivors 4 = .ok (.getfield 154, 3) := by decide +kernel
theorem d_M_survivors_7 : decode b_M_survivors 7 = .ok (.ireturn, 1) := by decide +kernel
theorem d_M_stratum_0 : decode b_M_stratum 0 = .ok (.aload_n 0, 1) := by decide +kernel
theorem d_M_stratum_1 : decode b_M_stratum 1 = .ok (.getfield 55, 3) := by decide +kernel
theorem d_M_stratum_4 : decode b_M_stratum 4 = .ok (.getfield 167, 3) := by decide +kernel
theorem d_M_stratum_7 : decode b_M_stratum 7 = .ok (.ireturn, 1) := by decide +kernel
theorem d_M_time_0 : decode b_M_time 0 = .ok (.aload_n 0, 1) := by decide +kernel
theorem d_M_time_1 : decode b_M_time 1 = .ok (.getfield 55, 3) := by decide +kernel
theorem d_M_time_4 : decode b_M_time 4 = .ok (.getfield 157, 3) := by decide +kernel
theorem d_M_time_7 : decode b_M_time 7 = .ok (.ifCond .ne 7, 3) := by decide +kernel
theorem d_M_time_10 : decode b_M_time 10 = .ok (.ldc2_w 74, 3) := by decide +kernel
theorem d_M_time_13 : decode b_M_time 13 = .ok (.lreturn, 1) := by decide +kernel
theorem d_M_time_14 : decode b_M_time 14 = .ok (.aload_n 0, 1) := by decide +kernel
theorem d_M_time_15 : decode b_M_time 15 = .ok (.getfield 60, 3) := by decide +kernel
theorem d_M_time_18 : decode b_M_time 18 = .ok (.aload_n 0, 1) := by decide +kernel
theorem d_M_time_19 : decode b_M_time 19 = .ok (.getfield 55, 3) := by decide +kernel
theorem d_M_time_22 : decode b_M_time 22 = .ok (.aload_n 0, 1) := by decide +kernel
theorem d_M_time_23 : decode b_M_time 23 = .ok (.getfield 60, 3) := by decide +kernel
theorem d_M_time_26 : decode b_M_time 26 = .ok (.invokevirtual 170, 3) := by decide +kernel
theorem d_M_time_29 : decode b_M_time 29 = .ok (.ladd, 1) := by decide +kernel
theorem d_M_time_30 : decode b_M_time 30 = .ok (.lreturn, 1) := by decide +kernel
theorem d_M_bound_0 : decode b_M_bound 0 = .ok (.aload_n 0, 1) := by decide +kernel
theorem d_M_bound_1 : decode b_M_bound 1 = .ok (.getfield 55, 3) := by decide +kernel
theorem d_M_bound_4 : decode b_M_bound 4 = .ok (.getfield 157, 3) := by decide +kernel
theorem d_M_bound_7 : decode b_M_bound 7 = .ok (.ifCond .ne 7, 3) := by decide +kernel
theorem d_M_bound_10 : decode b_M_bound 10 = .ok (.ldc2_w 74, 3) := by decide +kernel
theorem d_M_bound_13 : decode b_M_bound 13 = .ok (.lreturn, 1) := by decide +kernel
theorem d_M_bound_14 : decode b_M_bound 14 = .ok (.aload_n 0, 1) := by decide +kernel
theorem d_M_bound_15 : decode b_M_bound 15 = .ok (.getfield 55, 3) := by decide +kernel
theorem d_M_bound_18 : decode b_M_bound 18 = .ok (.aload_n 0, 1) := by decide +kernel
theorem d_M_bound_19 : decode b_M_bound 19 = .ok (.getfield 60, 3) := by decide +kernel
theorem d_M_bound_22 : decode b_M_bound 22 = .ok (.aload_n 0, 1) := by decide +kernel
theorem d_M_bound_23 : decode b_M_bound 23 = .ok (.getfield 24, 3) := by decide +kernel
theorem d_M_bound_26 : decode b_M_bound 26 = .ok (.invokevirtual 174, 3) := by decide +kernel
theorem d_M_bound_29 : decode b_M_bound 29 = .ok (.lreturn, 1) := by decide +kernel
theorem d_M_hull_0 : decode b_M_hull 0 = .ok (.aload_n 0, 1) := by decide +kernel
theorem d_M_hull_1 : decode b_M_hull 1 = .ok (.getfield 55, 3) := by decide +kernel
theorem d_M_hull_4 : decode b_M_hull 4 = .ok (.getfield 157, 3) := by decide +kernel
theorem d_M_hull_7 : decode b_M_hull 7 = .ok (.ifCond .ne 7, 3) := by decide +kernel
theorem d_M_hull_10 : decode b_M_hull 10 = .ok (.ldc2_w 74, 3) := by decide +kernel
theorem d_M_hull_13 : decode b_M_hull 13 = .ok (.lreturn, 1) := by decide +kernel
theorem d_M_hull_14 : decode b_M_hull 14 = .ok (.iload_n 1, 1) := by decide +kernel
theorem d_M_hull_15 : decode b_M_hull 15 = .ok (.ifCond .eq 13, 3) := by decide +kernel
theorem d_M_hull_18 : decode b_M_hull 18 = .ok (.aload_n 0, 1) := by decide +kernel
theorem d_M_hull_19 : decode b_M_hull 19 = .ok (.getfield 55, 3) := by decide +kernel
theorem d_M_hull_22 : decode b_M_hull 22 = .ok (.getfield 161, 3) := by decide +kernel
theorem d_M_hull_25 : decode b_M_hull 25 = .ok (.goto 10, 3) := by decide +kernel
theorem d_M_hull_28 : decode b_M_hull 28 = .ok (.aload_n 0, 1) := by decide +kernel
theorem d_M_hull_29 : decode b_M_hull 29 = .ok (.getfield 55, 3) := by decide +kernel
theorem d_M_hull_32 : decode b_M_hull 32 = .ok (.getfield 164, 3) := by decide +kernel
theorem d_M_hull_35 : decode b_M_hull 35 = .ok (.lreturn, 1) := by decide +kernel
theorem d_M_isOver_0 : decode b_M_isOver 0 = .ok (.aload_n 0, 1) := by decide +kernel
theorem d_M_isOver_1 : decode b_M_isOver 1 = .ok (.invokevirtual 182, 3) := by decide +kernel
theorem d_M_isOver_4 : decode b_M_isOver 4 = .ok (.aload_n 0, 1) := by decide +kernel
theorem d_M_isOver_5 : decode b_M_isOver 5 = .ok (.invokevirtual 232, 3) := by decide +kernel
theorem d_M_isOver_8 : decode b_M_isOver 8 = .ok (.lsub, 1) := by decide +kernel
theorem d_M_isOver_9 : decode b_M_isOver 9 = .ok (.aload_n 1, 1) := by decide +kernel
theorem d_M_isOver_10 : decode b_M_isOver 10 = .ok (.getfield 205, 3) := by decide +kernel
theorem d_M_isOver_13 : decode b_M_isOver 13 = .ok (.lcmp, 1) := by decide +kernel
theorem d_M_isOver_14 : decode b_M_isOver 14 = .ok (.ifCond .lt 7, 3) := by decide +kernel
theorem d_M_isOver_17 : decode b_M_isOver 17 = .ok (.iconst 1, 1) := by decide +kernel
theorem d_M_isOver_18 : decode b_M_isOver 18 = .ok (.goto 4, 3) := by decide +kernel
theorem d_M_isOver_21 : decode b_M_isOver 21 = .ok (.iconst 0, 1) := by decide +kernel
theorem d_M_isOver_22 : decode b_M_isOver 22 = .ok (.ireturn, 1) := by decide +kernel
theorem d_M_mayFollow_0 : decode b_M_mayFollow 0 = .ok (.aload_n 1, 1) := by decide +kernel
theorem d_M_mayFollow_1 : decode b_M_mayFollow 1 = .ok (.getfield 196, 3) := by decide +kernel
theorem d_M_mayFollow_4 : decode b_M_mayFollow 4 = .ok (.iload_n 2, 1) := by decide +kernel
theorem d_M_mayFollow_5 : decode b_M_mayFollow 5 = .ok (.if_icmp .ne 18, 3) := by decide +kernel
theorem d_M_mayFollow_8 : decode b_M_mayFollow 8 = .ok (.lload_n 3, 1) := by decide +kernel
theorem d_M_mayFollow_9 : decode b_M_mayFollow 9 = .ok (.aload_n 1, 1) := by decide +kernel
theorem d_M_mayFollow_10 : decode b_M_mayFollow 10 = .ok (.getfield 205, 3) := by decide +kernel
theorem d_M_mayFollow_13 : decode b_M_mayFollow 13 = .ok (.lcmp, 1) := by decide +kernel
theorem d_M_mayFollow_14 : decode b_M_mayFollow 14 = .ok (.ifCond .lt 7, 3) := by decide +kernel
theorem d_M_mayFollow_17 : decode b_M_mayFollow 17 = .ok (.iconst 1, 1) := by decide +kernel
theorem d_M_mayFollow_18 : decode b_M_mayFollow 18 = .ok (.goto 4, 3) := by decide +kernel
theorem d_M_mayFollow_21 : decode b_M_mayFollow 21 = .ok (.iconst 0, 1) := by decide +kernel
theorem d_M_mayFollow_22 : decode b_M_mayFollow 22 = .ok (.ireturn, 1) := by decide +kernel
theorem d_M_mayFollow_23 : decode b_M_mayFollow 23 = .ok (.aload_n 0, 1) := by decide +kernel
theorem d_M_mayFollow_24 : decode b_M_mayFollow 24 = .ok (.aload_n 1, 1) := by decide +kernel
theorem d_M_mayFollow_25 : decode b_M_mayFollow 25 = .ok (.invokevirtual 228, 3) := by decide +kernel
theorem d_M_mayFollow_28 : decode b_M_mayFollow 28 = .ok (.ireturn, 1) := by decide +kernel
theorem d_M_serverOrNull_0 : decode b_M_serverOrNull 0 = .ok (.iload_n 1, 1) := by decide +kernel
theorem d_M_serverOrNull_1 : decode b_M_serverOrNull 1 = .ok (.ifCond .lt 12, 3) := by decide +kernel
theorem d_M_serverOrNull_4 : decode b_M_serverOrNull 4 = .ok (.iload_n 1, 1) := by decide +kernel
theorem d_M_serverOrNull_5 : decode b_M_serverOrNull 5 = .ok (.aload_n 0, 1) := by decide +kernel
theorem d_M_serverOrNull_6 : decode b_M_serverOrNull 6 = .ok (.getfield 33, 3) := by decide +kernel
theorem d_M_serverOrNull_9 : decode b_M_serverOrNull 9 = .ok (.arraylength, 1) := by decide +kernel
theorem d_M_serverOrNull_10 : decode b_M_serverOrNull 10 = .ok (.if_icmp .lt 7, 3) := by decide +kernel
theorem d_M_serverOrNull_13 : decode b_M_serverOrNull 13 = .ok (.aconst_null, 1) := by decide +kernel
theorem d_M_serverOrNull_14 : decode b_M_serverOrNull 14 = .ok (.goto 9, 3) := by decide +kernel
theorem d_M_serverOrNull_17 : decode b_M_serverOrNull 17 = .ok (.aload_n 0, 1) := by decide +kernel
theorem d_M_serverOrNull_18 : decode b_M_serverOrNull 18 = .ok (.getfield 33, 3) := by decide +kernel
theorem d_M_serverOrNull_21 : decode b_M_serverOrNull 21 = .ok (.iload_n 1, 1) := by decide +kernel
theorem d_M_serverOrNull_22 : decode b_M_serverOrNull 22 = .ok (.aaload, 1) := by decide +kernel
theorem d_M_serverOrNull_23 : decode b_M_serverOrNull 23 = .ok (.areturn, 1) := by decide +kernel
theorem d_M_leaseOrNull_0 : decode b_M_leaseOrNull 0 = .ok (.iload_n 1, 1) := by decide +kernel
theorem d_M_leaseOrNull_1 : decode b_M_leaseOrNull 1 = .ok (.ifCond .lt 12, 3) := by decide +kernel
theorem d_M_leaseOrNull_4 : decode b_M_leaseOrNull 4 = .ok (.iload_n 1, 1) := by decide +kernel
theorem d_M_leaseOrNull_5 : decode b_M_leaseOrNull 5 = .ok (.aload_n 0, 1) := by decide +kernel
theorem d_M_leaseOrNull_6 : decode b_M_leaseOrNull 6 = .ok (.getfield 40, 3) := by decide +kernel
theorem d_M_leaseOrNull_9 : decode b_M_leaseOrNull 9 = .ok (.arraylength, 1) := by decide +kernel
theorem d_M_leaseOrNull_10 : decode b_M_leaseOrNull 10 = .ok (.if_icmp .lt 7, 3) := by decide +kernel
theorem d_M_leaseOrNull_13 : decode b_M_leaseOrNull 13 = .ok (.aconst_null, 1) := by decide +kernel
theorem d_M_leaseOrNull_14 : decode b_M_leaseOrNull 14 = .ok (.goto 9, 3) := by decide +kernel
theorem d_M_leaseOrNull_17 : decode b_M_leaseOrNull 17 = .ok (.aload_n 0, 1) := by decide +kernel
theorem d_M_leaseOrNull_18 : decode b_M_leaseOrNull 18 = .ok (.getfield 40, 3) := by decide +kernel
theorem d_M_leaseOrNull_21 : decode b_M_leaseOrNull 21 = .ok (.iload_n 1, 1) := by decide +kernel
theorem d_M_leaseOrNull_22 : decode b_M_leaseOrNull 22 = .ok (.aaload, 1) := by decide +kernel
theorem d_M_leaseOrNull_23 : decode b_M_leaseOrNull 23 = .ok (.areturn, 1) := by decide +kernel
theorem d_M_expiry_0 : decode b_M_expiry 0 = .ok (.aload_n 0, 1) := by decide +kernel
theorem d_M_expiry_1 : decode b_M_expiry 1 = .ok (.iload_n 1, 1) := by decide +kernel
theorem d_M_expiry_2 : decode b_M_expiry 2 = .ok (.invokevirtual 178, 3) := by decide +kernel
theorem d_M_expiry_5 : decode b_M_expiry 5 = .ok (.astore_n 2, 1) := by decide +kernel
theorem d_M_expiry_6 : decode b_M_expiry 6 = .ok (.aload_n 2, 1) := by decide +kernel
theorem d_M_expiry_7 : decode b_M_expiry 7 = .ok (.ifnull 10, 3) := by decide +kernel
theorem d_M_expiry_10 : decode b_M_expiry 10 = .ok (.aload_n 2, 1) := by decide +kernel
theorem d_M_expiry_11 : decode b_M_expiry 11 = .ok (.getfield 185, 3) := by decide +kernel
theorem d_M_expiry_14 : decode b_M_expiry 14 = .ok (.ifCond .ne 9, 3) := by decide +kernel
theorem d_M_expiry_17 : decode b_M_expiry 17 = .ok (.ldc2_w 74, 3) := by decide +kernel
theorem d_M_expiry_20 : decode b_M_expiry 20 = .ok (.goto 7, 3) := by decide +kernel
theorem d_M_expiry_23 : decode b_M_expiry 23 = .ok (.aload_n 2, 1) := by decide +kernel
theorem d_M_expiry_24 : decode b_M_expiry 24 = .ok (.getfield 205, 3) := by decide +kernel
theorem d_M_expiry_27 : decode b_M_expiry 27 = .ok (.lreturn, 1) := by decide +kernel
theorem d_M_holder_0 : decode b_M_holder 0 = .ok (.aload_n 0, 1) := by decide +kernel
theorem d_M_holder_1 : decode b_M_holder 1 = .ok (.iload_n 1, 1) := by decide +kernel
theorem d_M_holder_2 : decode b_M_holder 2 = .ok (.invokevirtual 178, 3) := by decide +kernel
theorem d_M_holder_5 : decode b_M_holder 5 = .ok (.astore_n 2, 1) := by decide +kernel
theorem d_M_holder_6 : decode b_M_holder 6 = .ok (.aload_n 2, 1) := by decide +kernel
theorem d_M_holder_7 : decode b_M_holder 7 = .ok (.ifnull 10, 3) := by decide +kernel
theorem d_M_holder_10 : decode b_M_holder 10 = .ok (.aload_n 2, 1) := by decide +kernel
theorem d_M_holder_11 : decode b_M_holder 11 = .ok (.getfield 185, 3) := by decide +kernel
theorem d_M_holder_14 : decode b_M_holder 14 = .ok (.ifCond .ne 7, 3) := by decide +kernel
theorem d_M_holder_17 : decode b_M_holder 17 = .ok (.iconst (-1), 1) := by decide +kernel
theorem d_M_holder_18 : decode b_M_holder 18 = .ok (.goto 7, 3) := by decide +kernel
theorem d_M_holder_21 : decode b_M_holder 21 = .ok (.aload_n 2, 1) := by decide +kernel
theorem d_M_holder_22 : decode b_M_holder 22 = .ok (.getfield 196, 3) := by decide +kernel
