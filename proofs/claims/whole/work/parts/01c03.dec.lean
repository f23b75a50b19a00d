theorem d_E_keepThoseAtHull_6 : decode b_E_keepThoseAtHull 6 = .ok (.getfield 22, 3) := by decide +kernel
theorem d_E_keepThoseAtHull_9 : decode b_E_keepThoseAtHull 9 = .ok (.if_icmp .ge 63, 3) := by decide +kernel
theorem d_E_keepThoseAtHull_12 : decode b_E_keepThoseAtHull 12 = .ok (.aload_n 0, 1) := by decide +kernel
theorem d_E_keepThoseAtHull_13 : decode b_E_keepThoseAtHull 13 = .ok (.getfield 15, 3) := by decide +kernel
theorem d_E_keepThoseAtHull_16 : decode b_E_keepThoseAtHull 16 = .ok (.iload_n 2, 1) := by decide +kernel
theorem d_E_keepThoseAtHull_17 : decode b_E_keepThoseAtHull 17 = .ok (.laload, 1) := by decide +kernel
theorem d_E_keepThoseAtHull_18 : decode b_E_keepThoseAtHull 18 = .ok (.aload_n 0, 1) := by decide +kernel
theorem d_E_keepThoseAtHull_19 : decode b_E_keepThoseAtHull 19 = .ok (.getfield 57, 3) := by decide +kernel
theorem d_E_keepThoseAtHull_22 : decode b_E_keepThoseAtHull 22 = .ok (.lcmp, 1) := by decide +kernel
theorem d_E_keepThoseAtHull_23 : decode b_E_keepThoseAtHull 23 = .ok (.ifCond .gt 43, 3) := by decide +kernel
theorem d_E_keepThoseAtHull_26 : decode b_E_keepThoseAtHull 26 = .ok (.aload_n 0, 1) := by decide +kernel
theorem d_E_keepThoseAtHull_27 : decode b_E_keepThoseAtHull 27 = .ok (.getfield 19, 3) := by decide +kernel
theorem d_E_keepThoseAtHull_30 : decode b_E_keepThoseAtHull 30 = .ok (.iload_n 2, 1) := by decide +kernel
theorem d_E_keepThoseAtHull_31 : decode b_E_keepThoseAtHull 31 = .ok (.laload, 1) := by decide +kernel
theorem d_E_keepThoseAtHull_32 : decode b_E_keepThoseAtHull 32 = .ok (.aload_n 0, 1) := by decide +kernel
theorem d_E_keepThoseAtHull_33 : decode b_E_keepThoseAtHull 33 = .ok (.getfield 53, 3) := by decide +kernel
theorem d_E_keepThoseAtHull_36 : decode b_E_keepThoseAtHull 36 = .ok (.lcmp, 1) := by decide +kernel
theorem d_E_keepThoseAtHull_37 : decode b_E_keepThoseAtHull 37 = .ok (.ifCond .lt 29, 3) := by decide +kernel
theorem d_E_keepThoseAtHull_40 : decode b_E_keepThoseAtHull 40 = .ok (.aload_n 0, 1) := by decide +kernel
theorem d_E_keepThoseAtHull_41 : decode b_E_keepThoseAtHull 41 = .ok (.iload_n 1, 1) := by decide +kernel
theorem d_E_keepThoseAtHull_42 : decode b_E_keepThoseAtHull 42 = .ok (.aload_n 0, 1) := by decide +kernel
theorem d_E_keepThoseAtHull_43 : decode b_E_keepThoseAtHull 43 = .ok (.getfield 9, 3) := by decide +kernel
theorem d_E_keepThoseAtHull_46 : decode b_E_keepThoseAtHull 46 = .ok (.iload_n 2, 1) := by decide +kernel
theorem d_E_keepThoseAtHull_47 : decode b_E_keepThoseAtHull 47 = .ok (.iaload, 1) := by decide +kernel
theorem d_E_keepThoseAtHull_48 : decode b_E_keepThoseAtHull 48 = .ok (.aload_n 0, 1) := by decide +kernel
theorem d_E_keepThoseAtHull_49 : decode b_E_keepThoseAtHull 49 = .ok (.getfield 15, 3) := by decide +kernel
theorem d_E_keepThoseAtHull_52 : decode b_E_keepThoseAtHull 52 = .ok (.iload_n 2, 1) := by decide +kernel
theorem d_E_keepThoseAtHull_53 : decode b_E_keepThoseAtHull 53 = .ok (.laload, 1) := by decide +kernel
theorem d_E_keepThoseAtHull_54 : decode b_E_keepThoseAtHull 54 = .ok (.aload_n 0, 1) := by decide +kernel
theorem d_E_keepThoseAtHull_55 : decode b_E_keepThoseAtHull 55 = .ok (.getfield 19, 3) := by decide +kernel
theorem d_E_keepThoseAtHull_58 : decode b_E_keepThoseAtHull 58 = .ok (.iload_n 2, 1) := by decide +kernel
theorem d_E_keepThoseAtHull_59 : decode b_E_keepThoseAtHull 59 = .ok (.laload, 1) := by decide +kernel
theorem d_E_keepThoseAtHull_60 : decode b_E_keepThoseAtHull 60 = .ok (.invokevirtual 26, 3) := by decide +kernel
theorem d_E_keepThoseAtHull_63 : decode b_E_keepThoseAtHull 63 = .ok (.iinc 1 1, 3) := by decide +kernel
theorem d_E_keepThoseAtHull_66 : decode b_E_keepThoseAtHull 66 = .ok (.iinc 2 1, 3) := by decide +kernel
theorem d_E_keepThoseAtHull_69 : decode b_E_keepThoseAtHull 69 = .ok (.goto (-65), 3) := by decide +kernel
theorem d_E_keepThoseAtHull_72 : decode b_E_keepThoseAtHull 72 = .ok (.aload_n 0, 1) := by decide +kernel
theorem d_E_keepThoseAtHull_73 : decode b_E_keepThoseAtHull 73 = .ok (.iload_n 1, 1) := by decide +kernel
theorem d_E_keepThoseAtHull_74 : decode b_E_keepThoseAtHull 74 = .ok (.putfield 22, 3) := by decide +kernel
theorem d_E_keepThoseAtHull_77 : decode b_E_keepThoseAtHull 77 = .ok (.return_, 1) := by decide +kernel
theorem d_E_middle_0 : decode b_E_middle 0 = .ok (.aload_n 0, 1) := by decide +kernel
theorem d_E_middle_1 : decode b_E_middle 1 = .ok (.getfield 15, 3) := by decide +kernel
theorem d_E_middle_4 : decode b_E_middle 4 = .ok (.iload_n 1, 1) := by decide +kernel
theorem d_E_middle_5 : decode b_E_middle 5 = .ok (.laload, 1) := by decide +kernel
theorem d_E_middle_6 : decode b_E_middle 6 = .ok (.aload_n 0, 1) := by decide +kernel
theorem d_E_middle_7 : decode b_E_middle 7 = .ok (.getfield 19, 3) := by decide +kernel
theorem d_E_middle_10 : decode b_E_middle 10 = .ok (.iload_n 1, 1) := by decide +kernel
theorem d_E_middle_11 : decode b_E_middle 11 = .ok (.laload, 1) := by decide +kernel
theorem d_E_middle_12 : decode b_E_middle 12 = .ok (.ladd, 1) := by decide +kernel
theorem d_E_middle_13 : decode b_E_middle 13 = .ok (.ldc2_w 79, 3) := by decide +kernel
theorem d_E_middle_16 : decode b_E_middle 16 = .ok (.invokestatic 81, 3) := by decide +kernel
theorem d_E_middle_19 : decode b_E_middle 19 = .ok (.lreturn, 1) := by decide +kernel
theorem d_E_distances_0 : decode b_E_distances 0 = .ok (.lconst 0, 1) := by decide +kernel
theorem d_E_distances_1 : decode b_E_distances 1 = .ok (.lstore_n 2, 1) := by decide +kernel
theorem d_E_distances_2 : decode b_E_distances 2 = .ok (.iconst 0, 1) := by decide +kernel
theorem d_E_distances_3 : decode b_E_distances 3 = .ok (.istore 4, 2) := by decide +kernel
theorem d_E_distances_5 : decode b_E_distances 5 = .ok (.iload 4, 2) := by decide +kernel
theorem d_E_distances_7 : decode b_E_distances 7 = .ok (.aload_n 0, 1) := by decide +kernel
theorem d_E_distances_8 : decode b_E_distances 8 = .ok (.getfield 22, 3) := by decide +kernel
theorem d_E_distances_11 : decode b_E_distances 11 = .ok (.if_icmp .ge 27, 3) := by decide +kernel
theorem d_E_distances_14 : decode b_E_distances 14 = .ok (.lload_n 2, 1) := by decide +kernel
theorem d_E_distances_15 : decode b_E_distances 15 = .ok (.aload_n 0, 1) := by decide +kernel
theorem d_E_distances_16 : decode b_E_distances 16 = .ok (.iload_n 1, 1) := by decide +kernel
theorem d_E_distances_17 : decode b_E_distances 17 = .ok (.invokevirtual 72, 3) := by decide +kernel
theorem d_E_distances_20 : decode b_E_distances 20 = .ok (.aload_n 0, 1) := by decide +kernel
theorem d_E_distances_21 : decode b_E_distances 21 = .ok (.iload 4, 2) := by decide +kernel
theorem d_E_distances_23 : decode b_E_distances 23 = .ok (.invokevirtual 72, 3) := by decide +kernel
theorem d_E_distances_26 : decode b_E_distances 26 = .ok (.lsub, 1) := by decide +kernel
theorem d_E_distances_27 : decode b_E_distances 27 = .ok (.invokestatic 75, 3) := by decide +kernel
theorem d_E_distances_30 : decode b_E_distances 30 = .ok (.ladd, 1) := by decide +kernel
theorem d_E_distances_31 : decode b_E_distances 31 = .ok (.lstore_n 2, 1) := by decide +kernel
theorem d_E_distances_32 : decode b_E_distances 32 = .ok (.iinc 4 1, 3) := by decide +kernel
theorem d_E_distances_35 : decode b_E_distances 35 = .ok (.goto (-30), 3) := by decide +kernel
theorem d_E_distances_38 : decode b_E_distances 38 = .ok (.lload_n 2, 1) := by decide +kernel
theorem d_E_distances_39 : decode b_E_distances 39 = .ok (.lreturn, 1) := by decide +kernel
theorem d_E_farthest_0 : decode b_E_farthest 0 = .ok (.iconst 0, 1) := by decide +kernel
theorem d_E_farthest_1 : decode b_E_farthest 1 = .ok (.istore_n 1, 1) := by decide +kernel
theorem d_E_farthest_2 : decode b_E_farthest 2 = .ok (.iconst 1, 1) := by decide +kernel
theorem d_E_farthest_3 : decode b_E_farthest 3 = .ok (.istore_n 2, 1) := by decide +kernel
theorem d_E_farthest_4 : decode b_E_farthest 4 = .ok (.iload_n 2, 1) := by decide +kernel
theorem d_E_farthest_5 : decode b_E_farthest 5 = .ok (.aload_n 0, 1) := by decide +kernel
theorem d_E_farthest_6 : decode b_E_farthest 6 = .ok (.getfield 22, 3) := by decide +kernel
theorem d_E_farthest_9 : decode b_E_farthest 9 = .ok (.if_icmp .ge 25, 3) := by decide +kernel
theorem d_E_farthest_12 : decode b_E_farthest 12 = .ok (.aload_n 0, 1) := by decide +kernel
theorem d_E_farthest_13 : decode b_E_farthest 13 = .ok (.iload_n 2, 1) := by decide +kernel
theorem d_E_farthest_14 : decode b_E_farthest 14 = .ok (.invokevirtual 68, 3) := by decide +kernel
theorem d_E_farthest_17 : decode b_E_farthest 17 = .ok (.aload_n 0, 1) := by decide +kernel
theorem d_E_farthest_18 : decode b_E_farthest 18 = .ok (.iload_n 1, 1) := by decide +kernel
theorem d_E_farthest_19 : decode b_E_farthest 19 = .ok (.invokevirtual 68, 3) := by decide +kernel
theorem d_E_farthest_22 : decode b_E_farthest 22 = .ok (.lcmp, 1) := by decide +kernel
theorem d_E_farthest_23 : decode b_E_farthest 23 = .ok (.ifCond .lt 5, 3) := by decide +kernel
theorem d_E_farthest_26 : decode b_E_farthest 26 = .ok (.iload_n 2, 1) := by decide +kernel
theorem d_E_farthest_27 : decode b_E_farthest 27 = .ok (.istore_n 1, 1) := by decide +kernel
theorem d_E_farthest_28 : decode b_E_farthest 28 = .ok (.iinc 2 1, 3) := by decide +kernel
theorem d_E_farthest_31 : decode b_E_farthest 31 = .ok (.goto (-27), 3) := by decide +kernel
theorem d_E_farthest_34 : decode b_E_farthest 34 = .ok (.iload_n 1, 1) := by decide +kernel
theorem d_E_farthest_35 : decode b_E_farthest 35 = .ok (.ireturn, 1) := by decide +kernel
theorem d_E_remove_0 : decode b_E_remove 0 = .ok (.iload_n 1, 1) := by decide +kernel
theorem d_E_remove_1 : decode b_E_remove 1 = .ok (.iconst 1, 1) := by decide +kernel
theorem d_E_remove_2 : decode b_E_remove 2 = .ok (.iadd, 1) := by decide +kernel
theorem d_E_remove_3 : decode b_E_remove 3 = .ok (.istore_n 2, 1) := by decide +kernel
theorem d_E_remove_4 : decode b_E_remove 4 = .ok (.iload_n 2, 1) := by decide +kernel
theorem d_E_remove_5 : decode b_E_remove 5 = .ok (.aload_n 0, 1) := by decide +kernel
theorem d_E_remove_6 : decode b_E_remove 6 = .ok (.getfield 22, 3) := by decide +kernel
theorem d_E_remove_9 : decode b_E_remove 9 = .ok (.if_icmp .ge 34, 3) := by decide +kernel
theorem d_E_remove_12 : decode b_E_remove 12 = .ok (.aload_n 0, 1) := by decide +kernel
theorem d_E_remove_13 : decode b_E_remove 13 = .ok (.iload_n 2, 1) := by decide +kernel
theorem d_E_remove_14 : decode b_E_remove 14 = .ok (.iconst 1, 1) := by decide +kernel
theorem d_E_remove_15 : decode b_E_remove 15 = .ok (.isub, 1) := by decide +kernel
theorem d_E_remove_16 : decode b_E_remove 16 = .ok (.aload_n 0, 1) := by decide +kernel
theorem d_E_remove_17 : decode b_E_remove 17 = .ok (.getfield 9, 3) := by decide +kernel
theorem d_E_remove_20 : decode b_E_remove 20 = .ok (.iload_n 2, 1) := by decide +kernel
theorem d_E_remove_21 : decode b_E_remove 21 = .ok (.iaload, 1) := by decide +kernel
theorem d_E_remove_22 : decode b_E_remove 22 = .ok (.aload_n 0, 1) := by decide +kernel
theorem d_E_remove_23 : decode b_E_remove 23 = .ok (.getfield 15, 3) := by decide +kernel
theorem d_E_remove_26 : decode b_E_remove 26 = .ok (.iload_n 2, 1) := by decide +kernel
theorem d_E_remove_27 : decode b_E_remove 27 = .ok (.laload, 1) := by decide +kernel
theorem d_E_remove_28 : decode b_E_remove 28 = .ok (.aload_n 0, 1) := by decide +kernel
theorem d_E_remove_29 : decode b_E_remove 29 = .ok (.getfield 19, 3) := by decide +kernel
theorem d_E_remove_32 : decode b_E_remove 32 = .ok (.iload_n 2, 1) := by decide +kernel
theorem d_E_remove_33 : decode b_E_remove 33 = .ok (.laload, 1) := by decide +kernel
theorem d_E_remove_34 : decode b_E_remove 34 = .ok (.invokevirtual 26, 3) := by decide +kernel
theorem d_E_remove_37 : decode b_E_remove 37 = .ok (.iinc 2 1, 3) := by decide +kernel
theorem d_E_remove_40 : decode b_E_remove 40 = .ok (.goto (-36), 3) := by decide +kernel
theorem d_E_remove_43 : decode b_E_remove 43 = .ok (.aload_n 0, 1) := by decide +kernel
theorem d_E_remove_44 : decode b_E_remove 44 = .ok (.dup, 1) := by decide +kernel
theorem d_E_remove_45 : decode b_E_remove 45 = .ok (.getfield 22, 3) := by decide +kernel
theorem d_E_remove_48 : decode b_E_remove 48 = .ok (.iconst 1, 1) := by decide +kernel
theorem d_E_remove_49 : decode b_E_remove 49 = .ok (.isub, 1) := by decide +kernel
theorem d_E_remove_50 : decode b_E_remove 50 = .ok (.putfield 22, 3) := by decide +kernel
theorem d_E_remove_53 : decode b_E_remove 53 = .ok (.return_, 1) := by decide +kernel
theorem d_E_keepTheClosest_0 : decode b_E_keepTheClosest 0 = .ok (.aload_n 0, 1) := by decide +kernel
theorem d_E_keepTheClosest_1 : decode b_E_keepTheClosest 1 = .ok (.getfield 22, 3) := by decide +kernel
theorem d_E_keepTheClosest_4 : decode b_E_keepTheClosest 4 = .ok (.istore_n 1, 1) := by decide +kernel
theorem d_E_keepTheClosest_5 : decode b_E_keepTheClosest 5 = .ok (.iload_n 1, 1) := by decide +kernel
theorem d_E_keepTheClosest_6 : decode b_E_keepTheClosest 6 = .ok (.iconst 3, 1) := by decide +kernel
theorem d_E_keepTheClosest_7 : decode b_E_keepTheClosest 7 = .ok (.if_icmp .le 17, 3) := by decide +kernel
theorem d_E_keepTheClosest_10 : decode b_E_keepTheClosest 10 = .ok (.aload_n 0, 1) := by decide +kernel
theorem d_E_keepTheClosest_11 : decode b_E_keepTheClosest 11 = .ok (.aload_n 0, 1) := by decide +kernel
theorem d_E_keepTheClosest_12 : decode b_E_keepTheClosest 12 = .ok (.invokevirtual 60, 3) := by decide +kernel
theorem d_E_keepTheClosest_15 : decode b_E_keepTheClosest 15 = .ok (.invokevirtual 64, 3) := by decide +kernel
theorem d_E_keepTheClosest_18 : decode b_E_keepTheClosest 18 = .ok (.iinc 1 (-1), 3) := by decide +kernel
theorem d_E_keepTheClosest_21 : decode b_E_keepTheClosest 21 = .ok (.goto (-16), 3) := by decide +kernel
theorem d_E_keepTheClosest_24 : decode b_E_keepTheClosest 24 = .ok (.return_, 1) := by decide +kernel
theorem d_E_target_0 : decode b_E_target 0 = .ok (.lconst 0, 1) := by decide +kernel
theorem d_E_target_1 : decode b_E_target 1 = .ok (.lstore_n 1, 1) := by decide +kernel
theorem d_E_target_2 : decode b_E_target 2 = .ok (.iconst 0, 1) := by decide +kernel
theorem d_E_target_3 : decode b_E_target 3 = .ok (.istore_n 3, 1) := by decide +kernel
theorem d_E_target_4 : decode b_E_target 4 = .ok (.iload_n 3, 1) := by decide +kernel
theorem d_E_target_5 : decode b_E_target 5 = .ok (.aload_n 0, 1) := by decide +kernel
theorem d_E_target_6 : decode b_E_target 6 = .ok (.getfield 22, 3) := by decide +kernel
theorem d_E_target_9 : decode b_E_target 9 = .ok (.if_icmp .ge 17, 3) := by decide +kernel
theorem d_E_target_12 : decode b_E_target 12 = .ok (.lload_n 1, 1) := by decide +kernel
theorem d_E_target_13 : decode b_E_target 13 = .ok (.aload_n 0, 1) := by decide +kernel
theorem d_E_target_14 : decode b_E_target 14 = .ok (.iload_n 3, 1) := by decide +kernel
theorem d_E_target_15 : decode b_E_target 15 = .ok (.invokevirtual 72, 3) := by decide +kernel
theorem d_E_target_18 : decode b_E_target 18 = .ok (.ladd, 1) := by decide +kernel
theorem d_E_target_19 : decode b_E_target 19 = .ok (.lstore_n 1, 1) := by decide +kernel
theorem d_E_target_20 : decode b_E_target 20 = .ok (.iinc 3 1, 3) := by decide +kernel
theorem d_E_target_23 : decode b_E_target 23 = .ok (.goto (-19), 3) := by decide +kernel
