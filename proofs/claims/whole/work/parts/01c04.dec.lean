theorem d_E_target_26 : decode b_E_target 26 = .ok (.aload_n 0, 1) := by decide +kernel
theorem d_E_target_27 : decode b_E_target 27 = .ok (.getfield 22, 3) := by decide +kernel
theorem d_E_target_30 : decode b_E_target 30 = .ok (.ifCond .ne 7, 3) := by decide +kernel
theorem d_E_target_33 : decode b_E_target 33 = .ok (.lconst 0, 1) := by decide +kernel
theorem d_E_target_34 : decode b_E_target 34 = .ok (.goto 12, 3) := by decide +kernel
theorem d_E_target_37 : decode b_E_target 37 = .ok (.lload_n 1, 1) := by decide +kernel
theorem d_E_target_38 : decode b_E_target 38 = .ok (.aload_n 0, 1) := by decide +kernel
theorem d_E_target_39 : decode b_E_target 39 = .ok (.getfield 22, 3) := by decide +kernel
theorem d_E_target_42 : decode b_E_target 42 = .ok (.i2l, 1) := by decide +kernel
theorem d_E_target_43 : decode b_E_target 43 = .ok (.invokestatic 81, 3) := by decide +kernel
theorem d_E_target_46 : decode b_E_target 46 = .ok (.lstore_n 3, 1) := by decide +kernel
theorem d_E_target_47 : decode b_E_target 47 = .ok (.aload_n 0, 1) := by decide +kernel
theorem d_E_target_48 : decode b_E_target 48 = .ok (.getfield 53, 3) := by decide +kernel
theorem d_E_target_51 : decode b_E_target 51 = .ok (.aload_n 0, 1) := by decide +kernel
theorem d_E_target_52 : decode b_E_target 52 = .ok (.getfield 57, 3) := by decide +kernel
theorem d_E_target_55 : decode b_E_target 55 = .ok (.lload_n 3, 1) := by decide +kernel
theorem d_E_target_56 : decode b_E_target 56 = .ok (.invokestatic 44, 3) := by decide +kernel
theorem d_E_target_59 : decode b_E_target 59 = .ok (.invokestatic 50, 3) := by decide +kernel
theorem d_E_target_62 : decode b_E_target 62 = .ok (.lreturn, 1) := by decide +kernel
theorem d_E_bits_0 : decode b_E_bits 0 = .ok (.iconst 0, 1) := by decide +kernel
theorem d_E_bits_1 : decode b_E_bits 1 = .ok (.istore_n 1, 1) := by decide +kernel
theorem d_E_bits_2 : decode b_E_bits 2 = .ok (.iconst 0, 1) := by decide +kernel
theorem d_E_bits_3 : decode b_E_bits 3 = .ok (.istore_n 2, 1) := by decide +kernel
theorem d_E_bits_4 : decode b_E_bits 4 = .ok (.iload_n 2, 1) := by decide +kernel
theorem d_E_bits_5 : decode b_E_bits 5 = .ok (.aload_n 0, 1) := by decide +kernel
theorem d_E_bits_6 : decode b_E_bits 6 = .ok (.getfield 22, 3) := by decide +kernel
theorem d_E_bits_9 : decode b_E_bits 9 = .ok (.if_icmp .ge 20, 3) := by decide +kernel
theorem d_E_bits_12 : decode b_E_bits 12 = .ok (.iload_n 1, 1) := by decide +kernel
theorem d_E_bits_13 : decode b_E_bits 13 = .ok (.iconst 1, 1) := by decide +kernel
theorem d_E_bits_14 : decode b_E_bits 14 = .ok (.aload_n 0, 1) := by decide +kernel
theorem d_E_bits_15 : decode b_E_bits 15 = .ok (.getfield 9, 3) := by decide +kernel
theorem d_E_bits_18 : decode b_E_bits 18 = .ok (.iload_n 2, 1) := by decide +kernel
theorem d_E_bits_19 : decode b_E_bits 19 = .ok (.iaload, 1) := by decide +kernel
theorem d_E_bits_20 : decode b_E_bits 20 = .ok (.ishl, 1) := by decide +kernel
theorem d_E_bits_21 : decode b_E_bits 21 = .ok (.ior, 1) := by decide +kernel
theorem d_E_bits_22 : decode b_E_bits 22 = .ok (.istore_n 1, 1) := by decide +kernel
theorem d_E_bits_23 : decode b_E_bits 23 = .ok (.iinc 2 1, 3) := by decide +kernel
theorem d_E_bits_26 : decode b_E_bits 26 = .ok (.goto (-22), 3) := by decide +kernel
theorem d_E_bits_29 : decode b_E_bits 29 = .ok (.iload_n 1, 1) := by decide +kernel
theorem d_E_bits_30 : decode b_E_bits 30 = .ok (.ireturn, 1) := by decide +kernel
theorem d_Sd_init_0 : decode b_Sd_init 0 = .ok (.aload_n 0, 1) := by decide +kernel
theorem d_Sd_init_1 : decode b_Sd_init 1 = .ok (.invokespecial 3, 3) := by decide +kernel
theorem d_Sd_init_4 : decode b_Sd_init 4 = .ok (.aload_n 0, 1) := by decide +kernel
theorem d_Sd_init_5 : decode b_Sd_init 5 = .ok (.bipush 16, 2) := by decide +kernel
theorem d_Sd_init_7 : decode b_Sd_init 7 = .ok (.putfield 9, 3) := by decide +kernel
theorem d_Sd_init_10 : decode b_Sd_init 10 = .ok (.return_, 1) := by decide +kernel
theorem d_Sd_correctionAt_0 : decode b_Sd_correctionAt 0 = .ok (.lload_n 1, 1) := by decide +kernel
theorem d_Sd_correctionAt_1 : decode b_Sd_correctionAt 1 = .ok (.aload_n 0, 1) := by decide +kernel
theorem d_Sd_correctionAt_2 : decode b_Sd_correctionAt 2 = .ok (.getfield 30, 3) := by decide +kernel
theorem d_Sd_correctionAt_5 : decode b_Sd_correctionAt 5 = .ok (.lsub, 1) := by decide +kernel
theorem d_Sd_correctionAt_6 : decode b_Sd_correctionAt 6 = .ok (.ldc2_w 59, 3) := by decide +kernel
theorem d_Sd_correctionAt_9 : decode b_Sd_correctionAt 9 = .ok (.invokestatic 61, 3) := by decide +kernel
theorem d_Sd_correctionAt_12 : decode b_Sd_correctionAt 12 = .ok (.lstore_n 3, 1) := by decide +kernel
theorem d_Sd_correctionAt_13 : decode b_Sd_correctionAt 13 = .ok (.aload_n 0, 1) := by decide +kernel
theorem d_Sd_correctionAt_14 : decode b_Sd_correctionAt 14 = .ok (.getfield 27, 3) := by decide +kernel
theorem d_Sd_correctionAt_17 : decode b_Sd_correctionAt 17 = .ok (.aload_n 0, 1) := by decide +kernel
theorem d_Sd_correctionAt_18 : decode b_Sd_correctionAt 18 = .ok (.getfield 23, 3) := by decide +kernel
theorem d_Sd_correctionAt_21 : decode b_Sd_correctionAt 21 = .ok (.lsub, 1) := by decide +kernel
theorem d_Sd_correctionAt_22 : decode b_Sd_correctionAt 22 = .ok (.invokestatic 64, 3) := by decide +kernel
theorem d_Sd_correctionAt_25 : decode b_Sd_correctionAt 25 = .ok (.lload_n 3, 1) := by decide +kernel
theorem d_Sd_correctionAt_26 : decode b_Sd_correctionAt 26 = .ok (.lcmp, 1) := by decide +kernel
theorem d_Sd_correctionAt_27 : decode b_Sd_correctionAt 27 = .ok (.ifCond .gt 8, 3) := by decide +kernel
theorem d_Sd_correctionAt_30 : decode b_Sd_correctionAt 30 = .ok (.aload_n 0, 1) := by decide +kernel
theorem d_Sd_correctionAt_31 : decode b_Sd_correctionAt 31 = .ok (.getfield 27, 3) := by decide +kernel
theorem d_Sd_correctionAt_34 : decode b_Sd_correctionAt 34 = .ok (.lreturn, 1) := by decide +kernel
theorem d_Sd_correctionAt_35 : decode b_Sd_correctionAt 35 = .ok (.aload_n 0, 1) := by decide +kernel
theorem d_Sd_correctionAt_36 : decode b_Sd_correctionAt 36 = .ok (.getfield 27, 3) := by decide +kernel
theorem d_Sd_correctionAt_39 : decode b_Sd_correctionAt 39 = .ok (.aload_n 0, 1) := by decide +kernel
theorem d_Sd_correctionAt_40 : decode b_Sd_correctionAt 40 = .ok (.getfield 23, 3) := by decide +kernel
theorem d_Sd_correctionAt_43 : decode b_Sd_correctionAt 43 = .ok (.lcmp, 1) := by decide +kernel
theorem d_Sd_correctionAt_44 : decode b_Sd_correctionAt 44 = .ok (.ifCond .le 12, 3) := by decide +kernel
theorem d_Sd_correctionAt_47 : decode b_Sd_correctionAt 47 = .ok (.aload_n 0, 1) := by decide +kernel
theorem d_Sd_correctionAt_48 : decode b_Sd_correctionAt 48 = .ok (.getfield 23, 3) := by decide +kernel
theorem d_Sd_correctionAt_51 : decode b_Sd_correctionAt 51 = .ok (.lload_n 3, 1) := by decide +kernel
theorem d_Sd_correctionAt_52 : decode b_Sd_correctionAt 52 = .ok (.ladd, 1) := by decide +kernel
theorem d_Sd_correctionAt_53 : decode b_Sd_correctionAt 53 = .ok (.goto 9, 3) := by decide +kernel
theorem d_Sd_correctionAt_56 : decode b_Sd_correctionAt 56 = .ok (.aload_n 0, 1) := by decide +kernel
theorem d_Sd_correctionAt_57 : decode b_Sd_correctionAt 57 = .ok (.getfield 23, 3) := by decide +kernel
theorem d_Sd_correctionAt_60 : decode b_Sd_correctionAt 60 = .ok (.lload_n 3, 1) := by decide +kernel
theorem d_Sd_correctionAt_61 : decode b_Sd_correctionAt 61 = .ok (.lsub, 1) := by decide +kernel
theorem d_Sd_correctionAt_62 : decode b_Sd_correctionAt 62 = .ok (.lreturn, 1) := by decide +kernel
theorem d_Sd_follow_0 : decode b_Sd_follow 0 = .ok (.aload_n 0, 1) := by decide +kernel
theorem d_Sd_follow_1 : decode b_Sd_follow 1 = .ok (.aload_n 0, 1) := by decide +kernel
theorem d_Sd_follow_2 : decode b_Sd_follow 2 = .ok (.getfield 15, 3) := by decide +kernel
theorem d_Sd_follow_5 : decode b_Sd_follow 5 = .ok (.ifCond .eq 11, 3) := by decide +kernel
theorem d_Sd_follow_8 : decode b_Sd_follow 8 = .ok (.aload_n 0, 1) := by decide +kernel
theorem d_Sd_follow_9 : decode b_Sd_follow 9 = .ok (.lload_n 3, 1) := by decide +kernel
theorem d_Sd_follow_10 : decode b_Sd_follow 10 = .ok (.invokevirtual 19, 3) := by decide +kernel
theorem d_Sd_follow_13 : decode b_Sd_follow 13 = .ok (.goto 4, 3) := by decide +kernel
theorem d_Sd_follow_16 : decode b_Sd_follow 16 = .ok (.lload_n 1, 1) := by decide +kernel
theorem d_Sd_follow_17 : decode b_Sd_follow 17 = .ok (.putfield 23, 3) := by decide +kernel
theorem d_Sd_follow_20 : decode b_Sd_follow 20 = .ok (.aload_n 0, 1) := by decide +kernel
theorem d_Sd_follow_21 : decode b_Sd_follow 21 = .ok (.lload_n 1, 1) := by decide +kernel
theorem d_Sd_follow_22 : decode b_Sd_follow 22 = .ok (.putfield 27, 3) := by decide +kernel
theorem d_Sd_follow_25 : decode b_Sd_follow 25 = .ok (.aload_n 0, 1) := by decide +kernel
theorem d_Sd_follow_26 : decode b_Sd_follow 26 = .ok (.lload_n 3, 1) := by decide +kernel
theorem d_Sd_follow_27 : decode b_Sd_follow 27 = .ok (.putfield 30, 3) := by decide +kernel
theorem d_Sd_follow_30 : decode b_Sd_follow 30 = .ok (.aload_n 0, 1) := by decide +kernel
theorem d_Sd_follow_31 : decode b_Sd_follow 31 = .ok (.iconst 1, 1) := by decide +kernel
theorem d_Sd_follow_32 : decode b_Sd_follow 32 = .ok (.putfield 15, 3) := by decide +kernel
theorem d_Sd_follow_35 : decode b_Sd_follow 35 = .ok (.return_, 1) := by decide +kernel
theorem d_Sd_wrongAtMost_0 : decode b_Sd_wrongAtMost 0 = .ok (.aload_n 0, 1) := by decide +kernel
theorem d_Sd_wrongAtMost_1 : decode b_Sd_wrongAtMost 1 = .ok (.getfield 49, 3) := by decide +kernel
theorem d_Sd_wrongAtMost_4 : decode b_Sd_wrongAtMost 4 = .ok (.lload_n 1, 1) := by decide +kernel
theorem d_Sd_wrongAtMost_5 : decode b_Sd_wrongAtMost 5 = .ok (.aload_n 0, 1) := by decide +kernel
theorem d_Sd_wrongAtMost_6 : decode b_Sd_wrongAtMost 6 = .ok (.getfield 30, 3) := by decide +kernel
theorem d_Sd_wrongAtMost_9 : decode b_Sd_wrongAtMost 9 = .ok (.lsub, 1) := by decide +kernel
theorem d_Sd_wrongAtMost_10 : decode b_Sd_wrongAtMost 10 = .ok (.iload_n 3, 1) := by decide +kernel
theorem d_Sd_wrongAtMost_11 : decode b_Sd_wrongAtMost 11 = .ok (.invokestatic 67, 3) := by decide +kernel
theorem d_Sd_wrongAtMost_14 : decode b_Sd_wrongAtMost 14 = .ok (.ladd, 1) := by decide +kernel
theorem d_Sd_wrongAtMost_15 : decode b_Sd_wrongAtMost 15 = .ok (.aload_n 0, 1) := by decide +kernel
theorem d_Sd_wrongAtMost_16 : decode b_Sd_wrongAtMost 16 = .ok (.getfield 27, 3) := by decide +kernel
theorem d_Sd_wrongAtMost_19 : decode b_Sd_wrongAtMost 19 = .ok (.aload_n 0, 1) := by decide +kernel
theorem d_Sd_wrongAtMost_20 : decode b_Sd_wrongAtMost 20 = .ok (.lload_n 1, 1) := by decide +kernel
theorem d_Sd_wrongAtMost_21 : decode b_Sd_wrongAtMost 21 = .ok (.invokevirtual 19, 3) := by decide +kernel
theorem d_Sd_wrongAtMost_24 : decode b_Sd_wrongAtMost 24 = .ok (.lsub, 1) := by decide +kernel
theorem d_Sd_wrongAtMost_25 : decode b_Sd_wrongAtMost 25 = .ok (.invokestatic 64, 3) := by decide +kernel
theorem d_Sd_wrongAtMost_28 : decode b_Sd_wrongAtMost 28 = .ok (.ladd, 1) := by decide +kernel
theorem d_Sd_wrongAtMost_29 : decode b_Sd_wrongAtMost 29 = .ok (.lreturn, 1) := by decide +kernel
theorem d_Sd_remember_0 : decode b_Sd_remember 0 = .ok (.aload_n 0, 1) := by decide +kernel
theorem d_Sd_remember_1 : decode b_Sd_remember 1 = .ok (.aload_n 1, 1) := by decide +kernel
theorem d_Sd_remember_2 : decode b_Sd_remember 2 = .ok (.getfield 33, 3) := by decide +kernel
theorem d_Sd_remember_5 : decode b_Sd_remember 5 = .ok (.putfield 38, 3) := by decide +kernel
theorem d_Sd_remember_8 : decode b_Sd_remember 8 = .ok (.aload_n 0, 1) := by decide +kernel
theorem d_Sd_remember_9 : decode b_Sd_remember 9 = .ok (.aload_n 1, 1) := by decide +kernel
theorem d_Sd_remember_10 : decode b_Sd_remember 10 = .ok (.getfield 39, 3) := by decide +kernel
theorem d_Sd_remember_13 : decode b_Sd_remember 13 = .ok (.putfield 42, 3) := by decide +kernel
theorem d_Sd_remember_16 : decode b_Sd_remember 16 = .ok (.aload_n 0, 1) := by decide +kernel
theorem d_Sd_remember_17 : decode b_Sd_remember 17 = .ok (.aload_n 0, 1) := by decide +kernel
theorem d_Sd_remember_18 : decode b_Sd_remember 18 = .ok (.getfield 27, 3) := by decide +kernel
theorem d_Sd_remember_21 : decode b_Sd_remember 21 = .ok (.aload_n 0, 1) := by decide +kernel
theorem d_Sd_remember_22 : decode b_Sd_remember 22 = .ok (.getfield 38, 3) := by decide +kernel
theorem d_Sd_remember_25 : decode b_Sd_remember 25 = .ok (.lsub, 1) := by decide +kernel
theorem d_Sd_remember_26 : decode b_Sd_remember 26 = .ok (.aload_n 0, 1) := by decide +kernel
theorem d_Sd_remember_27 : decode b_Sd_remember 27 = .ok (.getfield 42, 3) := by decide +kernel
theorem d_Sd_remember_30 : decode b_Sd_remember 30 = .ok (.aload_n 0, 1) := by decide +kernel
theorem d_Sd_remember_31 : decode b_Sd_remember 31 = .ok (.getfield 27, 3) := by decide +kernel
theorem d_Sd_remember_34 : decode b_Sd_remember 34 = .ok (.lsub, 1) := by decide +kernel
theorem d_Sd_remember_35 : decode b_Sd_remember 35 = .ok (.invokestatic 43, 3) := by decide +kernel
theorem d_Sd_remember_38 : decode b_Sd_remember 38 = .ok (.putfield 49, 3) := by decide +kernel
theorem d_Sd_remember_41 : decode b_Sd_remember 41 = .ok (.aload_n 0, 1) := by decide +kernel
theorem d_Sd_remember_42 : decode b_Sd_remember 42 = .ok (.aload_n 1, 1) := by decide +kernel
theorem d_Sd_remember_43 : decode b_Sd_remember 43 = .ok (.invokevirtual 52, 3) := by decide +kernel
theorem d_Sd_remember_46 : decode b_Sd_remember 46 = .ok (.putfield 56, 3) := by decide +kernel
theorem d_Sd_remember_49 : decode b_Sd_remember 49 = .ok (.aload_n 0, 1) := by decide +kernel
theorem d_Sd_remember_50 : decode b_Sd_remember 50 = .ok (.iload_n 2, 1) := by decide +kernel
theorem d_Sd_remember_51 : decode b_Sd_remember 51 = .ok (.iconst 1, 1) := by decide +kernel
theorem d_Sd_remember_52 : decode b_Sd_remember 52 = .ok (.iadd, 1) := by decide +kernel
theorem d_Sd_remember_53 : decode b_Sd_remember 53 = .ok (.putfield 9, 3) := by decide +kernel
theorem d_Sd_remember_56 : decode b_Sd_remember 56 = .ok (.return_, 1) := by decide +kernel
theorem d_Le_init_0 : decode b_Le_init 0 = .ok (.aload_n 0, 1) := by decide +kernel
theorem d_Le_init_1 : decode b_Le_init 1 = .ok (.invokespecial 1, 3) := by decide +kernel
theorem d_Le_init_4 : decode b_Le_init 4 = .ok (.return_, 1) := by decide +kernel
theorem d_Le_give_0 : decode b_Le_give 0 = .ok (.aload_n 0, 1) := by decide +kernel
theorem d_Le_give_1 : decode b_Le_give 1 = .ok (.iconst 1, 1) := by decide +kernel
theorem d_Le_give_2 : decode b_Le_give 2 = .ok (.putfield 7, 3) := by decide +kernel
theorem d_Le_give_5 : decode b_Le_give 5 = .ok (.aload_n 0, 1) := by decide +kernel
theorem d_Le_give_6 : decode b_Le_give 6 = .ok (.iload_n 1, 1) := by decide +kernel
theorem d_Le_give_7 : decode b_Le_give 7 = .ok (.putfield 13, 3) := by decide +kernel
theorem d_Le_give_10 : decode b_Le_give 10 = .ok (.aload_n 0, 1) := by decide +kernel
