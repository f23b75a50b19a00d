theorem d_M_holder_25 : decode b_M_holder 25 = .ok (.ireturn, 1) := by decide +kernel
theorem d_M_holds_0 : decode b_M_holds 0 = .ok (.aload_n 0, 1) := by decide +kernel
theorem d_M_holds_1 : decode b_M_holds 1 = .ok (.iload_n 1, 1) := by decide +kernel
theorem d_M_holds_2 : decode b_M_holds 2 = .ok (.invokevirtual 178, 3) := by decide +kernel
theorem d_M_holds_5 : decode b_M_holds 5 = .ok (.astore 7, 2) := by decide +kernel
theorem d_M_holds_7 : decode b_M_holds 7 = .ok (.aload 7, 2) := by decide +kernel
theorem d_M_holds_9 : decode b_M_holds 9 = .ok (.ifnull 20, 3) := by decide +kernel
theorem d_M_holds_12 : decode b_M_holds 12 = .ok (.aload 7, 2) := by decide +kernel
theorem d_M_holds_14 : decode b_M_holds 14 = .ok (.getfield 185, 3) := by decide +kernel
theorem d_M_holds_17 : decode b_M_holds 17 = .ok (.ifCond .eq 12, 3) := by decide +kernel
theorem d_M_holds_20 : decode b_M_holds 20 = .ok (.aload 7, 2) := by decide +kernel
theorem d_M_holds_22 : decode b_M_holds 22 = .ok (.getfield 196, 3) := by decide +kernel
theorem d_M_holds_25 : decode b_M_holds 25 = .ok (.iload_n 2, 1) := by decide +kernel
theorem d_M_holds_26 : decode b_M_holds 26 = .ok (.if_icmp .eq 5, 3) := by decide +kernel
theorem d_M_holds_29 : decode b_M_holds 29 = .ok (.iconst 0, 1) := by decide +kernel
theorem d_M_holds_30 : decode b_M_holds 30 = .ok (.ireturn, 1) := by decide +kernel
theorem d_M_holds_31 : decode b_M_holds 31 = .ok (.lload 5, 2) := by decide +kernel
theorem d_M_holds_33 : decode b_M_holds 33 = .ok (.lconst 0, 1) := by decide +kernel
theorem d_M_holds_34 : decode b_M_holds 34 = .ok (.lcmp, 1) := by decide +kernel
theorem d_M_holds_35 : decode b_M_holds 35 = .ok (.ifCond .lt 28, 3) := by decide +kernel
theorem d_M_holds_38 : decode b_M_holds 38 = .ok (.lload 5, 2) := by decide +kernel
theorem d_M_holds_40 : decode b_M_holds 40 = .ok (.ldc2_w 199, 3) := by decide +kernel
theorem d_M_holds_43 : decode b_M_holds 43 = .ok (.lcmp, 1) := by decide +kernel
theorem d_M_holds_44 : decode b_M_holds 44 = .ok (.ifCond .gt 19, 3) := by decide +kernel
theorem d_M_holds_47 : decode b_M_holds 47 = .ok (.lload_n 3, 1) := by decide +kernel
theorem d_M_holds_48 : decode b_M_holds 48 = .ok (.ldc2_w 201, 3) := by decide +kernel
theorem d_M_holds_51 : decode b_M_holds 51 = .ok (.lcmp, 1) := by decide +kernel
theorem d_M_holds_52 : decode b_M_holds 52 = .ok (.ifCond .lt 11, 3) := by decide +kernel
theorem d_M_holds_55 : decode b_M_holds 55 = .ok (.lload_n 3, 1) := by decide +kernel
theorem d_M_holds_56 : decode b_M_holds 56 = .ok (.ldc2_w 203, 3) := by decide +kernel
theorem d_M_holds_59 : decode b_M_holds 59 = .ok (.lcmp, 1) := by decide +kernel
theorem d_M_holds_60 : decode b_M_holds 60 = .ok (.ifCond .le 5, 3) := by decide +kernel
theorem d_M_holds_63 : decode b_M_holds 63 = .ok (.iconst 0, 1) := by decide +kernel
theorem d_M_holds_64 : decode b_M_holds 64 = .ok (.ireturn, 1) := by decide +kernel
theorem d_M_holds_65 : decode b_M_holds 65 = .ok (.lload_n 3, 1) := by decide +kernel
theorem d_M_holds_66 : decode b_M_holds 66 = .ok (.lload 5, 2) := by decide +kernel
theorem d_M_holds_68 : decode b_M_holds 68 = .ok (.ladd, 1) := by decide +kernel
theorem d_M_holds_69 : decode b_M_holds 69 = .ok (.aload 7, 2) := by decide +kernel
theorem d_M_holds_71 : decode b_M_holds 71 = .ok (.getfield 205, 3) := by decide +kernel
theorem d_M_holds_74 : decode b_M_holds 74 = .ok (.lcmp, 1) := by decide +kernel
theorem d_M_holds_75 : decode b_M_holds 75 = .ok (.ifCond .ge 7, 3) := by decide +kernel
theorem d_M_holds_78 : decode b_M_holds 78 = .ok (.iconst 1, 1) := by decide +kernel
theorem d_M_holds_79 : decode b_M_holds 79 = .ok (.goto 4, 3) := by decide +kernel
theorem d_M_holds_82 : decode b_M_holds 82 = .ok (.iconst 0, 1) := by decide +kernel
theorem d_M_holds_83 : decode b_M_holds 83 = .ok (.ireturn, 1) := by decide +kernel
theorem d_M_grant_0 : decode b_M_grant 0 = .ok (.aload_n 0, 1) := by decide +kernel
theorem d_M_grant_1 : decode b_M_grant 1 = .ok (.iload_n 1, 1) := by decide +kernel
theorem d_M_grant_2 : decode b_M_grant 2 = .ok (.invokevirtual 178, 3) := by decide +kernel
theorem d_M_grant_5 : decode b_M_grant 5 = .ok (.astore 4, 2) := by decide +kernel
theorem d_M_grant_7 : decode b_M_grant 7 = .ok (.aload 4, 2) := by decide +kernel
theorem d_M_grant_9 : decode b_M_grant 9 = .ok (.ifnull 28, 3) := by decide +kernel
theorem d_M_grant_12 : decode b_M_grant 12 = .ok (.iload_n 2, 1) := by decide +kernel
theorem d_M_grant_13 : decode b_M_grant 13 = .ok (.ifCond .lt 24, 3) := by decide +kernel
theorem d_M_grant_16 : decode b_M_grant 16 = .ok (.iload_n 3, 1) := by decide +kernel
theorem d_M_grant_17 : decode b_M_grant 17 = .ok (.iconst 1, 1) := by decide +kernel
theorem d_M_grant_18 : decode b_M_grant 18 = .ok (.if_icmp .lt 19, 3) := by decide +kernel
theorem d_M_grant_21 : decode b_M_grant 21 = .ok (.iload_n 3, 1) := by decide +kernel
theorem d_M_grant_22 : decode b_M_grant 22 = .ok (.ldc 59, 2) := by decide +kernel
theorem d_M_grant_24 : decode b_M_grant 24 = .ok (.if_icmp .gt 13, 3) := by decide +kernel
theorem d_M_grant_27 : decode b_M_grant 27 = .ok (.aload_n 0, 1) := by decide +kernel
theorem d_M_grant_28 : decode b_M_grant 28 = .ok (.getfield 55, 3) := by decide +kernel
theorem d_M_grant_31 : decode b_M_grant 31 = .ok (.getfield 157, 3) := by decide +kernel
theorem d_M_grant_34 : decode b_M_grant 34 = .ok (.ifCond .ne 7, 3) := by decide +kernel
theorem d_M_grant_37 : decode b_M_grant 37 = .ok (.ldc2_w 74, 3) := by decide +kernel
theorem d_M_grant_40 : decode b_M_grant 40 = .ok (.lreturn, 1) := by decide +kernel
theorem d_M_grant_41 : decode b_M_grant 41 = .ok (.aload_n 0, 1) := by decide +kernel
theorem d_M_grant_42 : decode b_M_grant 42 = .ok (.invokevirtual 182, 3) := by decide +kernel
theorem d_M_grant_45 : decode b_M_grant 45 = .ok (.iload_n 3, 1) := by decide +kernel
theorem d_M_grant_46 : decode b_M_grant 46 = .ok (.i2l, 1) := by decide +kernel
theorem d_M_grant_47 : decode b_M_grant 47 = .ok (.ladd, 1) := by decide +kernel
theorem d_M_grant_48 : decode b_M_grant 48 = .ok (.lstore 5, 2) := by decide +kernel
theorem d_M_grant_50 : decode b_M_grant 50 = .ok (.aload 4, 2) := by decide +kernel
theorem d_M_grant_52 : decode b_M_grant 52 = .ok (.getfield 185, 3) := by decide +kernel
theorem d_M_grant_55 : decode b_M_grant 55 = .ok (.ifCond .eq 19, 3) := by decide +kernel
theorem d_M_grant_58 : decode b_M_grant 58 = .ok (.aload_n 0, 1) := by decide +kernel
theorem d_M_grant_59 : decode b_M_grant 59 = .ok (.aload 4, 2) := by decide +kernel
theorem d_M_grant_61 : decode b_M_grant 61 = .ok (.iload_n 2, 1) := by decide +kernel
theorem d_M_grant_62 : decode b_M_grant 62 = .ok (.lload 5, 2) := by decide +kernel
theorem d_M_grant_64 : decode b_M_grant 64 = .ok (.invokevirtual 188, 3) := by decide +kernel
theorem d_M_grant_67 : decode b_M_grant 67 = .ok (.ifCond .ne 7, 3) := by decide +kernel
theorem d_M_grant_70 : decode b_M_grant 70 = .ok (.ldc2_w 74, 3) := by decide +kernel
theorem d_M_grant_73 : decode b_M_grant 73 = .ok (.lreturn, 1) := by decide +kernel
theorem d_M_grant_74 : decode b_M_grant 74 = .ok (.aload 4, 2) := by decide +kernel
theorem d_M_grant_76 : decode b_M_grant 76 = .ok (.iload_n 2, 1) := by decide +kernel
theorem d_M_grant_77 : decode b_M_grant 77 = .ok (.lload 5, 2) := by decide +kernel
theorem d_M_grant_79 : decode b_M_grant 79 = .ok (.invokevirtual 192, 3) := by decide +kernel
theorem d_M_grant_82 : decode b_M_grant 82 = .ok (.lload 5, 2) := by decide +kernel
theorem d_M_grant_84 : decode b_M_grant 84 = .ok (.lreturn, 1) := by decide +kernel
theorem d_M_key_0 : decode b_M_key 0 = .ok (.aload_n 0, 1) := by decide +kernel
theorem d_M_key_1 : decode b_M_key 1 = .ok (.iload_n 1, 1) := by decide +kernel
theorem d_M_key_2 : decode b_M_key 2 = .ok (.invokevirtual 63, 3) := by decide +kernel
theorem d_M_key_5 : decode b_M_key 5 = .ok (.astore 4, 2) := by decide +kernel
theorem d_M_key_7 : decode b_M_key 7 = .ok (.aload 4, 2) := by decide +kernel
theorem d_M_key_9 : decode b_M_key 9 = .ok (.ifnonnull 5, 3) := by decide +kernel
theorem d_M_key_12 : decode b_M_key 12 = .ok (.iconst 0, 1) := by decide +kernel
theorem d_M_key_13 : decode b_M_key 13 = .ok (.ireturn, 1) := by decide +kernel
theorem d_M_key_14 : decode b_M_key 14 = .ok (.aload 4, 2) := by decide +kernel
theorem d_M_key_16 : decode b_M_key 16 = .ok (.lload_n 2, 1) := by decide +kernel
theorem d_M_key_17 : decode b_M_key 17 = .ok (.putfield 67, 3) := by decide +kernel
theorem d_M_key_20 : decode b_M_key 20 = .ok (.iconst 1, 1) := by decide +kernel
theorem d_M_key_21 : decode b_M_key 21 = .ok (.ireturn, 1) := by decide +kernel
theorem d_M_seal_0 : decode b_M_seal 0 = .ok (.aload_n 0, 1) := by decide +kernel
theorem d_M_seal_1 : decode b_M_seal 1 = .ok (.iload_n 1, 1) := by decide +kernel
theorem d_M_seal_2 : decode b_M_seal 2 = .ok (.invokevirtual 63, 3) := by decide +kernel
theorem d_M_seal_5 : decode b_M_seal 5 = .ok (.astore 8, 2) := by decide +kernel
theorem d_M_seal_7 : decode b_M_seal 7 = .ok (.aload 8, 2) := by decide +kernel
theorem d_M_seal_9 : decode b_M_seal 9 = .ok (.ifnonnull 5, 3) := by decide +kernel
theorem d_M_seal_12 : decode b_M_seal 12 = .ok (.iconst 0, 1) := by decide +kernel
theorem d_M_seal_13 : decode b_M_seal 13 = .ok (.ireturn, 1) := by decide +kernel
theorem d_M_seal_14 : decode b_M_seal 14 = .ok (.aload 8, 2) := by decide +kernel
theorem d_M_seal_16 : decode b_M_seal 16 = .ok (.getfield 67, 3) := by decide +kernel
theorem d_M_seal_19 : decode b_M_seal 19 = .ok (.lload_n 2, 1) := by decide +kernel
theorem d_M_seal_20 : decode b_M_seal 20 = .ok (.lload 4, 2) := by decide +kernel
theorem d_M_seal_22 : decode b_M_seal 22 = .ok (.lload 6, 2) := by decide +kernel
theorem d_M_seal_24 : decode b_M_seal 24 = .ok (.invokestatic 70, 3) := by decide +kernel
theorem d_M_seal_27 : decode b_M_seal 27 = .ok (.ireturn, 1) := by decide +kernel
theorem d_M_ask_0 : decode b_M_ask 0 = .ok (.aload_n 0, 1) := by decide +kernel
theorem d_M_ask_1 : decode b_M_ask 1 = .ok (.iload_n 1, 1) := by decide +kernel
theorem d_M_ask_2 : decode b_M_ask 2 = .ok (.invokevirtual 63, 3) := by decide +kernel
theorem d_M_ask_5 : decode b_M_ask 5 = .ok (.astore_n 2, 1) := by decide +kernel
theorem d_M_ask_6 : decode b_M_ask 6 = .ok (.aload_n 2, 1) := by decide +kernel
theorem d_M_ask_7 : decode b_M_ask 7 = .ok (.ifnonnull 7, 3) := by decide +kernel
theorem d_M_ask_10 : decode b_M_ask 10 = .ok (.ldc2_w 74, 3) := by decide +kernel
theorem d_M_ask_13 : decode b_M_ask 13 = .ok (.lreturn, 1) := by decide +kernel
theorem d_M_ask_14 : decode b_M_ask 14 = .ok (.aload_n 0, 1) := by decide +kernel
theorem d_M_ask_15 : decode b_M_ask 15 = .ok (.aload_n 0, 1) := by decide +kernel
theorem d_M_ask_16 : decode b_M_ask 16 = .ok (.getfield 60, 3) := by decide +kernel
theorem d_M_ask_19 : decode b_M_ask 19 = .ok (.aload_n 0, 1) := by decide +kernel
theorem d_M_ask_20 : decode b_M_ask 20 = .ok (.getfield 9, 3) := by decide +kernel
theorem d_M_ask_23 : decode b_M_ask 23 = .ok (.lconst 1, 1) := by decide +kernel
theorem d_M_ask_24 : decode b_M_ask 24 = .ok (.ladd, 1) := by decide +kernel
theorem d_M_ask_25 : decode b_M_ask 25 = .ok (.invokestatic 76, 3) := by decide +kernel
theorem d_M_ask_28 : decode b_M_ask 28 = .ok (.putfield 9, 3) := by decide +kernel
theorem d_M_ask_31 : decode b_M_ask 31 = .ok (.aload_n 2, 1) := by decide +kernel
theorem d_M_ask_32 : decode b_M_ask 32 = .ok (.aload_n 0, 1) := by decide +kernel
theorem d_M_ask_33 : decode b_M_ask 33 = .ok (.getfield 9, 3) := by decide +kernel
theorem d_M_ask_36 : decode b_M_ask 36 = .ok (.aload_n 0, 1) := by decide +kernel
theorem d_M_ask_37 : decode b_M_ask 37 = .ok (.getfield 60, 3) := by decide +kernel
theorem d_M_ask_40 : decode b_M_ask 40 = .ok (.invokevirtual 79, 3) := by decide +kernel
theorem d_M_ask_43 : decode b_M_ask 43 = .ok (.aload_n 0, 1) := by decide +kernel
theorem d_M_ask_44 : decode b_M_ask 44 = .ok (.getfield 9, 3) := by decide +kernel
theorem d_M_ask_47 : decode b_M_ask 47 = .ok (.lreturn, 1) := by decide +kernel
theorem d_M_reply_0 : decode b_M_reply 0 = .ok (.aload_n 0, 1) := by decide +kernel
theorem d_M_reply_1 : decode b_M_reply 1 = .ok (.iload_n 1, 1) := by decide +kernel
theorem d_M_reply_2 : decode b_M_reply 2 = .ok (.invokevirtual 63, 3) := by decide +kernel
theorem d_M_reply_5 : decode b_M_reply 5 = .ok (.astore 9, 2) := by decide +kernel
theorem d_M_reply_7 : decode b_M_reply 7 = .ok (.aload 9, 2) := by decide +kernel
theorem d_M_reply_9 : decode b_M_reply 9 = .ok (.ifnonnull 5, 3) := by decide +kernel
theorem d_M_reply_12 : decode b_M_reply 12 = .ok (.iconst (-1), 1) := by decide +kernel
theorem d_M_reply_13 : decode b_M_reply 13 = .ok (.ireturn, 1) := by decide +kernel
theorem d_M_reply_14 : decode b_M_reply 14 = .ok (.lload 4, 2) := by decide +kernel
theorem d_M_reply_16 : decode b_M_reply 16 = .ok (.invokestatic 83, 3) := by decide +kernel
theorem d_M_reply_19 : decode b_M_reply 19 = .ok (.ifCond .eq 19, 3) := by decide +kernel
theorem d_M_reply_22 : decode b_M_reply 22 = .ok (.lload 6, 2) := by decide +kernel
theorem d_M_reply_24 : decode b_M_reply 24 = .ok (.invokestatic 83, 3) := by decide +kernel
theorem d_M_reply_27 : decode b_M_reply 27 = .ok (.ifCond .eq 11, 3) := by decide +kernel
theorem d_M_reply_30 : decode b_M_reply 30 = .ok (.lload 4, 2) := by decide +kernel
theorem d_M_reply_32 : decode b_M_reply 32 = .ok (.lload 6, 2) := by decide +kernel
theorem d_M_reply_34 : decode b_M_reply 34 = .ok (.lcmp, 1) := by decide +kernel
theorem d_M_reply_35 : decode b_M_reply 35 = .ok (.ifCond .le 6, 3) := by decide +kernel
