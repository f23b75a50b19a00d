theorem d_T_grant_133 : decode b_T_grant 133 = .ok (.iload_n 1, 1) := by decide +kernel
theorem d_T_grant_134 : decode b_T_grant 134 = .ok (.iconst 1, 1) := by decide +kernel
theorem d_T_grant_135 : decode b_T_grant 135 = .ok (.bastore, 1) := by decide +kernel
theorem d_T_grant_136 : decode b_T_grant 136 = .ok (.aload_n 0, 1) := by decide +kernel
theorem d_T_grant_137 : decode b_T_grant 137 = .ok (.getfield 63, 3) := by decide +kernel
theorem d_T_grant_140 : decode b_T_grant 140 = .ok (.iload_n 1, 1) := by decide +kernel
theorem d_T_grant_141 : decode b_T_grant 141 = .ok (.iload_n 2, 1) := by decide +kernel
theorem d_T_grant_142 : decode b_T_grant 142 = .ok (.iastore, 1) := by decide +kernel
theorem d_T_grant_143 : decode b_T_grant 143 = .ok (.aload_n 0, 1) := by decide +kernel
theorem d_T_grant_144 : decode b_T_grant 144 = .ok (.getfield 66, 3) := by decide +kernel
theorem d_T_grant_147 : decode b_T_grant 147 = .ok (.iload_n 1, 1) := by decide +kernel
theorem d_T_grant_148 : decode b_T_grant 148 = .ok (.lload 8, 2) := by decide +kernel
theorem d_T_grant_150 : decode b_T_grant 150 = .ok (.lastore, 1) := by decide +kernel
theorem d_T_grant_151 : decode b_T_grant 151 = .ok (.lload 8, 2) := by decide +kernel
theorem d_T_grant_153 : decode b_T_grant 153 = .ok (.lreturn, 1) := by decide +kernel
theorem d_T_holds_0 : decode b_T_holds 0 = .ok (.iload_n 1, 1) := by decide +kernel
theorem d_T_holds_1 : decode b_T_holds 1 = .ok (.invokestatic 204, 3) := by decide +kernel
theorem d_T_holds_4 : decode b_T_holds 4 = .ok (.ifCond .eq 22, 3) := by decide +kernel
theorem d_T_holds_7 : decode b_T_holds 7 = .ok (.aload_n 0, 1) := by decide +kernel
theorem d_T_holds_8 : decode b_T_holds 8 = .ok (.getfield 60, 3) := by decide +kernel
theorem d_T_holds_11 : decode b_T_holds 11 = .ok (.iload_n 1, 1) := by decide +kernel
theorem d_T_holds_12 : decode b_T_holds 12 = .ok (.baload, 1) := by decide +kernel
theorem d_T_holds_13 : decode b_T_holds 13 = .ok (.ifCond .eq 13, 3) := by decide +kernel
theorem d_T_holds_16 : decode b_T_holds 16 = .ok (.aload_n 0, 1) := by decide +kernel
theorem d_T_holds_17 : decode b_T_holds 17 = .ok (.getfield 63, 3) := by decide +kernel
theorem d_T_holds_20 : decode b_T_holds 20 = .ok (.iload_n 1, 1) := by decide +kernel
theorem d_T_holds_21 : decode b_T_holds 21 = .ok (.iaload, 1) := by decide +kernel
theorem d_T_holds_22 : decode b_T_holds 22 = .ok (.iload_n 2, 1) := by decide +kernel
theorem d_T_holds_23 : decode b_T_holds 23 = .ok (.if_icmp .eq 5, 3) := by decide +kernel
theorem d_T_holds_26 : decode b_T_holds 26 = .ok (.iconst 0, 1) := by decide +kernel
theorem d_T_holds_27 : decode b_T_holds 27 = .ok (.ireturn, 1) := by decide +kernel
theorem d_T_holds_28 : decode b_T_holds 28 = .ok (.lload 5, 2) := by decide +kernel
theorem d_T_holds_30 : decode b_T_holds 30 = .ok (.lconst 0, 1) := by decide +kernel
theorem d_T_holds_31 : decode b_T_holds 31 = .ok (.ldc2_w 109, 3) := by decide +kernel
theorem d_T_holds_34 : decode b_T_holds 34 = .ok (.invokestatic 111, 3) := by decide +kernel
theorem d_T_holds_37 : decode b_T_holds 37 = .ok (.ifCond .eq 16, 3) := by decide +kernel
theorem d_T_holds_40 : decode b_T_holds 40 = .ok (.lload_n 3, 1) := by decide +kernel
theorem d_T_holds_41 : decode b_T_holds 41 = .ok (.ldc2_w 213, 3) := by decide +kernel
theorem d_T_holds_44 : decode b_T_holds 44 = .ok (.ldc2_w 215, 3) := by decide +kernel
theorem d_T_holds_47 : decode b_T_holds 47 = .ok (.invokestatic 111, 3) := by decide +kernel
theorem d_T_holds_50 : decode b_T_holds 50 = .ok (.ifCond .ne 5, 3) := by decide +kernel
theorem d_T_holds_53 : decode b_T_holds 53 = .ok (.iconst 0, 1) := by decide +kernel
theorem d_T_holds_54 : decode b_T_holds 54 = .ok (.ireturn, 1) := by decide +kernel
theorem d_T_holds_55 : decode b_T_holds 55 = .ok (.lload_n 3, 1) := by decide +kernel
theorem d_T_holds_56 : decode b_T_holds 56 = .ok (.lload 5, 2) := by decide +kernel
theorem d_T_holds_58 : decode b_T_holds 58 = .ok (.ladd, 1) := by decide +kernel
theorem d_T_holds_59 : decode b_T_holds 59 = .ok (.aload_n 0, 1) := by decide +kernel
theorem d_T_holds_60 : decode b_T_holds 60 = .ok (.getfield 66, 3) := by decide +kernel
theorem d_T_holds_63 : decode b_T_holds 63 = .ok (.iload_n 1, 1) := by decide +kernel
theorem d_T_holds_64 : decode b_T_holds 64 = .ok (.laload, 1) := by decide +kernel
theorem d_T_holds_65 : decode b_T_holds 65 = .ok (.lcmp, 1) := by decide +kernel
theorem d_T_holds_66 : decode b_T_holds 66 = .ok (.ifCond .ge 7, 3) := by decide +kernel
theorem d_T_holds_69 : decode b_T_holds 69 = .ok (.iconst 1, 1) := by decide +kernel
theorem d_T_holds_70 : decode b_T_holds 70 = .ok (.goto 4, 3) := by decide +kernel
theorem d_T_holds_73 : decode b_T_holds 73 = .ok (.iconst 0, 1) := by decide +kernel
theorem d_T_holds_74 : decode b_T_holds 74 = .ok (.ireturn, 1) := by decide +kernel
theorem d_T_expiry_0 : decode b_T_expiry 0 = .ok (.iload_n 1, 1) := by decide +kernel
theorem d_T_expiry_1 : decode b_T_expiry 1 = .ok (.invokestatic 204, 3) := by decide +kernel
theorem d_T_expiry_4 : decode b_T_expiry 4 = .ok (.ifCond .eq 21, 3) := by decide +kernel
theorem d_T_expiry_7 : decode b_T_expiry 7 = .ok (.aload_n 0, 1) := by decide +kernel
theorem d_T_expiry_8 : decode b_T_expiry 8 = .ok (.getfield 60, 3) := by decide +kernel
theorem d_T_expiry_11 : decode b_T_expiry 11 = .ok (.iload_n 1, 1) := by decide +kernel
theorem d_T_expiry_12 : decode b_T_expiry 12 = .ok (.baload, 1) := by decide +kernel
theorem d_T_expiry_13 : decode b_T_expiry 13 = .ok (.ifCond .eq 12, 3) := by decide +kernel
theorem d_T_expiry_16 : decode b_T_expiry 16 = .ok (.aload_n 0, 1) := by decide +kernel
theorem d_T_expiry_17 : decode b_T_expiry 17 = .ok (.getfield 66, 3) := by decide +kernel
theorem d_T_expiry_20 : decode b_T_expiry 20 = .ok (.iload_n 1, 1) := by decide +kernel
theorem d_T_expiry_21 : decode b_T_expiry 21 = .ok (.laload, 1) := by decide +kernel
theorem d_T_expiry_22 : decode b_T_expiry 22 = .ok (.goto 6, 3) := by decide +kernel
theorem d_T_expiry_25 : decode b_T_expiry 25 = .ok (.ldc2_w 100, 3) := by decide +kernel
theorem d_T_expiry_28 : decode b_T_expiry 28 = .ok (.lreturn, 1) := by decide +kernel
theorem d_T_holder_0 : decode b_T_holder 0 = .ok (.iload_n 1, 1) := by decide +kernel
theorem d_T_holder_1 : decode b_T_holder 1 = .ok (.invokestatic 204, 3) := by decide +kernel
theorem d_T_holder_4 : decode b_T_holder 4 = .ok (.ifCond .eq 21, 3) := by decide +kernel
theorem d_T_holder_7 : decode b_T_holder 7 = .ok (.aload_n 0, 1) := by decide +kernel
theorem d_T_holder_8 : decode b_T_holder 8 = .ok (.getfield 60, 3) := by decide +kernel
theorem d_T_holder_11 : decode b_T_holder 11 = .ok (.iload_n 1, 1) := by decide +kernel
theorem d_T_holder_12 : decode b_T_holder 12 = .ok (.baload, 1) := by decide +kernel
theorem d_T_holder_13 : decode b_T_holder 13 = .ok (.ifCond .eq 12, 3) := by decide +kernel
theorem d_T_holder_16 : decode b_T_holder 16 = .ok (.aload_n 0, 1) := by decide +kernel
theorem d_T_holder_17 : decode b_T_holder 17 = .ok (.getfield 63, 3) := by decide +kernel
theorem d_T_holder_20 : decode b_T_holder 20 = .ok (.iload_n 1, 1) := by decide +kernel
theorem d_T_holder_21 : decode b_T_holder 21 = .ok (.iaload, 1) := by decide +kernel
theorem d_T_holder_22 : decode b_T_holder 22 = .ok (.goto 4, 3) := by decide +kernel
theorem d_T_holder_25 : decode b_T_holder 25 = .ok (.iconst (-1), 1) := by decide +kernel
theorem d_T_holder_26 : decode b_T_holder 26 = .ok (.ireturn, 1) := by decide +kernel
theorem d_T_update_0 : decode b_T_update 0 = .ok (.iconst 0, 1) := by decide +kernel
theorem d_T_update_1 : decode b_T_update 1 = .ok (.istore_n 1, 1) := by decide +kernel
theorem d_T_update_2 : decode b_T_update 2 = .ok (.iload_n 1, 1) := by decide +kernel
theorem d_T_update_3 : decode b_T_update 3 = .ok (.aload_n 0, 1) := by decide +kernel
theorem d_T_update_4 : decode b_T_update 4 = .ok (.getfield 73, 3) := by decide +kernel
theorem d_T_update_7 : decode b_T_update 7 = .ok (.if_icmp .ge 34, 3) := by decide +kernel
theorem d_T_update_10 : decode b_T_update 10 = .ok (.aload_n 0, 1) := by decide +kernel
theorem d_T_update_11 : decode b_T_update 11 = .ok (.getfield 57, 3) := by decide +kernel
theorem d_T_update_14 : decode b_T_update 14 = .ok (.iload_n 1, 1) := by decide +kernel
theorem d_T_update_15 : decode b_T_update 15 = .ok (.aload_n 0, 1) := by decide +kernel
theorem d_T_update_16 : decode b_T_update 16 = .ok (.iload_n 1, 1) := by decide +kernel
theorem d_T_update_17 : decode b_T_update 17 = .ok (.invokevirtual 155, 3) := by decide +kernel
theorem d_T_update_20 : decode b_T_update 20 = .ok (.bastore, 1) := by decide +kernel
theorem d_T_update_21 : decode b_T_update 21 = .ok (.aload_n 0, 1) := by decide +kernel
theorem d_T_update_22 : decode b_T_update 22 = .ok (.getfield 57, 3) := by decide +kernel
theorem d_T_update_25 : decode b_T_update 25 = .ok (.iload_n 1, 1) := by decide +kernel
theorem d_T_update_26 : decode b_T_update 26 = .ok (.baload, 1) := by decide +kernel
theorem d_T_update_27 : decode b_T_update 27 = .ok (.ifCond .eq 8, 3) := by decide +kernel
theorem d_T_update_30 : decode b_T_update 30 = .ok (.aload_n 0, 1) := by decide +kernel
theorem d_T_update_31 : decode b_T_update 31 = .ok (.iload_n 1, 1) := by decide +kernel
theorem d_T_update_32 : decode b_T_update 32 = .ok (.invokevirtual 127, 3) := by decide +kernel
theorem d_T_update_35 : decode b_T_update 35 = .ok (.iinc 1 1, 3) := by decide +kernel
theorem d_T_update_38 : decode b_T_update 38 = .ok (.goto (-36), 3) := by decide +kernel
theorem d_T_update_41 : decode b_T_update 41 = .ok (.aload_n 0, 1) := by decide +kernel
theorem d_T_update_42 : decode b_T_update 42 = .ok (.invokevirtual 158, 3) := by decide +kernel
theorem d_T_update_45 : decode b_T_update 45 = .ok (.istore_n 1, 1) := by decide +kernel
theorem d_T_update_46 : decode b_T_update 46 = .ok (.iload_n 1, 1) := by decide +kernel
theorem d_T_update_47 : decode b_T_update 47 = .ok (.ifCond .ne 5, 3) := by decide +kernel
theorem d_T_update_50 : decode b_T_update 50 = .ok (.iconst 0, 1) := by decide +kernel
theorem d_T_update_51 : decode b_T_update 51 = .ok (.ireturn, 1) := by decide +kernel
theorem d_T_update_52 : decode b_T_update 52 = .ok (.iconst 0, 1) := by decide +kernel
theorem d_T_update_53 : decode b_T_update 53 = .ok (.istore_n 2, 1) := by decide +kernel
theorem d_T_update_54 : decode b_T_update 54 = .ok (.iconst 0, 1) := by decide +kernel
theorem d_T_update_55 : decode b_T_update 55 = .ok (.istore_n 3, 1) := by decide +kernel
theorem d_T_update_56 : decode b_T_update 56 = .ok (.iconst 2, 1) := by decide +kernel
theorem d_T_update_57 : decode b_T_update 57 = .ok (.iload_n 3, 1) := by decide +kernel
theorem d_T_update_58 : decode b_T_update 58 = .ok (.imul, 1) := by decide +kernel
theorem d_T_update_59 : decode b_T_update 59 = .ok (.iload_n 1, 1) := by decide +kernel
theorem d_T_update_60 : decode b_T_update 60 = .ok (.if_icmp .ge 21, 3) := by decide +kernel
theorem d_T_update_63 : decode b_T_update 63 = .ok (.iload_n 2, 1) := by decide +kernel
theorem d_T_update_64 : decode b_T_update 64 = .ok (.ifCond .ne 17, 3) := by decide +kernel
theorem d_T_update_67 : decode b_T_update 67 = .ok (.aload_n 0, 1) := by decide +kernel
theorem d_T_update_68 : decode b_T_update 68 = .ok (.iload_n 1, 1) := by decide +kernel
theorem d_T_update_69 : decode b_T_update 69 = .ok (.iload_n 3, 1) := by decide +kernel
theorem d_T_update_70 : decode b_T_update 70 = .ok (.isub, 1) := by decide +kernel
theorem d_T_update_71 : decode b_T_update 71 = .ok (.invokevirtual 162, 3) := by decide +kernel
theorem d_T_update_74 : decode b_T_update 74 = .ok (.istore_n 2, 1) := by decide +kernel
theorem d_T_update_75 : decode b_T_update 75 = .ok (.iinc 3 1, 3) := by decide +kernel
theorem d_T_update_78 : decode b_T_update 78 = .ok (.goto (-22), 3) := by decide +kernel
theorem d_T_update_81 : decode b_T_update 81 = .ok (.iload_n 2, 1) := by decide +kernel
theorem d_T_update_82 : decode b_T_update 82 = .ok (.ifCond .ne 5, 3) := by decide +kernel
theorem d_T_update_85 : decode b_T_update 85 = .ok (.iconst (-1), 1) := by decide +kernel
theorem d_T_update_86 : decode b_T_update 86 = .ok (.ireturn, 1) := by decide +kernel
theorem d_T_update_87 : decode b_T_update 87 = .ok (.iconst 0, 1) := by decide +kernel
theorem d_T_update_88 : decode b_T_update 88 = .ok (.istore_n 3, 1) := by decide +kernel
theorem d_T_update_89 : decode b_T_update 89 = .ok (.iload_n 3, 1) := by decide +kernel
theorem d_T_update_90 : decode b_T_update 90 = .ok (.aload_n 0, 1) := by decide +kernel
theorem d_T_update_91 : decode b_T_update 91 = .ok (.getfield 73, 3) := by decide +kernel
theorem d_T_update_94 : decode b_T_update 94 = .ok (.if_icmp .ge 57, 3) := by decide +kernel
theorem d_T_update_97 : decode b_T_update 97 = .ok (.aload_n 0, 1) := by decide +kernel
theorem d_T_update_98 : decode b_T_update 98 = .ok (.getfield 57, 3) := by decide +kernel
theorem d_T_update_101 : decode b_T_update 101 = .ok (.iload_n 3, 1) := by decide +kernel
theorem d_T_update_102 : decode b_T_update 102 = .ok (.aload_n 0, 1) := by decide +kernel
theorem d_T_update_103 : decode b_T_update 103 = .ok (.getfield 57, 3) := by decide +kernel
theorem d_T_update_106 : decode b_T_update 106 = .ok (.iload_n 3, 1) := by decide +kernel
theorem d_T_update_107 : decode b_T_update 107 = .ok (.baload, 1) := by decide +kernel
theorem d_T_update_108 : decode b_T_update 108 = .ok (.ifCond .eq 35, 3) := by decide +kernel
theorem d_T_update_111 : decode b_T_update 111 = .ok (.aload_n 0, 1) := by decide +kernel
theorem d_T_update_112 : decode b_T_update 112 = .ok (.getfield 51, 3) := by decide +kernel
theorem d_T_update_115 : decode b_T_update 115 = .ok (.iload_n 3, 1) := by decide +kernel
theorem d_T_update_116 : decode b_T_update 116 = .ok (.laload, 1) := by decide +kernel
theorem d_T_update_117 : decode b_T_update 117 = .ok (.aload_n 0, 1) := by decide +kernel
theorem d_T_update_118 : decode b_T_update 118 = .ok (.getfield 138, 3) := by decide +kernel
theorem d_T_update_121 : decode b_T_update 121 = .ok (.lcmp, 1) := by decide +kernel
