theorem d_T_why_47 : decode b_T_why 47 = .ok (.iload 8, 2) := by decide +kernel
theorem d_T_why_49 : decode b_T_why 49 = .ok (.iload 9, 2) := by decide +kernel
theorem d_T_why_51 : decode b_T_why 51 = .ok (.if_icmp .eq 6, 3) := by decide +kernel
theorem d_T_why_54 : decode b_T_why 54 = .ok (.bipush (-3), 2) := by decide +kernel
theorem d_T_why_56 : decode b_T_why 56 = .ok (.ireturn, 1) := by decide +kernel
theorem d_T_why_57 : decode b_T_why 57 = .ok (.aload_n 0, 1) := by decide +kernel
theorem d_T_why_58 : decode b_T_why 58 = .ok (.getfield 23, 3) := by decide +kernel
theorem d_T_why_61 : decode b_T_why 61 = .ok (.iload_n 1, 1) := by decide +kernel
theorem d_T_why_62 : decode b_T_why 62 = .ok (.baload, 1) := by decide +kernel
theorem d_T_why_63 : decode b_T_why 63 = .ok (.ifCond .eq 17, 3) := by decide +kernel
theorem d_T_why_66 : decode b_T_why 66 = .ok (.aload_n 0, 1) := by decide +kernel
theorem d_T_why_67 : decode b_T_why 67 = .ok (.getfield 26, 3) := by decide +kernel
theorem d_T_why_70 : decode b_T_why 70 = .ok (.iload_n 1, 1) := by decide +kernel
theorem d_T_why_71 : decode b_T_why 71 = .ok (.laload, 1) := by decide +kernel
theorem d_T_why_72 : decode b_T_why 72 = .ok (.lload_n 2, 1) := by decide +kernel
theorem d_T_why_73 : decode b_T_why 73 = .ok (.lcmp, 1) := by decide +kernel
theorem d_T_why_74 : decode b_T_why 74 = .ok (.ifCond .ne 6, 3) := by decide +kernel
theorem d_T_why_77 : decode b_T_why 77 = .ok (.bipush (-4), 2) := by decide +kernel
theorem d_T_why_79 : decode b_T_why 79 = .ok (.ireturn, 1) := by decide +kernel
theorem d_T_why_80 : decode b_T_why 80 = .ok (.aload_n 0, 1) := by decide +kernel
theorem d_T_why_81 : decode b_T_why 81 = .ok (.getfield 13, 3) := by decide +kernel
theorem d_T_why_84 : decode b_T_why 84 = .ok (.iload_n 1, 1) := by decide +kernel
theorem d_T_why_85 : decode b_T_why 85 = .ok (.baload, 1) := by decide +kernel
theorem d_T_why_86 : decode b_T_why 86 = .ok (.ifCond .eq 14, 3) := by decide +kernel
theorem d_T_why_89 : decode b_T_why 89 = .ok (.aload_n 0, 1) := by decide +kernel
theorem d_T_why_90 : decode b_T_why 90 = .ok (.getfield 20, 3) := by decide +kernel
theorem d_T_why_93 : decode b_T_why 93 = .ok (.iload_n 1, 1) := by decide +kernel
theorem d_T_why_94 : decode b_T_why 94 = .ok (.laload, 1) := by decide +kernel
theorem d_T_why_95 : decode b_T_why 95 = .ok (.lload_n 2, 1) := by decide +kernel
theorem d_T_why_96 : decode b_T_why 96 = .ok (.lcmp, 1) := by decide +kernel
theorem d_T_why_97 : decode b_T_why 97 = .ok (.ifCond .eq 6, 3) := by decide +kernel
theorem d_T_why_100 : decode b_T_why 100 = .ok (.bipush (-5), 2) := by decide +kernel
theorem d_T_why_102 : decode b_T_why 102 = .ok (.ireturn, 1) := by decide +kernel
theorem d_T_why_103 : decode b_T_why 103 = .ok (.lload 6, 2) := by decide +kernel
theorem d_T_why_105 : decode b_T_why 105 = .ok (.lload 4, 2) := by decide +kernel
theorem d_T_why_107 : decode b_T_why 107 = .ok (.lsub, 1) := by decide +kernel
theorem d_T_why_108 : decode b_T_why 108 = .ok (.aload_n 0, 1) := by decide +kernel
theorem d_T_why_109 : decode b_T_why 109 = .ok (.getfield 86, 3) := by decide +kernel
theorem d_T_why_112 : decode b_T_why 112 = .ok (.aload_n 0, 1) := by decide +kernel
theorem d_T_why_113 : decode b_T_why 113 = .ok (.getfield 17, 3) := by decide +kernel
theorem d_T_why_116 : decode b_T_why 116 = .ok (.iload_n 1, 1) := by decide +kernel
theorem d_T_why_117 : decode b_T_why 117 = .ok (.laload, 1) := by decide +kernel
theorem d_T_why_118 : decode b_T_why 118 = .ok (.lsub, 1) := by decide +kernel
theorem d_T_why_119 : decode b_T_why 119 = .ok (.lcmp, 1) := by decide +kernel
theorem d_T_why_120 : decode b_T_why 120 = .ok (.ifCond .le 8, 3) := by decide +kernel
theorem d_T_why_123 : decode b_T_why 123 = .ok (.bipush (-6), 2) := by decide +kernel
theorem d_T_why_125 : decode b_T_why 125 = .ok (.goto 4, 3) := by decide +kernel
theorem d_T_why_128 : decode b_T_why 128 = .ok (.iconst 0, 1) := by decide +kernel
theorem d_T_why_129 : decode b_T_why 129 = .ok (.ireturn, 1) := by decide +kernel
theorem d_T_tell_0 : decode b_T_tell 0 = .ok (.aload_n 0, 1) := by decide +kernel
theorem d_T_tell_1 : decode b_T_tell 1 = .ok (.iload_n 1, 1) := by decide +kernel
theorem d_T_tell_2 : decode b_T_tell 2 = .ok (.invokevirtual 90, 3) := by decide +kernel
theorem d_T_tell_5 : decode b_T_tell 5 = .ok (.ifCond .eq 26, 3) := by decide +kernel
theorem d_T_tell_8 : decode b_T_tell 8 = .ok (.iload_n 2, 1) := by decide +kernel
theorem d_T_tell_9 : decode b_T_tell 9 = .ok (.iconst 1, 1) := by decide +kernel
theorem d_T_tell_10 : decode b_T_tell 10 = .ok (.if_icmp .lt 21, 3) := by decide +kernel
theorem d_T_tell_13 : decode b_T_tell 13 = .ok (.iload_n 2, 1) := by decide +kernel
theorem d_T_tell_14 : decode b_T_tell 14 = .ok (.bipush 16, 2) := by decide +kernel
theorem d_T_tell_16 : decode b_T_tell 16 = .ok (.if_icmp .gt 15, 3) := by decide +kernel
theorem d_T_tell_19 : decode b_T_tell 19 = .ok (.iload 4, 2) := by decide +kernel
theorem d_T_tell_21 : decode b_T_tell 21 = .ok (.ifCond .lt 10, 3) := by decide +kernel
theorem d_T_tell_24 : decode b_T_tell 24 = .ok (.iload 4, 2) := by decide +kernel
theorem d_T_tell_26 : decode b_T_tell 26 = .ok (.ldc 85, 2) := by decide +kernel
theorem d_T_tell_28 : decode b_T_tell 28 = .ok (.if_icmp .le 5, 3) := by decide +kernel
theorem d_T_tell_31 : decode b_T_tell 31 = .ok (.iconst 0, 1) := by decide +kernel
theorem d_T_tell_32 : decode b_T_tell 32 = .ok (.ireturn, 1) := by decide +kernel
theorem d_T_tell_33 : decode b_T_tell 33 = .ok (.aload_n 0, 1) := by decide +kernel
theorem d_T_tell_34 : decode b_T_tell 34 = .ok (.getfield 42, 3) := by decide +kernel
theorem d_T_tell_37 : decode b_T_tell 37 = .ok (.iload_n 1, 1) := by decide +kernel
theorem d_T_tell_38 : decode b_T_tell 38 = .ok (.iload_n 2, 1) := by decide +kernel
theorem d_T_tell_39 : decode b_T_tell 39 = .ok (.iastore, 1) := by decide +kernel
theorem d_T_tell_40 : decode b_T_tell 40 = .ok (.aload_n 0, 1) := by decide +kernel
theorem d_T_tell_41 : decode b_T_tell 41 = .ok (.getfield 45, 3) := by decide +kernel
theorem d_T_tell_44 : decode b_T_tell 44 = .ok (.iload_n 1, 1) := by decide +kernel
theorem d_T_tell_45 : decode b_T_tell 45 = .ok (.iload_n 3, 1) := by decide +kernel
theorem d_T_tell_46 : decode b_T_tell 46 = .ok (.iastore, 1) := by decide +kernel
theorem d_T_tell_47 : decode b_T_tell 47 = .ok (.aload_n 0, 1) := by decide +kernel
theorem d_T_tell_48 : decode b_T_tell 48 = .ok (.getfield 48, 3) := by decide +kernel
theorem d_T_tell_51 : decode b_T_tell 51 = .ok (.iload_n 1, 1) := by decide +kernel
theorem d_T_tell_52 : decode b_T_tell 52 = .ok (.iload 4, 2) := by decide +kernel
theorem d_T_tell_54 : decode b_T_tell 54 = .ok (.iastore, 1) := by decide +kernel
theorem d_T_tell_55 : decode b_T_tell 55 = .ok (.iconst 1, 1) := by decide +kernel
theorem d_T_tell_56 : decode b_T_tell 56 = .ok (.ireturn, 1) := by decide +kernel
theorem d_T_reply_0 : decode b_T_reply 0 = .ok (.aload_n 0, 1) := by decide +kernel
theorem d_T_reply_1 : decode b_T_reply 1 = .ok (.iload_n 1, 1) := by decide +kernel
theorem d_T_reply_2 : decode b_T_reply 2 = .ok (.invokevirtual 90, 3) := by decide +kernel
theorem d_T_reply_5 : decode b_T_reply 5 = .ok (.ifCond .ne 5, 3) := by decide +kernel
theorem d_T_reply_8 : decode b_T_reply 8 = .ok (.iconst (-1), 1) := by decide +kernel
theorem d_T_reply_9 : decode b_T_reply 9 = .ok (.ireturn, 1) := by decide +kernel
theorem d_T_reply_10 : decode b_T_reply 10 = .ok (.aload_n 0, 1) := by decide +kernel
theorem d_T_reply_11 : decode b_T_reply 11 = .ok (.iload_n 1, 1) := by decide +kernel
theorem d_T_reply_12 : decode b_T_reply 12 = .ok (.lload_n 2, 1) := by decide +kernel
theorem d_T_reply_13 : decode b_T_reply 13 = .ok (.lload 4, 2) := by decide +kernel
theorem d_T_reply_15 : decode b_T_reply 15 = .ok (.lload 6, 2) := by decide +kernel
theorem d_T_reply_17 : decode b_T_reply 17 = .ok (.iload 8, 2) := by decide +kernel
theorem d_T_reply_19 : decode b_T_reply 19 = .ok (.invokevirtual 119, 3) := by decide +kernel
theorem d_T_reply_22 : decode b_T_reply 22 = .ok (.istore 9, 2) := by decide +kernel
theorem d_T_reply_24 : decode b_T_reply 24 = .ok (.iload 9, 2) := by decide +kernel
theorem d_T_reply_26 : decode b_T_reply 26 = .ok (.ifCond .eq 6, 3) := by decide +kernel
theorem d_T_reply_29 : decode b_T_reply 29 = .ok (.iload 9, 2) := by decide +kernel
theorem d_T_reply_31 : decode b_T_reply 31 = .ok (.ireturn, 1) := by decide +kernel
theorem d_T_reply_32 : decode b_T_reply 32 = .ok (.aload_n 0, 1) := by decide +kernel
theorem d_T_reply_33 : decode b_T_reply 33 = .ok (.getfield 13, 3) := by decide +kernel
theorem d_T_reply_36 : decode b_T_reply 36 = .ok (.iload_n 1, 1) := by decide +kernel
theorem d_T_reply_37 : decode b_T_reply 37 = .ok (.iconst 0, 1) := by decide +kernel
theorem d_T_reply_38 : decode b_T_reply 38 = .ok (.bastore, 1) := by decide +kernel
theorem d_T_reply_39 : decode b_T_reply 39 = .ok (.aload_n 0, 1) := by decide +kernel
theorem d_T_reply_40 : decode b_T_reply 40 = .ok (.getfield 23, 3) := by decide +kernel
theorem d_T_reply_43 : decode b_T_reply 43 = .ok (.iload_n 1, 1) := by decide +kernel
theorem d_T_reply_44 : decode b_T_reply 44 = .ok (.iconst 1, 1) := by decide +kernel
theorem d_T_reply_45 : decode b_T_reply 45 = .ok (.bastore, 1) := by decide +kernel
theorem d_T_reply_46 : decode b_T_reply 46 = .ok (.aload_n 0, 1) := by decide +kernel
theorem d_T_reply_47 : decode b_T_reply 47 = .ok (.getfield 26, 3) := by decide +kernel
theorem d_T_reply_50 : decode b_T_reply 50 = .ok (.iload_n 1, 1) := by decide +kernel
theorem d_T_reply_51 : decode b_T_reply 51 = .ok (.lload_n 2, 1) := by decide +kernel
theorem d_T_reply_52 : decode b_T_reply 52 = .ok (.lastore, 1) := by decide +kernel
theorem d_T_reply_53 : decode b_T_reply 53 = .ok (.aload_n 0, 1) := by decide +kernel
theorem d_T_reply_54 : decode b_T_reply 54 = .ok (.getfield 29, 3) := by decide +kernel
theorem d_T_reply_57 : decode b_T_reply 57 = .ok (.iload_n 1, 1) := by decide +kernel
theorem d_T_reply_58 : decode b_T_reply 58 = .ok (.aload_n 0, 1) := by decide +kernel
theorem d_T_reply_59 : decode b_T_reply 59 = .ok (.getfield 29, 3) := by decide +kernel
theorem d_T_reply_62 : decode b_T_reply 62 = .ok (.iload_n 1, 1) := by decide +kernel
theorem d_T_reply_63 : decode b_T_reply 63 = .ok (.iaload, 1) := by decide +kernel
theorem d_T_reply_64 : decode b_T_reply 64 = .ok (.bipush 8, 2) := by decide +kernel
theorem d_T_reply_66 : decode b_T_reply 66 = .ok (.if_icmp .ne 8, 3) := by decide +kernel
theorem d_T_reply_69 : decode b_T_reply 69 = .ok (.bipush 8, 2) := by decide +kernel
theorem d_T_reply_71 : decode b_T_reply 71 = .ok (.goto 11, 3) := by decide +kernel
theorem d_T_reply_74 : decode b_T_reply 74 = .ok (.aload_n 0, 1) := by decide +kernel
theorem d_T_reply_75 : decode b_T_reply 75 = .ok (.getfield 29, 3) := by decide +kernel
theorem d_T_reply_78 : decode b_T_reply 78 = .ok (.iload_n 1, 1) := by decide +kernel
theorem d_T_reply_79 : decode b_T_reply 79 = .ok (.iaload, 1) := by decide +kernel
theorem d_T_reply_80 : decode b_T_reply 80 = .ok (.iconst 1, 1) := by decide +kernel
theorem d_T_reply_81 : decode b_T_reply 81 = .ok (.iadd, 1) := by decide +kernel
theorem d_T_reply_82 : decode b_T_reply 82 = .ok (.iastore, 1) := by decide +kernel
theorem d_T_reply_83 : decode b_T_reply 83 = .ok (.bipush 8, 2) := by decide +kernel
theorem d_T_reply_85 : decode b_T_reply 85 = .ok (.iload_n 1, 1) := by decide +kernel
theorem d_T_reply_86 : decode b_T_reply 86 = .ok (.imul, 1) := by decide +kernel
theorem d_T_reply_87 : decode b_T_reply 87 = .ok (.aload_n 0, 1) := by decide +kernel
theorem d_T_reply_88 : decode b_T_reply 88 = .ok (.getfield 29, 3) := by decide +kernel
theorem d_T_reply_91 : decode b_T_reply 91 = .ok (.iload_n 1, 1) := by decide +kernel
theorem d_T_reply_92 : decode b_T_reply 92 = .ok (.iaload, 1) := by decide +kernel
theorem d_T_reply_93 : decode b_T_reply 93 = .ok (.iadd, 1) := by decide +kernel
theorem d_T_reply_94 : decode b_T_reply 94 = .ok (.iconst 1, 1) := by decide +kernel
theorem d_T_reply_95 : decode b_T_reply 95 = .ok (.isub, 1) := by decide +kernel
theorem d_T_reply_96 : decode b_T_reply 96 = .ok (.istore 10, 2) := by decide +kernel
theorem d_T_reply_98 : decode b_T_reply 98 = .ok (.iload 10, 2) := by decide +kernel
theorem d_T_reply_100 : decode b_T_reply 100 = .ok (.bipush 8, 2) := by decide +kernel
theorem d_T_reply_102 : decode b_T_reply 102 = .ok (.iload_n 1, 1) := by decide +kernel
theorem d_T_reply_103 : decode b_T_reply 103 = .ok (.imul, 1) := by decide +kernel
theorem d_T_reply_104 : decode b_T_reply 104 = .ok (.if_icmp .le 57, 3) := by decide +kernel
theorem d_T_reply_107 : decode b_T_reply 107 = .ok (.aload_n 0, 1) := by decide +kernel
theorem d_T_reply_108 : decode b_T_reply 108 = .ok (.getfield 33, 3) := by decide +kernel
theorem d_T_reply_111 : decode b_T_reply 111 = .ok (.iload 10, 2) := by decide +kernel
theorem d_T_reply_113 : decode b_T_reply 113 = .ok (.aload_n 0, 1) := by decide +kernel
theorem d_T_reply_114 : decode b_T_reply 114 = .ok (.getfield 33, 3) := by decide +kernel
theorem d_T_reply_117 : decode b_T_reply 117 = .ok (.iload 10, 2) := by decide +kernel
theorem d_T_reply_119 : decode b_T_reply 119 = .ok (.iconst 1, 1) := by decide +kernel
theorem d_T_reply_120 : decode b_T_reply 120 = .ok (.isub, 1) := by decide +kernel
theorem d_T_reply_121 : decode b_T_reply 121 = .ok (.laload, 1) := by decide +kernel
theorem d_T_reply_122 : decode b_T_reply 122 = .ok (.lastore, 1) := by decide +kernel
