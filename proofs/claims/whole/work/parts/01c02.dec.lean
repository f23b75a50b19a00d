theorem d_E_init_5 : decode b_E_init 5 = .ok (.bipush 6, 2) := by decide +kernel
theorem d_E_init_7 : decode b_E_init 7 = .ok (.newarray .int, 2) := by decide +kernel
theorem d_E_init_9 : decode b_E_init 9 = .ok (.putfield 9, 3) := by decide +kernel
theorem d_E_init_12 : decode b_E_init 12 = .ok (.aload_n 0, 1) := by decide +kernel
theorem d_E_init_13 : decode b_E_init 13 = .ok (.bipush 6, 2) := by decide +kernel
theorem d_E_init_15 : decode b_E_init 15 = .ok (.newarray .long, 2) := by decide +kernel
theorem d_E_init_17 : decode b_E_init 17 = .ok (.putfield 15, 3) := by decide +kernel
theorem d_E_init_20 : decode b_E_init 20 = .ok (.aload_n 0, 1) := by decide +kernel
theorem d_E_init_21 : decode b_E_init 21 = .ok (.bipush 6, 2) := by decide +kernel
theorem d_E_init_23 : decode b_E_init 23 = .ok (.newarray .long, 2) := by decide +kernel
theorem d_E_init_25 : decode b_E_init 25 = .ok (.putfield 19, 3) := by decide +kernel
theorem d_E_init_28 : decode b_E_init 28 = .ok (.return_, 1) := by decide +kernel
theorem d_E_clear_0 : decode b_E_clear 0 = .ok (.aload_n 0, 1) := by decide +kernel
theorem d_E_clear_1 : decode b_E_clear 1 = .ok (.iconst 0, 1) := by decide +kernel
theorem d_E_clear_2 : decode b_E_clear 2 = .ok (.putfield 22, 3) := by decide +kernel
theorem d_E_clear_5 : decode b_E_clear 5 = .ok (.return_, 1) := by decide +kernel
theorem d_E_put_0 : decode b_E_put 0 = .ok (.aload_n 0, 1) := by decide +kernel
theorem d_E_put_1 : decode b_E_put 1 = .ok (.getfield 9, 3) := by decide +kernel
theorem d_E_put_4 : decode b_E_put 4 = .ok (.iload_n 1, 1) := by decide +kernel
theorem d_E_put_5 : decode b_E_put 5 = .ok (.iload_n 2, 1) := by decide +kernel
theorem d_E_put_6 : decode b_E_put 6 = .ok (.iastore, 1) := by decide +kernel
theorem d_E_put_7 : decode b_E_put 7 = .ok (.aload_n 0, 1) := by decide +kernel
theorem d_E_put_8 : decode b_E_put 8 = .ok (.getfield 15, 3) := by decide +kernel
theorem d_E_put_11 : decode b_E_put 11 = .ok (.iload_n 1, 1) := by decide +kernel
theorem d_E_put_12 : decode b_E_put 12 = .ok (.lload_n 3, 1) := by decide +kernel
theorem d_E_put_13 : decode b_E_put 13 = .ok (.lastore, 1) := by decide +kernel
theorem d_E_put_14 : decode b_E_put 14 = .ok (.aload_n 0, 1) := by decide +kernel
theorem d_E_put_15 : decode b_E_put 15 = .ok (.getfield 19, 3) := by decide +kernel
theorem d_E_put_18 : decode b_E_put 18 = .ok (.iload_n 1, 1) := by decide +kernel
theorem d_E_put_19 : decode b_E_put 19 = .ok (.lload 5, 2) := by decide +kernel
theorem d_E_put_21 : decode b_E_put 21 = .ok (.lastore, 1) := by decide +kernel
theorem d_E_put_22 : decode b_E_put 22 = .ok (.return_, 1) := by decide +kernel
theorem d_E_enter_0 : decode b_E_enter 0 = .ok (.aload_n 0, 1) := by decide +kernel
theorem d_E_enter_1 : decode b_E_enter 1 = .ok (.getfield 22, 3) := by decide +kernel
theorem d_E_enter_4 : decode b_E_enter 4 = .ok (.bipush 6, 2) := by decide +kernel
theorem d_E_enter_6 : decode b_E_enter 6 = .ok (.if_icmp .ge 25, 3) := by decide +kernel
theorem d_E_enter_9 : decode b_E_enter 9 = .ok (.aload_n 0, 1) := by decide +kernel
theorem d_E_enter_10 : decode b_E_enter 10 = .ok (.aload_n 0, 1) := by decide +kernel
theorem d_E_enter_11 : decode b_E_enter 11 = .ok (.getfield 22, 3) := by decide +kernel
theorem d_E_enter_14 : decode b_E_enter 14 = .ok (.iload_n 1, 1) := by decide +kernel
theorem d_E_enter_15 : decode b_E_enter 15 = .ok (.lload_n 2, 1) := by decide +kernel
theorem d_E_enter_16 : decode b_E_enter 16 = .ok (.lload 4, 2) := by decide +kernel
theorem d_E_enter_18 : decode b_E_enter 18 = .ok (.invokevirtual 26, 3) := by decide +kernel
theorem d_E_enter_21 : decode b_E_enter 21 = .ok (.aload_n 0, 1) := by decide +kernel
theorem d_E_enter_22 : decode b_E_enter 22 = .ok (.dup, 1) := by decide +kernel
theorem d_E_enter_23 : decode b_E_enter 23 = .ok (.getfield 22, 3) := by decide +kernel
theorem d_E_enter_26 : decode b_E_enter 26 = .ok (.iconst 1, 1) := by decide +kernel
theorem d_E_enter_27 : decode b_E_enter 27 = .ok (.iadd, 1) := by decide +kernel
theorem d_E_enter_28 : decode b_E_enter 28 = .ok (.putfield 22, 3) := by decide +kernel
theorem d_E_enter_31 : decode b_E_enter 31 = .ok (.return_, 1) := by decide +kernel
theorem d_E_intervalsAround_0 : decode b_E_intervalsAround 0 = .ok (.iconst 0, 1) := by decide +kernel
theorem d_E_intervalsAround_1 : decode b_E_intervalsAround 1 = .ok (.istore_n 3, 1) := by decide +kernel
theorem d_E_intervalsAround_2 : decode b_E_intervalsAround 2 = .ok (.iconst 0, 1) := by decide +kernel
theorem d_E_intervalsAround_3 : decode b_E_intervalsAround 3 = .ok (.istore 4, 2) := by decide +kernel
theorem d_E_intervalsAround_5 : decode b_E_intervalsAround 5 = .ok (.iload 4, 2) := by decide +kernel
theorem d_E_intervalsAround_7 : decode b_E_intervalsAround 7 = .ok (.aload_n 0, 1) := by decide +kernel
theorem d_E_intervalsAround_8 : decode b_E_intervalsAround 8 = .ok (.getfield 22, 3) := by decide +kernel
theorem d_E_intervalsAround_11 : decode b_E_intervalsAround 11 = .ok (.if_icmp .ge 36, 3) := by decide +kernel
theorem d_E_intervalsAround_14 : decode b_E_intervalsAround 14 = .ok (.aload_n 0, 1) := by decide +kernel
theorem d_E_intervalsAround_15 : decode b_E_intervalsAround 15 = .ok (.getfield 15, 3) := by decide +kernel
theorem d_E_intervalsAround_18 : decode b_E_intervalsAround 18 = .ok (.iload 4, 2) := by decide +kernel
theorem d_E_intervalsAround_20 : decode b_E_intervalsAround 20 = .ok (.laload, 1) := by decide +kernel
theorem d_E_intervalsAround_21 : decode b_E_intervalsAround 21 = .ok (.lload_n 1, 1) := by decide +kernel
theorem d_E_intervalsAround_22 : decode b_E_intervalsAround 22 = .ok (.lcmp, 1) := by decide +kernel
theorem d_E_intervalsAround_23 : decode b_E_intervalsAround 23 = .ok (.ifCond .gt 18, 3) := by decide +kernel
theorem d_E_intervalsAround_26 : decode b_E_intervalsAround 26 = .ok (.lload_n 1, 1) := by decide +kernel
theorem d_E_intervalsAround_27 : decode b_E_intervalsAround 27 = .ok (.aload_n 0, 1) := by decide +kernel
theorem d_E_intervalsAround_28 : decode b_E_intervalsAround 28 = .ok (.getfield 19, 3) := by decide +kernel
theorem d_E_intervalsAround_31 : decode b_E_intervalsAround 31 = .ok (.iload 4, 2) := by decide +kernel
theorem d_E_intervalsAround_33 : decode b_E_intervalsAround 33 = .ok (.laload, 1) := by decide +kernel
theorem d_E_intervalsAround_34 : decode b_E_intervalsAround 34 = .ok (.lcmp, 1) := by decide +kernel
theorem d_E_intervalsAround_35 : decode b_E_intervalsAround 35 = .ok (.ifCond .gt 6, 3) := by decide +kernel
theorem d_E_intervalsAround_38 : decode b_E_intervalsAround 38 = .ok (.iinc 3 1, 3) := by decide +kernel
theorem d_E_intervalsAround_41 : decode b_E_intervalsAround 41 = .ok (.iinc 4 1, 3) := by decide +kernel
theorem d_E_intervalsAround_44 : decode b_E_intervalsAround 44 = .ok (.goto (-39), 3) := by decide +kernel
theorem d_E_intervalsAround_47 : decode b_E_intervalsAround 47 = .ok (.iload_n 3, 1) := by decide +kernel
theorem d_E_intervalsAround_48 : decode b_E_intervalsAround 48 = .ok (.ireturn, 1) := by decide +kernel
theorem d_E_findHullOf_0 : decode b_E_findHullOf 0 = .ok (.ldc2_w 36, 3) := by decide +kernel
theorem d_E_findHullOf_3 : decode b_E_findHullOf 3 = .ok (.lstore_n 2, 1) := by decide +kernel
theorem d_E_findHullOf_4 : decode b_E_findHullOf 4 = .ok (.ldc2_w 38, 3) := by decide +kernel
theorem d_E_findHullOf_7 : decode b_E_findHullOf 7 = .ok (.lstore 4, 2) := by decide +kernel
theorem d_E_findHullOf_9 : decode b_E_findHullOf 9 = .ok (.iconst 0, 1) := by decide +kernel
theorem d_E_findHullOf_10 : decode b_E_findHullOf 10 = .ok (.istore 6, 2) := by decide +kernel
theorem d_E_findHullOf_12 : decode b_E_findHullOf 12 = .ok (.iload 6, 2) := by decide +kernel
theorem d_E_findHullOf_14 : decode b_E_findHullOf 14 = .ok (.aload_n 0, 1) := by decide +kernel
theorem d_E_findHullOf_15 : decode b_E_findHullOf 15 = .ok (.getfield 22, 3) := by decide +kernel
theorem d_E_findHullOf_18 : decode b_E_findHullOf 18 = .ok (.if_icmp .ge 65, 3) := by decide +kernel
theorem d_E_findHullOf_21 : decode b_E_findHullOf 21 = .ok (.aload_n 0, 1) := by decide +kernel
theorem d_E_findHullOf_22 : decode b_E_findHullOf 22 = .ok (.aload_n 0, 1) := by decide +kernel
theorem d_E_findHullOf_23 : decode b_E_findHullOf 23 = .ok (.getfield 15, 3) := by decide +kernel
theorem d_E_findHullOf_26 : decode b_E_findHullOf 26 = .ok (.iload 6, 2) := by decide +kernel
theorem d_E_findHullOf_28 : decode b_E_findHullOf 28 = .ok (.laload, 1) := by decide +kernel
theorem d_E_findHullOf_29 : decode b_E_findHullOf 29 = .ok (.invokevirtual 40, 3) := by decide +kernel
theorem d_E_findHullOf_32 : decode b_E_findHullOf 32 = .ok (.iload_n 1, 1) := by decide +kernel
theorem d_E_findHullOf_33 : decode b_E_findHullOf 33 = .ok (.if_icmp .lt 15, 3) := by decide +kernel
theorem d_E_findHullOf_36 : decode b_E_findHullOf 36 = .ok (.lload_n 2, 1) := by decide +kernel
theorem d_E_findHullOf_37 : decode b_E_findHullOf 37 = .ok (.aload_n 0, 1) := by decide +kernel
theorem d_E_findHullOf_38 : decode b_E_findHullOf 38 = .ok (.getfield 15, 3) := by decide +kernel
theorem d_E_findHullOf_41 : decode b_E_findHullOf 41 = .ok (.iload 6, 2) := by decide +kernel
theorem d_E_findHullOf_43 : decode b_E_findHullOf 43 = .ok (.laload, 1) := by decide +kernel
theorem d_E_findHullOf_44 : decode b_E_findHullOf 44 = .ok (.invokestatic 44, 3) := by decide +kernel
theorem d_E_findHullOf_47 : decode b_E_findHullOf 47 = .ok (.lstore_n 2, 1) := by decide +kernel
theorem d_E_findHullOf_48 : decode b_E_findHullOf 48 = .ok (.aload_n 0, 1) := by decide +kernel
theorem d_E_findHullOf_49 : decode b_E_findHullOf 49 = .ok (.aload_n 0, 1) := by decide +kernel
theorem d_E_findHullOf_50 : decode b_E_findHullOf 50 = .ok (.getfield 19, 3) := by decide +kernel
theorem d_E_findHullOf_53 : decode b_E_findHullOf 53 = .ok (.iload 6, 2) := by decide +kernel
theorem d_E_findHullOf_55 : decode b_E_findHullOf 55 = .ok (.laload, 1) := by decide +kernel
theorem d_E_findHullOf_56 : decode b_E_findHullOf 56 = .ok (.invokevirtual 40, 3) := by decide +kernel
theorem d_E_findHullOf_59 : decode b_E_findHullOf 59 = .ok (.iload_n 1, 1) := by decide +kernel
theorem d_E_findHullOf_60 : decode b_E_findHullOf 60 = .ok (.if_icmp .lt 17, 3) := by decide +kernel
theorem d_E_findHullOf_63 : decode b_E_findHullOf 63 = .ok (.lload 4, 2) := by decide +kernel
theorem d_E_findHullOf_65 : decode b_E_findHullOf 65 = .ok (.aload_n 0, 1) := by decide +kernel
theorem d_E_findHullOf_66 : decode b_E_findHullOf 66 = .ok (.getfield 19, 3) := by decide +kernel
theorem d_E_findHullOf_69 : decode b_E_findHullOf 69 = .ok (.iload 6, 2) := by decide +kernel
theorem d_E_findHullOf_71 : decode b_E_findHullOf 71 = .ok (.laload, 1) := by decide +kernel
theorem d_E_findHullOf_72 : decode b_E_findHullOf 72 = .ok (.invokestatic 50, 3) := by decide +kernel
theorem d_E_findHullOf_75 : decode b_E_findHullOf 75 = .ok (.lstore 4, 2) := by decide +kernel
theorem d_E_findHullOf_77 : decode b_E_findHullOf 77 = .ok (.iinc 6 1, 3) := by decide +kernel
theorem d_E_findHullOf_80 : decode b_E_findHullOf 80 = .ok (.goto (-68), 3) := by decide +kernel
theorem d_E_findHullOf_83 : decode b_E_findHullOf 83 = .ok (.lload_n 2, 1) := by decide +kernel
theorem d_E_findHullOf_84 : decode b_E_findHullOf 84 = .ok (.lload 4, 2) := by decide +kernel
theorem d_E_findHullOf_86 : decode b_E_findHullOf 86 = .ok (.lcmp, 1) := by decide +kernel
theorem d_E_findHullOf_87 : decode b_E_findHullOf 87 = .ok (.ifCond .le 5, 3) := by decide +kernel
theorem d_E_findHullOf_90 : decode b_E_findHullOf 90 = .ok (.iconst 0, 1) := by decide +kernel
theorem d_E_findHullOf_91 : decode b_E_findHullOf 91 = .ok (.ireturn, 1) := by decide +kernel
theorem d_E_findHullOf_92 : decode b_E_findHullOf 92 = .ok (.aload_n 0, 1) := by decide +kernel
theorem d_E_findHullOf_93 : decode b_E_findHullOf 93 = .ok (.lload_n 2, 1) := by decide +kernel
theorem d_E_findHullOf_94 : decode b_E_findHullOf 94 = .ok (.putfield 53, 3) := by decide +kernel
theorem d_E_findHullOf_97 : decode b_E_findHullOf 97 = .ok (.aload_n 0, 1) := by decide +kernel
theorem d_E_findHullOf_98 : decode b_E_findHullOf 98 = .ok (.lload 4, 2) := by decide +kernel
theorem d_E_findHullOf_100 : decode b_E_findHullOf 100 = .ok (.putfield 57, 3) := by decide +kernel
theorem d_E_findHullOf_103 : decode b_E_findHullOf 103 = .ok (.iconst 1, 1) := by decide +kernel
theorem d_E_findHullOf_104 : decode b_E_findHullOf 104 = .ok (.ireturn, 1) := by decide +kernel
theorem d_E_findHull_0 : decode b_E_findHull 0 = .ok (.iconst 0, 1) := by decide +kernel
theorem d_E_findHull_1 : decode b_E_findHull 1 = .ok (.istore_n 1, 1) := by decide +kernel
theorem d_E_findHull_2 : decode b_E_findHull 2 = .ok (.iconst 2, 1) := by decide +kernel
theorem d_E_findHull_3 : decode b_E_findHull 3 = .ok (.iload_n 1, 1) := by decide +kernel
theorem d_E_findHull_4 : decode b_E_findHull 4 = .ok (.imul, 1) := by decide +kernel
theorem d_E_findHull_5 : decode b_E_findHull 5 = .ok (.aload_n 0, 1) := by decide +kernel
theorem d_E_findHull_6 : decode b_E_findHull 6 = .ok (.getfield 22, 3) := by decide +kernel
theorem d_E_findHull_9 : decode b_E_findHull 9 = .ok (.if_icmp .ge 24, 3) := by decide +kernel
theorem d_E_findHull_12 : decode b_E_findHull 12 = .ok (.aload_n 0, 1) := by decide +kernel
theorem d_E_findHull_13 : decode b_E_findHull 13 = .ok (.aload_n 0, 1) := by decide +kernel
theorem d_E_findHull_14 : decode b_E_findHull 14 = .ok (.getfield 22, 3) := by decide +kernel
theorem d_E_findHull_17 : decode b_E_findHull 17 = .ok (.iload_n 1, 1) := by decide +kernel
theorem d_E_findHull_18 : decode b_E_findHull 18 = .ok (.isub, 1) := by decide +kernel
theorem d_E_findHull_19 : decode b_E_findHull 19 = .ok (.invokevirtual 30, 3) := by decide +kernel
theorem d_E_findHull_22 : decode b_E_findHull 22 = .ok (.ifCond .eq 5, 3) := by decide +kernel
theorem d_E_findHull_25 : decode b_E_findHull 25 = .ok (.iconst 1, 1) := by decide +kernel
theorem d_E_findHull_26 : decode b_E_findHull 26 = .ok (.ireturn, 1) := by decide +kernel
theorem d_E_findHull_27 : decode b_E_findHull 27 = .ok (.iinc 1 1, 3) := by decide +kernel
theorem d_E_findHull_30 : decode b_E_findHull 30 = .ok (.goto (-28), 3) := by decide +kernel
theorem d_E_findHull_33 : decode b_E_findHull 33 = .ok (.iconst 0, 1) := by decide +kernel
theorem d_E_findHull_34 : decode b_E_findHull 34 = .ok (.ireturn, 1) := by decide +kernel
theorem d_E_keepThoseAtHull_0 : decode b_E_keepThoseAtHull 0 = .ok (.iconst 0, 1) := by decide +kernel
theorem d_E_keepThoseAtHull_1 : decode b_E_keepThoseAtHull 1 = .ok (.istore_n 1, 1) := by decide +kernel
theorem d_E_keepThoseAtHull_2 : decode b_E_keepThoseAtHull 2 = .ok (.iconst 0, 1) := by decide +kernel
theorem d_E_keepThoseAtHull_3 : decode b_E_keepThoseAtHull 3 = .ok (.istore_n 2, 1) := by decide +kernel
theorem d_E_keepThoseAtHull_4 : decode b_E_keepThoseAtHull 4 = .ok (.iload_n 2, 1) := by decide +kernel
theorem d_E_keepThoseAtHull_5 : decode b_E_keepThoseAtHull 5 = .ok (.aload_n 0, 1) := by decide +kernel
