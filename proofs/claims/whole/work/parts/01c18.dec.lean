theorem d_M_init_32 : decode b_M_init 32 = .ok (.invokestatic 21, 3) := by decide +kernel
theorem d_M_init_35 : decode b_M_init 35 = .ok (.putfield 24, 3) := by decide +kernel
theorem d_M_init_38 : decode b_M_init 38 = .ok (.aload_n 0, 1) := by decide +kernel
theorem d_M_init_39 : decode b_M_init 39 = .ok (.iload_n 3, 1) := by decide +kernel
theorem d_M_init_40 : decode b_M_init 40 = .ok (.putfield 28, 3) := by decide +kernel
theorem d_M_init_43 : decode b_M_init 43 = .ok (.aload_n 0, 1) := by decide +kernel
theorem d_M_init_44 : decode b_M_init 44 = .ok (.iload 4, 2) := by decide +kernel
theorem d_M_init_46 : decode b_M_init 46 = .ok (.anewarray 31, 3) := by decide +kernel
theorem d_M_init_49 : decode b_M_init 49 = .ok (.putfield 33, 3) := by decide +kernel
theorem d_M_init_52 : decode b_M_init 52 = .ok (.iconst 0, 1) := by decide +kernel
theorem d_M_init_53 : decode b_M_init 53 = .ok (.istore 5, 2) := by decide +kernel
theorem d_M_init_55 : decode b_M_init 55 = .ok (.iload 5, 2) := by decide +kernel
theorem d_M_init_57 : decode b_M_init 57 = .ok (.iload 4, 2) := by decide +kernel
theorem d_M_init_59 : decode b_M_init 59 = .ok (.if_icmp .ge 23, 3) := by decide +kernel
theorem d_M_init_62 : decode b_M_init 62 = .ok (.aload_n 0, 1) := by decide +kernel
theorem d_M_init_63 : decode b_M_init 63 = .ok (.getfield 33, 3) := by decide +kernel
theorem d_M_init_66 : decode b_M_init 66 = .ok (.iload 5, 2) := by decide +kernel
theorem d_M_init_68 : decode b_M_init 68 = .ok (.new 31, 3) := by decide +kernel
theorem d_M_init_71 : decode b_M_init 71 = .ok (.dup, 1) := by decide +kernel
theorem d_M_init_72 : decode b_M_init 72 = .ok (.invokespecial 37, 3) := by decide +kernel
theorem d_M_init_75 : decode b_M_init 75 = .ok (.aastore, 1) := by decide +kernel
theorem d_M_init_76 : decode b_M_init 76 = .ok (.iinc 5 1, 3) := by decide +kernel
theorem d_M_init_79 : decode b_M_init 79 = .ok (.goto (-24), 3) := by decide +kernel
theorem d_M_init_82 : decode b_M_init 82 = .ok (.aload_n 0, 1) := by decide +kernel
theorem d_M_init_83 : decode b_M_init 83 = .ok (.iconst 4, 1) := by decide +kernel
theorem d_M_init_84 : decode b_M_init 84 = .ok (.anewarray 38, 3) := by decide +kernel
theorem d_M_init_87 : decode b_M_init 87 = .ok (.putfield 40, 3) := by decide +kernel
theorem d_M_init_90 : decode b_M_init 90 = .ok (.iconst 0, 1) := by decide +kernel
theorem d_M_init_91 : decode b_M_init 91 = .ok (.istore 5, 2) := by decide +kernel
theorem d_M_init_93 : decode b_M_init 93 = .ok (.iload 5, 2) := by decide +kernel
theorem d_M_init_95 : decode b_M_init 95 = .ok (.iconst 4, 1) := by decide +kernel
theorem d_M_init_96 : decode b_M_init 96 = .ok (.if_icmp .ge 23, 3) := by decide +kernel
theorem d_M_init_99 : decode b_M_init 99 = .ok (.aload_n 0, 1) := by decide +kernel
theorem d_M_init_100 : decode b_M_init 100 = .ok (.getfield 40, 3) := by decide +kernel
theorem d_M_init_103 : decode b_M_init 103 = .ok (.iload 5, 2) := by decide +kernel
theorem d_M_init_105 : decode b_M_init 105 = .ok (.new 38, 3) := by decide +kernel
theorem d_M_init_108 : decode b_M_init 108 = .ok (.dup, 1) := by decide +kernel
theorem d_M_init_109 : decode b_M_init 109 = .ok (.invokespecial 44, 3) := by decide +kernel
theorem d_M_init_112 : decode b_M_init 112 = .ok (.aastore, 1) := by decide +kernel
theorem d_M_init_113 : decode b_M_init 113 = .ok (.iinc 5 1, 3) := by decide +kernel
theorem d_M_init_116 : decode b_M_init 116 = .ok (.goto (-23), 3) := by decide +kernel
theorem d_M_init_119 : decode b_M_init 119 = .ok (.aload_n 0, 1) := by decide +kernel
theorem d_M_init_120 : decode b_M_init 120 = .ok (.new 45, 3) := by decide +kernel
theorem d_M_init_123 : decode b_M_init 123 = .ok (.dup, 1) := by decide +kernel
theorem d_M_init_124 : decode b_M_init 124 = .ok (.invokespecial 47, 3) := by decide +kernel
theorem d_M_init_127 : decode b_M_init 127 = .ok (.putfield 48, 3) := by decide +kernel
theorem d_M_init_130 : decode b_M_init 130 = .ok (.aload_n 0, 1) := by decide +kernel
theorem d_M_init_131 : decode b_M_init 131 = .ok (.new 52, 3) := by decide +kernel
theorem d_M_init_134 : decode b_M_init 134 = .ok (.dup, 1) := by decide +kernel
theorem d_M_init_135 : decode b_M_init 135 = .ok (.invokespecial 54, 3) := by decide +kernel
theorem d_M_init_138 : decode b_M_init 138 = .ok (.putfield 55, 3) := by decide +kernel
theorem d_M_init_141 : decode b_M_init 141 = .ok (.return_, 1) := by decide +kernel

