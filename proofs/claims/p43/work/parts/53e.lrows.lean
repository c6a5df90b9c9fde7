theorem dX12_law_0 : decode cX12_law 0 = .ok (.new 9, 3) := by decide +kernel
theorem dX12_law_3 : decode cX12_law 3 = .ok (.dup, 1) := by decide +kernel
theorem dX12_law_4 : decode cX12_law 4 = .ok (.invokespecial 142, 3) := by decide +kernel
theorem dX12_law_7 : decode cX12_law 7 = .ok (.astore_n 1, 1) := by decide +kernel
theorem dX12_law_8 : decode cX12_law 8 = .ok (.aload_n 1, 1) := by decide +kernel
theorem dX12_law_9 : decode cX12_law 9 = .ok (.invokevirtual 139, 3) := by decide +kernel
theorem dX12_law_12 : decode cX12_law 12 = .ok (.bipush (-2), 2) := by decide +kernel
theorem dX12_law_14 : decode cX12_law 14 = .ok (.if_icmp .ne 54, 3) := by decide +kernel
theorem dX12_law_17 : decode cX12_law 17 = .ok (.aload_n 1, 1) := by decide +kernel
theorem dX12_law_18 : decode cX12_law 18 = .ok (.invokevirtual 43, 3) := by decide +kernel
theorem dX12_law_21 : decode cX12_law 21 = .ok (.sipush (-9999), 3) := by decide +kernel
theorem dX12_law_24 : decode cX12_law 24 = .ok (.if_icmp .ne 44, 3) := by decide +kernel
theorem dX12_law_27 : decode cX12_law 27 = .ok (.aload_n 1, 1) := by decide +kernel
theorem dX12_law_28 : decode cX12_law 28 = .ok (.invokevirtual 76, 3) := by decide +kernel
theorem dX12_law_31 : decode cX12_law 31 = .ok (.ldc2_w 143, 3) := by decide +kernel
theorem dX12_law_34 : decode cX12_law 34 = .ok (.lcmp, 1) := by decide +kernel
theorem dX12_law_35 : decode cX12_law 35 = .ok (.ifCond .ne 33, 3) := by decide +kernel
theorem dX12_law_38 : decode cX12_law 38 = .ok (.aload_n 1, 1) := by decide +kernel
theorem dX12_law_39 : decode cX12_law 39 = .ok (.invokevirtual 145, 3) := by decide +kernel
theorem dX12_law_42 : decode cX12_law 42 = .ok (.ifCond .ne 26, 3) := by decide +kernel
theorem dX12_law_45 : decode cX12_law 45 = .ok (.aload_n 1, 1) := by decide +kernel
theorem dX12_law_46 : decode cX12_law 46 = .ok (.invokevirtual 139, 3) := by decide +kernel
theorem dX12_law_49 : decode cX12_law 49 = .ok (.ifCond .ne 19, 3) := by decide +kernel
theorem dX12_law_52 : decode cX12_law 52 = .ok (.aload_n 1, 1) := by decide +kernel
theorem dX12_law_53 : decode cX12_law 53 = .ok (.invokevirtual 148, 3) := by decide +kernel
theorem dX12_law_56 : decode cX12_law 56 = .ok (.dconst 0, 1) := by decide +kernel
theorem dX12_law_57 : decode cX12_law 57 = .ok (.dcmp .l, 1) := by decide +kernel
theorem dX12_law_58 : decode cX12_law 58 = .ok (.ifCond .ne 10, 3) := by decide +kernel
theorem dX12_law_61 : decode cX12_law 61 = .ok (.aload_n 1, 1) := by decide +kernel
theorem dX12_law_62 : decode cX12_law 62 = .ok (.invokestatic 152, 3) := by decide +kernel
theorem dX12_law_65 : decode cX12_law 65 = .ok (.ifCond .ne 5, 3) := by decide +kernel
theorem dX12_law_68 : decode cX12_law 68 = .ok (.iconst 0, 1) := by decide +kernel
theorem dX12_law_69 : decode cX12_law 69 = .ok (.ireturn, 1) := by decide +kernel
theorem dX12_law_70 : decode cX12_law 70 = .ok (.iconst 0, 1) := by decide +kernel
theorem dX12_law_71 : decode cX12_law 71 = .ok (.istore_n 2, 1) := by decide +kernel
theorem dX12_law_72 : decode cX12_law 72 = .ok (.iload_n 2, 1) := by decide +kernel
theorem dX12_law_73 : decode cX12_law 73 = .ok (.bipush 30, 2) := by decide +kernel
theorem dX12_law_75 : decode cX12_law 75 = .ok (.if_icmp .ge 158, 3) := by decide +kernel
theorem dX12_law_78 : decode cX12_law 78 = .ok (.aload_n 0, 1) := by decide +kernel
theorem dX12_law_79 : decode cX12_law 79 = .ok (.iconst 2, 1) := by decide +kernel
theorem dX12_law_80 : decode cX12_law 80 = .ok (.iload_n 2, 1) := by decide +kernel
theorem dX12_law_81 : decode cX12_law 81 = .ok (.imul, 1) := by decide +kernel
theorem dX12_law_82 : decode cX12_law 82 = .ok (.invokestatic 156, 3) := by decide +kernel
theorem dX12_law_85 : decode cX12_law 85 = .ok (.istore_n 3, 1) := by decide +kernel
theorem dX12_law_86 : decode cX12_law 86 = .ok (.aload_n 0, 1) := by decide +kernel
theorem dX12_law_87 : decode cX12_law 87 = .ok (.iconst 2, 1) := by decide +kernel
theorem dX12_law_88 : decode cX12_law 88 = .ok (.iload_n 2, 1) := by decide +kernel
theorem dX12_law_89 : decode cX12_law 89 = .ok (.imul, 1) := by decide +kernel
theorem dX12_law_90 : decode cX12_law 90 = .ok (.iconst 1, 1) := by decide +kernel
theorem dX12_law_91 : decode cX12_law 91 = .ok (.iadd, 1) := by decide +kernel
theorem dX12_law_92 : decode cX12_law 92 = .ok (.invokestatic 156, 3) := by decide +kernel
theorem dX12_law_95 : decode cX12_law 95 = .ok (.istore 4, 2) := by decide +kernel
theorem dX12_law_97 : decode cX12_law 97 = .ok (.aload_n 1, 1) := by decide +kernel
theorem dX12_law_98 : decode cX12_law 98 = .ok (.invokevirtual 160, 3) := by decide +kernel
theorem dX12_law_101 : decode cX12_law 101 = .ok (.lstore 5, 2) := by decide +kernel
theorem dX12_law_103 : decode cX12_law 103 = .ok (.iload_n 3, 1) := by decide +kernel
theorem dX12_law_104 : decode cX12_law 104 = .ok (.bipush 15, 2) := by decide +kernel
theorem dX12_law_106 : decode cX12_law 106 = .ok (.iand, 1) := by decide +kernel
theorem dX12_law_107 : decode cX12_law 107 = .ok (.bipush 13, 2) := by decide +kernel
theorem dX12_law_109 : decode cX12_law 109 = .ok (.if_icmp .le 7, 3) := by decide +kernel
theorem dX12_law_112 : decode cX12_law 112 = .ok (.iconst 1, 1) := by decide +kernel
theorem dX12_law_113 : decode cX12_law 113 = .ok (.goto 4, 3) := by decide +kernel
theorem dX12_law_116 : decode cX12_law 116 = .ok (.iconst 0, 1) := by decide +kernel
