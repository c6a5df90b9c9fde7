theorem dX12_changes_0 : decode cX12_changes 0 = .ok (.iload_n 1, 1) := by decide +kernel
theorem dX12_changes_1 : decode cX12_changes 1 = .ok (.bipush 15, 2) := by decide +kernel
theorem dX12_changes_3 : decode cX12_changes 3 = .ok (.iand, 1) := by decide +kernel
theorem dX12_changes_4 : decode cX12_changes 4 = .ok (.istore_n 3, 1) := by decide +kernel
theorem dX12_changes_5 : decode cX12_changes 5 = .ok (.iload_n 3, 1) := by decide +kernel
theorem dX12_changes_6 : decode cX12_changes 6 = .ok (.bipush 6, 2) := by decide +kernel
theorem dX12_changes_8 : decode cX12_changes 8 = .ok (.if_icmp .ge 33, 3) := by decide +kernel
theorem dX12_changes_11 : decode cX12_changes 11 = .ok (.aload_n 0, 1) := by decide +kernel
theorem dX12_changes_12 : decode cX12_changes 12 = .ok (.iload_n 3, 1) := by decide +kernel
theorem dX12_changes_13 : decode cX12_changes 13 = .ok (.iconst 4, 1) := by decide +kernel
theorem dX12_changes_14 : decode cX12_changes 14 = .ok (.if_icmp .ge 14, 3) := by decide +kernel
theorem dX12_changes_17 : decode cX12_changes 17 = .ok (.iconst 1, 1) := by decide +kernel
theorem dX12_changes_18 : decode cX12_changes 18 = .ok (.iload_n 2, 1) := by decide +kernel
theorem dX12_changes_19 : decode cX12_changes 19 = .ok (.bipush 90, 2) := by decide +kernel
theorem dX12_changes_21 : decode cX12_changes 21 = .ok (.invokestatic 102, 3) := by decide +kernel
theorem dX12_changes_24 : decode cX12_changes 24 = .ok (.iadd, 1) := by decide +kernel
theorem dX12_changes_25 : decode cX12_changes 25 = .ok (.goto 12, 3) := by decide +kernel
theorem dX12_changes_28 : decode cX12_changes 28 = .ok (.iconst 1, 1) := by decide +kernel
theorem dX12_changes_29 : decode cX12_changes 29 = .ok (.iload_n 2, 1) := by decide +kernel
theorem dX12_changes_30 : decode cX12_changes 30 = .ok (.sipush 600, 3) := by decide +kernel
theorem dX12_changes_33 : decode cX12_changes 33 = .ok (.invokestatic 102, 3) := by decide +kernel
theorem dX12_changes_36 : decode cX12_changes 36 = .ok (.iadd, 1) := by decide +kernel
theorem dX12_changes_37 : decode cX12_changes 37 = .ok (.invokestatic 106, 3) := by decide +kernel
theorem dX12_changes_40 : decode cX12_changes 40 = .ok (.ireturn, 1) := by decide +kernel
theorem dX12_changes_41 : decode cX12_changes 41 = .ok (.iload_n 2, 1) := by decide +kernel
theorem dX12_changes_42 : decode cX12_changes 42 = .ok (.bipush 24, 2) := by decide +kernel
theorem dX12_changes_44 : decode cX12_changes 44 = .ok (.invokestatic 102, 3) := by decide +kernel
theorem dX12_changes_47 : decode cX12_changes 47 = .ok (.istore 4, 2) := by decide +kernel
theorem dX12_changes_49 : decode cX12_changes 49 = .ok (.iload_n 3, 1) := by decide +kernel
theorem dX12_changes_50 : decode cX12_changes 50 = .ok (.bipush 6, 2) := by decide +kernel
theorem dX12_changes_52 : decode cX12_changes 52 = .ok (.if_icmp .ne 53, 3) := by decide +kernel
theorem dX12_changes_55 : decode cX12_changes 55 = .ok (.aload_n 0, 1) := by decide +kernel
theorem dX12_changes_56 : decode cX12_changes 56 = .ok (.iload 4, 2) := by decide +kernel
theorem dX12_changes_58 : decode cX12_changes 58 = .ok (.iload_n 2, 1) := by decide +kernel
theorem dX12_changes_59 : decode cX12_changes 59 = .ok (.iconst 5, 1) := by decide +kernel
theorem dX12_changes_60 : decode cX12_changes 60 = .ok (.ishr, 1) := by decide +kernel
theorem dX12_changes_61 : decode cX12_changes 61 = .ok (.sipush 701, 3) := by decide +kernel
theorem dX12_changes_64 : decode cX12_changes 64 = .ok (.invokestatic 102, 3) := by decide +kernel
theorem dX12_changes_67 : decode cX12_changes 67 = .ok (.sipush 300, 3) := by decide +kernel
theorem dX12_changes_70 : decode cX12_changes 70 = .ok (.isub, 1) := by decide +kernel
theorem dX12_changes_71 : decode cX12_changes 71 = .ok (.invokevirtual 110, 3) := by decide +kernel
theorem dX12_changes_74 : decode cX12_changes 74 = .ok (.ifCond .le 29, 3) := by decide +kernel
theorem dX12_changes_77 : decode cX12_changes 77 = .ok (.aload_n 0, 1) := by decide +kernel
theorem dX12_changes_78 : decode cX12_changes 78 = .ok (.iload 4, 2) := by decide +kernel
theorem dX12_changes_80 : decode cX12_changes 80 = .ok (.invokevirtual 52, 3) := by decide +kernel
theorem dX12_changes_83 : decode cX12_changes 83 = .ok (.iload_n 2, 1) := by decide +kernel
theorem dX12_changes_84 : decode cX12_changes 84 = .ok (.iconst 5, 1) := by decide +kernel
theorem dX12_changes_85 : decode cX12_changes 85 = .ok (.ishr, 1) := by decide +kernel
theorem dX12_changes_86 : decode cX12_changes 86 = .ok (.sipush 701, 3) := by decide +kernel
theorem dX12_changes_89 : decode cX12_changes 89 = .ok (.invokestatic 102, 3) := by decide +kernel
theorem dX12_changes_92 : decode cX12_changes 92 = .ok (.sipush 300, 3) := by decide +kernel
theorem dX12_changes_95 : decode cX12_changes 95 = .ok (.isub, 1) := by decide +kernel
theorem dX12_changes_96 : decode cX12_changes 96 = .ok (.if_icmp .ne 7, 3) := by decide +kernel
theorem dX12_changes_99 : decode cX12_changes 99 = .ok (.iconst 1, 1) := by decide +kernel
theorem dX12_changes_100 : decode cX12_changes 100 = .ok (.goto 4, 3) := by decide +kernel
theorem dX12_changes_103 : decode cX12_changes 103 = .ok (.iconst 0, 1) := by decide +kernel
theorem dX12_changes_104 : decode cX12_changes 104 = .ok (.ireturn, 1) := by decide +kernel
theorem dX12_changes_105 : decode cX12_changes 105 = .ok (.iload_n 3, 1) := by decide +kernel
theorem dX12_changes_106 : decode cX12_changes 106 = .ok (.bipush 7, 2) := by decide +kernel
theorem dX12_changes_108 : decode cX12_changes 108 = .ok (.if_icmp .ne 41, 3) := by decide +kernel
theorem dX12_changes_111 : decode cX12_changes 111 = .ok (.aload_n 0, 1) := by decide +kernel
theorem dX12_changes_112 : decode cX12_changes 112 = .ok (.iload 4, 2) := by decide +kernel
theorem dX12_changes_114 : decode cX12_changes 114 = .ok (.iload_n 2, 1) := by decide +kernel
theorem dX12_changes_115 : decode cX12_changes 115 = .ok (.iconst 5, 1) := by decide +kernel
theorem dX12_changes_116 : decode cX12_changes 116 = .ok (.ishr, 1) := by decide +kernel
theorem dX12_changes_117 : decode cX12_changes 117 = .ok (.iconst 3, 1) := by decide +kernel
theorem dX12_changes_118 : decode cX12_changes 118 = .ok (.invokestatic 102, 3) := by decide +kernel
theorem dX12_changes_121 : decode cX12_changes 121 = .ok (.invokevirtual 113, 3) := by decide +kernel
theorem dX12_changes_124 : decode cX12_changes 124 = .ok (.ifCond .le 23, 3) := by decide +kernel
theorem dX12_changes_127 : decode cX12_changes 127 = .ok (.aload_n 0, 1) := by decide +kernel
theorem dX12_changes_128 : decode cX12_changes 128 = .ok (.iload 4, 2) := by decide +kernel
theorem dX12_changes_130 : decode cX12_changes 130 = .ok (.invokevirtual 61, 3) := by decide +kernel
theorem dX12_changes_133 : decode cX12_changes 133 = .ok (.iload_n 2, 1) := by decide +kernel
theorem dX12_changes_134 : decode cX12_changes 134 = .ok (.iconst 5, 1) := by decide +kernel
theorem dX12_changes_135 : decode cX12_changes 135 = .ok (.ishr, 1) := by decide +kernel
