set_option maxRecDepth 20000 in
theorem ggX12_runs_X12_net : GoodIn wsX12_runs wsX12_net := goodIn_r _ [30, 31, 32, 33, 6, 34, 8, 14, 35, 36, 37, 38, 39, 40, 41, 42, 43, 44, 45, 46, 47, 48, 49, 50, 327, 328, 329, 330, 331, 332, 333, 334, 335, 336, 337, 338, 339, 340, 341, 342, 343, 344, 345, 346, 347, 348, 349] (by decide +kernel) (by decide +kernel)
set_option maxRecDepth 20000 in
theorem gX12_runs_X12_net : GoodIn wsX12_runs (va_wsS RX12 79 yX12_net wsX12_net) := goodIn_app (goodIn_of _ (by decide +kernel)) ggX12_runs_X12_net
set_option maxRecDepth 20000 in
theorem ggX12_runs_X10_drawn : GoodIn wsX12_runs wsX10_drawn := goodIn_r _ [44, 8, 14, 45, 327, 328, 329, 330, 331, 332, 333, 334, 335, 336, 337, 338, 339, 340, 341, 342, 343, 344, 345, 346, 347, 348, 349] (by decide +kernel) (by decide +kernel)
set_option maxRecDepth 20000 in
theorem gX12_runs_X10_drawn : GoodIn wsX12_runs (wsV RX12 21 RX10 yX10_drawn wsX10_drawn) := goodIn_app (goodIn_of _ (by decide +kernel)) ggX12_runs_X10_drawn
set_option maxRecDepth 20000 in
theorem ggX12_runs_X10_unmet : GoodIn wsX12_runs wsX10_unmet := goodIn_r _ [54, 8, 14, 55, 327, 328, 329, 330, 331, 332, 333, 334, 335, 336, 337, 338, 339, 340, 341, 342, 343, 344, 345, 346, 347, 348, 349] (by decide +kernel) (by decide +kernel)
set_option maxRecDepth 20000 in
theorem gX12_runs_X10_unmet : GoodIn wsX12_runs (wsV RX12 67 RX10 yX10_unmet wsX10_unmet) := goodIn_app (goodIn_of _ (by decide +kernel)) ggX12_runs_X10_unmet
set_option maxRecDepth 20000 in
theorem ggX12_runs_X10_starts : GoodIn wsX12_runs wsX10_starts := goodIn_r _ [59, 8, 14, 60, 327, 328, 329, 330, 331, 332, 333, 334, 335, 336, 337, 338, 339, 340, 341, 342, 343, 344, 345, 346, 347, 348, 349] (by decide +kernel) (by decide +kernel)
set_option maxRecDepth 20000 in
theorem gX12_runs_X10_starts : GoodIn wsX12_runs (wsV RX12 34 RX10 yX10_starts wsX10_starts) := goodIn_app (goodIn_of _ (by decide +kernel)) ggX12_runs_X10_starts
set_option maxRecDepth 20000 in
theorem ggX12_runs_X10_costIn : GoodIn wsX12_runs wsX10_costIn := goodIn_r _ [64, 65, 66, 8, 14, 15, 67, 68, 69, 70, 71, 72, 73, 74, 75, 76, 77, 78, 79, 80, 6, 81, 82, 83, 84, 85, 86, 87, 88, 89, 90, 91, 92, 93, 94, 95, 96, 97, 98, 99, 100, 24, 101, 26, 102, 103, 104, 105, 106, 107, 108, 109, 110, 111, 112, 113, 114, 115, 116, 117, 118, 119, 120, 121, 122, 123, 124, 125, 126, 127, 128, 129, 130, 131, 132, 133, 134, 135, 136, 137, 138, 139, 140, 141, 142, 143, 144, 145, 146, 147, 148, 149, 150, 151, 152, 153, 154, 155, 156, 157, 158, 159, 160, 161, 162, 163, 164, 165, 166, 167, 168, 169, 170, 171, 172, 173, 174, 175, 176, 177, 178, 179, 180, 181, 182, 183, 184, 185, 186, 187, 188, 189, 190, 191, 192, 193, 194, 195, 196, 197, 198, 199, 200, 201, 202, 203, 204, 205, 206, 207, 208, 209, 210, 211, 212, 213, 214, 215, 216, 217, 218, 219, 220, 221, 222, 223, 224, 225, 226, 227, 228, 229, 230, 231, 232, 233, 234, 235, 236, 237, 238, 239, 240, 241, 242, 243, 244, 245, 246, 247, 248, 249, 250, 251, 252, 253, 254, 255, 256, 257, 258, 259, 260, 261, 262, 263, 264, 265, 266, 267, 268, 269, 270, 271, 272, 273, 274, 275, 276, 277, 278, 279, 280, 281, 282, 283, 284, 285, 286, 327, 328, 329, 330, 331, 332, 333, 334, 335, 336, 337, 338, 339, 340, 341, 342, 343, 344, 345, 346, 347, 348, 349, 352, 353, 354, 355, 356, 357, 358, 350, 351, 359, 360, 361, 362, 363, 364, 365, 366, 367, 368, 369, 370] (by decide +kernel) (by decide +kernel)
set_option maxRecDepth 20000 in
theorem gX12_runs_X10_costIn : GoodIn wsX12_runs (wsV RX12 85 RX10 yX10_costIn wsX10_costIn) := goodIn_app (goodIn_of _ (by decide +kernel)) ggX12_runs_X10_costIn
set_option maxRecDepth 20000 in
theorem ggX12_runs_X10_nextSwitch : GoodIn wsX12_runs wsX10_nextSwitch := goodIn_r _ [290, 8, 291, 292, 66, 67, 68, 69, 70, 71, 72, 73, 74, 75, 76, 77, 78, 79, 80, 6, 81, 82, 83, 84, 85, 86, 87, 88, 89, 90, 91, 92, 93, 94, 95, 96, 97, 98, 99, 100, 24, 101, 26, 102, 103, 104, 105, 106, 107, 108, 109, 110, 111, 112, 113, 114, 115, 116, 117, 118, 119, 120, 121, 122, 123, 124, 125, 126, 127, 128, 129, 130, 131, 132, 133, 134, 135, 136, 137, 138, 139, 140, 141, 142, 143, 144, 145, 146, 147, 148, 149, 150, 151, 152, 153, 154, 155, 156, 157, 158, 159, 160, 161, 162, 163, 164, 165, 166, 167, 168, 169, 170, 171, 172, 173, 174, 175, 176, 177, 178, 179, 180, 181, 182, 183, 184, 185, 186, 187, 188, 189, 190, 191, 192, 193, 194, 195, 196, 197, 198, 199, 200, 201, 202, 203, 204, 205, 206, 207, 208, 209, 210, 211, 212, 213, 214, 215, 216, 217, 218, 219, 220, 221, 222, 223, 224, 225, 226, 227, 228, 229, 230, 231, 232, 233, 234, 235, 236, 237, 238, 239, 240, 241, 242, 243, 244, 245, 246, 247, 248, 249, 250, 251, 252, 253, 254, 255, 256, 257, 258, 259, 260, 261, 262, 263, 264, 265, 266, 267, 268, 269, 270, 271, 272, 273, 274, 275, 276, 277, 278, 279, 280, 281, 282, 283, 284, 285, 286, 327, 328, 329, 330, 331, 332, 333, 334, 335, 336, 337, 338, 359, 360, 361, 362, 363, 364, 365, 352, 353, 354, 355, 356, 357, 358, 350, 351, 339, 340, 341, 342, 343, 344, 345, 346, 347, 348, 349, 366, 367, 368, 369, 370] (by decide +kernel) (by decide +kernel)
set_option maxRecDepth 20000 in
theorem gX12_runs_X10_nextSwitch : GoodIn wsX12_runs (wsV RX12 91 RX10 yX10_nextSwitch wsX10_nextSwitch) := goodIn_app (goodIn_of _ (by decide +kernel)) ggX12_runs_X10_nextSwitch
set_option maxRecDepth 20000 in
theorem ggX12_runs_X10_pump : GoodIn wsX12_runs wsX10_pump := goodIn_r _ [296, 8, 291, 292, 327, 328, 329, 330, 331, 332, 333, 334, 335, 336, 337, 338, 359, 360, 361, 362, 363, 364, 365] (by decide +kernel) (by decide +kernel)
set_option maxRecDepth 20000 in
theorem gX12_runs_X10_pump : GoodIn wsX12_runs (wsV RX12 46 RX10 yX10_pump wsX10_pump) := goodIn_app (goodIn_of _ (by decide +kernel)) ggX12_runs_X10_pump
set_option maxRecDepth 20000 in
theorem ggX12_runs_X10_run : GoodIn wsX12_runs wsX10_run := goodIn_r _ [300, 8, 9, 301, 302, 14, 60, 303, 304, 305, 306, 307, 308, 309, 310, 311, 312, 313, 314, 315, 68, 69, 70, 71, 72, 73, 74, 75, 76, 77, 78, 79, 80, 6, 81, 82, 83, 84, 85, 86, 87, 88, 89, 90, 91, 92, 93, 94, 95, 96, 97, 98, 99, 100, 24, 101, 26, 102, 103, 104, 105, 106, 107, 108, 109, 110, 111, 112, 113, 114, 115, 116, 117, 118, 119, 120, 121, 122, 123, 124, 125, 126, 127, 128, 129, 130, 131, 132, 133, 134, 135, 136, 137, 138, 139, 140, 141, 142, 143, 144, 145, 146, 147, 148, 149, 150, 151, 152, 153, 154, 155, 156, 157, 158, 159, 160, 161, 162, 163, 164, 165, 166, 167, 168, 169, 170, 171, 172, 173, 174, 175, 176, 177, 178, 179, 180, 181, 182, 183, 184, 185, 186, 187, 188, 189, 190, 191, 192, 193, 194, 195, 196, 197, 198, 199, 200, 201, 202, 203, 204, 205, 206, 207, 208, 209, 210, 211, 212, 213, 214, 215, 216, 217, 218, 219, 220, 221, 222, 223, 224, 225, 226, 227, 228, 229, 230, 231, 232, 233, 234, 235, 236, 237, 238, 239, 240, 241, 242, 243, 244, 245, 246, 247, 248, 249, 250, 251, 252, 253, 254, 255, 256, 257, 258, 259, 260, 261, 262, 263, 264, 265, 266, 267, 268, 269, 270, 271, 272, 273, 274, 275, 276, 277, 278, 279, 280, 281, 282, 283, 284, 285, 286, 327, 328, 329, 330, 331, 332, 333, 334, 335, 336, 337, 338, 339, 340, 341, 342, 343, 344, 345, 346, 347, 348, 349, 371, 372, 373, 352, 353, 354, 355, 356, 357, 358, 350, 351, 359, 360, 361, 362, 363, 364, 365, 366, 367, 368, 369, 370] (by decide +kernel) (by decide +kernel)
set_option maxRecDepth 20000 in
theorem gX12_runs_X10_run : GoodIn wsX12_runs (wsV RX12 94 RX10 yX10_run wsX10_run) := goodIn_app (goodIn_of _ (by decide +kernel)) ggX12_runs_X10_run
set_option maxRecDepth 20000 in
theorem ggX12_runs_X12_demands : GoodIn wsX12_runs wsX12_demands := goodIn_r _ [318, 319, 320, 321, 6, 322, 8, 323, 324, 85, 325, 326, 151, 152, 70, 153, 72, 74, 140, 154, 155, 156, 157, 158, 159, 160, 161, 162, 163, 164, 148, 149, 165, 166, 327, 328, 329, 330, 331, 332, 333, 334, 335, 336, 337, 338, 353, 354, 355, 352] (by decide +kernel) (by decide +kernel)
set_option maxRecDepth 20000 in
theorem gX12_runs_X12_demands : GoodIn wsX12_runs (va_wsS RX12 98 yX12_demands wsX12_demands) := goodIn_app (goodIn_of _ (by decide +kernel)) ggX12_runs_X12_demands
theorem dX12_runs_0 : decode cX12_runs 0 = .ok (.aload_n 0, 1) := by decide +kernel
theorem dX12_runs_1 : decode cX12_runs 1 = .ok (.invokevirtual 30, 3) := by decide +kernel
theorem dX12_runs_4 : decode cX12_runs 4 = .ok (.istore_n 2, 1) := by decide +kernel
theorem dX12_runs_5 : decode cX12_runs 5 = .ok (.aload_n 0, 1) := by decide +kernel
theorem dX12_runs_6 : decode cX12_runs 6 = .ok (.invokevirtual 70, 3) := by decide +kernel
theorem dX12_runs_9 : decode cX12_runs 9 = .ok (.lstore_n 3, 1) := by decide +kernel
theorem dX12_runs_10 : decode cX12_runs 10 = .ok (.aload_n 0, 1) := by decide +kernel
theorem dX12_runs_11 : decode cX12_runs 11 = .ok (.invokevirtual 76, 3) := by decide +kernel
theorem dX12_runs_14 : decode cX12_runs 14 = .ok (.lstore 5, 2) := by decide +kernel
theorem dX12_runs_16 : decode cX12_runs 16 = .ok (.aload_n 0, 1) := by decide +kernel
theorem dX12_runs_17 : decode cX12_runs 17 = .ok (.invokestatic 79, 3) := by decide +kernel
theorem dX12_runs_20 : decode cX12_runs 20 = .ok (.lstore 7, 2) := by decide +kernel
theorem dX12_runs_22 : decode cX12_runs 22 = .ok (.aload_n 0, 1) := by decide +kernel
theorem dX12_runs_23 : decode cX12_runs 23 = .ok (.invokevirtual 21, 3) := by decide +kernel
theorem dX12_runs_26 : decode cX12_runs 26 = .ok (.aload_n 0, 1) := by decide +kernel
theorem dX12_runs_27 : decode cX12_runs 27 = .ok (.invokevirtual 67, 3) := by decide +kernel
theorem dX12_runs_30 : decode cX12_runs 30 = .ok (.ladd, 1) := by decide +kernel
theorem dX12_runs_31 : decode cX12_runs 31 = .ok (.lstore 9, 2) := by decide +kernel
theorem dX12_runs_33 : decode cX12_runs 33 = .ok (.aload_n 0, 1) := by decide +kernel
theorem dX12_runs_34 : decode cX12_runs 34 = .ok (.invokevirtual 34, 3) := by decide +kernel
theorem dX12_runs_37 : decode cX12_runs 37 = .ok (.istore 11, 2) := by decide +kernel
theorem dX12_runs_39 : decode cX12_runs 39 = .ok (.iload_n 1, 1) := by decide +kernel
theorem dX12_runs_40 : decode cX12_runs 40 = .ok (.sipush 720, 3) := by decide +kernel
theorem dX12_runs_43 : decode cX12_runs 43 = .ok (.if_icmp .gt 11, 3) := by decide +kernel
theorem dX12_runs_46 : decode cX12_runs 46 = .ok (.aload_n 0, 1) := by decide +kernel
theorem dX12_runs_47 : decode cX12_runs 47 = .ok (.iload_n 1, 1) := by decide +kernel
theorem dX12_runs_48 : decode cX12_runs 48 = .ok (.invokevirtual 85, 3) := by decide +kernel
theorem dX12_runs_51 : decode cX12_runs 51 = .ok (.goto 6, 3) := by decide +kernel
theorem dX12_runs_54 : decode cX12_runs 54 = .ok (.ldc2_w 89, 3) := by decide +kernel
theorem dX12_runs_57 : decode cX12_runs 57 = .ok (.lstore 12, 2) := by decide +kernel
theorem dX12_runs_59 : decode cX12_runs 59 = .ok (.aload_n 0, 1) := by decide +kernel
theorem dX12_runs_60 : decode cX12_runs 60 = .ok (.invokevirtual 91, 3) := by decide +kernel
theorem dX12_runs_63 : decode cX12_runs 63 = .ok (.istore 14, 2) := by decide +kernel
theorem dX12_runs_65 : decode cX12_runs 65 = .ok (.aload_n 0, 1) := by decide +kernel
theorem dX12_runs_66 : decode cX12_runs 66 = .ok (.invokevirtual 46, 3) := by decide +kernel
theorem dX12_runs_69 : decode cX12_runs 69 = .ok (.ifCond .ne 7, 3) := by decide +kernel
theorem dX12_runs_72 : decode cX12_runs 72 = .ok (.iconst 1, 1) := by decide +kernel
theorem dX12_runs_73 : decode cX12_runs 73 = .ok (.goto 4, 3) := by decide +kernel
theorem dX12_runs_76 : decode cX12_runs 76 = .ok (.iconst 0, 1) := by decide +kernel
theorem dX12_runs_77 : decode cX12_runs 77 = .ok (.istore 15, 2) := by decide +kernel
theorem dX12_runs_79 : decode cX12_runs 79 = .ok (.aload_n 0, 1) := by decide +kernel
theorem dX12_runs_80 : decode cX12_runs 80 = .ok (.iload_n 1, 1) := by decide +kernel
theorem dX12_runs_81 : decode cX12_runs 81 = .ok (.invokevirtual 94, 3) := by decide +kernel
theorem dX12_runs_84 : decode cX12_runs 84 = .ok (.istore 16, 2) := by decide +kernel
theorem dX12_runs_86 : decode cX12_runs 86 = .ok (.iload_n 2, 1) := by decide +kernel
theorem dX12_runs_87 : decode cX12_runs 87 = .ok (.iload_n 1, 1) := by decide +kernel
theorem dX12_runs_88 : decode cX12_runs 88 = .ok (.iadd, 1) := by decide +kernel
theorem dX12_runs_89 : decode cX12_runs 89 = .ok (.ldc 97, 2) := by decide +kernel
theorem dX12_runs_91 : decode cX12_runs 91 = .ok (.if_icmp .le 24, 3) := by decide +kernel
theorem dX12_runs_94 : decode cX12_runs 94 = .ok (.iload 16, 2) := by decide +kernel
theorem dX12_runs_96 : decode cX12_runs 96 = .ok (.bipush (-3), 2) := by decide +kernel
theorem dX12_runs_98 : decode cX12_runs 98 = .ok (.if_icmp .ne 15, 3) := by decide +kernel
theorem dX12_runs_101 : decode cX12_runs 101 = .ok (.aload_n 0, 1) := by decide +kernel
theorem dX12_runs_102 : decode cX12_runs 102 = .ok (.invokevirtual 30, 3) := by decide +kernel
theorem dX12_runs_105 : decode cX12_runs 105 = .ok (.iload_n 2, 1) := by decide +kernel
theorem dX12_runs_106 : decode cX12_runs 106 = .ok (.if_icmp .ne 7, 3) := by decide +kernel
theorem dX12_runs_109 : decode cX12_runs 109 = .ok (.iconst 1, 1) := by decide +kernel
theorem dX12_runs_110 : decode cX12_runs 110 = .ok (.goto 4, 3) := by decide +kernel
theorem dX12_runs_113 : decode cX12_runs 113 = .ok (.iconst 0, 1) := by decide +kernel
theorem dX12_runs_114 : decode cX12_runs 114 = .ok (.ireturn, 1) := by decide +kernel
theorem dX12_runs_115 : decode cX12_runs 115 = .ok (.iload 16, 2) := by decide +kernel
theorem dX12_runs_117 : decode cX12_runs 117 = .ok (.aload_n 0, 1) := by decide +kernel
theorem dX12_runs_118 : decode cX12_runs 118 = .ok (.invokevirtual 34, 3) := by decide +kernel
theorem dX12_runs_121 : decode cX12_runs 121 = .ok (.iload 11, 2) := by decide +kernel
theorem dX12_runs_123 : decode cX12_runs 123 = .ok (.isub, 1) := by decide +kernel
theorem dX12_runs_124 : decode cX12_runs 124 = .ok (.if_icmp .ne 32, 3) := by decide +kernel
theorem dX12_runs_127 : decode cX12_runs 127 = .ok (.aload_n 0, 1) := by decide +kernel
theorem dX12_runs_128 : decode cX12_runs 128 = .ok (.invokevirtual 30, 3) := by decide +kernel
theorem dX12_runs_131 : decode cX12_runs 131 = .ok (.iload_n 2, 1) := by decide +kernel
theorem dX12_runs_132 : decode cX12_runs 132 = .ok (.iload_n 1, 1) := by decide +kernel
theorem dX12_runs_133 : decode cX12_runs 133 = .ok (.iadd, 1) := by decide +kernel
theorem dX12_runs_134 : decode cX12_runs 134 = .ok (.if_icmp .ne 22, 3) := by decide +kernel
theorem dX12_runs_137 : decode cX12_runs 137 = .ok (.lload 12, 2) := by decide +kernel
theorem dX12_runs_139 : decode cX12_runs 139 = .ok (.lconst 0, 1) := by decide +kernel
theorem dX12_runs_140 : decode cX12_runs 140 = .ok (.lcmp, 1) := by decide +kernel
theorem dX12_runs_141 : decode cX12_runs 141 = .ok (.ifCond .lt 17, 3) := by decide +kernel
theorem dX12_runs_144 : decode cX12_runs 144 = .ok (.aload_n 0, 1) := by decide +kernel
theorem dX12_runs_145 : decode cX12_runs 145 = .ok (.invokevirtual 70, 3) := by decide +kernel
theorem dX12_runs_148 : decode cX12_runs 148 = .ok (.lload_n 3, 1) := by decide +kernel
theorem dX12_runs_149 : decode cX12_runs 149 = .ok (.lsub, 1) := by decide +kernel
theorem dX12_runs_150 : decode cX12_runs 150 = .ok (.lload 12, 2) := by decide +kernel
theorem dX12_runs_152 : decode cX12_runs 152 = .ok (.lcmp, 1) := by decide +kernel
theorem dX12_runs_153 : decode cX12_runs 153 = .ok (.ifCond .eq 5, 3) := by decide +kernel
theorem dX12_runs_156 : decode cX12_runs 156 = .ok (.iconst 0, 1) := by decide +kernel
theorem dX12_runs_157 : decode cX12_runs 157 = .ok (.ireturn, 1) := by decide +kernel
theorem dX12_runs_158 : decode cX12_runs 158 = .ok (.iload 14, 2) := by decide +kernel
theorem dX12_runs_160 : decode cX12_runs 160 = .ok (.iload_n 1, 1) := by decide +kernel
theorem dX12_runs_161 : decode cX12_runs 161 = .ok (.if_icmp .ne 20, 3) := by decide +kernel
theorem dX12_runs_164 : decode cX12_runs 164 = .ok (.aload_n 0, 1) := by decide +kernel
theorem dX12_runs_165 : decode cX12_runs 165 = .ok (.invokevirtual 46, 3) := by decide +kernel
theorem dX12_runs_168 : decode cX12_runs 168 = .ok (.ifCond .ne 7, 3) := by decide +kernel
theorem dX12_runs_171 : decode cX12_runs 171 = .ok (.iconst 1, 1) := by decide +kernel
theorem dX12_runs_172 : decode cX12_runs 172 = .ok (.goto 4, 3) := by decide +kernel
theorem dX12_runs_175 : decode cX12_runs 175 = .ok (.iconst 0, 1) := by decide +kernel
theorem dX12_runs_176 : decode cX12_runs 176 = .ok (.iload 15, 2) := by decide +kernel
theorem dX12_runs_178 : decode cX12_runs 178 = .ok (.if_icmp .eq 41, 3) := by decide +kernel
theorem dX12_runs_181 : decode cX12_runs 181 = .ok (.iload 14, 2) := by decide +kernel
theorem dX12_runs_183 : decode cX12_runs 183 = .ok (.sipush (-9999), 3) := by decide +kernel
theorem dX12_runs_186 : decode cX12_runs 186 = .ok (.if_icmp .eq 9, 3) := by decide +kernel
theorem dX12_runs_189 : decode cX12_runs 189 = .ok (.iload 14, 2) := by decide +kernel
theorem dX12_runs_191 : decode cX12_runs 191 = .ok (.iload_n 1, 1) := by decide +kernel
theorem dX12_runs_192 : decode cX12_runs 192 = .ok (.if_icmp .le 29, 3) := by decide +kernel
theorem dX12_runs_195 : decode cX12_runs 195 = .ok (.iload_n 1, 1) := by decide +kernel
theorem dX12_runs_196 : decode cX12_runs 196 = .ok (.sipush 720, 3) := by decide +kernel
theorem dX12_runs_199 : decode cX12_runs 199 = .ok (.if_icmp .gt 22, 3) := by decide +kernel
theorem dX12_runs_202 : decode cX12_runs 202 = .ok (.aload_n 0, 1) := by decide +kernel
theorem dX12_runs_203 : decode cX12_runs 203 = .ok (.invokevirtual 46, 3) := by decide +kernel
theorem dX12_runs_206 : decode cX12_runs 206 = .ok (.ifCond .ne 7, 3) := by decide +kernel
theorem dX12_runs_209 : decode cX12_runs 209 = .ok (.iconst 1, 1) := by decide +kernel
theorem dX12_runs_210 : decode cX12_runs 210 = .ok (.goto 4, 3) := by decide +kernel
theorem dX12_runs_213 : decode cX12_runs 213 = .ok (.iconst 0, 1) := by decide +kernel
theorem dX12_runs_214 : decode cX12_runs 214 = .ok (.iload 15, 2) := by decide +kernel
theorem dX12_runs_216 : decode cX12_runs 216 = .ok (.if_icmp .eq 5, 3) := by decide +kernel
theorem dX12_runs_219 : decode cX12_runs 219 = .ok (.iconst 0, 1) := by decide +kernel
theorem dX12_runs_220 : decode cX12_runs 220 = .ok (.ireturn, 1) := by decide +kernel
theorem dX12_runs_221 : decode cX12_runs 221 = .ok (.aload_n 0, 1) := by decide +kernel
theorem dX12_runs_222 : decode cX12_runs 222 = .ok (.invokevirtual 76, 3) := by decide +kernel
theorem dX12_runs_225 : decode cX12_runs 225 = .ok (.lload 5, 2) := by decide +kernel
theorem dX12_runs_227 : decode cX12_runs 227 = .ok (.lsub, 1) := by decide +kernel
theorem dX12_runs_228 : decode cX12_runs 228 = .ok (.aload_n 0, 1) := by decide +kernel
theorem dX12_runs_229 : decode cX12_runs 229 = .ok (.invokestatic 79, 3) := by decide +kernel
theorem dX12_runs_232 : decode cX12_runs 232 = .ok (.lload 7, 2) := by decide +kernel
theorem dX12_runs_234 : decode cX12_runs 234 = .ok (.lsub, 1) := by decide +kernel
theorem dX12_runs_235 : decode cX12_runs 235 = .ok (.lcmp, 1) := by decide +kernel
theorem dX12_runs_236 : decode cX12_runs 236 = .ok (.ifCond .ne 29, 3) := by decide +kernel
theorem dX12_runs_239 : decode cX12_runs 239 = .ok (.aload_n 0, 1) := by decide +kernel
theorem dX12_runs_240 : decode cX12_runs 240 = .ok (.invokevirtual 21, 3) := by decide +kernel
theorem dX12_runs_243 : decode cX12_runs 243 = .ok (.aload_n 0, 1) := by decide +kernel
theorem dX12_runs_244 : decode cX12_runs 244 = .ok (.invokevirtual 67, 3) := by decide +kernel
theorem dX12_runs_247 : decode cX12_runs 247 = .ok (.ladd, 1) := by decide +kernel
theorem dX12_runs_248 : decode cX12_runs 248 = .ok (.lload 9, 2) := by decide +kernel
theorem dX12_runs_250 : decode cX12_runs 250 = .ok (.lsub, 1) := by decide +kernel
theorem dX12_runs_251 : decode cX12_runs 251 = .ok (.aload_n 0, 1) := by decide +kernel
theorem dX12_runs_252 : decode cX12_runs 252 = .ok (.iload_n 2, 1) := by decide +kernel
theorem dX12_runs_253 : decode cX12_runs 253 = .ok (.iload_n 1, 1) := by decide +kernel
theorem dX12_runs_254 : decode cX12_runs 254 = .ok (.invokestatic 98, 3) := by decide +kernel
theorem dX12_runs_257 : decode cX12_runs 257 = .ok (.lcmp, 1) := by decide +kernel
theorem dX12_runs_258 : decode cX12_runs 258 = .ok (.ifCond .ne 7, 3) := by decide +kernel
theorem dX12_runs_261 : decode cX12_runs 261 = .ok (.iconst 1, 1) := by decide +kernel
theorem dX12_runs_262 : decode cX12_runs 262 = .ok (.goto 4, 3) := by decide +kernel
theorem dX12_runs_265 : decode cX12_runs 265 = .ok (.iconst 0, 1) := by decide +kernel
theorem dX12_runs_266 : decode cX12_runs 266 = .ok (.ireturn, 1) := by decide +kernel
