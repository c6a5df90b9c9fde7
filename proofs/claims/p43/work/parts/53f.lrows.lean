theorem dX12_law_117 : decode cX12_law 117 = .ok (.istore 7, 2) := by decide +kernel
theorem dX12_law_119 : decode cX12_law 119 = .ok (.aload_n 1, 1) := by decide +kernel
theorem dX12_law_120 : decode cX12_law 120 = .ok (.iload_n 3, 1) := by decide +kernel
theorem dX12_law_121 : decode cX12_law 121 = .ok (.iload 4, 2) := by decide +kernel
theorem dX12_law_123 : decode cX12_law 123 = .ok (.invokestatic 163, 3) := by decide +kernel
theorem dX12_law_126 : decode cX12_law 126 = .ok (.ifCond .eq 25, 3) := by decide +kernel
theorem dX12_law_129 : decode cX12_law 129 = .ok (.aload_n 1, 1) := by decide +kernel
theorem dX12_law_130 : decode cX12_law 130 = .ok (.invokestatic 152, 3) := by decide +kernel
theorem dX12_law_133 : decode cX12_law 133 = .ok (.ifCond .eq 18, 3) := by decide +kernel
theorem dX12_law_136 : decode cX12_law 136 = .ok (.iload 7, 2) := by decide +kernel
theorem dX12_law_138 : decode cX12_law 138 = .ok (.ifCond .eq 15, 3) := by decide +kernel
theorem dX12_law_141 : decode cX12_law 141 = .ok (.aload_n 1, 1) := by decide +kernel
theorem dX12_law_142 : decode cX12_law 142 = .ok (.invokevirtual 160, 3) := by decide +kernel
theorem dX12_law_145 : decode cX12_law 145 = .ok (.lload 5, 2) := by decide +kernel
theorem dX12_law_147 : decode cX12_law 147 = .ok (.lcmp, 1) := by decide +kernel
theorem dX12_law_148 : decode cX12_law 148 = .ok (.ifCond .eq 5, 3) := by decide +kernel
theorem dX12_law_151 : decode cX12_law 151 = .ok (.iconst 0, 1) := by decide +kernel
theorem dX12_law_152 : decode cX12_law 152 = .ok (.ireturn, 1) := by decide +kernel
theorem dX12_law_153 : decode cX12_law 153 = .ok (.aload_n 1, 1) := by decide +kernel
theorem dX12_law_154 : decode cX12_law 154 = .ok (.invokevirtual 160, 3) := by decide +kernel
theorem dX12_law_157 : decode cX12_law 157 = .ok (.lstore 8, 2) := by decide +kernel
theorem dX12_law_159 : decode cX12_law 159 = .ok (.aload_n 1, 1) := by decide +kernel
theorem dX12_law_160 : decode cX12_law 160 = .ok (.iconst 1, 1) := by decide +kernel
theorem dX12_law_161 : decode cX12_law 161 = .ok (.bipush 7, 2) := by decide +kernel
theorem dX12_law_163 : decode cX12_law 163 = .ok (.invokevirtual 133, 3) := by decide +kernel
theorem dX12_law_166 : decode cX12_law 166 = .ok (.istore 10, 2) := by decide +kernel
theorem dX12_law_168 : decode cX12_law 168 = .ok (.aload_n 1, 1) := by decide +kernel
theorem dX12_law_169 : decode cX12_law 169 = .ok (.invokevirtual 139, 3) := by decide +kernel
theorem dX12_law_172 : decode cX12_law 172 = .ok (.istore 11, 2) := by decide +kernel
theorem dX12_law_174 : decode cX12_law 174 = .ok (.iload 11, 2) := by decide +kernel
theorem dX12_law_176 : decode cX12_law 176 = .ok (.iload 10, 2) := by decide +kernel
theorem dX12_law_178 : decode cX12_law 178 = .ok (.iconst 1, 1) := by decide +kernel
theorem dX12_law_179 : decode cX12_law 179 = .ok (.isub, 1) := by decide +kernel
theorem dX12_law_180 : decode cX12_law 180 = .ok (.if_icmp .ne 29, 3) := by decide +kernel
theorem dX12_law_183 : decode cX12_law 183 = .ok (.iload 10, 2) := by decide +kernel
theorem dX12_law_185 : decode cX12_law 185 = .ok (.iconst 4, 1) := by decide +kernel
theorem dX12_law_186 : decode cX12_law 186 = .ok (.if_icmp .ge 13, 3) := by decide +kernel
theorem dX12_law_189 : decode cX12_law 189 = .ok (.aload_n 1, 1) := by decide +kernel
theorem dX12_law_190 : decode cX12_law 190 = .ok (.invokevirtual 160, 3) := by decide +kernel
theorem dX12_law_193 : decode cX12_law 193 = .ok (.lload 8, 2) := by decide +kernel
theorem dX12_law_195 : decode cX12_law 195 = .ok (.lcmp, 1) := by decide +kernel
theorem dX12_law_196 : decode cX12_law 196 = .ok (.ifCond .ne 13, 3) := by decide +kernel
theorem dX12_law_199 : decode cX12_law 199 = .ok (.aload_n 1, 1) := by decide +kernel
theorem dX12_law_200 : decode cX12_law 200 = .ok (.iconst 3, 1) := by decide +kernel
theorem dX12_law_201 : decode cX12_law 201 = .ok (.iconst 0, 1) := by decide +kernel
theorem dX12_law_202 : decode cX12_law 202 = .ok (.invokevirtual 133, 3) := by decide +kernel
theorem dX12_law_205 : decode cX12_law 205 = .ok (.iconst (-1), 1) := by decide +kernel
theorem dX12_law_206 : decode cX12_law 206 = .ok (.if_icmp .eq 5, 3) := by decide +kernel
theorem dX12_law_209 : decode cX12_law 209 = .ok (.iconst 0, 1) := by decide +kernel
theorem dX12_law_210 : decode cX12_law 210 = .ok (.ireturn, 1) := by decide +kernel
theorem dX12_law_211 : decode cX12_law 211 = .ok (.iload 10, 2) := by decide +kernel
theorem dX12_law_213 : decode cX12_law 213 = .ok (.iconst 4, 1) := by decide +kernel
theorem dX12_law_214 : decode cX12_law 214 = .ok (.if_icmp .ne 13, 3) := by decide +kernel
theorem dX12_law_217 : decode cX12_law 217 = .ok (.aload_n 1, 1) := by decide +kernel
theorem dX12_law_218 : decode cX12_law 218 = .ok (.invokevirtual 139, 3) := by decide +kernel
theorem dX12_law_221 : decode cX12_law 221 = .ok (.iconst 2, 1) := by decide +kernel
theorem dX12_law_222 : decode cX12_law 222 = .ok (.if_icmp .eq 5, 3) := by decide +kernel
theorem dX12_law_225 : decode cX12_law 225 = .ok (.iconst 0, 1) := by decide +kernel
theorem dX12_law_226 : decode cX12_law 226 = .ok (.ireturn, 1) := by decide +kernel
theorem dX12_law_227 : decode cX12_law 227 = .ok (.iinc 2 1, 3) := by decide +kernel
theorem dX12_law_230 : decode cX12_law 230 = .ok (.goto (-158), 3) := by decide +kernel
theorem dX12_law_233 : decode cX12_law 233 = .ok (.iconst 1, 1) := by decide +kernel
theorem dX12_law_234 : decode cX12_law 234 = .ok (.ireturn, 1) := by decide +kernel
