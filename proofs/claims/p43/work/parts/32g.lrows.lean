theorem dX12_changes_136 : decode cX12_changes 136 = .ok (.iconst 3, 1) := by decide +kernel
theorem dX12_changes_137 : decode cX12_changes 137 = .ok (.invokestatic 102, 3) := by decide +kernel
theorem dX12_changes_140 : decode cX12_changes 140 = .ok (.if_icmp .ne 7, 3) := by decide +kernel
theorem dX12_changes_143 : decode cX12_changes 143 = .ok (.iconst 1, 1) := by decide +kernel
theorem dX12_changes_144 : decode cX12_changes 144 = .ok (.goto 4, 3) := by decide +kernel
theorem dX12_changes_147 : decode cX12_changes 147 = .ok (.iconst 0, 1) := by decide +kernel
theorem dX12_changes_148 : decode cX12_changes 148 = .ok (.ireturn, 1) := by decide +kernel
theorem dX12_changes_149 : decode cX12_changes 149 = .ok (.iload_n 3, 1) := by decide +kernel
theorem dX12_changes_150 : decode cX12_changes 150 = .ok (.bipush 8, 2) := by decide +kernel
theorem dX12_changes_152 : decode cX12_changes 152 = .ok (.if_icmp .ne 90, 3) := by decide +kernel
theorem dX12_changes_155 : decode cX12_changes 155 = .ok (.iload_n 2, 1) := by decide +kernel
theorem dX12_changes_156 : decode cX12_changes 156 = .ok (.bipush 17, 2) := by decide +kernel
theorem dX12_changes_158 : decode cX12_changes 158 = .ok (.invokestatic 102, 3) := by decide +kernel
theorem dX12_changes_161 : decode cX12_changes 161 = .ok (.istore 5, 2) := by decide +kernel
theorem dX12_changes_163 : decode cX12_changes 163 = .ok (.aload_n 0, 1) := by decide +kernel
theorem dX12_changes_164 : decode cX12_changes 164 = .ok (.iload 5, 2) := by decide +kernel
theorem dX12_changes_166 : decode cX12_changes 166 = .ok (.invokevirtual 49, 3) := by decide +kernel
theorem dX12_changes_169 : decode cX12_changes 169 = .ok (.istore 6, 2) := by decide +kernel
theorem dX12_changes_171 : decode cX12_changes 171 = .ok (.iload_n 2, 1) := by decide +kernel
theorem dX12_changes_172 : decode cX12_changes 172 = .ok (.iconst 5, 1) := by decide +kernel
theorem dX12_changes_173 : decode cX12_changes 173 = .ok (.ishr, 1) := by decide +kernel
theorem dX12_changes_174 : decode cX12_changes 174 = .ok (.sipush 700, 3) := by decide +kernel
theorem dX12_changes_177 : decode cX12_changes 177 = .ok (.invokestatic 102, 3) := by decide +kernel
theorem dX12_changes_180 : decode cX12_changes 180 = .ok (.bipush 40, 2) := by decide +kernel
theorem dX12_changes_182 : decode cX12_changes 182 = .ok (.isub, 1) := by decide +kernel
theorem dX12_changes_183 : decode cX12_changes 183 = .ok (.istore 7, 2) := by decide +kernel
theorem dX12_changes_185 : decode cX12_changes 185 = .ok (.aload_n 0, 1) := by decide +kernel
theorem dX12_changes_186 : decode cX12_changes 186 = .ok (.iload 5, 2) := by decide +kernel
theorem dX12_changes_188 : decode cX12_changes 188 = .ok (.iload 7, 2) := by decide +kernel
theorem dX12_changes_190 : decode cX12_changes 190 = .ok (.invokevirtual 116, 3) := by decide +kernel
theorem dX12_changes_193 : decode cX12_changes 193 = .ok (.istore 8, 2) := by decide +kernel
theorem dX12_changes_195 : decode cX12_changes 195 = .ok (.iload 8, 2) := by decide +kernel
theorem dX12_changes_197 : decode cX12_changes 197 = .ok (.ifCond .le 22, 3) := by decide +kernel
theorem dX12_changes_200 : decode cX12_changes 200 = .ok (.aload_n 0, 1) := by decide +kernel
theorem dX12_changes_201 : decode cX12_changes 201 = .ok (.iload 5, 2) := by decide +kernel
theorem dX12_changes_203 : decode cX12_changes 203 = .ok (.invokevirtual 49, 3) := by decide +kernel
theorem dX12_changes_206 : decode cX12_changes 206 = .ok (.iload 7, 2) := by decide +kernel
theorem dX12_changes_208 : decode cX12_changes 208 = .ok (.if_icmp .ne 7, 3) := by decide +kernel
theorem dX12_changes_211 : decode cX12_changes 211 = .ok (.iconst 1, 1) := by decide +kernel
theorem dX12_changes_212 : decode cX12_changes 212 = .ok (.goto 29, 3) := by decide +kernel
theorem dX12_changes_215 : decode cX12_changes 215 = .ok (.iconst 0, 1) := by decide +kernel
theorem dX12_changes_216 : decode cX12_changes 216 = .ok (.goto 25, 3) := by decide +kernel
theorem dX12_changes_219 : decode cX12_changes 219 = .ok (.iload 8, 2) := by decide +kernel
theorem dX12_changes_221 : decode cX12_changes 221 = .ok (.iconst (-1), 1) := by decide +kernel
theorem dX12_changes_222 : decode cX12_changes 222 = .ok (.if_icmp .ne 18, 3) := by decide +kernel
theorem dX12_changes_225 : decode cX12_changes 225 = .ok (.aload_n 0, 1) := by decide +kernel
theorem dX12_changes_226 : decode cX12_changes 226 = .ok (.iload 5, 2) := by decide +kernel
theorem dX12_changes_228 : decode cX12_changes 228 = .ok (.invokevirtual 49, 3) := by decide +kernel
theorem dX12_changes_231 : decode cX12_changes 231 = .ok (.iload 6, 2) := by decide +kernel
theorem dX12_changes_233 : decode cX12_changes 233 = .ok (.if_icmp .ne 7, 3) := by decide +kernel
theorem dX12_changes_236 : decode cX12_changes 236 = .ok (.iconst 1, 1) := by decide +kernel
theorem dX12_changes_237 : decode cX12_changes 237 = .ok (.goto 4, 3) := by decide +kernel
theorem dX12_changes_240 : decode cX12_changes 240 = .ok (.iconst 0, 1) := by decide +kernel
theorem dX12_changes_241 : decode cX12_changes 241 = .ok (.ireturn, 1) := by decide +kernel
theorem dX12_changes_242 : decode cX12_changes 242 = .ok (.iload_n 3, 1) := by decide +kernel
theorem dX12_changes_243 : decode cX12_changes 243 = .ok (.bipush 9, 2) := by decide +kernel
theorem dX12_changes_245 : decode cX12_changes 245 = .ok (.if_icmp .ne 82, 3) := by decide +kernel
theorem dX12_changes_248 : decode cX12_changes 248 = .ok (.iload_n 2, 1) := by decide +kernel
theorem dX12_changes_249 : decode cX12_changes 249 = .ok (.iconst 4, 1) := by decide +kernel
theorem dX12_changes_250 : decode cX12_changes 250 = .ok (.ishr, 1) := by decide +kernel
theorem dX12_changes_251 : decode cX12_changes 251 = .ok (.sipush 701, 3) := by decide +kernel
theorem dX12_changes_254 : decode cX12_changes 254 = .ok (.invokestatic 102, 3) := by decide +kernel
theorem dX12_changes_257 : decode cX12_changes 257 = .ok (.istore 5, 2) := by decide +kernel
theorem dX12_changes_259 : decode cX12_changes 259 = .ok (.bipush 100, 2) := by decide +kernel
theorem dX12_changes_261 : decode cX12_changes 261 = .ok (.iload_n 2, 1) := by decide +kernel
theorem dX12_changes_262 : decode cX12_changes 262 = .ok (.sipush 4901, 3) := by decide +kernel
theorem dX12_changes_265 : decode cX12_changes 265 = .ok (.invokestatic 102, 3) := by decide +kernel
theorem dX12_changes_268 : decode cX12_changes 268 = .ok (.iadd, 1) := by decide +kernel
theorem dX12_changes_269 : decode cX12_changes 269 = .ok (.istore 6, 2) := by decide +kernel
theorem dX12_changes_271 : decode cX12_changes 271 = .ok (.aload_n 0, 1) := by decide +kernel
theorem dX12_changes_272 : decode cX12_changes 272 = .ok (.iload 6, 2) := by decide +kernel
theorem dX12_changes_274 : decode cX12_changes 274 = .ok (.iload 5, 2) := by decide +kernel
theorem dX12_changes_276 : decode cX12_changes 276 = .ok (.invokevirtual 119, 3) := by decide +kernel
theorem dX12_changes_279 : decode cX12_changes 279 = .ok (.ifCond .le 46, 3) := by decide +kernel
theorem dX12_changes_282 : decode cX12_changes 282 = .ok (.aload_n 0, 1) := by decide +kernel
