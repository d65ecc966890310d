theorem zd_Law_law_166 : decode zc_Law_law 166 = .ok (.iload 4, 2) := by decide +kernel
theorem zd_Law_law_168 : decode zc_Law_law 168 = .ok (.iconst 2, 1) := by decide +kernel
theorem zd_Law_law_169 : decode zc_Law_law 169 = .ok (.iadd, 1) := by decide +kernel
theorem zd_Law_law_170 : decode zc_Law_law 170 = .ok (.iaload, 1) := by decide +kernel
theorem zd_Law_law_171 : decode zc_Law_law 171 = .ok (.i2l, 1) := by decide +kernel
theorem zd_Law_law_172 : decode zc_Law_law 172 = .ok (.ldc2_w 67, 3) := by decide +kernel
theorem zd_Law_law_175 : decode zc_Law_law 175 = .ok (.land, 1) := by decide +kernel
theorem zd_Law_law_176 : decode zc_Law_law 176 = .ok (.lor, 1) := by decide +kernel
theorem zd_Law_law_177 : decode zc_Law_law 177 = .ok (.aload_n 0, 1) := by decide +kernel
theorem zd_Law_law_178 : decode zc_Law_law 178 = .ok (.iload 4, 2) := by decide +kernel
theorem zd_Law_law_180 : decode zc_Law_law 180 = .ok (.iconst 3, 1) := by decide +kernel
theorem zd_Law_law_181 : decode zc_Law_law 181 = .ok (.iadd, 1) := by decide +kernel
theorem zd_Law_law_182 : decode zc_Law_law 182 = .ok (.iaload, 1) := by decide +kernel
theorem zd_Law_law_183 : decode zc_Law_law 183 = .ok (.invokevirtual 74, 3) := by decide +kernel
theorem zd_Law_law_186 : decode zc_Law_law 186 = .ok (.aload_n 2, 1) := by decide +kernel
theorem zd_Law_law_187 : decode zc_Law_law 187 = .ok (.invokevirtual 75, 3) := by decide +kernel
theorem zd_Law_law_190 : decode zc_Law_law 190 = .ok (.iload 5, 2) := by decide +kernel
theorem zd_Law_law_192 : decode zc_Law_law 192 = .ok (.if_icmp .eq 5, 3) := by decide +kernel
theorem zd_Law_law_195 : decode zc_Law_law 195 = .ok (.iconst 0, 1) := by decide +kernel
theorem zd_Law_law_196 : decode zc_Law_law 196 = .ok (.ireturn, 1) := by decide +kernel
theorem zd_Law_law_197 : decode zc_Law_law 197 = .ok (.goto 677, 3) := by decide +kernel
theorem zd_Law_law_200 : decode zc_Law_law 200 = .ok (.aload_n 1, 1) := by decide +kernel
theorem zd_Law_law_201 : decode zc_Law_law 201 = .ok (.aload_n 0, 1) := by decide +kernel
theorem zd_Law_law_202 : decode zc_Law_law 202 = .ok (.iload 4, 2) := by decide +kernel
theorem zd_Law_law_204 : decode zc_Law_law 204 = .ok (.iconst 1, 1) := by decide +kernel
theorem zd_Law_law_205 : decode zc_Law_law 205 = .ok (.iadd, 1) := by decide +kernel
theorem zd_Law_law_206 : decode zc_Law_law 206 = .ok (.iaload, 1) := by decide +kernel
theorem zd_Law_law_207 : decode zc_Law_law 207 = .ok (.aload_n 3, 1) := by decide +kernel
theorem zd_Law_law_208 : decode zc_Law_law 208 = .ok (.invokestatic 78, 3) := by decide +kernel
theorem zd_Law_law_211 : decode zc_Law_law 211 = .ok (.istore 5, 2) := by decide +kernel
theorem zd_Law_law_213 : decode zc_Law_law 213 = .ok (.aload_n 2, 1) := by decide +kernel
theorem zd_Law_law_214 : decode zc_Law_law 214 = .ok (.aload_n 0, 1) := by decide +kernel
theorem zd_Law_law_215 : decode zc_Law_law 215 = .ok (.iload 4, 2) := by decide +kernel
theorem zd_Law_law_217 : decode zc_Law_law 217 = .ok (.iconst 1, 1) := by decide +kernel
theorem zd_Law_law_218 : decode zc_Law_law 218 = .ok (.iadd, 1) := by decide +kernel
theorem zd_Law_law_219 : decode zc_Law_law 219 = .ok (.iaload, 1) := by decide +kernel
theorem zd_Law_law_220 : decode zc_Law_law 220 = .ok (.invokevirtual 81, 3) := by decide +kernel
theorem zd_Law_law_223 : decode zc_Law_law 223 = .ok (.istore 6, 2) := by decide +kernel
theorem zd_Law_law_225 : decode zc_Law_law 225 = .ok (.aload_n 2, 1) := by decide +kernel
theorem zd_Law_law_226 : decode zc_Law_law 226 = .ok (.invokevirtual 75, 3) := by decide +kernel
theorem zd_Law_law_229 : decode zc_Law_law 229 = .ok (.iload 5, 2) := by decide +kernel
theorem zd_Law_law_231 : decode zc_Law_law 231 = .ok (.if_icmp .eq 5, 3) := by decide +kernel
theorem zd_Law_law_234 : decode zc_Law_law 234 = .ok (.iconst 0, 1) := by decide +kernel
theorem zd_Law_law_235 : decode zc_Law_law 235 = .ok (.ireturn, 1) := by decide +kernel
theorem zd_Law_law_236 : decode zc_Law_law 236 = .ok (.iload 5, 2) := by decide +kernel
theorem zd_Law_law_238 : decode zc_Law_law 238 = .ok (.ifCond .ne 15, 3) := by decide +kernel
theorem zd_Law_law_241 : decode zc_Law_law 241 = .ok (.aload_n 3, 1) := by decide +kernel
theorem zd_Law_law_242 : decode zc_Law_law 242 = .ok (.iconst 0, 1) := by decide +kernel
theorem zd_Law_law_243 : decode zc_Law_law 243 = .ok (.laload, 1) := by decide +kernel
theorem zd_Law_law_244 : decode zc_Law_law 244 = .ok (.iload 6, 2) := by decide +kernel
theorem zd_Law_law_246 : decode zc_Law_law 246 = .ok (.i2l, 1) := by decide +kernel
theorem zd_Law_law_247 : decode zc_Law_law 247 = .ok (.lcmp, 1) := by decide +kernel
theorem zd_Law_law_248 : decode zc_Law_law 248 = .ok (.ifCond .eq 5, 3) := by decide +kernel
theorem zd_Law_law_251 : decode zc_Law_law 251 = .ok (.iconst 0, 1) := by decide +kernel
theorem zd_Law_law_252 : decode zc_Law_law 252 = .ok (.ireturn, 1) := by decide +kernel
theorem zd_Law_law_253 : decode zc_Law_law 253 = .ok (.goto 621, 3) := by decide +kernel
theorem zd_Law_law_256 : decode zc_Law_law 256 = .ok (.aload_n 1, 1) := by decide +kernel
theorem zd_Law_law_257 : decode zc_Law_law 257 = .ok (.aload_n 3, 1) := by decide +kernel
theorem zd_Law_law_258 : decode zc_Law_law 258 = .ok (.invokestatic 82, 3) := by decide +kernel
theorem zd_Law_law_261 : decode zc_Law_law 261 = .ok (.istore 5, 2) := by decide +kernel
