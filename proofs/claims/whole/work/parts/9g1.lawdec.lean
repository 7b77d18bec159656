theorem dL_law_183 : decode code 183 = .ok (.land, 1) := by decide +kernel
theorem dL_law_184 : decode code 184 = .ok (.lor, 1) := by decide +kernel
theorem dL_law_185 : decode code 185 = .ok (.invokevirtual 46, 3) := by decide +kernel
theorem dL_law_188 : decode code 188 = .ok (.if_icmp .eq 996, 3) := by decide +kernel
theorem dL_law_191 : decode code 191 = .ok (.iconst 0, 1) := by decide +kernel
theorem dL_law_192 : decode code 192 = .ok (.ireturn, 1) := by decide +kernel
theorem dL_law_193 : decode code 193 = .ok (.aload_n 1, 1) := by decide +kernel
theorem dL_law_194 : decode code 194 = .ok (.aload_n 0, 1) := by decide +kernel
theorem dL_law_195 : decode code 195 = .ok (.iload 4, 2) := by decide +kernel
theorem dL_law_197 : decode code 197 = .ok (.iconst 1, 1) := by decide +kernel
theorem dL_law_198 : decode code 198 = .ok (.iadd, 1) := by decide +kernel
theorem dL_law_199 : decode code 199 = .ok (.iaload, 1) := by decide +kernel
theorem dL_law_200 : decode code 200 = .ok (.i2l, 1) := by decide +kernel
theorem dL_law_201 : decode code 201 = .ok (.bipush 32, 2) := by decide +kernel
theorem dL_law_203 : decode code 203 = .ok (.lshl, 1) := by decide +kernel
theorem dL_law_204 : decode code 204 = .ok (.aload_n 0, 1) := by decide +kernel
theorem dL_law_205 : decode code 205 = .ok (.iload 4, 2) := by decide +kernel
theorem dL_law_207 : decode code 207 = .ok (.iconst 2, 1) := by decide +kernel
theorem dL_law_208 : decode code 208 = .ok (.iadd, 1) := by decide +kernel
theorem dL_law_209 : decode code 209 = .ok (.iaload, 1) := by decide +kernel
theorem dL_law_210 : decode code 210 = .ok (.i2l, 1) := by decide +kernel
theorem dL_law_211 : decode code 211 = .ok (.ldc2_w 40, 3) := by decide +kernel
theorem dL_law_214 : decode code 214 = .ok (.land, 1) := by decide +kernel
theorem dL_law_215 : decode code 215 = .ok (.lor, 1) := by decide +kernel
theorem dL_law_216 : decode code 216 = .ok (.aload_n 0, 1) := by decide +kernel
theorem dL_law_217 : decode code 217 = .ok (.iload 4, 2) := by decide +kernel
theorem dL_law_219 : decode code 219 = .ok (.iconst 3, 1) := by decide +kernel
theorem dL_law_220 : decode code 220 = .ok (.iadd, 1) := by decide +kernel
theorem dL_law_221 : decode code 221 = .ok (.iaload, 1) := by decide +kernel
theorem dL_law_222 : decode code 222 = .ok (.i2l, 1) := by decide +kernel
theorem dL_law_223 : decode code 223 = .ok (.bipush 32, 2) := by decide +kernel
theorem dL_law_225 : decode code 225 = .ok (.lshl, 1) := by decide +kernel
theorem dL_law_226 : decode code 226 = .ok (.aload_n 0, 1) := by decide +kernel
theorem dL_law_227 : decode code 227 = .ok (.iload 4, 2) := by decide +kernel
theorem dL_law_229 : decode code 229 = .ok (.iconst 4, 1) := by decide +kernel
theorem dL_law_230 : decode code 230 = .ok (.iadd, 1) := by decide +kernel
theorem dL_law_231 : decode code 231 = .ok (.iaload, 1) := by decide +kernel
theorem dL_law_232 : decode code 232 = .ok (.i2l, 1) := by decide +kernel
theorem dL_law_233 : decode code 233 = .ok (.ldc2_w 40, 3) := by decide +kernel
theorem dL_law_236 : decode code 236 = .ok (.land, 1) := by decide +kernel
theorem dL_law_237 : decode code 237 = .ok (.lor, 1) := by decide +kernel
theorem dL_law_238 : decode code 238 = .ok (.aload_n 0, 1) := by decide +kernel
theorem dL_law_239 : decode code 239 = .ok (.iload 4, 2) := by decide +kernel
theorem dL_law_241 : decode code 241 = .ok (.iconst 5, 1) := by decide +kernel
theorem dL_law_242 : decode code 242 = .ok (.iadd, 1) := by decide +kernel
theorem dL_law_243 : decode code 243 = .ok (.iaload, 1) := by decide +kernel
theorem dL_law_244 : decode code 244 = .ok (.i2l, 1) := by decide +kernel
theorem dL_law_245 : decode code 245 = .ok (.bipush 32, 2) := by decide +kernel
theorem dL_law_247 : decode code 247 = .ok (.lshl, 1) := by decide +kernel
theorem dL_law_248 : decode code 248 = .ok (.aload_n 0, 1) := by decide +kernel
theorem dL_law_249 : decode code 249 = .ok (.iload 4, 2) := by decide +kernel
theorem dL_law_251 : decode code 251 = .ok (.bipush 6, 2) := by decide +kernel
theorem dL_law_253 : decode code 253 = .ok (.iadd, 1) := by decide +kernel
theorem dL_law_254 : decode code 254 = .ok (.iaload, 1) := by decide +kernel
theorem dL_law_255 : decode code 255 = .ok (.i2l, 1) := by decide +kernel
theorem dL_law_256 : decode code 256 = .ok (.ldc2_w 40, 3) := by decide +kernel
theorem dL_law_259 : decode code 259 = .ok (.land, 1) := by decide +kernel
theorem dL_law_260 : decode code 260 = .ok (.lor, 1) := by decide +kernel
theorem dL_law_261 : decode code 261 = .ok (.aload_n 3, 1) := by decide +kernel
theorem dL_law_262 : decode code 262 = .ok (.invokestatic 47, 3) := by decide +kernel
theorem dL_law_265 : decode code 265 = .ok (.istore 5, 2) := by decide +kernel
theorem dL_law_267 : decode code 267 = .ok (.aload_n 2, 1) := by decide +kernel
theorem dL_law_268 : decode code 268 = .ok (.aload_n 0, 1) := by decide +kernel
theorem dL_law_269 : decode code 269 = .ok (.iload 4, 2) := by decide +kernel
theorem dL_law_271 : decode code 271 = .ok (.iconst 1, 1) := by decide +kernel
theorem dL_law_272 : decode code 272 = .ok (.iadd, 1) := by decide +kernel
theorem dL_law_273 : decode code 273 = .ok (.iaload, 1) := by decide +kernel
theorem dL_law_274 : decode code 274 = .ok (.i2l, 1) := by decide +kernel
theorem dL_law_275 : decode code 275 = .ok (.bipush 32, 2) := by decide +kernel
theorem dL_law_277 : decode code 277 = .ok (.lshl, 1) := by decide +kernel
