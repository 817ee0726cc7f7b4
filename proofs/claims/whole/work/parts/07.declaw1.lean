theorem lw_d_171 : decode code 171 = .ok (.iaload, 1) := by decide +kernel
theorem lw_d_172 : decode code 172 = .ok (.aload_n 0, 1) := by decide +kernel
theorem lw_d_173 : decode code 173 = .ok (.iload_n 3, 1) := by decide +kernel
theorem lw_d_174 : decode code 174 = .ok (.iconst 2, 1) := by decide +kernel
theorem lw_d_175 : decode code 175 = .ok (.iadd, 1) := by decide +kernel
theorem lw_d_176 : decode code 176 = .ok (.iaload, 1) := by decide +kernel
theorem lw_d_177 : decode code 177 = .ok (.invokevirtual 26, 3) := by decide +kernel
theorem lw_d_180 : decode code 180 = .ok (.if_icmp .eq 212, 3) := by decide +kernel
theorem lw_d_183 : decode code 183 = .ok (.iconst 0, 1) := by decide +kernel
theorem lw_d_184 : decode code 184 = .ok (.ireturn, 1) := by decide +kernel
theorem lw_d_185 : decode code 185 = .ok (.aload_n 1, 1) := by decide +kernel
theorem lw_d_186 : decode code 186 = .ok (.aload_n 0, 1) := by decide +kernel
theorem lw_d_187 : decode code 187 = .ok (.iload_n 3, 1) := by decide +kernel
theorem lw_d_188 : decode code 188 = .ok (.iconst 1, 1) := by decide +kernel
theorem lw_d_189 : decode code 189 = .ok (.iadd, 1) := by decide +kernel
theorem lw_d_190 : decode code 190 = .ok (.iaload, 1) := by decide +kernel
theorem lw_d_191 : decode code 191 = .ok (.aload_n 0, 1) := by decide +kernel
theorem lw_d_192 : decode code 192 = .ok (.iload_n 3, 1) := by decide +kernel
theorem lw_d_193 : decode code 193 = .ok (.iconst 2, 1) := by decide +kernel
theorem lw_d_194 : decode code 194 = .ok (.iadd, 1) := by decide +kernel
theorem lw_d_195 : decode code 195 = .ok (.iaload, 1) := by decide +kernel
theorem lw_d_196 : decode code 196 = .ok (.invokevirtual 27, 3) := by decide +kernel
theorem lw_d_199 : decode code 199 = .ok (.aload_n 2, 1) := by decide +kernel
theorem lw_d_200 : decode code 200 = .ok (.aload_n 0, 1) := by decide +kernel
theorem lw_d_201 : decode code 201 = .ok (.iload_n 3, 1) := by decide +kernel
theorem lw_d_202 : decode code 202 = .ok (.iconst 1, 1) := by decide +kernel
theorem lw_d_203 : decode code 203 = .ok (.iadd, 1) := by decide +kernel
theorem lw_d_204 : decode code 204 = .ok (.iaload, 1) := by decide +kernel
theorem lw_d_205 : decode code 205 = .ok (.aload_n 0, 1) := by decide +kernel
theorem lw_d_206 : decode code 206 = .ok (.iload_n 3, 1) := by decide +kernel
theorem lw_d_207 : decode code 207 = .ok (.iconst 2, 1) := by decide +kernel
theorem lw_d_208 : decode code 208 = .ok (.iadd, 1) := by decide +kernel
theorem lw_d_209 : decode code 209 = .ok (.iaload, 1) := by decide +kernel
theorem lw_d_210 : decode code 210 = .ok (.invokevirtual 30, 3) := by decide +kernel
theorem lw_d_213 : decode code 213 = .ok (.if_icmp .eq 179, 3) := by decide +kernel
theorem lw_d_216 : decode code 216 = .ok (.iconst 0, 1) := by decide +kernel
theorem lw_d_217 : decode code 217 = .ok (.ireturn, 1) := by decide +kernel
theorem lw_d_218 : decode code 218 = .ok (.aload_n 1, 1) := by decide +kernel
theorem lw_d_219 : decode code 219 = .ok (.aload_n 0, 1) := by decide +kernel
theorem lw_d_220 : decode code 220 = .ok (.iload_n 3, 1) := by decide +kernel
theorem lw_d_221 : decode code 221 = .ok (.iconst 1, 1) := by decide +kernel
theorem lw_d_222 : decode code 222 = .ok (.iadd, 1) := by decide +kernel
theorem lw_d_223 : decode code 223 = .ok (.iaload, 1) := by decide +kernel
theorem lw_d_224 : decode code 224 = .ok (.invokevirtual 31, 3) := by decide +kernel
theorem lw_d_227 : decode code 227 = .ok (.aload_n 2, 1) := by decide +kernel
theorem lw_d_228 : decode code 228 = .ok (.aload_n 0, 1) := by decide +kernel
theorem lw_d_229 : decode code 229 = .ok (.iload_n 3, 1) := by decide +kernel
theorem lw_d_230 : decode code 230 = .ok (.iconst 1, 1) := by decide +kernel
theorem lw_d_231 : decode code 231 = .ok (.iadd, 1) := by decide +kernel
theorem lw_d_232 : decode code 232 = .ok (.iaload, 1) := by decide +kernel
theorem lw_d_233 : decode code 233 = .ok (.invokevirtual 35, 3) := by decide +kernel
theorem lw_d_236 : decode code 236 = .ok (.if_icmp .eq 156, 3) := by decide +kernel
theorem lw_d_239 : decode code 239 = .ok (.iconst 0, 1) := by decide +kernel
theorem lw_d_240 : decode code 240 = .ok (.ireturn, 1) := by decide +kernel
theorem lw_d_241 : decode code 241 = .ok (.aload_n 1, 1) := by decide +kernel
theorem lw_d_242 : decode code 242 = .ok (.aload_n 0, 1) := by decide +kernel
theorem lw_d_243 : decode code 243 = .ok (.iload_n 3, 1) := by decide +kernel
theorem lw_d_244 : decode code 244 = .ok (.iconst 1, 1) := by decide +kernel
theorem lw_d_245 : decode code 245 = .ok (.iadd, 1) := by decide +kernel
theorem lw_d_246 : decode code 246 = .ok (.iaload, 1) := by decide +kernel
theorem lw_d_247 : decode code 247 = .ok (.invokevirtual 36, 3) := by decide +kernel
theorem lw_d_250 : decode code 250 = .ok (.aload_n 2, 1) := by decide +kernel
theorem lw_d_251 : decode code 251 = .ok (.aload_n 0, 1) := by decide +kernel
theorem lw_d_252 : decode code 252 = .ok (.iload_n 3, 1) := by decide +kernel
theorem lw_d_253 : decode code 253 = .ok (.iconst 1, 1) := by decide +kernel
theorem lw_d_254 : decode code 254 = .ok (.iadd, 1) := by decide +kernel
theorem lw_d_255 : decode code 255 = .ok (.iaload, 1) := by decide +kernel
theorem lw_d_256 : decode code 256 = .ok (.invokevirtual 39, 3) := by decide +kernel
theorem lw_d_259 : decode code 259 = .ok (.if_icmp .eq 133, 3) := by decide +kernel
theorem lw_d_262 : decode code 262 = .ok (.iconst 0, 1) := by decide +kernel
theorem lw_d_263 : decode code 263 = .ok (.ireturn, 1) := by decide +kernel
theorem lw_d_264 : decode code 264 = .ok (.aload_n 1, 1) := by decide +kernel
theorem lw_d_265 : decode code 265 = .ok (.aload_n 0, 1) := by decide +kernel
theorem lw_d_266 : decode code 266 = .ok (.iload_n 3, 1) := by decide +kernel
theorem lw_d_267 : decode code 267 = .ok (.iconst 1, 1) := by decide +kernel
theorem lw_d_268 : decode code 268 = .ok (.iadd, 1) := by decide +kernel
theorem lw_d_269 : decode code 269 = .ok (.iaload, 1) := by decide +kernel
theorem lw_d_270 : decode code 270 = .ok (.invokevirtual 40, 3) := by decide +kernel
theorem lw_d_273 : decode code 273 = .ok (.aload_n 2, 1) := by decide +kernel
theorem lw_d_274 : decode code 274 = .ok (.aload_n 0, 1) := by decide +kernel
theorem lw_d_275 : decode code 275 = .ok (.iload_n 3, 1) := by decide +kernel
theorem lw_d_276 : decode code 276 = .ok (.iconst 1, 1) := by decide +kernel
theorem lw_d_277 : decode code 277 = .ok (.iadd, 1) := by decide +kernel
