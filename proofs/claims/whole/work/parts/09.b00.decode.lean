abbrev ArgC (pc : Nat) (n : Int) : Prop := decode code pc = .ok (.aload_n 0, 1) ∧ decode code (pc + 1) = .ok (.iload_n 3, 1) ∧ decode code (pc + 2) = .ok (.iconst n, 1) ∧ decode code (pc + 3) = .ok (.iadd, 1) ∧ decode code (pc + 4) = .ok (.iaload, 1)
abbrev ArgB (pc : Nat) (n : Int) : Prop := decode code pc = .ok (.aload_n 0, 1) ∧ decode code (pc + 1) = .ok (.iload_n 3, 1) ∧ decode code (pc + 2) = .ok (.bipush n, 2) ∧ decode code (pc + 4) = .ok (.iadd, 1) ∧ decode code (pc + 5) = .ok (.iaload, 1)
theorem dl_0 : decode code 0 = .ok (.new 7, 3) := by decide +kernel
theorem dl_3 : decode code 3 = .ok (.dup, 1) := by decide +kernel
theorem dl_4 : decode code 4 = .ok (.invokespecial 9, 3) := by decide +kernel
theorem dl_7 : decode code 7 = .ok (.astore_n 1, 1) := by decide +kernel
theorem dl_8 : decode code 8 = .ok (.new 10, 3) := by decide +kernel
theorem dl_11 : decode code 11 = .ok (.dup, 1) := by decide +kernel
theorem dl_12 : decode code 12 = .ok (.invokespecial 12, 3) := by decide +kernel
theorem dl_15 : decode code 15 = .ok (.astore_n 2, 1) := by decide +kernel
theorem dl_16 : decode code 16 = .ok (.iconst 0, 1) := by decide +kernel
theorem dl_17 : decode code 17 = .ok (.istore_n 3, 1) := by decide +kernel
theorem dl_18 : decode code 18 = .ok (.iload_n 3, 1) := by decide +kernel
theorem dl_19 : decode code 19 = .ok (.aload_n 0, 1) := by decide +kernel
theorem dl_20 : decode code 20 = .ok (.arraylength, 1) := by decide +kernel
theorem dl_21 : decode code 21 = .ok (.bipush 7, 2) := by decide +kernel
theorem dl_23 : decode code 23 = .ok (.isub, 1) := by decide +kernel
theorem dl_24 : decode code 24 = .ok (.if_icmp .gt 1033, 3) := by decide +kernel
theorem dl_27 : decode code 27 = .ok (.aload_n 0, 1) := by decide +kernel
theorem dl_28 : decode code 28 = .ok (.iload_n 3, 1) := by decide +kernel
theorem dl_29 : decode code 29 = .ok (.iaload, 1) := by decide +kernel
theorem dl_30 : decode code 30 = .ok (.bipush 31, 2) := by decide +kernel
theorem dl_32 : decode code 32 = .ok (.iand, 1) := by decide +kernel
theorem dl_33 : decode code 33 = .ok (.tableswitch 1018 0 26 #[123, 166, 199, 232, 255, 288, 322, 385, 408, 421, 434, 457, 480, 513, 536, 611, 644, 677, 710, 733, 756, 810, 863, 906, 949, 982, 1005], 123) := by decide +kernel
theorem dl_1051 : decode code 1051 = .ok (.iinc 3 7, 3) := by decide +kernel
theorem dl_1054 : decode code 1054 = .ok (.goto (-1036), 3) := by decide +kernel
theorem dl_1057 : decode code 1057 = .ok (.iconst 1, 1) := by decide +kernel
theorem dl_1058 : decode code 1058 = .ok (.ireturn, 1) := by decide +kernel
theorem dl_156 : decode code 156 = .ok (.aload_n 1, 1) := by decide +kernel
theorem ad_157 : ArgC 157 1 := by decide +kernel
theorem ad_162 : ArgC 162 2 := by decide +kernel
theorem ad_167 : ArgC 167 3 := by decide +kernel
theorem dl_172 : decode code 172 = .ok (.invokevirtual 13, 3) := by decide +kernel
theorem dl_175 : decode code 175 = .ok (.aload_n 2, 1) := by decide +kernel
theorem ad_176 : ArgC 176 1 := by decide +kernel
theorem ad_181 : ArgC 181 2 := by decide +kernel
theorem ad_186 : ArgC 186 3 := by decide +kernel
theorem dl_191 : decode code 191 = .ok (.invokevirtual 17, 3) := by decide +kernel
theorem dl_194 : decode code 194 = .ok (.if_icmp .eq 857, 3) := by decide +kernel
theorem dl_199 : decode code 199 = .ok (.aload_n 1, 1) := by decide +kernel
theorem ad_200 : ArgC 200 1 := by decide +kernel
theorem ad_205 : ArgC 205 2 := by decide +kernel
theorem dl_210 : decode code 210 = .ok (.invokevirtual 18, 3) := by decide +kernel
theorem dl_213 : decode code 213 = .ok (.aload_n 2, 1) := by decide +kernel
theorem ad_214 : ArgC 214 1 := by decide +kernel
theorem ad_219 : ArgC 219 2 := by decide +kernel
theorem dl_224 : decode code 224 = .ok (.invokevirtual 22, 3) := by decide +kernel
theorem dl_227 : decode code 227 = .ok (.if_icmp .eq 824, 3) := by decide +kernel
theorem dl_232 : decode code 232 = .ok (.aload_n 1, 1) := by decide +kernel
theorem ad_233 : ArgC 233 1 := by decide +kernel
theorem ad_238 : ArgC 238 2 := by decide +kernel
theorem dl_243 : decode code 243 = .ok (.invokevirtual 23, 3) := by decide +kernel
theorem dl_246 : decode code 246 = .ok (.aload_n 2, 1) := by decide +kernel
theorem ad_247 : ArgC 247 1 := by decide +kernel
theorem ad_252 : ArgC 252 2 := by decide +kernel
theorem dl_257 : decode code 257 = .ok (.invokevirtual 26, 3) := by decide +kernel
theorem dl_260 : decode code 260 = .ok (.if_icmp .eq 791, 3) := by decide +kernel
theorem dl_265 : decode code 265 = .ok (.aload_n 1, 1) := by decide +kernel
theorem ad_266 : ArgC 266 1 := by decide +kernel
theorem dl_271 : decode code 271 = .ok (.invokevirtual 27, 3) := by decide +kernel
theorem dl_274 : decode code 274 = .ok (.aload_n 2, 1) := by decide +kernel
theorem ad_275 : ArgC 275 1 := by decide +kernel
theorem dl_280 : decode code 280 = .ok (.invokevirtual 31, 3) := by decide +kernel
theorem dl_283 : decode code 283 = .ok (.if_icmp .eq 768, 3) := by decide +kernel
theorem dl_288 : decode code 288 = .ok (.aload_n 1, 1) := by decide +kernel
theorem ad_289 : ArgC 289 1 := by decide +kernel
theorem ad_294 : ArgC 294 2 := by decide +kernel
theorem dl_299 : decode code 299 = .ok (.invokevirtual 32, 3) := by decide +kernel
theorem dl_302 : decode code 302 = .ok (.aload_n 2, 1) := by decide +kernel
theorem ad_303 : ArgC 303 1 := by decide +kernel
theorem ad_308 : ArgC 308 2 := by decide +kernel
theorem dl_313 : decode code 313 = .ok (.invokevirtual 35, 3) := by decide +kernel
