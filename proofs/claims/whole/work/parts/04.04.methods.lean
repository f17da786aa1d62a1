theorem dX10_isLeaf_0 : decode cX10_isLeaf 0 = .ok (.aload_n 0, 1) := by decide +kernel
theorem dX10_isLeaf_1 : decode cX10_isLeaf 1 = .ok (.getfield 20, 3) := by decide +kernel
theorem dX10_isLeaf_4 : decode cX10_isLeaf 4 = .ok (.iload_n 1, 1) := by decide +kernel
theorem dX10_isLeaf_5 : decode cX10_isLeaf 5 = .ok (.iaload, 1) := by decide +kernel
theorem dX10_isLeaf_6 : decode cX10_isLeaf 6 = .ok (.ifCond .le 7, 3) := by decide +kernel
theorem dX10_isLeaf_9 : decode cX10_isLeaf 9 = .ok (.iconst 1, 1) := by decide +kernel
theorem dX10_isLeaf_10 : decode cX10_isLeaf 10 = .ok (.goto 4, 3) := by decide +kernel
theorem dX10_isLeaf_13 : decode cX10_isLeaf 13 = .ok (.iconst 0, 1) := by decide +kernel
theorem dX10_isLeaf_14 : decode cX10_isLeaf 14 = .ok (.ireturn, 1) := by decide +kernel
def rmX10_isLeaf : Room := { frames := 0, cells := 0, slots := 0, locals := 0 }
def fX10_isLeaf  (a0 : Nat) (xp0 : Int32) (h0 : PH) : Option (Int32 × PH) :=
    bn (rdR 10 7 a0 h0) fun a1 =>
    bn (aldI 0 a1 xp0 h0) fun x2 =>
    if x2 ≤ 0 then (some ((0 : Int32), h0)) else
    some ((1 : Int32), h0)
set_option maxHeartbeats 4000000 in
set_option maxRecDepth 100000 in
theorem vfX10_isLeaf {p : Program} {l : Launch} {e : Env} {s : State} {m : MethodId} {args : Array Value} {below : List Frame} {meth : Method} {c : Code} {G : GX} (C : Cx p s m args meth c G cX10_isLeaf 2 RX10) (hr : meth.sig.returnType = (some .boolean)) (a0 : Nat) (xp0 : Int32) (h0 : PH) : J p l e rmX10_isLeaf s m args below meth c G 2 (qM below args s rvI G 0 0) 0 0 h0 0 [(0, .ref a0), (1, .int xp0)] [] (fX10_isLeaf  a0 xp0 h0) := by
  unfold fX10_isLeaf
  refine J_aload_n (pc := 0) C dX10_isLeaf_0 rfl 0 rfl ?_
  refine J_getR (pc := 1) C flX10_20 dX10_isLeaf_1 (fun a1 => ?_)
  refine J_iload_n (pc := 4) C dX10_isLeaf_4 rfl 1 rfl ?_
  refine J_iald (pc := 5) C dX10_isLeaf_5 (fun x2 => ?_)
  refine J_if_le (pc := 6) (tgt := 13) C dX10_isLeaf_6 (by decide) ?_ ?_
  · refine J_iconst (pc := 13) (v := 0) C dX10_isLeaf_13 (by decide) ?_
    exact J_zret (pc := 14) C hr rfl dX10_isLeaf_14
  · refine J_iconst (pc := 9) (v := 1) C dX10_isLeaf_9 (by decide) ?_
    refine J_goto (pc := 10) (tgt := 14) C dX10_isLeaf_10 (by decide) ?_
    exact J_zret (pc := 14) C hr rfl dX10_isLeaf_14
theorem mX10_isLeaf {l : Launch} {G : GX} (a0 : Nat) (xp0 : Int32) (h0 : PH) : ∀ z, fX10_isLeaf a0 xp0 h0 = some z → MC l G yX10_isLeaf cX10_isLeaf 2 (some .boolean) rmX10_isLeaf [.ref a0, .int xp0] h0 (rvI z.1) z.2 :=
  Met_J (own := RX10) (by decide) rfl (Nat.le_of_ble_eq_true rfl) (fun p e s m args below meth c C hr hn => vfX10_isLeaf C hr a0 xp0 h0)

theorem dX10_cut_0 : decode cX10_cut 0 = .ok (.aload_n 0, 1) := by decide +kernel
theorem dX10_cut_1 : decode cX10_cut 1 = .ok (.iconst 0, 1) := by decide +kernel
theorem dX10_cut_2 : decode cX10_cut 2 = .ok (.putfield 90, 3) := by decide +kernel
theorem dX10_cut_5 : decode cX10_cut 5 = .ok (.iload_n 2, 1) := by decide +kernel
theorem dX10_cut_6 : decode cX10_cut 6 = .ok (.iconst 1, 1) := by decide +kernel
theorem dX10_cut_7 : decode cX10_cut 7 = .ok (.if_icmp .ge 9, 3) := by decide +kernel
theorem dX10_cut_10 : decode cX10_cut 10 = .ok (.aload_n 0, 1) := by decide +kernel
theorem dX10_cut_11 : decode cX10_cut 11 = .ok (.iconst (-1), 1) := by decide +kernel
theorem dX10_cut_12 : decode cX10_cut 12 = .ok (.invokevirtual 107, 3) := by decide +kernel
theorem dX10_cut_15 : decode cX10_cut 15 = .ok (.ireturn, 1) := by decide +kernel
theorem dX10_cut_16 : decode cX10_cut 16 = .ok (.aload_n 0, 1) := by decide +kernel
theorem dX10_cut_17 : decode cX10_cut 17 = .ok (.iload_n 1, 1) := by decide +kernel
theorem dX10_cut_18 : decode cX10_cut 18 = .ok (.invokevirtual 117, 3) := by decide +kernel
theorem dX10_cut_21 : decode cX10_cut 21 = .ok (.ifCond .ne 10, 3) := by decide +kernel
theorem dX10_cut_24 : decode cX10_cut 24 = .ok (.aload_n 0, 1) := by decide +kernel
theorem dX10_cut_25 : decode cX10_cut 25 = .ok (.bipush (-2), 2) := by decide +kernel
theorem dX10_cut_27 : decode cX10_cut 27 = .ok (.invokevirtual 107, 3) := by decide +kernel
theorem dX10_cut_30 : decode cX10_cut 30 = .ok (.ireturn, 1) := by decide +kernel
theorem dX10_cut_31 : decode cX10_cut 31 = .ok (.aload_n 0, 1) := by decide +kernel
theorem dX10_cut_32 : decode cX10_cut 32 = .ok (.iload_n 1, 1) := by decide +kernel
theorem dX10_cut_33 : decode cX10_cut 33 = .ok (.invokevirtual 121, 3) := by decide +kernel
theorem dX10_cut_36 : decode cX10_cut 36 = .ok (.istore_n 3, 1) := by decide +kernel
theorem dX10_cut_37 : decode cX10_cut 37 = .ok (.iload_n 2, 1) := by decide +kernel
theorem dX10_cut_38 : decode cX10_cut 38 = .ok (.iload_n 3, 1) := by decide +kernel
theorem dX10_cut_39 : decode cX10_cut 39 = .ok (.if_icmp .ge 11, 3) := by decide +kernel
theorem dX10_cut_42 : decode cX10_cut 42 = .ok (.aload_n 0, 1) := by decide +kernel
theorem dX10_cut_43 : decode cX10_cut 43 = .ok (.iload_n 1, 1) := by decide +kernel
theorem dX10_cut_44 : decode cX10_cut 44 = .ok (.invokevirtual 124, 3) := by decide +kernel
theorem dX10_cut_47 : decode cX10_cut 47 = .ok (.ifCond .eq 10, 3) := by decide +kernel
theorem dX10_cut_50 : decode cX10_cut 50 = .ok (.aload_n 0, 1) := by decide +kernel
theorem dX10_cut_51 : decode cX10_cut 51 = .ok (.bipush (-3), 2) := by decide +kernel
theorem dX10_cut_53 : decode cX10_cut 53 = .ok (.invokevirtual 107, 3) := by decide +kernel
theorem dX10_cut_56 : decode cX10_cut 56 = .ok (.ireturn, 1) := by decide +kernel
theorem dX10_cut_57 : decode cX10_cut 57 = .ok (.aload_n 0, 1) := by decide +kernel
theorem dX10_cut_58 : decode cX10_cut 58 = .ok (.getfield 96, 3) := by decide +kernel
theorem dX10_cut_61 : decode cX10_cut 61 = .ok (.bipush 120, 2) := by decide +kernel
theorem dX10_cut_63 : decode cX10_cut 63 = .ok (.if_icmp .ne 10, 3) := by decide +kernel
theorem dX10_cut_66 : decode cX10_cut 66 = .ok (.aload_n 0, 1) := by decide +kernel
theorem dX10_cut_67 : decode cX10_cut 67 = .ok (.bipush (-5), 2) := by decide +kernel
theorem dX10_cut_69 : decode cX10_cut 69 = .ok (.invokevirtual 107, 3) := by decide +kernel
theorem dX10_cut_72 : decode cX10_cut 72 = .ok (.ireturn, 1) := by decide +kernel
theorem dX10_cut_73 : decode cX10_cut 73 = .ok (.aload_n 0, 1) := by decide +kernel
theorem dX10_cut_74 : decode cX10_cut 74 = .ok (.invokevirtual 114, 3) := by decide +kernel
theorem dX10_cut_77 : decode cX10_cut 77 = .ok (.aload_n 0, 1) := by decide +kernel
theorem dX10_cut_78 : decode cX10_cut 78 = .ok (.getfield 96, 3) := by decide +kernel
theorem dX10_cut_81 : decode cX10_cut 81 = .ok (.iconst 1, 1) := by decide +kernel
theorem dX10_cut_82 : decode cX10_cut 82 = .ok (.isub, 1) := by decide +kernel
theorem dX10_cut_83 : decode cX10_cut 83 = .ok (.istore 4, 2) := by decide +kernel
theorem dX10_cut_85 : decode cX10_cut 85 = .ok (.iload_n 2, 1) := by decide +kernel
theorem dX10_cut_86 : decode cX10_cut 86 = .ok (.i2l, 1) := by decide +kernel
theorem dX10_cut_87 : decode cX10_cut 87 = .ok (.lstore 5, 2) := by decide +kernel
theorem dX10_cut_89 : decode cX10_cut 89 = .ok (.iconst 0, 1) := by decide +kernel
theorem dX10_cut_90 : decode cX10_cut 90 = .ok (.istore 7, 2) := by decide +kernel
theorem dX10_cut_92 : decode cX10_cut 92 = .ok (.iload 7, 2) := by decide +kernel
theorem dX10_cut_94 : decode cX10_cut 94 = .ok (.bipush 10, 2) := by decide +kernel
theorem dX10_cut_96 : decode cX10_cut 96 = .ok (.if_icmp .ge 33, 3) := by decide +kernel
theorem dX10_cut_99 : decode cX10_cut 99 = .ok (.lload 5, 2) := by decide +kernel
theorem dX10_cut_101 : decode cX10_cut 101 = .ok (.aload_n 0, 1) := by decide +kernel
theorem dX10_cut_102 : decode cX10_cut 102 = .ok (.getfield 17, 3) := by decide +kernel
theorem dX10_cut_105 : decode cX10_cut 105 = .ok (.bipush 10, 2) := by decide +kernel
theorem dX10_cut_107 : decode cX10_cut 107 = .ok (.iload_n 1, 1) := by decide +kernel
theorem dX10_cut_108 : decode cX10_cut 108 = .ok (.imul, 1) := by decide +kernel
theorem dX10_cut_109 : decode cX10_cut 109 = .ok (.iload 7, 2) := by decide +kernel
theorem dX10_cut_111 : decode cX10_cut 111 = .ok (.iadd, 1) := by decide +kernel
theorem dX10_cut_112 : decode cX10_cut 112 = .ok (.iaload, 1) := by decide +kernel
theorem dX10_cut_113 : decode cX10_cut 113 = .ok (.i2l, 1) := by decide +kernel
theorem dX10_cut_114 : decode cX10_cut 114 = .ok (.iload_n 2, 1) := by decide +kernel
theorem dX10_cut_115 : decode cX10_cut 115 = .ok (.i2l, 1) := by decide +kernel
theorem dX10_cut_116 : decode cX10_cut 116 = .ok (.lmul, 1) := by decide +kernel
theorem dX10_cut_117 : decode cX10_cut 117 = .ok (.iload_n 3, 1) := by decide +kernel
theorem dX10_cut_118 : decode cX10_cut 118 = .ok (.i2l, 1) := by decide +kernel
theorem dX10_cut_119 : decode cX10_cut 119 = .ok (.ldiv, 1) := by decide +kernel
theorem dX10_cut_120 : decode cX10_cut 120 = .ok (.lsub, 1) := by decide +kernel
theorem dX10_cut_121 : decode cX10_cut 121 = .ok (.lstore 5, 2) := by decide +kernel
theorem dX10_cut_123 : decode cX10_cut 123 = .ok (.iinc 7 1, 3) := by decide +kernel
theorem dX10_cut_126 : decode cX10_cut 126 = .ok (.goto (-34), 3) := by decide +kernel
theorem dX10_cut_129 : decode cX10_cut 129 = .ok (.iconst 0, 1) := by decide +kernel
theorem dX10_cut_130 : decode cX10_cut 130 = .ok (.istore 7, 2) := by decide +kernel
theorem dX10_cut_132 : decode cX10_cut 132 = .ok (.iload 7, 2) := by decide +kernel
theorem dX10_cut_134 : decode cX10_cut 134 = .ok (.bipush 10, 2) := by decide +kernel
theorem dX10_cut_136 : decode cX10_cut 136 = .ok (.if_icmp .ge 143, 3) := by decide +kernel
theorem dX10_cut_139 : decode cX10_cut 139 = .ok (.aload_n 0, 1) := by decide +kernel
theorem dX10_cut_140 : decode cX10_cut 140 = .ok (.getfield 17, 3) := by decide +kernel
theorem dX10_cut_143 : decode cX10_cut 143 = .ok (.bipush 10, 2) := by decide +kernel
theorem dX10_cut_145 : decode cX10_cut 145 = .ok (.iload_n 1, 1) := by decide +kernel
theorem dX10_cut_146 : decode cX10_cut 146 = .ok (.imul, 1) := by decide +kernel
theorem dX10_cut_147 : decode cX10_cut 147 = .ok (.iload 7, 2) := by decide +kernel
theorem dX10_cut_149 : decode cX10_cut 149 = .ok (.iadd, 1) := by decide +kernel
theorem dX10_cut_150 : decode cX10_cut 150 = .ok (.iaload, 1) := by decide +kernel
theorem dX10_cut_151 : decode cX10_cut 151 = .ok (.i2l, 1) := by decide +kernel
theorem dX10_cut_152 : decode cX10_cut 152 = .ok (.iload_n 2, 1) := by decide +kernel
theorem dX10_cut_153 : decode cX10_cut 153 = .ok (.i2l, 1) := by decide +kernel
theorem dX10_cut_154 : decode cX10_cut 154 = .ok (.lmul, 1) := by decide +kernel
theorem dX10_cut_155 : decode cX10_cut 155 = .ok (.lstore 8, 2) := by decide +kernel
theorem dX10_cut_157 : decode cX10_cut 157 = .ok (.iconst 0, 1) := by decide +kernel
theorem dX10_cut_158 : decode cX10_cut 158 = .ok (.istore 10, 2) := by decide +kernel
theorem dX10_cut_160 : decode cX10_cut 160 = .ok (.iconst 0, 1) := by decide +kernel
theorem dX10_cut_161 : decode cX10_cut 161 = .ok (.istore 11, 2) := by decide +kernel
theorem dX10_cut_163 : decode cX10_cut 163 = .ok (.iload 11, 2) := by decide +kernel
theorem dX10_cut_165 : decode cX10_cut 165 = .ok (.bipush 10, 2) := by decide +kernel
theorem dX10_cut_167 : decode cX10_cut 167 = .ok (.if_icmp .ge 72, 3) := by decide +kernel
theorem dX10_cut_170 : decode cX10_cut 170 = .ok (.aload_n 0, 1) := by decide +kernel
theorem dX10_cut_171 : decode cX10_cut 171 = .ok (.getfield 17, 3) := by decide +kernel
theorem dX10_cut_174 : decode cX10_cut 174 = .ok (.bipush 10, 2) := by decide +kernel
theorem dX10_cut_176 : decode cX10_cut 176 = .ok (.iload_n 1, 1) := by decide +kernel
theorem dX10_cut_177 : decode cX10_cut 177 = .ok (.imul, 1) := by decide +kernel
theorem dX10_cut_178 : decode cX10_cut 178 = .ok (.iload 11, 2) := by decide +kernel
theorem dX10_cut_180 : decode cX10_cut 180 = .ok (.iadd, 1) := by decide +kernel
theorem dX10_cut_181 : decode cX10_cut 181 = .ok (.iaload, 1) := by decide +kernel
theorem dX10_cut_182 : decode cX10_cut 182 = .ok (.i2l, 1) := by decide +kernel
theorem dX10_cut_183 : decode cX10_cut 183 = .ok (.iload_n 2, 1) := by decide +kernel
theorem dX10_cut_184 : decode cX10_cut 184 = .ok (.i2l, 1) := by decide +kernel
theorem dX10_cut_185 : decode cX10_cut 185 = .ok (.lmul, 1) := by decide +kernel
theorem dX10_cut_186 : decode cX10_cut 186 = .ok (.lstore 12, 2) := by decide +kernel
theorem dX10_cut_188 : decode cX10_cut 188 = .ok (.iload 10, 2) := by decide +kernel
theorem dX10_cut_190 : decode cX10_cut 190 = .ok (.lload 12, 2) := by decide +kernel
theorem dX10_cut_192 : decode cX10_cut 192 = .ok (.iload_n 3, 1) := by decide +kernel
theorem dX10_cut_193 : decode cX10_cut 193 = .ok (.i2l, 1) := by decide +kernel
theorem dX10_cut_194 : decode cX10_cut 194 = .ok (.lrem, 1) := by decide +kernel
theorem dX10_cut_195 : decode cX10_cut 195 = .ok (.lload 8, 2) := by decide +kernel
theorem dX10_cut_197 : decode cX10_cut 197 = .ok (.iload_n 3, 1) := by decide +kernel
theorem dX10_cut_198 : decode cX10_cut 198 = .ok (.i2l, 1) := by decide +kernel
theorem dX10_cut_199 : decode cX10_cut 199 = .ok (.lrem, 1) := by decide +kernel
theorem dX10_cut_200 : decode cX10_cut 200 = .ok (.lcmp, 1) := by decide +kernel
theorem dX10_cut_201 : decode cX10_cut 201 = .ok (.ifCond .gt 24, 3) := by decide +kernel
theorem dX10_cut_204 : decode cX10_cut 204 = .ok (.lload 12, 2) := by decide +kernel
theorem dX10_cut_206 : decode cX10_cut 206 = .ok (.iload_n 3, 1) := by decide +kernel
theorem dX10_cut_207 : decode cX10_cut 207 = .ok (.i2l, 1) := by decide +kernel
theorem dX10_cut_208 : decode cX10_cut 208 = .ok (.lrem, 1) := by decide +kernel
theorem dX10_cut_209 : decode cX10_cut 209 = .ok (.lload 8, 2) := by decide +kernel
theorem dX10_cut_211 : decode cX10_cut 211 = .ok (.iload_n 3, 1) := by decide +kernel
theorem dX10_cut_212 : decode cX10_cut 212 = .ok (.i2l, 1) := by decide +kernel
theorem dX10_cut_213 : decode cX10_cut 213 = .ok (.lrem, 1) := by decide +kernel
theorem dX10_cut_214 : decode cX10_cut 214 = .ok (.lcmp, 1) := by decide +kernel
theorem dX10_cut_215 : decode cX10_cut 215 = .ok (.ifCond .ne 14, 3) := by decide +kernel
theorem dX10_cut_218 : decode cX10_cut 218 = .ok (.iload 11, 2) := by decide +kernel
theorem dX10_cut_220 : decode cX10_cut 220 = .ok (.iload 7, 2) := by decide +kernel
theorem dX10_cut_222 : decode cX10_cut 222 = .ok (.if_icmp .ge 7, 3) := by decide +kernel
theorem dX10_cut_225 : decode cX10_cut 225 = .ok (.iconst 1, 1) := by decide +kernel
theorem dX10_cut_226 : decode cX10_cut 226 = .ok (.goto 4, 3) := by decide +kernel
theorem dX10_cut_229 : decode cX10_cut 229 = .ok (.iconst 0, 1) := by decide +kernel
theorem dX10_cut_230 : decode cX10_cut 230 = .ok (.iadd, 1) := by decide +kernel
theorem dX10_cut_231 : decode cX10_cut 231 = .ok (.istore 10, 2) := by decide +kernel
theorem dX10_cut_233 : decode cX10_cut 233 = .ok (.iinc 11 1, 3) := by decide +kernel
theorem dX10_cut_236 : decode cX10_cut 236 = .ok (.goto (-73), 3) := by decide +kernel
theorem dX10_cut_239 : decode cX10_cut 239 = .ok (.aload_n 0, 1) := by decide +kernel
theorem dX10_cut_240 : decode cX10_cut 240 = .ok (.getfield 17, 3) := by decide +kernel
theorem dX10_cut_243 : decode cX10_cut 243 = .ok (.bipush 10, 2) := by decide +kernel
theorem dX10_cut_245 : decode cX10_cut 245 = .ok (.iload 4, 2) := by decide +kernel
theorem dX10_cut_247 : decode cX10_cut 247 = .ok (.imul, 1) := by decide +kernel
theorem dX10_cut_248 : decode cX10_cut 248 = .ok (.iload 7, 2) := by decide +kernel
theorem dX10_cut_250 : decode cX10_cut 250 = .ok (.iadd, 1) := by decide +kernel
theorem dX10_cut_251 : decode cX10_cut 251 = .ok (.lload 8, 2) := by decide +kernel
theorem dX10_cut_253 : decode cX10_cut 253 = .ok (.iload_n 3, 1) := by decide +kernel
theorem dX10_cut_254 : decode cX10_cut 254 = .ok (.i2l, 1) := by decide +kernel
theorem dX10_cut_255 : decode cX10_cut 255 = .ok (.ldiv, 1) := by decide +kernel
theorem dX10_cut_256 : decode cX10_cut 256 = .ok (.l2i, 1) := by decide +kernel
theorem dX10_cut_257 : decode cX10_cut 257 = .ok (.iload 10, 2) := by decide +kernel
theorem dX10_cut_259 : decode cX10_cut 259 = .ok (.i2l, 1) := by decide +kernel
theorem dX10_cut_260 : decode cX10_cut 260 = .ok (.lload 5, 2) := by decide +kernel
theorem dX10_cut_262 : decode cX10_cut 262 = .ok (.lcmp, 1) := by decide +kernel
theorem dX10_cut_263 : decode cX10_cut 263 = .ok (.ifCond .ge 7, 3) := by decide +kernel
theorem dX10_cut_266 : decode cX10_cut 266 = .ok (.iconst 1, 1) := by decide +kernel
theorem dX10_cut_267 : decode cX10_cut 267 = .ok (.goto 4, 3) := by decide +kernel
theorem dX10_cut_270 : decode cX10_cut 270 = .ok (.iconst 0, 1) := by decide +kernel
theorem dX10_cut_271 : decode cX10_cut 271 = .ok (.iadd, 1) := by decide +kernel
theorem dX10_cut_272 : decode cX10_cut 272 = .ok (.iastore, 1) := by decide +kernel
theorem dX10_cut_273 : decode cX10_cut 273 = .ok (.iinc 7 1, 3) := by decide +kernel
theorem dX10_cut_276 : decode cX10_cut 276 = .ok (.goto (-144), 3) := by decide +kernel
theorem dX10_cut_279 : decode cX10_cut 279 = .ok (.iconst 0, 1) := by decide +kernel
theorem dX10_cut_280 : decode cX10_cut 280 = .ok (.istore 7, 2) := by decide +kernel
theorem dX10_cut_282 : decode cX10_cut 282 = .ok (.iload 7, 2) := by decide +kernel
theorem dX10_cut_284 : decode cX10_cut 284 = .ok (.bipush 10, 2) := by decide +kernel
theorem dX10_cut_286 : decode cX10_cut 286 = .ok (.if_icmp .ge 37, 3) := by decide +kernel
theorem dX10_cut_289 : decode cX10_cut 289 = .ok (.aload_n 0, 1) := by decide +kernel
theorem dX10_cut_290 : decode cX10_cut 290 = .ok (.getfield 17, 3) := by decide +kernel
theorem dX10_cut_293 : decode cX10_cut 293 = .ok (.bipush 10, 2) := by decide +kernel
theorem dX10_cut_295 : decode cX10_cut 295 = .ok (.iload_n 1, 1) := by decide +kernel
theorem dX10_cut_296 : decode cX10_cut 296 = .ok (.imul, 1) := by decide +kernel
theorem dX10_cut_297 : decode cX10_cut 297 = .ok (.iload 7, 2) := by decide +kernel
theorem dX10_cut_299 : decode cX10_cut 299 = .ok (.iadd, 1) := by decide +kernel
theorem dX10_cut_300 : decode cX10_cut 300 = .ok (.dup2, 1) := by decide +kernel
theorem dX10_cut_301 : decode cX10_cut 301 = .ok (.iaload, 1) := by decide +kernel
theorem dX10_cut_302 : decode cX10_cut 302 = .ok (.aload_n 0, 1) := by decide +kernel
theorem dX10_cut_303 : decode cX10_cut 303 = .ok (.getfield 17, 3) := by decide +kernel
theorem dX10_cut_306 : decode cX10_cut 306 = .ok (.bipush 10, 2) := by decide +kernel
theorem dX10_cut_308 : decode cX10_cut 308 = .ok (.iload 4, 2) := by decide +kernel
theorem dX10_cut_310 : decode cX10_cut 310 = .ok (.imul, 1) := by decide +kernel
theorem dX10_cut_311 : decode cX10_cut 311 = .ok (.iload 7, 2) := by decide +kernel
theorem dX10_cut_313 : decode cX10_cut 313 = .ok (.iadd, 1) := by decide +kernel
theorem dX10_cut_314 : decode cX10_cut 314 = .ok (.iaload, 1) := by decide +kernel
theorem dX10_cut_315 : decode cX10_cut 315 = .ok (.isub, 1) := by decide +kernel
theorem dX10_cut_316 : decode cX10_cut 316 = .ok (.iastore, 1) := by decide +kernel
theorem dX10_cut_317 : decode cX10_cut 317 = .ok (.iinc 7 1, 3) := by decide +kernel
theorem dX10_cut_320 : decode cX10_cut 320 = .ok (.goto (-38), 3) := by decide +kernel
theorem dX10_cut_323 : decode cX10_cut 323 = .ok (.aload_n 0, 1) := by decide +kernel
theorem dX10_cut_324 : decode cX10_cut 324 = .ok (.iload 4, 2) := by decide +kernel
theorem dX10_cut_326 : decode cX10_cut 326 = .ok (.invokevirtual 107, 3) := by decide +kernel
theorem dX10_cut_329 : decode cX10_cut 329 = .ok (.ireturn, 1) := by decide +kernel
def rmX10_cut : Room := { frames := 2, cells := 0, slots := 0, locals := 46 }
def fX10_cut_282  : Nat → Nat → Int32 → Int32 → Int32 → PH → Option (Int32 × PH)
  | 0, _, _, _, _, _ => none
  | n + 1, al0, xl1, xl4, xl7, h0 =>
    if (10 : Int32) ≤ xl7 then (bn (chk 10 al0 h0) fun _ => bn2 (fX10_told al0 xl4 h0) fun x15 h14 =>
    some (x15, h14)) else
    bn (rdR 10 6 al0 h0) fun a16 =>
    bn (aldI 0 a16 (((10 : Int32) * xl1) + xl7) h0) fun x17 =>
    bn (rdR 10 6 al0 h0) fun a18 =>
    bn (aldI 0 a18 (((10 : Int32) * xl4) + xl7) h0) fun x19 =>
    bn (astI a16 (((10 : Int32) * xl1) + xl7) (x17 - x19) h0) fun h20 =>
    (fX10_cut_282 n) al0 xl1 xl4 (xl7 + 1) h20
set_option maxHeartbeats 4000000 in
set_option maxRecDepth 100000 in
theorem vfX10_cut_282 {p : Program} {l : Launch} {e : Env} {s : State} {m : MethodId} {args : Array Value} {below : List Frame} {meth : Method} {c : Code} {G : GX} (C : Cx p s m args meth c G cX10_cut 14 RX10) (hr : meth.sig.returnType = (some .int)) : ∀ (n : Nat) (al0 : Nat) (xl1 : Int32) (xl4 : Int32) (xl7 : Int32) (h0 : PH), J p l e rmX10_cut s m args below meth c G 14 (qM below args s rvI G 0 0) 0 0 h0 282 [(0, .ref al0), (1, .int xl1), (4, .int xl4), (7, .int xl7)] [] (fX10_cut_282  n al0 xl1 xl4 xl7 h0) := by
  intro n
  induction n with
  | zero => exact fun al0 xl1 xl4 xl7 h0 => J_none C
  | succ n ih =>
    intro al0 xl1 xl4 xl7 h0
    unfold fX10_cut_282
    refine J_iload (pc := 282) C dX10_cut_282 3 rfl ?_
    refine J_bipush (pc := 284) (v := 10) C dX10_cut_284 (by decide) ?_
    refine J_icmp_ge (pc := 286) (tgt := 323) C dX10_cut_286 (by decide) ?_ ?_
    · refine J_aload_n (pc := 323) C dX10_cut_323 rfl 0 rfl ?_
      refine J_iload (pc := 324) C dX10_cut_324 2 rfl ?_
      refine J_callVI (pc := 326) (As := [.int xl4]) (rest := []) C (fun z hz => mX10_told al0 xl4 h0 z hz) mwX10_told csX10_told mlX10_107 inX10_told rfl dX10_cut_326 (by decide) rfl (Nat.le_of_ble_eq_true rfl) (by decide) (fun x15 h14 => ?_)
      exact J_iret (pc := 329) C hr dX10_cut_329
    · refine J_aload_n (pc := 289) C dX10_cut_289 rfl 0 rfl ?_
      refine J_getR (pc := 290) C flX10_17 dX10_cut_290 (fun a16 => ?_)
      refine J_bipush (pc := 293) (v := 10) C dX10_cut_293 (by decide) ?_
      refine J_iload_n (pc := 295) C dX10_cut_295 rfl 1 rfl ?_
      refine J_imul (pc := 296) C dX10_cut_296 ?_
      refine J_iload (pc := 297) C dX10_cut_297 3 rfl ?_
      refine J_iadd (pc := 299) C dX10_cut_299 ?_
      refine J_dup2 (pc := 300) C dX10_cut_300 rfl rfl ?_
      refine J_iald (pc := 301) C dX10_cut_301 (fun x17 => ?_)
      refine J_aload_n (pc := 302) C dX10_cut_302 rfl 0 rfl ?_
      refine J_getR (pc := 303) C flX10_17 dX10_cut_303 (fun a18 => ?_)
      refine J_bipush (pc := 306) (v := 10) C dX10_cut_306 (by decide) ?_
      refine J_iload (pc := 308) C dX10_cut_308 2 rfl ?_
      refine J_imul (pc := 310) C dX10_cut_310 ?_
      refine J_iload (pc := 311) C dX10_cut_311 3 rfl ?_
      refine J_iadd (pc := 313) C dX10_cut_313 ?_
      refine J_iald (pc := 314) C dX10_cut_314 (fun x19 => ?_)
      refine J_isub (pc := 315) C dX10_cut_315 ?_
      refine J_iast (pc := 316) C dX10_cut_316 (fun h20 => ?_)
      refine J_iinc (pc := 317) (v := (xl7 + 1)) (lv1 := [(7, .int (xl7 + 1)), (0, .ref al0), (1, .int xl1), (4, .int xl4)]) C dX10_cut_317 3 rfl rfl (by decide) rfl ?_
      refine J_goto (pc := 320) (tgt := 282) C dX10_cut_320 (by decide) ?_
      refine J_sub [1, 2, 3, 0] rfl ?_
      exact ih al0 xl1 xl4 (xl7 + 1) h20
def fX10_cut_271 (r132 : Nat → Int32 → Int32 → Int32 → Int32 → Int64 → Int32 → PH → Option (Int32 × PH)) (al0 : Nat) (xl1 : Int32) (xl2 : Int32) (xl3 : Int32) (xl4 : Int32) (xl5 : Int64) (xl7 : Int32) (xs0 : Int32) (xs1 : Int32) (xs2 : Int32) (as3 : Nat) (h0 : PH) : Option (Int32 × PH) :=
    bn (astI as3 xs2 (xs1 + xs0) h0) fun h25 =>
    r132 al0 xl1 xl2 xl3 xl4 xl5 (xl7 + 1) h25
set_option maxHeartbeats 4000000 in
set_option maxRecDepth 100000 in
theorem vfX10_cut_271 {p : Program} {l : Launch} {e : Env} {s : State} {m : MethodId} {args : Array Value} {below : List Frame} {meth : Method} {c : Code} {G : GX} (C : Cx p s m args meth c G cX10_cut 14 RX10) (hr : meth.sig.returnType = (some .int)) {r132 : Nat → Int32 → Int32 → Int32 → Int32 → Int64 → Int32 → PH → Option (Int32 × PH)} (k132 : ∀ (al0 : Nat) (xl1 : Int32) (xl2 : Int32) (xl3 : Int32) (xl4 : Int32) (xl5 : Int64) (xl7 : Int32) (h0 : PH), J p l e rmX10_cut s m args below meth c G 14 (qM below args s rvI G 0 0) 0 0 h0 132 [(0, .ref al0), (1, .int xl1), (2, .int xl2), (3, .int xl3), (4, .int xl4), (5, .long xl5), (7, .int xl7)] [] (r132 al0 xl1 xl2 xl3 xl4 xl5 xl7 h0)) (al0 : Nat) (xl1 : Int32) (xl2 : Int32) (xl3 : Int32) (xl4 : Int32) (xl5 : Int64) (xl7 : Int32) (xs0 : Int32) (xs1 : Int32) (xs2 : Int32) (as3 : Nat) (h0 : PH) : J p l e rmX10_cut s m args below meth c G 14 (qM below args s rvI G 0 0) 0 0 h0 271 [(0, .ref al0), (1, .int xl1), (2, .int xl2), (3, .int xl3), (4, .int xl4), (5, .long xl5), (7, .int xl7)] [.int xs0, .int xs1, .int xs2, .ref as3] (fX10_cut_271 r132 al0 xl1 xl2 xl3 xl4 xl5 xl7 xs0 xs1 xs2 as3 h0) := by
  unfold fX10_cut_271
  refine J_iadd (pc := 271) C dX10_cut_271 ?_
  refine J_iast (pc := 272) C dX10_cut_272 (fun h25 => ?_)
  refine J_iinc (pc := 273) (v := (xl7 + 1)) (lv1 := [(7, .int (xl7 + 1)), (0, .ref al0), (1, .int xl1), (2, .int xl2), (3, .int xl3), (4, .int xl4), (5, .long xl5)]) C dX10_cut_273 6 rfl rfl (by decide) rfl ?_
  refine J_goto (pc := 276) (tgt := 132) C dX10_cut_276 (by decide) ?_
  refine J_sub [1, 2, 3, 4, 5, 6, 0] rfl ?_
  exact k132 al0 xl1 xl2 xl3 xl4 xl5 (xl7 + 1) h25
def fX10_cut_230 (r132 : Nat → Int32 → Int32 → Int32 → Int32 → Int64 → Int32 → PH → Option (Int32 × PH)) (r163 : Nat → Int32 → Int32 → Int32 → Int32 → Int64 → Int32 → Int64 → Int32 → Int32 → PH → Option (Int32 × PH)) (al0 : Nat) (xl1 : Int32) (xl2 : Int32) (xl3 : Int32) (xl4 : Int32) (xl5 : Int64) (xl7 : Int32) (xl8 : Int64) (xl11 : Int32) (xs0 : Int32) (xs1 : Int32) (h0 : PH) : Option (Int32 × PH) :=
    nm (xs1 + xs0) fun x29 =>
    r163 al0 xl1 xl2 xl3 xl4 xl5 xl7 xl8 x29 (xl11 + 1) h0
set_option maxHeartbeats 4000000 in
set_option maxRecDepth 100000 in
theorem vfX10_cut_230 {p : Program} {l : Launch} {e : Env} {s : State} {m : MethodId} {args : Array Value} {below : List Frame} {meth : Method} {c : Code} {G : GX} (C : Cx p s m args meth c G cX10_cut 14 RX10) (hr : meth.sig.returnType = (some .int)) {r132 : Nat → Int32 → Int32 → Int32 → Int32 → Int64 → Int32 → PH → Option (Int32 × PH)} (k132 : ∀ (al0 : Nat) (xl1 : Int32) (xl2 : Int32) (xl3 : Int32) (xl4 : Int32) (xl5 : Int64) (xl7 : Int32) (h0 : PH), J p l e rmX10_cut s m args below meth c G 14 (qM below args s rvI G 0 0) 0 0 h0 132 [(0, .ref al0), (1, .int xl1), (2, .int xl2), (3, .int xl3), (4, .int xl4), (5, .long xl5), (7, .int xl7)] [] (r132 al0 xl1 xl2 xl3 xl4 xl5 xl7 h0)) {r163 : Nat → Int32 → Int32 → Int32 → Int32 → Int64 → Int32 → Int64 → Int32 → Int32 → PH → Option (Int32 × PH)} (k163 : ∀ (al0 : Nat) (xl1 : Int32) (xl2 : Int32) (xl3 : Int32) (xl4 : Int32) (xl5 : Int64) (xl7 : Int32) (xl8 : Int64) (xl10 : Int32) (xl11 : Int32) (h0 : PH), J p l e rmX10_cut s m args below meth c G 14 (qM below args s rvI G 0 0) 0 0 h0 163 [(0, .ref al0), (1, .int xl1), (2, .int xl2), (3, .int xl3), (4, .int xl4), (5, .long xl5), (7, .int xl7), (8, .long xl8), (10, .int xl10), (11, .int xl11)] [] (r163 al0 xl1 xl2 xl3 xl4 xl5 xl7 xl8 xl10 xl11 h0)) (al0 : Nat) (xl1 : Int32) (xl2 : Int32) (xl3 : Int32) (xl4 : Int32) (xl5 : Int64) (xl7 : Int32) (xl8 : Int64) (xl11 : Int32) (xs0 : Int32) (xs1 : Int32) (h0 : PH) : J p l e rmX10_cut s m args below meth c G 14 (qM below args s rvI G 0 0) 0 0 h0 230 [(0, .ref al0), (1, .int xl1), (2, .int xl2), (3, .int xl3), (4, .int xl4), (5, .long xl5), (7, .int xl7), (8, .long xl8), (11, .int xl11)] [.int xs0, .int xs1] (fX10_cut_230 r132 r163 al0 xl1 xl2 xl3 xl4 xl5 xl7 xl8 xl11 xs0 xs1 h0) := by
  unfold fX10_cut_230
  refine J_iadd (pc := 230) C dX10_cut_230 ?_
  refine J_nm (fv := .int) (fun x29 => ?_)
  refine J_istore (pc := 231) (lv1 := [(10, .int x29), (0, .ref al0), (1, .int xl1), (2, .int xl2), (3, .int xl3), (4, .int xl4), (5, .long xl5), (7, .int xl7), (8, .long xl8), (11, .int xl11)]) C dX10_cut_231 (by decide) rfl ?_
  refine J_iinc (pc := 233) (v := (xl11 + 1)) (lv1 := [(11, .int (xl11 + 1)), (10, .int x29), (0, .ref al0), (1, .int xl1), (2, .int xl2), (3, .int xl3), (4, .int xl4), (5, .long xl5), (7, .int xl7), (8, .long xl8)]) C dX10_cut_233 9 rfl rfl (by decide) rfl ?_
  refine J_goto (pc := 236) (tgt := 163) C dX10_cut_236 (by decide) ?_
  refine J_sub [2, 3, 4, 5, 6, 7, 8, 9, 1, 0] rfl ?_
  exact k163 al0 xl1 xl2 xl3 xl4 xl5 xl7 xl8 x29 (xl11 + 1) h0
def fX10_cut_225 (r132 : Nat → Int32 → Int32 → Int32 → Int32 → Int64 → Int32 → PH → Option (Int32 × PH)) (r163 : Nat → Int32 → Int32 → Int32 → Int32 → Int64 → Int32 → Int64 → Int32 → Int32 → PH → Option (Int32 × PH)) (al0 : Nat) (xl1 : Int32) (xl2 : Int32) (xl3 : Int32) (xl4 : Int32) (xl5 : Int64) (xl7 : Int32) (xl8 : Int64) (xl11 : Int32) (xs0 : Int32) (h0 : PH) : Option (Int32 × PH) :=
    fX10_cut_230 r132 r163 al0 xl1 xl2 xl3 xl4 xl5 xl7 xl8 xl11 (1 : Int32) xs0 h0
set_option maxHeartbeats 4000000 in
set_option maxRecDepth 100000 in
theorem vfX10_cut_225 {p : Program} {l : Launch} {e : Env} {s : State} {m : MethodId} {args : Array Value} {below : List Frame} {meth : Method} {c : Code} {G : GX} (C : Cx p s m args meth c G cX10_cut 14 RX10) (hr : meth.sig.returnType = (some .int)) {r132 : Nat → Int32 → Int32 → Int32 → Int32 → Int64 → Int32 → PH → Option (Int32 × PH)} (k132 : ∀ (al0 : Nat) (xl1 : Int32) (xl2 : Int32) (xl3 : Int32) (xl4 : Int32) (xl5 : Int64) (xl7 : Int32) (h0 : PH), J p l e rmX10_cut s m args below meth c G 14 (qM below args s rvI G 0 0) 0 0 h0 132 [(0, .ref al0), (1, .int xl1), (2, .int xl2), (3, .int xl3), (4, .int xl4), (5, .long xl5), (7, .int xl7)] [] (r132 al0 xl1 xl2 xl3 xl4 xl5 xl7 h0)) {r163 : Nat → Int32 → Int32 → Int32 → Int32 → Int64 → Int32 → Int64 → Int32 → Int32 → PH → Option (Int32 × PH)} (k163 : ∀ (al0 : Nat) (xl1 : Int32) (xl2 : Int32) (xl3 : Int32) (xl4 : Int32) (xl5 : Int64) (xl7 : Int32) (xl8 : Int64) (xl10 : Int32) (xl11 : Int32) (h0 : PH), J p l e rmX10_cut s m args below meth c G 14 (qM below args s rvI G 0 0) 0 0 h0 163 [(0, .ref al0), (1, .int xl1), (2, .int xl2), (3, .int xl3), (4, .int xl4), (5, .long xl5), (7, .int xl7), (8, .long xl8), (10, .int xl10), (11, .int xl11)] [] (r163 al0 xl1 xl2 xl3 xl4 xl5 xl7 xl8 xl10 xl11 h0)) (al0 : Nat) (xl1 : Int32) (xl2 : Int32) (xl3 : Int32) (xl4 : Int32) (xl5 : Int64) (xl7 : Int32) (xl8 : Int64) (xl11 : Int32) (xs0 : Int32) (h0 : PH) : J p l e rmX10_cut s m args below meth c G 14 (qM below args s rvI G 0 0) 0 0 h0 225 [(0, .ref al0), (1, .int xl1), (2, .int xl2), (3, .int xl3), (4, .int xl4), (5, .long xl5), (7, .int xl7), (8, .long xl8), (11, .int xl11)] [.int xs0] (fX10_cut_225 r132 r163 al0 xl1 xl2 xl3 xl4 xl5 xl7 xl8 xl11 xs0 h0) := by
  unfold fX10_cut_225
  refine J_iconst (pc := 225) (v := 1) C dX10_cut_225 (by decide) ?_
  refine J_goto (pc := 226) (tgt := 230) C dX10_cut_226 (by decide) ?_
  exact vfX10_cut_230 C hr k132 k163 al0 xl1 xl2 xl3 xl4 xl5 xl7 xl8 xl11 (1 : Int32) xs0 h0
def fX10_cut_229 (r132 : Nat → Int32 → Int32 → Int32 → Int32 → Int64 → Int32 → PH → Option (Int32 × PH)) (r163 : Nat → Int32 → Int32 → Int32 → Int32 → Int64 → Int32 → Int64 → Int32 → Int32 → PH → Option (Int32 × PH)) (al0 : Nat) (xl1 : Int32) (xl2 : Int32) (xl3 : Int32) (xl4 : Int32) (xl5 : Int64) (xl7 : Int32) (xl8 : Int64) (xl11 : Int32) (xs0 : Int32) (h0 : PH) : Option (Int32 × PH) :=
    fX10_cut_230 r132 r163 al0 xl1 xl2 xl3 xl4 xl5 xl7 xl8 xl11 (0 : Int32) xs0 h0
set_option maxHeartbeats 4000000 in
set_option maxRecDepth 100000 in
theorem vfX10_cut_229 {p : Program} {l : Launch} {e : Env} {s : State} {m : MethodId} {args : Array Value} {below : List Frame} {meth : Method} {c : Code} {G : GX} (C : Cx p s m args meth c G cX10_cut 14 RX10) (hr : meth.sig.returnType = (some .int)) {r132 : Nat → Int32 → Int32 → Int32 → Int32 → Int64 → Int32 → PH → Option (Int32 × PH)} (k132 : ∀ (al0 : Nat) (xl1 : Int32) (xl2 : Int32) (xl3 : Int32) (xl4 : Int32) (xl5 : Int64) (xl7 : Int32) (h0 : PH), J p l e rmX10_cut s m args below meth c G 14 (qM below args s rvI G 0 0) 0 0 h0 132 [(0, .ref al0), (1, .int xl1), (2, .int xl2), (3, .int xl3), (4, .int xl4), (5, .long xl5), (7, .int xl7)] [] (r132 al0 xl1 xl2 xl3 xl4 xl5 xl7 h0)) {r163 : Nat → Int32 → Int32 → Int32 → Int32 → Int64 → Int32 → Int64 → Int32 → Int32 → PH → Option (Int32 × PH)} (k163 : ∀ (al0 : Nat) (xl1 : Int32) (xl2 : Int32) (xl3 : Int32) (xl4 : Int32) (xl5 : Int64) (xl7 : Int32) (xl8 : Int64) (xl10 : Int32) (xl11 : Int32) (h0 : PH), J p l e rmX10_cut s m args below meth c G 14 (qM below args s rvI G 0 0) 0 0 h0 163 [(0, .ref al0), (1, .int xl1), (2, .int xl2), (3, .int xl3), (4, .int xl4), (5, .long xl5), (7, .int xl7), (8, .long xl8), (10, .int xl10), (11, .int xl11)] [] (r163 al0 xl1 xl2 xl3 xl4 xl5 xl7 xl8 xl10 xl11 h0)) (al0 : Nat) (xl1 : Int32) (xl2 : Int32) (xl3 : Int32) (xl4 : Int32) (xl5 : Int64) (xl7 : Int32) (xl8 : Int64) (xl11 : Int32) (xs0 : Int32) (h0 : PH) : J p l e rmX10_cut s m args below meth c G 14 (qM below args s rvI G 0 0) 0 0 h0 229 [(0, .ref al0), (1, .int xl1), (2, .int xl2), (3, .int xl3), (4, .int xl4), (5, .long xl5), (7, .int xl7), (8, .long xl8), (11, .int xl11)] [.int xs0] (fX10_cut_229 r132 r163 al0 xl1 xl2 xl3 xl4 xl5 xl7 xl8 xl11 xs0 h0) := by
  unfold fX10_cut_229
  refine J_iconst (pc := 229) (v := 0) C dX10_cut_229 (by decide) ?_
  exact vfX10_cut_230 C hr k132 k163 al0 xl1 xl2 xl3 xl4 xl5 xl7 xl8 xl11 (0 : Int32) xs0 h0
def fX10_cut_163 (r132 : Nat → Int32 → Int32 → Int32 → Int32 → Int64 → Int32 → PH → Option (Int32 × PH)) : Nat → Nat → Int32 → Int32 → Int32 → Int32 → Int64 → Int32 → Int64 → Int32 → Int32 → PH → Option (Int32 × PH)
  | 0, _, _, _, _, _, _, _, _, _, _, _ => none
  | n + 1, al0, xl1, xl2, xl3, xl4, xl5, xl7, xl8, xl10, xl11, h0 =>
    if (10 : Int32) ≤ xl11 then (bn (rdR 10 6 al0 h0) fun a24 =>
    if xl3.toInt64 = 0 then none else
    if xl5 ≤ xl10.toInt64 then (fX10_cut_271 r132 al0 xl1 xl2 xl3 xl4 xl5 xl7 (0 : Int32) (xl8 / xl3.toInt64).toInt32 (((10 : Int32) * xl4) + xl7) a24 h0) else
    fX10_cut_271 r132 al0 xl1 xl2 xl3 xl4 xl5 xl7 (1 : Int32) (xl8 / xl3.toInt64).toInt32 (((10 : Int32) * xl4) + xl7) a24 h0) else
    bn (rdR 10 6 al0 h0) fun a26 =>
    bn (aldI 0 a26 (((10 : Int32) * xl1) + xl11) h0) fun x27 =>
    nm (x27.toInt64 * xl2.toInt64) fun x28 =>
    if xl3.toInt64 = 0 then none else
    if xl3.toInt64 = 0 then none else
    if (xl8 - xl8 / xl3.toInt64 * xl3.toInt64) < (x28 - x28 / xl3.toInt64 * xl3.toInt64) then (fX10_cut_225 r132 (fX10_cut_163 r132 n) al0 xl1 xl2 xl3 xl4 xl5 xl7 xl8 xl11 xl10 h0) else
    if xl3.toInt64 = 0 then none else
    if xl3.toInt64 = 0 then none else
    if (x28 - x28 / xl3.toInt64 * xl3.toInt64) = (xl8 - xl8 / xl3.toInt64 * xl3.toInt64) then (if xl7 ≤ xl11 then (fX10_cut_229 r132 (fX10_cut_163 r132 n) al0 xl1 xl2 xl3 xl4 xl5 xl7 xl8 xl11 xl10 h0) else
    fX10_cut_225 r132 (fX10_cut_163 r132 n) al0 xl1 xl2 xl3 xl4 xl5 xl7 xl8 xl11 xl10 h0) else
    fX10_cut_229 r132 (fX10_cut_163 r132 n) al0 xl1 xl2 xl3 xl4 xl5 xl7 xl8 xl11 xl10 h0
set_option maxHeartbeats 4000000 in
set_option maxRecDepth 100000 in
theorem vfX10_cut_163 {p : Program} {l : Launch} {e : Env} {s : State} {m : MethodId} {args : Array Value} {below : List Frame} {meth : Method} {c : Code} {G : GX} (C : Cx p s m args meth c G cX10_cut 14 RX10) (hr : meth.sig.returnType = (some .int)) {r132 : Nat → Int32 → Int32 → Int32 → Int32 → Int64 → Int32 → PH → Option (Int32 × PH)} (k132 : ∀ (al0 : Nat) (xl1 : Int32) (xl2 : Int32) (xl3 : Int32) (xl4 : Int32) (xl5 : Int64) (xl7 : Int32) (h0 : PH), J p l e rmX10_cut s m args below meth c G 14 (qM below args s rvI G 0 0) 0 0 h0 132 [(0, .ref al0), (1, .int xl1), (2, .int xl2), (3, .int xl3), (4, .int xl4), (5, .long xl5), (7, .int xl7)] [] (r132 al0 xl1 xl2 xl3 xl4 xl5 xl7 h0)) : ∀ (n : Nat) (al0 : Nat) (xl1 : Int32) (xl2 : Int32) (xl3 : Int32) (xl4 : Int32) (xl5 : Int64) (xl7 : Int32) (xl8 : Int64) (xl10 : Int32) (xl11 : Int32) (h0 : PH), J p l e rmX10_cut s m args below meth c G 14 (qM below args s rvI G 0 0) 0 0 h0 163 [(0, .ref al0), (1, .int xl1), (2, .int xl2), (3, .int xl3), (4, .int xl4), (5, .long xl5), (7, .int xl7), (8, .long xl8), (10, .int xl10), (11, .int xl11)] [] (fX10_cut_163 r132 n al0 xl1 xl2 xl3 xl4 xl5 xl7 xl8 xl10 xl11 h0) := by
  intro n
  induction n with
  | zero => exact fun al0 xl1 xl2 xl3 xl4 xl5 xl7 xl8 xl10 xl11 h0 => J_none C
  | succ n ih =>
    intro al0 xl1 xl2 xl3 xl4 xl5 xl7 xl8 xl10 xl11 h0
    unfold fX10_cut_163
    refine J_iload (pc := 163) C dX10_cut_163 9 rfl ?_
    refine J_bipush (pc := 165) (v := 10) C dX10_cut_165 (by decide) ?_
    refine J_icmp_ge (pc := 167) (tgt := 239) C dX10_cut_167 (by decide) ?_ ?_
    · refine J_aload_n (pc := 239) C dX10_cut_239 rfl 0 rfl ?_
      refine J_getR (pc := 240) C flX10_17 dX10_cut_240 (fun a24 => ?_)
      refine J_bipush (pc := 243) (v := 10) C dX10_cut_243 (by decide) ?_
      refine J_iload (pc := 245) C dX10_cut_245 4 rfl ?_
      refine J_imul (pc := 247) C dX10_cut_247 ?_
      refine J_iload (pc := 248) C dX10_cut_248 6 rfl ?_
      refine J_iadd (pc := 250) C dX10_cut_250 ?_
      refine J_lload (pc := 251) C dX10_cut_251 7 rfl ?_
      refine J_iload_n (pc := 253) C dX10_cut_253 rfl 3 rfl ?_
      refine J_i2l (pc := 254) C dX10_cut_254 ?_
      refine J_ldiv (pc := 255) C dX10_cut_255 ?_
      refine J_l2i (pc := 256) C dX10_cut_256 ?_
      refine J_iload (pc := 257) C dX10_cut_257 8 rfl ?_
      refine J_i2l (pc := 259) C dX10_cut_259 ?_
      refine J_lload (pc := 260) C dX10_cut_260 5 rfl ?_
      refine J_lcmp_ge (pc := 262) (tgt := 270) C dX10_cut_262 dX10_cut_263 (by decide) ?_ ?_
      · refine J_iconst (pc := 270) (v := 0) C dX10_cut_270 (by decide) ?_
        refine J_sub [0, 1, 2, 3, 4, 5, 6] rfl ?_
        exact vfX10_cut_271 C hr k132 al0 xl1 xl2 xl3 xl4 xl5 xl7 (0 : Int32) (xl8 / xl3.toInt64).toInt32 (((10 : Int32) * xl4) + xl7) a24 h0
      · refine J_iconst (pc := 266) (v := 1) C dX10_cut_266 (by decide) ?_
        refine J_goto (pc := 267) (tgt := 271) C dX10_cut_267 (by decide) ?_
        refine J_sub [0, 1, 2, 3, 4, 5, 6] rfl ?_
        exact vfX10_cut_271 C hr k132 al0 xl1 xl2 xl3 xl4 xl5 xl7 (1 : Int32) (xl8 / xl3.toInt64).toInt32 (((10 : Int32) * xl4) + xl7) a24 h0
    · refine J_aload_n (pc := 170) C dX10_cut_170 rfl 0 rfl ?_
      refine J_getR (pc := 171) C flX10_17 dX10_cut_171 (fun a26 => ?_)
      refine J_bipush (pc := 174) (v := 10) C dX10_cut_174 (by decide) ?_
      refine J_iload_n (pc := 176) C dX10_cut_176 rfl 1 rfl ?_
      refine J_imul (pc := 177) C dX10_cut_177 ?_
      refine J_iload (pc := 178) C dX10_cut_178 9 rfl ?_
      refine J_iadd (pc := 180) C dX10_cut_180 ?_
      refine J_iald (pc := 181) C dX10_cut_181 (fun x27 => ?_)
      refine J_i2l (pc := 182) C dX10_cut_182 ?_
      refine J_iload_n (pc := 183) C dX10_cut_183 rfl 2 rfl ?_
      refine J_i2l (pc := 184) C dX10_cut_184 ?_
      refine J_lmul (pc := 185) C dX10_cut_185 ?_
      refine J_nm (fv := .long) (fun x28 => ?_)
      refine J_lstore (pc := 186) (lv1 := [(12, .long x28), (0, .ref al0), (1, .int xl1), (2, .int xl2), (3, .int xl3), (4, .int xl4), (5, .long xl5), (7, .int xl7), (8, .long xl8), (10, .int xl10), (11, .int xl11)]) C dX10_cut_186 (by decide) rfl ?_
      refine J_iload (pc := 188) C dX10_cut_188 9 rfl ?_
      refine J_lload (pc := 190) C dX10_cut_190 0 rfl ?_
      refine J_iload_n (pc := 192) C dX10_cut_192 rfl 4 rfl ?_
      refine J_i2l (pc := 193) C dX10_cut_193 ?_
      refine J_lrem (pc := 194) C dX10_cut_194 ?_
      refine J_lload (pc := 195) C dX10_cut_195 8 rfl ?_
      refine J_iload_n (pc := 197) C dX10_cut_197 rfl 4 rfl ?_
      refine J_i2l (pc := 198) C dX10_cut_198 ?_
      refine J_lrem (pc := 199) C dX10_cut_199 ?_
      refine J_lcmp_gt (pc := 200) (tgt := 225) C dX10_cut_200 dX10_cut_201 (by decide) ?_ ?_
      · refine J_sub [1, 2, 3, 4, 5, 6, 7, 8, 10] rfl ?_
        exact vfX10_cut_225 C hr k132 ih al0 xl1 xl2 xl3 xl4 xl5 xl7 xl8 xl11 xl10 h0
      · refine J_lload (pc := 204) C dX10_cut_204 0 rfl ?_
        refine J_iload_n (pc := 206) C dX10_cut_206 rfl 4 rfl ?_
        refine J_i2l (pc := 207) C dX10_cut_207 ?_
        refine J_lrem (pc := 208) C dX10_cut_208 ?_
        refine J_lload (pc := 209) C dX10_cut_209 8 rfl ?_
        refine J_iload_n (pc := 211) C dX10_cut_211 rfl 4 rfl ?_
        refine J_i2l (pc := 212) C dX10_cut_212 ?_
        refine J_lrem (pc := 213) C dX10_cut_213 ?_
        refine J_lcmp_ne (pc := 214) (tgt := 229) C dX10_cut_214 dX10_cut_215 (by decide) ?_ ?_
        · refine J_sub [1, 2, 3, 4, 5, 6, 7, 8, 10] rfl ?_
          exact vfX10_cut_229 C hr k132 ih al0 xl1 xl2 xl3 xl4 xl5 xl7 xl8 xl11 xl10 h0
        · refine J_iload (pc := 218) C dX10_cut_218 10 rfl ?_
          refine J_iload (pc := 220) C dX10_cut_220 7 rfl ?_
          refine J_icmp_ge (pc := 222) (tgt := 229) C dX10_cut_222 (by decide) ?_ ?_
          · refine J_sub [1, 2, 3, 4, 5, 6, 7, 8, 10] rfl ?_
            exact vfX10_cut_229 C hr k132 ih al0 xl1 xl2 xl3 xl4 xl5 xl7 xl8 xl11 xl10 h0
          · refine J_sub [1, 2, 3, 4, 5, 6, 7, 8, 10] rfl ?_
            exact vfX10_cut_225 C hr k132 ih al0 xl1 xl2 xl3 xl4 xl5 xl7 xl8 xl11 xl10 h0
def fX10_cut_132  : Nat → Nat → Int32 → Int32 → Int32 → Int32 → Int64 → Int32 → PH → Option (Int32 × PH)
  | 0, _, _, _, _, _, _, _, _ => none
  | n + 1, al0, xl1, xl2, xl3, xl4, xl5, xl7, h0 =>
    if (10 : Int32) ≤ xl7 then (fX10_cut_282  FU al0 xl1 xl4 (0 : Int32) h0) else
    bn (rdR 10 6 al0 h0) fun a21 =>
    bn (aldI 0 a21 (((10 : Int32) * xl1) + xl7) h0) fun x22 =>
    nm (x22.toInt64 * xl2.toInt64) fun x23 =>
    fX10_cut_163 (fX10_cut_132 n) FU al0 xl1 xl2 xl3 xl4 xl5 xl7 x23 (0 : Int32) (0 : Int32) h0
set_option maxHeartbeats 4000000 in
set_option maxRecDepth 100000 in
theorem vfX10_cut_132 {p : Program} {l : Launch} {e : Env} {s : State} {m : MethodId} {args : Array Value} {below : List Frame} {meth : Method} {c : Code} {G : GX} (C : Cx p s m args meth c G cX10_cut 14 RX10) (hr : meth.sig.returnType = (some .int)) : ∀ (n : Nat) (al0 : Nat) (xl1 : Int32) (xl2 : Int32) (xl3 : Int32) (xl4 : Int32) (xl5 : Int64) (xl7 : Int32) (h0 : PH), J p l e rmX10_cut s m args below meth c G 14 (qM below args s rvI G 0 0) 0 0 h0 132 [(0, .ref al0), (1, .int xl1), (2, .int xl2), (3, .int xl3), (4, .int xl4), (5, .long xl5), (7, .int xl7)] [] (fX10_cut_132  n al0 xl1 xl2 xl3 xl4 xl5 xl7 h0) := by
  intro n
  induction n with
  | zero => exact fun al0 xl1 xl2 xl3 xl4 xl5 xl7 h0 => J_none C
  | succ n ih =>
    intro al0 xl1 xl2 xl3 xl4 xl5 xl7 h0
    unfold fX10_cut_132
    refine J_iload (pc := 132) C dX10_cut_132 6 rfl ?_
    refine J_bipush (pc := 134) (v := 10) C dX10_cut_134 (by decide) ?_
    refine J_icmp_ge (pc := 136) (tgt := 279) C dX10_cut_136 (by decide) ?_ ?_
    · refine J_iconst (pc := 279) (v := 0) C dX10_cut_279 (by decide) ?_
      refine J_istore (pc := 280) (lv1 := [(7, .int (0 : Int32)), (0, .ref al0), (1, .int xl1), (2, .int xl2), (3, .int xl3), (4, .int xl4), (5, .long xl5)]) C dX10_cut_280 (by decide) rfl ?_
      refine J_sub [1, 2, 5, 0] rfl ?_
      exact vfX10_cut_282 C hr  FU al0 xl1 xl4 (0 : Int32) h0
    · refine J_aload_n (pc := 139) C dX10_cut_139 rfl 0 rfl ?_
      refine J_getR (pc := 140) C flX10_17 dX10_cut_140 (fun a21 => ?_)
      refine J_bipush (pc := 143) (v := 10) C dX10_cut_143 (by decide) ?_
      refine J_iload_n (pc := 145) C dX10_cut_145 rfl 1 rfl ?_
      refine J_imul (pc := 146) C dX10_cut_146 ?_
      refine J_iload (pc := 147) C dX10_cut_147 6 rfl ?_
      refine J_iadd (pc := 149) C dX10_cut_149 ?_
      refine J_iald (pc := 150) C dX10_cut_150 (fun x22 => ?_)
      refine J_i2l (pc := 151) C dX10_cut_151 ?_
      refine J_iload_n (pc := 152) C dX10_cut_152 rfl 2 rfl ?_
      refine J_i2l (pc := 153) C dX10_cut_153 ?_
      refine J_lmul (pc := 154) C dX10_cut_154 ?_
      refine J_nm (fv := .long) (fun x23 => ?_)
      refine J_lstore (pc := 155) (lv1 := [(8, .long x23), (0, .ref al0), (1, .int xl1), (2, .int xl2), (3, .int xl3), (4, .int xl4), (5, .long xl5), (7, .int xl7)]) C dX10_cut_155 (by decide) rfl ?_
      refine J_iconst (pc := 157) (v := 0) C dX10_cut_157 (by decide) ?_
      refine J_istore (pc := 158) (lv1 := [(10, .int (0 : Int32)), (8, .long x23), (0, .ref al0), (1, .int xl1), (2, .int xl2), (3, .int xl3), (4, .int xl4), (5, .long xl5), (7, .int xl7)]) C dX10_cut_158 (by decide) rfl ?_
      refine J_iconst (pc := 160) (v := 0) C dX10_cut_160 (by decide) ?_
      refine J_istore (pc := 161) (lv1 := [(11, .int (0 : Int32)), (10, .int (0 : Int32)), (8, .long x23), (0, .ref al0), (1, .int xl1), (2, .int xl2), (3, .int xl3), (4, .int xl4), (5, .long xl5), (7, .int xl7)]) C dX10_cut_161 (by decide) rfl ?_
      refine J_sub [3, 4, 5, 6, 7, 8, 9, 2, 1, 0] rfl ?_
      exact vfX10_cut_163 C hr ih FU al0 xl1 xl2 xl3 xl4 xl5 xl7 x23 (0 : Int32) (0 : Int32) h0
def fX10_cut_92  : Nat → Nat → Int32 → Int32 → Int32 → Int32 → Int64 → Int32 → PH → Option (Int32 × PH)
  | 0, _, _, _, _, _, _, _, _ => none
  | n + 1, al0, xl1, xl2, xl3, xl4, xl5, xl7, h0 =>
    if (10 : Int32) ≤ xl7 then (fX10_cut_132  FU al0 xl1 xl2 xl3 xl4 xl5 (0 : Int32) h0) else
    bn (rdR 10 6 al0 h0) fun a30 =>
    bn (aldI 0 a30 (((10 : Int32) * xl1) + xl7) h0) fun x31 =>
    if xl3.toInt64 = 0 then none else
    nm (xl5 - ((x31.toInt64 * xl2.toInt64) / xl3.toInt64)) fun x32 =>
    (fX10_cut_92 n) al0 xl1 xl2 xl3 xl4 x32 (xl7 + 1) h0
set_option maxHeartbeats 4000000 in
set_option maxRecDepth 100000 in
theorem vfX10_cut_92 {p : Program} {l : Launch} {e : Env} {s : State} {m : MethodId} {args : Array Value} {below : List Frame} {meth : Method} {c : Code} {G : GX} (C : Cx p s m args meth c G cX10_cut 14 RX10) (hr : meth.sig.returnType = (some .int)) : ∀ (n : Nat) (al0 : Nat) (xl1 : Int32) (xl2 : Int32) (xl3 : Int32) (xl4 : Int32) (xl5 : Int64) (xl7 : Int32) (h0 : PH), J p l e rmX10_cut s m args below meth c G 14 (qM below args s rvI G 0 0) 0 0 h0 92 [(0, .ref al0), (1, .int xl1), (2, .int xl2), (3, .int xl3), (4, .int xl4), (5, .long xl5), (7, .int xl7)] [] (fX10_cut_92  n al0 xl1 xl2 xl3 xl4 xl5 xl7 h0) := by
  intro n
  induction n with
  | zero => exact fun al0 xl1 xl2 xl3 xl4 xl5 xl7 h0 => J_none C
  | succ n ih =>
    intro al0 xl1 xl2 xl3 xl4 xl5 xl7 h0
    unfold fX10_cut_92
    refine J_iload (pc := 92) C dX10_cut_92 6 rfl ?_
    refine J_bipush (pc := 94) (v := 10) C dX10_cut_94 (by decide) ?_
    refine J_icmp_ge (pc := 96) (tgt := 129) C dX10_cut_96 (by decide) ?_ ?_
    · refine J_iconst (pc := 129) (v := 0) C dX10_cut_129 (by decide) ?_
      refine J_istore (pc := 130) (lv1 := [(7, .int (0 : Int32)), (0, .ref al0), (1, .int xl1), (2, .int xl2), (3, .int xl3), (4, .int xl4), (5, .long xl5)]) C dX10_cut_130 (by decide) rfl ?_
      refine J_sub [1, 2, 3, 4, 5, 6, 0] rfl ?_
      exact vfX10_cut_132 C hr  FU al0 xl1 xl2 xl3 xl4 xl5 (0 : Int32) h0
    · refine J_lload (pc := 99) C dX10_cut_99 5 rfl ?_
      refine J_aload_n (pc := 101) C dX10_cut_101 rfl 0 rfl ?_
      refine J_getR (pc := 102) C flX10_17 dX10_cut_102 (fun a30 => ?_)
      refine J_bipush (pc := 105) (v := 10) C dX10_cut_105 (by decide) ?_
      refine J_iload_n (pc := 107) C dX10_cut_107 rfl 1 rfl ?_
      refine J_imul (pc := 108) C dX10_cut_108 ?_
      refine J_iload (pc := 109) C dX10_cut_109 6 rfl ?_
      refine J_iadd (pc := 111) C dX10_cut_111 ?_
      refine J_iald (pc := 112) C dX10_cut_112 (fun x31 => ?_)
      refine J_i2l (pc := 113) C dX10_cut_113 ?_
      refine J_iload_n (pc := 114) C dX10_cut_114 rfl 2 rfl ?_
      refine J_i2l (pc := 115) C dX10_cut_115 ?_
      refine J_lmul (pc := 116) C dX10_cut_116 ?_
      refine J_iload_n (pc := 117) C dX10_cut_117 rfl 3 rfl ?_
      refine J_i2l (pc := 118) C dX10_cut_118 ?_
      refine J_ldiv (pc := 119) C dX10_cut_119 ?_
      refine J_lsub (pc := 120) C dX10_cut_120 ?_
      refine J_nm (fv := .long) (fun x32 => ?_)
      refine J_lstore (pc := 121) (lv1 := [(5, .long x32), (0, .ref al0), (1, .int xl1), (2, .int xl2), (3, .int xl3), (4, .int xl4), (7, .int xl7)]) C dX10_cut_121 (by decide) rfl ?_
      refine J_iinc (pc := 123) (v := (xl7 + 1)) (lv1 := [(7, .int (xl7 + 1)), (5, .long x32), (0, .ref al0), (1, .int xl1), (2, .int xl2), (3, .int xl3), (4, .int xl4)]) C dX10_cut_123 6 rfl rfl (by decide) rfl ?_
      refine J_goto (pc := 126) (tgt := 92) C dX10_cut_126 (by decide) ?_
      refine J_sub [2, 3, 4, 5, 6, 1, 0] rfl ?_
      exact ih al0 xl1 xl2 xl3 xl4 x32 (xl7 + 1) h0
def fX10_cut  (a0 : Nat) (xp0 : Int32) (xp1 : Int32) (h0 : PH) : Option (Int32 × PH) :=
    bn (wr 10 0 (.int (0 : Int32)) a0 h0) fun h1 =>
    if (1 : Int32) ≤ xp1 then (bn (chk 10 a0 h1) fun _ => bn2 (fX10_isPiece a0 xp0 h1) fun x3 h2 =>
    if x3 = 0 then (bn (chk 10 a0 h2) fun _ => bn2 (fX10_told a0 (-2 : Int32) h2) fun x38 h37 =>
    some (x38, h37)) else
    bn (chk 10 a0 h2) fun _ => bn2 (fX10_weightOf a0 xp0 h2) fun x5 h4 =>
    if x5 ≤ xp1 then (bn (chk 10 a0 h4) fun _ => bn2 (fX10_told a0 (-3 : Int32) h4) fun x7 h6 =>
    some (x7, h6)) else
    bn (chk 10 a0 h4) fun _ => bn2 (fX10_isLeaf a0 xp0 h4) fun x9 h8 =>
    if x9 = 0 then (bn (rdI 10 4 a0 h8) fun x10 =>
    if x10 = (120 : Int32) then (bn (chk 10 a0 h8) fun _ => bn2 (fX10_told a0 (-5 : Int32) h8) fun x34 h33 =>
    some (x34, h33)) else
    bn (chk 10 a0 h8) fun _ => bn2 (fX10_addPiece a0 h8) fun _ h11 =>
    bn (rdI 10 4 a0 h11) fun x12 =>
    nm (x12 - (1 : Int32)) fun x13 =>
    fX10_cut_92  FU a0 xp0 xp1 x5 x13 xp1.toInt64 (0 : Int32) h11) else
    bn (chk 10 a0 h8) fun _ => bn2 (fX10_told a0 (-3 : Int32) h8) fun x36 h35 =>
    some (x36, h35)) else
    bn (chk 10 a0 h1) fun _ => bn2 (fX10_told a0 (-1 : Int32) h1) fun x40 h39 =>
    some (x40, h39)
set_option maxHeartbeats 4000000 in
set_option maxRecDepth 100000 in
theorem vfX10_cut {p : Program} {l : Launch} {e : Env} {s : State} {m : MethodId} {args : Array Value} {below : List Frame} {meth : Method} {c : Code} {G : GX} (C : Cx p s m args meth c G cX10_cut 14 RX10) (hr : meth.sig.returnType = (some .int)) (a0 : Nat) (xp0 : Int32) (xp1 : Int32) (h0 : PH) : J p l e rmX10_cut s m args below meth c G 14 (qM below args s rvI G 0 0) 0 0 h0 0 [(0, .ref a0), (1, .int xp0), (2, .int xp1)] [] (fX10_cut  a0 xp0 xp1 h0) := by
  unfold fX10_cut
  refine J_aload_n (pc := 0) C dX10_cut_0 rfl 0 rfl ?_
  refine J_iconst (pc := 1) (v := 0) C dX10_cut_1 (by decide) ?_
  refine J_put (pc := 2) C flX10_90 cl10 ft10_0 rfl rfl dX10_cut_2 (fun h1 => ?_)
  refine J_iload_n (pc := 5) C dX10_cut_5 rfl 2 rfl ?_
  refine J_iconst (pc := 6) (v := 1) C dX10_cut_6 (by decide) ?_
  refine J_icmp_ge (pc := 7) (tgt := 16) C dX10_cut_7 (by decide) ?_ ?_
  · refine J_aload_n (pc := 16) C dX10_cut_16 rfl 0 rfl ?_
    refine J_iload_n (pc := 17) C dX10_cut_17 rfl 1 rfl ?_
    refine J_callVI (pc := 18) (As := [.int xp0]) (rest := []) C (fun z hz => mX10_isPiece a0 xp0 h1 z hz) mwX10_isPiece csX10_isPiece mlX10_117 inX10_isPiece rfl dX10_cut_18 (by decide) rfl (Nat.le_of_ble_eq_true rfl) (by decide) (fun x3 h2 => ?_)
    refine J_if_ne (pc := 21) (tgt := 31) C dX10_cut_21 (by decide) ?_ ?_
    · refine J_aload_n (pc := 31) C dX10_cut_31 rfl 0 rfl ?_
      refine J_iload_n (pc := 32) C dX10_cut_32 rfl 1 rfl ?_
      refine J_callVI (pc := 33) (As := [.int xp0]) (rest := []) C (fun z hz => mX10_weightOf a0 xp0 h2 z hz) mwX10_weightOf csX10_weightOf mlX10_121 inX10_weightOf rfl dX10_cut_33 (by decide) rfl (Nat.le_of_ble_eq_true rfl) (by decide) (fun x5 h4 => ?_)
      refine J_istore_n (pc := 36) (lv1 := [(3, .int x5), (0, .ref a0), (1, .int xp0), (2, .int xp1)]) C dX10_cut_36 rfl (by decide) rfl ?_
      refine J_iload_n (pc := 37) C dX10_cut_37 rfl 3 rfl ?_
      refine J_iload_n (pc := 38) C dX10_cut_38 rfl 0 rfl ?_
      refine J_icmp_ge (pc := 39) (tgt := 50) C dX10_cut_39 (by decide) ?_ ?_
      · refine J_aload_n (pc := 50) C dX10_cut_50 rfl 1 rfl ?_
        refine J_bipush (pc := 51) (v := -3) C dX10_cut_51 (by decide) ?_
        refine J_callVI (pc := 53) (As := [.int (-3 : Int32)]) (rest := []) C (fun z hz => mX10_told a0 (-3 : Int32) h4 z hz) mwX10_told csX10_told mlX10_107 inX10_told rfl dX10_cut_53 (by decide) rfl (Nat.le_of_ble_eq_true rfl) (by decide) (fun x7 h6 => ?_)
        exact J_iret (pc := 56) C hr dX10_cut_56
      · refine J_aload_n (pc := 42) C dX10_cut_42 rfl 1 rfl ?_
        refine J_iload_n (pc := 43) C dX10_cut_43 rfl 2 rfl ?_
        refine J_callVI (pc := 44) (As := [.int xp0]) (rest := []) C (fun z hz => mX10_isLeaf a0 xp0 h4 z hz) mwX10_isLeaf csX10_isLeaf mlX10_124 inX10_isLeaf rfl dX10_cut_44 (by decide) rfl (Nat.le_of_ble_eq_true rfl) (by decide) (fun x9 h8 => ?_)
        refine J_if_eq (pc := 47) (tgt := 57) C dX10_cut_47 (by decide) ?_ ?_
        · refine J_aload_n (pc := 57) C dX10_cut_57 rfl 1 rfl ?_
          refine J_getI (pc := 58) C flX10_96 dX10_cut_58 (fun x10 => ?_)
          refine J_bipush (pc := 61) (v := 120) C dX10_cut_61 (by decide) ?_
          refine J_icmp_ne (pc := 63) (tgt := 73) C dX10_cut_63 (by decide) ?_ ?_
          · refine J_aload_n (pc := 73) C dX10_cut_73 rfl 1 rfl ?_
            refine J_callVU (pc := 74) (As := []) (rest := []) C (fun z hz => mX10_addPiece a0 h8 z hz) mwX10_addPiece csX10_addPiece mlX10_114 inX10_addPiece rfl dX10_cut_74 (by decide) rfl (Nat.le_of_ble_eq_true rfl) (by decide) (fun _ h11 => ?_)
            refine J_aload_n (pc := 77) C dX10_cut_77 rfl 1 rfl ?_
            refine J_getI (pc := 78) C flX10_96 dX10_cut_78 (fun x12 => ?_)
            refine J_iconst (pc := 81) (v := 1) C dX10_cut_81 (by decide) ?_
            refine J_isub (pc := 82) C dX10_cut_82 ?_
            refine J_nm (fv := .int) (fun x13 => ?_)
            refine J_istore (pc := 83) (lv1 := [(4, .int x13), (3, .int x5), (0, .ref a0), (1, .int xp0), (2, .int xp1)]) C dX10_cut_83 (by decide) rfl ?_
            refine J_iload_n (pc := 85) C dX10_cut_85 rfl 4 rfl ?_
            refine J_i2l (pc := 86) C dX10_cut_86 ?_
            refine J_lstore (pc := 87) (lv1 := [(5, .long xp1.toInt64), (4, .int x13), (3, .int x5), (0, .ref a0), (1, .int xp0), (2, .int xp1)]) C dX10_cut_87 (by decide) rfl ?_
            refine J_iconst (pc := 89) (v := 0) C dX10_cut_89 (by decide) ?_
            refine J_istore (pc := 90) (lv1 := [(7, .int (0 : Int32)), (5, .long xp1.toInt64), (4, .int x13), (3, .int x5), (0, .ref a0), (1, .int xp0), (2, .int xp1)]) C dX10_cut_90 (by decide) rfl ?_
            refine J_sub [4, 5, 6, 3, 2, 1, 0] rfl ?_
            exact vfX10_cut_92 C hr  FU a0 xp0 xp1 x5 x13 xp1.toInt64 (0 : Int32) h11
          · refine J_aload_n (pc := 66) C dX10_cut_66 rfl 1 rfl ?_
            refine J_bipush (pc := 67) (v := -5) C dX10_cut_67 (by decide) ?_
            refine J_callVI (pc := 69) (As := [.int (-5 : Int32)]) (rest := []) C (fun z hz => mX10_told a0 (-5 : Int32) h8 z hz) mwX10_told csX10_told mlX10_107 inX10_told rfl dX10_cut_69 (by decide) rfl (Nat.le_of_ble_eq_true rfl) (by decide) (fun x34 h33 => ?_)
            exact J_iret (pc := 72) C hr dX10_cut_72
        · refine J_aload_n (pc := 50) C dX10_cut_50 rfl 1 rfl ?_
          refine J_bipush (pc := 51) (v := -3) C dX10_cut_51 (by decide) ?_
          refine J_callVI (pc := 53) (As := [.int (-3 : Int32)]) (rest := []) C (fun z hz => mX10_told a0 (-3 : Int32) h8 z hz) mwX10_told csX10_told mlX10_107 inX10_told rfl dX10_cut_53 (by decide) rfl (Nat.le_of_ble_eq_true rfl) (by decide) (fun x36 h35 => ?_)
          exact J_iret (pc := 56) C hr dX10_cut_56
    · refine J_aload_n (pc := 24) C dX10_cut_24 rfl 0 rfl ?_
      refine J_bipush (pc := 25) (v := -2) C dX10_cut_25 (by decide) ?_
      refine J_callVI (pc := 27) (As := [.int (-2 : Int32)]) (rest := []) C (fun z hz => mX10_told a0 (-2 : Int32) h2 z hz) mwX10_told csX10_told mlX10_107 inX10_told rfl dX10_cut_27 (by decide) rfl (Nat.le_of_ble_eq_true rfl) (by decide) (fun x38 h37 => ?_)
      exact J_iret (pc := 30) C hr dX10_cut_30
  · refine J_aload_n (pc := 10) C dX10_cut_10 rfl 0 rfl ?_
    refine J_iconst (pc := 11) (v := -1) C dX10_cut_11 (by decide) ?_
    refine J_callVI (pc := 12) (As := [.int (-1 : Int32)]) (rest := []) C (fun z hz => mX10_told a0 (-1 : Int32) h1 z hz) mwX10_told csX10_told mlX10_107 inX10_told rfl dX10_cut_12 (by decide) rfl (Nat.le_of_ble_eq_true rfl) (by decide) (fun x40 h39 => ?_)
    exact J_iret (pc := 15) C hr dX10_cut_15
theorem mX10_cut {l : Launch} {G : GX} (a0 : Nat) (xp0 : Int32) (xp1 : Int32) (h0 : PH) : ∀ z, fX10_cut a0 xp0 xp1 h0 = some z → MC l G yX10_cut cX10_cut 14 (some .int) rmX10_cut [.ref a0, .int xp0, .int xp1] h0 (rvI z.1) z.2 :=
  Met_J (own := RX10) (by decide) rfl (Nat.le_of_ble_eq_true rfl) (fun p e s m args below meth c C hr hn => vfX10_cut C hr a0 xp0 xp1 h0)

