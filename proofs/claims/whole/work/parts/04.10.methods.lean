theorem dX10_next_0 : decode cX10_next 0 = .ok (.aload_n 0, 1) := by decide +kernel
theorem dX10_next_1 : decode cX10_next 1 = .ok (.aload_n 0, 1) := by decide +kernel
theorem dX10_next_2 : decode cX10_next 2 = .ok (.getfield 142, 3) := by decide +kernel
theorem dX10_next_5 : decode cX10_next 5 = .ok (.putfield 145, 3) := by decide +kernel
theorem dX10_next_8 : decode cX10_next 8 = .ok (.aload_n 0, 1) := by decide +kernel
theorem dX10_next_9 : decode cX10_next 9 = .ok (.getfield 145, 3) := by decide +kernel
theorem dX10_next_12 : decode cX10_next 12 = .ok (.aload_n 0, 1) := by decide +kernel
theorem dX10_next_13 : decode cX10_next 13 = .ok (.getfield 135, 3) := by decide +kernel
theorem dX10_next_16 : decode cX10_next 16 = .ok (.if_icmp .ge 30, 3) := by decide +kernel
theorem dX10_next_19 : decode cX10_next 19 = .ok (.aload_n 0, 1) := by decide +kernel
theorem dX10_next_20 : decode cX10_next 20 = .ok (.getfield 44, 3) := by decide +kernel
theorem dX10_next_23 : decode cX10_next 23 = .ok (.aload_n 0, 1) := by decide +kernel
theorem dX10_next_24 : decode cX10_next 24 = .ok (.getfield 145, 3) := by decide +kernel
theorem dX10_next_27 : decode cX10_next 27 = .ok (.iaload, 1) := by decide +kernel
theorem dX10_next_28 : decode cX10_next 28 = .ok (.bipush 32, 2) := by decide +kernel
theorem dX10_next_30 : decode cX10_next 30 = .ok (.if_icmp .ne 16, 3) := by decide +kernel
theorem dX10_next_33 : decode cX10_next 33 = .ok (.aload_n 0, 1) := by decide +kernel
theorem dX10_next_34 : decode cX10_next 34 = .ok (.dup, 1) := by decide +kernel
theorem dX10_next_35 : decode cX10_next 35 = .ok (.getfield 145, 3) := by decide +kernel
theorem dX10_next_38 : decode cX10_next 38 = .ok (.iconst 1, 1) := by decide +kernel
theorem dX10_next_39 : decode cX10_next 39 = .ok (.iadd, 1) := by decide +kernel
theorem dX10_next_40 : decode cX10_next 40 = .ok (.putfield 145, 3) := by decide +kernel
theorem dX10_next_43 : decode cX10_next 43 = .ok (.goto (-35), 3) := by decide +kernel
theorem dX10_next_46 : decode cX10_next 46 = .ok (.aload_n 0, 1) := by decide +kernel
theorem dX10_next_47 : decode cX10_next 47 = .ok (.aload_n 0, 1) := by decide +kernel
theorem dX10_next_48 : decode cX10_next 48 = .ok (.getfield 145, 3) := by decide +kernel
theorem dX10_next_51 : decode cX10_next 51 = .ok (.putfield 142, 3) := by decide +kernel
theorem dX10_next_54 : decode cX10_next 54 = .ok (.aload_n 0, 1) := by decide +kernel
theorem dX10_next_55 : decode cX10_next 55 = .ok (.lconst 0, 1) := by decide +kernel
theorem dX10_next_56 : decode cX10_next 56 = .ok (.putfield 148, 3) := by decide +kernel
theorem dX10_next_59 : decode cX10_next 59 = .ok (.aload_n 0, 1) := by decide +kernel
theorem dX10_next_60 : decode cX10_next 60 = .ok (.aload_n 0, 1) := by decide +kernel
theorem dX10_next_61 : decode cX10_next 61 = .ok (.getfield 145, 3) := by decide +kernel
theorem dX10_next_64 : decode cX10_next 64 = .ok (.aload_n 0, 1) := by decide +kernel
theorem dX10_next_65 : decode cX10_next 65 = .ok (.getfield 135, 3) := by decide +kernel
theorem dX10_next_68 : decode cX10_next 68 = .ok (.if_icmp .ne 7, 3) := by decide +kernel
theorem dX10_next_71 : decode cX10_next 71 = .ok (.iconst 0, 1) := by decide +kernel
theorem dX10_next_72 : decode cX10_next 72 = .ok (.goto 42, 3) := by decide +kernel
theorem dX10_next_75 : decode cX10_next 75 = .ok (.aload_n 0, 1) := by decide +kernel
theorem dX10_next_76 : decode cX10_next 76 = .ok (.getfield 44, 3) := by decide +kernel
theorem dX10_next_79 : decode cX10_next 79 = .ok (.aload_n 0, 1) := by decide +kernel
theorem dX10_next_80 : decode cX10_next 80 = .ok (.getfield 145, 3) := by decide +kernel
theorem dX10_next_83 : decode cX10_next 83 = .ok (.iaload, 1) := by decide +kernel
theorem dX10_next_84 : decode cX10_next 84 = .ok (.invokestatic 152, 3) := by decide +kernel
theorem dX10_next_87 : decode cX10_next 87 = .ok (.ifCond .eq 7, 3) := by decide +kernel
theorem dX10_next_90 : decode cX10_next 90 = .ok (.iconst 1, 1) := by decide +kernel
theorem dX10_next_91 : decode cX10_next 91 = .ok (.goto 23, 3) := by decide +kernel
theorem dX10_next_94 : decode cX10_next 94 = .ok (.aload_n 0, 1) := by decide +kernel
theorem dX10_next_95 : decode cX10_next 95 = .ok (.getfield 44, 3) := by decide +kernel
theorem dX10_next_98 : decode cX10_next 98 = .ok (.aload_n 0, 1) := by decide +kernel
theorem dX10_next_99 : decode cX10_next 99 = .ok (.getfield 145, 3) := by decide +kernel
theorem dX10_next_102 : decode cX10_next 102 = .ok (.iaload, 1) := by decide +kernel
theorem dX10_next_103 : decode cX10_next 103 = .ok (.invokestatic 155, 3) := by decide +kernel
theorem dX10_next_106 : decode cX10_next 106 = .ok (.ifCond .eq 7, 3) := by decide +kernel
theorem dX10_next_109 : decode cX10_next 109 = .ok (.iconst 2, 1) := by decide +kernel
theorem dX10_next_110 : decode cX10_next 110 = .ok (.goto 4, 3) := by decide +kernel
theorem dX10_next_113 : decode cX10_next 113 = .ok (.iconst 3, 1) := by decide +kernel
theorem dX10_next_114 : decode cX10_next 114 = .ok (.putfield 158, 3) := by decide +kernel
theorem dX10_next_117 : decode cX10_next 117 = .ok (.aload_n 0, 1) := by decide +kernel
theorem dX10_next_118 : decode cX10_next 118 = .ok (.getfield 158, 3) := by decide +kernel
theorem dX10_next_121 : decode cX10_next 121 = .ok (.iconst 3, 1) := by decide +kernel
theorem dX10_next_122 : decode cX10_next 122 = .ok (.if_icmp .ne 27, 3) := by decide +kernel
theorem dX10_next_125 : decode cX10_next 125 = .ok (.aload_n 0, 1) := by decide +kernel
theorem dX10_next_126 : decode cX10_next 126 = .ok (.aload_n 0, 1) := by decide +kernel
theorem dX10_next_127 : decode cX10_next 127 = .ok (.getfield 44, 3) := by decide +kernel
theorem dX10_next_130 : decode cX10_next 130 = .ok (.aload_n 0, 1) := by decide +kernel
theorem dX10_next_131 : decode cX10_next 131 = .ok (.getfield 145, 3) := by decide +kernel
theorem dX10_next_134 : decode cX10_next 134 = .ok (.iaload, 1) := by decide +kernel
theorem dX10_next_135 : decode cX10_next 135 = .ok (.i2l, 1) := by decide +kernel
theorem dX10_next_136 : decode cX10_next 136 = .ok (.putfield 148, 3) := by decide +kernel
theorem dX10_next_139 : decode cX10_next 139 = .ok (.aload_n 0, 1) := by decide +kernel
theorem dX10_next_140 : decode cX10_next 140 = .ok (.dup, 1) := by decide +kernel
theorem dX10_next_141 : decode cX10_next 141 = .ok (.getfield 142, 3) := by decide +kernel
theorem dX10_next_144 : decode cX10_next 144 = .ok (.iconst 1, 1) := by decide +kernel
theorem dX10_next_145 : decode cX10_next 145 = .ok (.iadd, 1) := by decide +kernel
theorem dX10_next_146 : decode cX10_next 146 = .ok (.putfield 142, 3) := by decide +kernel
theorem dX10_next_149 : decode cX10_next 149 = .ok (.aload_n 0, 1) := by decide +kernel
theorem dX10_next_150 : decode cX10_next 150 = .ok (.getfield 158, 3) := by decide +kernel
theorem dX10_next_153 : decode cX10_next 153 = .ok (.iconst 1, 1) := by decide +kernel
theorem dX10_next_154 : decode cX10_next 154 = .ok (.if_icmp .ne 89, 3) := by decide +kernel
theorem dX10_next_157 : decode cX10_next 157 = .ok (.aload_n 0, 1) := by decide +kernel
theorem dX10_next_158 : decode cX10_next 158 = .ok (.getfield 142, 3) := by decide +kernel
theorem dX10_next_161 : decode cX10_next 161 = .ok (.aload_n 0, 1) := by decide +kernel
theorem dX10_next_162 : decode cX10_next 162 = .ok (.getfield 135, 3) := by decide +kernel
theorem dX10_next_165 : decode cX10_next 165 = .ok (.if_icmp .ge 78, 3) := by decide +kernel
theorem dX10_next_168 : decode cX10_next 168 = .ok (.aload_n 0, 1) := by decide +kernel
theorem dX10_next_169 : decode cX10_next 169 = .ok (.getfield 44, 3) := by decide +kernel
theorem dX10_next_172 : decode cX10_next 172 = .ok (.aload_n 0, 1) := by decide +kernel
theorem dX10_next_173 : decode cX10_next 173 = .ok (.getfield 142, 3) := by decide +kernel
theorem dX10_next_176 : decode cX10_next 176 = .ok (.iaload, 1) := by decide +kernel
theorem dX10_next_177 : decode cX10_next 177 = .ok (.invokestatic 152, 3) := by decide +kernel
theorem dX10_next_180 : decode cX10_next 180 = .ok (.ifCond .eq 63, 3) := by decide +kernel
theorem dX10_next_183 : decode cX10_next 183 = .ok (.aload_n 0, 1) := by decide +kernel
theorem dX10_next_184 : decode cX10_next 184 = .ok (.aload_n 0, 1) := by decide +kernel
theorem dX10_next_185 : decode cX10_next 185 = .ok (.getfield 142, 3) := by decide +kernel
theorem dX10_next_188 : decode cX10_next 188 = .ok (.aload_n 0, 1) := by decide +kernel
theorem dX10_next_189 : decode cX10_next 189 = .ok (.getfield 145, 3) := by decide +kernel
theorem dX10_next_192 : decode cX10_next 192 = .ok (.isub, 1) := by decide +kernel
theorem dX10_next_193 : decode cX10_next 193 = .ok (.bipush 7, 2) := by decide +kernel
theorem dX10_next_195 : decode cX10_next 195 = .ok (.if_icmp .ge 29, 3) := by decide +kernel
theorem dX10_next_198 : decode cX10_next 198 = .ok (.aload_n 0, 1) := by decide +kernel
theorem dX10_next_199 : decode cX10_next 199 = .ok (.getfield 148, 3) := by decide +kernel
theorem dX10_next_202 : decode cX10_next 202 = .ok (.ldc2_w 161, 3) := by decide +kernel
theorem dX10_next_205 : decode cX10_next 205 = .ok (.lmul, 1) := by decide +kernel
theorem dX10_next_206 : decode cX10_next 206 = .ok (.aload_n 0, 1) := by decide +kernel
theorem dX10_next_207 : decode cX10_next 207 = .ok (.getfield 44, 3) := by decide +kernel
theorem dX10_next_210 : decode cX10_next 210 = .ok (.aload_n 0, 1) := by decide +kernel
theorem dX10_next_211 : decode cX10_next 211 = .ok (.getfield 142, 3) := by decide +kernel
theorem dX10_next_214 : decode cX10_next 214 = .ok (.iaload, 1) := by decide +kernel
theorem dX10_next_215 : decode cX10_next 215 = .ok (.i2l, 1) := by decide +kernel
theorem dX10_next_216 : decode cX10_next 216 = .ok (.ladd, 1) := by decide +kernel
theorem dX10_next_217 : decode cX10_next 217 = .ok (.ldc2_w 163, 3) := by decide +kernel
theorem dX10_next_220 : decode cX10_next 220 = .ok (.lsub, 1) := by decide +kernel
theorem dX10_next_221 : decode cX10_next 221 = .ok (.goto 6, 3) := by decide +kernel
theorem dX10_next_224 : decode cX10_next 224 = .ok (.ldc2_w 133, 3) := by decide +kernel
theorem dX10_next_227 : decode cX10_next 227 = .ok (.putfield 148, 3) := by decide +kernel
theorem dX10_next_230 : decode cX10_next 230 = .ok (.aload_n 0, 1) := by decide +kernel
theorem dX10_next_231 : decode cX10_next 231 = .ok (.dup, 1) := by decide +kernel
theorem dX10_next_232 : decode cX10_next 232 = .ok (.getfield 142, 3) := by decide +kernel
theorem dX10_next_235 : decode cX10_next 235 = .ok (.iconst 1, 1) := by decide +kernel
theorem dX10_next_236 : decode cX10_next 236 = .ok (.iadd, 1) := by decide +kernel
theorem dX10_next_237 : decode cX10_next 237 = .ok (.putfield 142, 3) := by decide +kernel
theorem dX10_next_240 : decode cX10_next 240 = .ok (.goto (-91), 3) := by decide +kernel
theorem dX10_next_243 : decode cX10_next 243 = .ok (.aload_n 0, 1) := by decide +kernel
theorem dX10_next_244 : decode cX10_next 244 = .ok (.getfield 158, 3) := by decide +kernel
theorem dX10_next_247 : decode cX10_next 247 = .ok (.iconst 2, 1) := by decide +kernel
theorem dX10_next_248 : decode cX10_next 248 = .ok (.if_icmp .ne 87, 3) := by decide +kernel
theorem dX10_next_251 : decode cX10_next 251 = .ok (.aload_n 0, 1) := by decide +kernel
theorem dX10_next_252 : decode cX10_next 252 = .ok (.getfield 142, 3) := by decide +kernel
theorem dX10_next_255 : decode cX10_next 255 = .ok (.aload_n 0, 1) := by decide +kernel
theorem dX10_next_256 : decode cX10_next 256 = .ok (.getfield 135, 3) := by decide +kernel
theorem dX10_next_259 : decode cX10_next 259 = .ok (.if_icmp .ge 76, 3) := by decide +kernel
theorem dX10_next_262 : decode cX10_next 262 = .ok (.aload_n 0, 1) := by decide +kernel
theorem dX10_next_263 : decode cX10_next 263 = .ok (.getfield 44, 3) := by decide +kernel
theorem dX10_next_266 : decode cX10_next 266 = .ok (.aload_n 0, 1) := by decide +kernel
theorem dX10_next_267 : decode cX10_next 267 = .ok (.getfield 142, 3) := by decide +kernel
theorem dX10_next_270 : decode cX10_next 270 = .ok (.iaload, 1) := by decide +kernel
theorem dX10_next_271 : decode cX10_next 271 = .ok (.invokestatic 155, 3) := by decide +kernel
theorem dX10_next_274 : decode cX10_next 274 = .ok (.ifCond .eq 61, 3) := by decide +kernel
theorem dX10_next_277 : decode cX10_next 277 = .ok (.aload_n 0, 1) := by decide +kernel
theorem dX10_next_278 : decode cX10_next 278 = .ok (.aload_n 0, 1) := by decide +kernel
theorem dX10_next_279 : decode cX10_next 279 = .ok (.getfield 148, 3) := by decide +kernel
theorem dX10_next_282 : decode cX10_next 282 = .ok (.ldc2_w 105, 3) := by decide +kernel
theorem dX10_next_285 : decode cX10_next 285 = .ok (.lcmp, 1) := by decide +kernel
theorem dX10_next_286 : decode cX10_next 286 = .ok (.ifCond .le 10, 3) := by decide +kernel
theorem dX10_next_289 : decode cX10_next 289 = .ok (.aload_n 0, 1) := by decide +kernel
theorem dX10_next_290 : decode cX10_next 290 = .ok (.getfield 148, 3) := by decide +kernel
theorem dX10_next_293 : decode cX10_next 293 = .ok (.goto 26, 3) := by decide +kernel
theorem dX10_next_296 : decode cX10_next 296 = .ok (.aload_n 0, 1) := by decide +kernel
theorem dX10_next_297 : decode cX10_next 297 = .ok (.getfield 148, 3) := by decide +kernel
theorem dX10_next_300 : decode cX10_next 300 = .ok (.ldc2_w 165, 3) := by decide +kernel
theorem dX10_next_303 : decode cX10_next 303 = .ok (.lmul, 1) := by decide +kernel
theorem dX10_next_304 : decode cX10_next 304 = .ok (.aload_n 0, 1) := by decide +kernel
theorem dX10_next_305 : decode cX10_next 305 = .ok (.getfield 44, 3) := by decide +kernel
theorem dX10_next_308 : decode cX10_next 308 = .ok (.aload_n 0, 1) := by decide +kernel
theorem dX10_next_309 : decode cX10_next 309 = .ok (.getfield 142, 3) := by decide +kernel
theorem dX10_next_312 : decode cX10_next 312 = .ok (.iaload, 1) := by decide +kernel
theorem dX10_next_313 : decode cX10_next 313 = .ok (.i2l, 1) := by decide +kernel
theorem dX10_next_314 : decode cX10_next 314 = .ok (.ladd, 1) := by decide +kernel
theorem dX10_next_315 : decode cX10_next 315 = .ok (.ldc2_w 167, 3) := by decide +kernel
theorem dX10_next_318 : decode cX10_next 318 = .ok (.lsub, 1) := by decide +kernel
theorem dX10_next_319 : decode cX10_next 319 = .ok (.putfield 148, 3) := by decide +kernel
theorem dX10_next_322 : decode cX10_next 322 = .ok (.aload_n 0, 1) := by decide +kernel
theorem dX10_next_323 : decode cX10_next 323 = .ok (.dup, 1) := by decide +kernel
theorem dX10_next_324 : decode cX10_next 324 = .ok (.getfield 142, 3) := by decide +kernel
theorem dX10_next_327 : decode cX10_next 327 = .ok (.iconst 1, 1) := by decide +kernel
theorem dX10_next_328 : decode cX10_next 328 = .ok (.iadd, 1) := by decide +kernel
theorem dX10_next_329 : decode cX10_next 329 = .ok (.putfield 142, 3) := by decide +kernel
theorem dX10_next_332 : decode cX10_next 332 = .ok (.goto (-89), 3) := by decide +kernel
theorem dX10_next_335 : decode cX10_next 335 = .ok (.return_, 1) := by decide +kernel
def rmX10_next : Room := { frames := 1, cells := 0, slots := 0, locals := 20 }
def fX10_next_319 (r243 : Nat → PH → Option (Unit × PH)) (al0 : Nat) (xs0 : Int64) (as1 : Nat) (h0 : PH) : Option (Unit × PH) :=
    bn (wr 10 24 (.long xs0) as1 h0) fun h36 =>
    bn (rdI 10 22 al0 h36) fun x37 =>
    bn (wr 10 22 (.int (x37 + (1 : Int32))) al0 h36) fun h38 =>
    r243 al0 h38
set_option maxHeartbeats 4000000 in
set_option maxRecDepth 100000 in
theorem vfX10_next_319 {p : Program} {l : Launch} {e : Env} {s : State} {m : MethodId} {args : Array Value} {below : List Frame} {meth : Method} {c : Code} {G : GX} (C : Cx p s m args meth c G cX10_next 1 RX10) (hr : meth.sig.returnType = none) {r243 : Nat → PH → Option (Unit × PH)} (k243 : ∀ (al0 : Nat) (h0 : PH), J p l e rmX10_next s m args below meth c G 1 (qM below args s rvU G 0 0) 0 0 h0 243 [(0, .ref al0)] [] (r243 al0 h0)) (al0 : Nat) (xs0 : Int64) (as1 : Nat) (h0 : PH) : J p l e rmX10_next s m args below meth c G 1 (qM below args s rvU G 0 0) 0 0 h0 319 [(0, .ref al0)] [.long xs0, .ref as1] (fX10_next_319 r243 al0 xs0 as1 h0) := by
  unfold fX10_next_319
  refine J_put (pc := 319) C flX10_148 cl10 ft10_24 rfl rfl dX10_next_319 (fun h36 => ?_)
  refine J_aload_n (pc := 322) C dX10_next_322 rfl 0 rfl ?_
  refine J_dup (pc := 323) C dX10_next_323 rfl ?_
  refine J_getI (pc := 324) C flX10_142 dX10_next_324 (fun x37 => ?_)
  refine J_iconst (pc := 327) (v := 1) C dX10_next_327 (by decide) ?_
  refine J_iadd (pc := 328) C dX10_next_328 ?_
  refine J_put (pc := 329) C flX10_142 cl10 ft10_22 rfl rfl dX10_next_329 (fun h38 => ?_)
  refine J_goto (pc := 332) (tgt := 243) C dX10_next_332 (by decide) ?_
  exact k243 al0 h38
def fX10_next_243  : Nat → Nat → PH → Option (Unit × PH)
  | 0, _, _ => none
  | n + 1, al0, h0 =>
    bn (rdI 10 23 al0 h0) fun x23 =>
    if x23 = (2 : Int32) then (bn (rdI 10 22 al0 h0) fun x24 =>
    bn (rdI 10 20 al0 h0) fun x25 =>
    if x25 ≤ x24 then (some ((), h0)) else
    bn (rdR 10 19 al0 h0) fun a26 =>
    bn (rdI 10 22 al0 h0) fun x27 =>
    bn (aldI 0 a26 x27 h0) fun x28 =>
    bn2 (fX10_isDigit x28 h0) fun x30 h29 =>
    if x30 = 0 then (some ((), h29)) else
    bn (rdJ 10 24 al0 h29) fun x31 =>
    if x31 ≤ (1000 : Int64) then (bn (rdJ 10 24 al0 h29) fun x32 =>
    bn (rdR 10 19 al0 h29) fun a33 =>
    bn (rdI 10 22 al0 h29) fun x34 =>
    bn (aldI 0 a33 x34 h29) fun x35 =>
    fX10_next_319 (fX10_next_243 n) al0 (((x32 * (10 : Int64)) + x35.toInt64) - (48 : Int64)) al0 h29) else
    bn (rdJ 10 24 al0 h29) fun x39 =>
    fX10_next_319 (fX10_next_243 n) al0 x39 al0 h29) else
    some ((), h0)
set_option maxHeartbeats 4000000 in
set_option maxRecDepth 100000 in
theorem vfX10_next_243 {p : Program} {l : Launch} {e : Env} {s : State} {m : MethodId} {args : Array Value} {below : List Frame} {meth : Method} {c : Code} {G : GX} (C : Cx p s m args meth c G cX10_next 1 RX10) (hr : meth.sig.returnType = none) : ∀ (n : Nat) (al0 : Nat) (h0 : PH), J p l e rmX10_next s m args below meth c G 1 (qM below args s rvU G 0 0) 0 0 h0 243 [(0, .ref al0)] [] (fX10_next_243  n al0 h0) := by
  intro n
  induction n with
  | zero => exact fun al0 h0 => J_none C
  | succ n ih =>
    intro al0 h0
    unfold fX10_next_243
    refine J_aload_n (pc := 243) C dX10_next_243 rfl 0 rfl ?_
    refine J_getI (pc := 244) C flX10_158 dX10_next_244 (fun x23 => ?_)
    refine J_iconst (pc := 247) (v := 2) C dX10_next_247 (by decide) ?_
    refine J_icmp_ne (pc := 248) (tgt := 335) C dX10_next_248 (by decide) ?_ ?_
    · exact J_vret (pc := 335) C hr dX10_next_335
    · refine J_aload_n (pc := 251) C dX10_next_251 rfl 0 rfl ?_
      refine J_getI (pc := 252) C flX10_142 dX10_next_252 (fun x24 => ?_)
      refine J_aload_n (pc := 255) C dX10_next_255 rfl 0 rfl ?_
      refine J_getI (pc := 256) C flX10_135 dX10_next_256 (fun x25 => ?_)
      refine J_icmp_ge (pc := 259) (tgt := 335) C dX10_next_259 (by decide) ?_ ?_
      · exact J_vret (pc := 335) C hr dX10_next_335
      · refine J_aload_n (pc := 262) C dX10_next_262 rfl 0 rfl ?_
        refine J_getR (pc := 263) C flX10_44 dX10_next_263 (fun a26 => ?_)
        refine J_aload_n (pc := 266) C dX10_next_266 rfl 0 rfl ?_
        refine J_getI (pc := 267) C flX10_142 dX10_next_267 (fun x27 => ?_)
        refine J_iald (pc := 270) C dX10_next_270 (fun x28 => ?_)
        refine J_callSI (pc := 271) (As := [.int x28]) (rest := []) C (fun z hz => mX10_isDigit x28 h0 z hz) mwX10_isDigit mlX10_155 stX10_isDigit rfl dX10_next_271 (by decide) rfl (Nat.le_of_ble_eq_true rfl) (by decide) (fun x30 h29 => ?_)
        refine J_if_eq (pc := 274) (tgt := 335) C dX10_next_274 (by decide) ?_ ?_
        · exact J_vret (pc := 335) C hr dX10_next_335
        · refine J_aload_n (pc := 277) C dX10_next_277 rfl 0 rfl ?_
          refine J_aload_n (pc := 278) C dX10_next_278 rfl 0 rfl ?_
          refine J_getJ (pc := 279) C flX10_148 dX10_next_279 (fun x31 => ?_)
          refine J_ldc2 (pc := 282) C kjX10_105 dX10_next_282 ?_
          refine J_lcmp_le (pc := 285) (tgt := 296) C dX10_next_285 dX10_next_286 (by decide) ?_ ?_
          · refine J_aload_n (pc := 296) C dX10_next_296 rfl 0 rfl ?_
            refine J_getJ (pc := 297) C flX10_148 dX10_next_297 (fun x32 => ?_)
            refine J_ldc2 (pc := 300) C kjX10_165 dX10_next_300 ?_
            refine J_lmul (pc := 303) C dX10_next_303 ?_
            refine J_aload_n (pc := 304) C dX10_next_304 rfl 0 rfl ?_
            refine J_getR (pc := 305) C flX10_44 dX10_next_305 (fun a33 => ?_)
            refine J_aload_n (pc := 308) C dX10_next_308 rfl 0 rfl ?_
            refine J_getI (pc := 309) C flX10_142 dX10_next_309 (fun x34 => ?_)
            refine J_iald (pc := 312) C dX10_next_312 (fun x35 => ?_)
            refine J_i2l (pc := 313) C dX10_next_313 ?_
            refine J_ladd (pc := 314) C dX10_next_314 ?_
            refine J_ldc2 (pc := 315) C kjX10_167 dX10_next_315 ?_
            refine J_lsub (pc := 318) C dX10_next_318 ?_
            exact vfX10_next_319 C hr ih al0 (((x32 * (10 : Int64)) + x35.toInt64) - (48 : Int64)) al0 h29
          · refine J_aload_n (pc := 289) C dX10_next_289 rfl 0 rfl ?_
            refine J_getJ (pc := 290) C flX10_148 dX10_next_290 (fun x39 => ?_)
            refine J_goto (pc := 293) (tgt := 319) C dX10_next_293 (by decide) ?_
            exact vfX10_next_319 C hr ih al0 x39 al0 h29
def fX10_next_227 (r149 : Nat → PH → Option (Unit × PH)) (al0 : Nat) (xs0 : Int64) (as1 : Nat) (h0 : PH) : Option (Unit × PH) :=
    bn (wr 10 24 (.long xs0) as1 h0) fun h49 =>
    bn (rdI 10 22 al0 h49) fun x50 =>
    bn (wr 10 22 (.int (x50 + (1 : Int32))) al0 h49) fun h51 =>
    r149 al0 h51
set_option maxHeartbeats 4000000 in
set_option maxRecDepth 100000 in
theorem vfX10_next_227 {p : Program} {l : Launch} {e : Env} {s : State} {m : MethodId} {args : Array Value} {below : List Frame} {meth : Method} {c : Code} {G : GX} (C : Cx p s m args meth c G cX10_next 1 RX10) (hr : meth.sig.returnType = none) {r149 : Nat → PH → Option (Unit × PH)} (k149 : ∀ (al0 : Nat) (h0 : PH), J p l e rmX10_next s m args below meth c G 1 (qM below args s rvU G 0 0) 0 0 h0 149 [(0, .ref al0)] [] (r149 al0 h0)) (al0 : Nat) (xs0 : Int64) (as1 : Nat) (h0 : PH) : J p l e rmX10_next s m args below meth c G 1 (qM below args s rvU G 0 0) 0 0 h0 227 [(0, .ref al0)] [.long xs0, .ref as1] (fX10_next_227 r149 al0 xs0 as1 h0) := by
  unfold fX10_next_227
  refine J_put (pc := 227) C flX10_148 cl10 ft10_24 rfl rfl dX10_next_227 (fun h49 => ?_)
  refine J_aload_n (pc := 230) C dX10_next_230 rfl 0 rfl ?_
  refine J_dup (pc := 231) C dX10_next_231 rfl ?_
  refine J_getI (pc := 232) C flX10_142 dX10_next_232 (fun x50 => ?_)
  refine J_iconst (pc := 235) (v := 1) C dX10_next_235 (by decide) ?_
  refine J_iadd (pc := 236) C dX10_next_236 ?_
  refine J_put (pc := 237) C flX10_142 cl10 ft10_22 rfl rfl dX10_next_237 (fun h51 => ?_)
  refine J_goto (pc := 240) (tgt := 149) C dX10_next_240 (by decide) ?_
  exact k149 al0 h51
def fX10_next_149  : Nat → Nat → PH → Option (Unit × PH)
  | 0, _, _ => none
  | n + 1, al0, h0 =>
    bn (rdI 10 23 al0 h0) fun x22 =>
    if x22 = (1 : Int32) then (bn (rdI 10 22 al0 h0) fun x40 =>
    bn (rdI 10 20 al0 h0) fun x41 =>
    if x41 ≤ x40 then (fX10_next_243  FU al0 h0) else
    bn (rdR 10 19 al0 h0) fun a42 =>
    bn (rdI 10 22 al0 h0) fun x43 =>
    bn (aldI 0 a42 x43 h0) fun x44 =>
    bn2 (fX10_isSmall x44 h0) fun x46 h45 =>
    if x46 = 0 then (fX10_next_243  FU al0 h45) else
    bn (rdI 10 22 al0 h45) fun x47 =>
    bn (rdI 10 21 al0 h45) fun x48 =>
    if (7 : Int32) ≤ (x47 - x48) then (fX10_next_227 (fX10_next_149 n) al0 (-1 : Int64) al0 h45) else
    bn (rdJ 10 24 al0 h45) fun x52 =>
    bn (rdR 10 19 al0 h45) fun a53 =>
    bn (rdI 10 22 al0 h45) fun x54 =>
    bn (aldI 0 a53 x54 h45) fun x55 =>
    fX10_next_227 (fX10_next_149 n) al0 (((x52 * (32 : Int64)) + x55.toInt64) - (96 : Int64)) al0 h45) else
    fX10_next_243  FU al0 h0
set_option maxHeartbeats 4000000 in
set_option maxRecDepth 100000 in
theorem vfX10_next_149 {p : Program} {l : Launch} {e : Env} {s : State} {m : MethodId} {args : Array Value} {below : List Frame} {meth : Method} {c : Code} {G : GX} (C : Cx p s m args meth c G cX10_next 1 RX10) (hr : meth.sig.returnType = none) : ∀ (n : Nat) (al0 : Nat) (h0 : PH), J p l e rmX10_next s m args below meth c G 1 (qM below args s rvU G 0 0) 0 0 h0 149 [(0, .ref al0)] [] (fX10_next_149  n al0 h0) := by
  intro n
  induction n with
  | zero => exact fun al0 h0 => J_none C
  | succ n ih =>
    intro al0 h0
    unfold fX10_next_149
    refine J_aload_n (pc := 149) C dX10_next_149 rfl 0 rfl ?_
    refine J_getI (pc := 150) C flX10_158 dX10_next_150 (fun x22 => ?_)
    refine J_iconst (pc := 153) (v := 1) C dX10_next_153 (by decide) ?_
    refine J_icmp_ne (pc := 154) (tgt := 243) C dX10_next_154 (by decide) ?_ ?_
    · exact vfX10_next_243 C hr  FU al0 h0
    · refine J_aload_n (pc := 157) C dX10_next_157 rfl 0 rfl ?_
      refine J_getI (pc := 158) C flX10_142 dX10_next_158 (fun x40 => ?_)
      refine J_aload_n (pc := 161) C dX10_next_161 rfl 0 rfl ?_
      refine J_getI (pc := 162) C flX10_135 dX10_next_162 (fun x41 => ?_)
      refine J_icmp_ge (pc := 165) (tgt := 243) C dX10_next_165 (by decide) ?_ ?_
      · exact vfX10_next_243 C hr  FU al0 h0
      · refine J_aload_n (pc := 168) C dX10_next_168 rfl 0 rfl ?_
        refine J_getR (pc := 169) C flX10_44 dX10_next_169 (fun a42 => ?_)
        refine J_aload_n (pc := 172) C dX10_next_172 rfl 0 rfl ?_
        refine J_getI (pc := 173) C flX10_142 dX10_next_173 (fun x43 => ?_)
        refine J_iald (pc := 176) C dX10_next_176 (fun x44 => ?_)
        refine J_callSI (pc := 177) (As := [.int x44]) (rest := []) C (fun z hz => mX10_isSmall x44 h0 z hz) mwX10_isSmall mlX10_152 stX10_isSmall rfl dX10_next_177 (by decide) rfl (Nat.le_of_ble_eq_true rfl) (by decide) (fun x46 h45 => ?_)
        refine J_if_eq (pc := 180) (tgt := 243) C dX10_next_180 (by decide) ?_ ?_
        · exact vfX10_next_243 C hr  FU al0 h45
        · refine J_aload_n (pc := 183) C dX10_next_183 rfl 0 rfl ?_
          refine J_aload_n (pc := 184) C dX10_next_184 rfl 0 rfl ?_
          refine J_getI (pc := 185) C flX10_142 dX10_next_185 (fun x47 => ?_)
          refine J_aload_n (pc := 188) C dX10_next_188 rfl 0 rfl ?_
          refine J_getI (pc := 189) C flX10_145 dX10_next_189 (fun x48 => ?_)
          refine J_isub (pc := 192) C dX10_next_192 ?_
          refine J_bipush (pc := 193) (v := 7) C dX10_next_193 (by decide) ?_
          refine J_icmp_ge (pc := 195) (tgt := 224) C dX10_next_195 (by decide) ?_ ?_
          · refine J_ldc2 (pc := 224) C kjX10_133 dX10_next_224 ?_
            exact vfX10_next_227 C hr ih al0 (-1 : Int64) al0 h45
          · refine J_aload_n (pc := 198) C dX10_next_198 rfl 0 rfl ?_
            refine J_getJ (pc := 199) C flX10_148 dX10_next_199 (fun x52 => ?_)
            refine J_ldc2 (pc := 202) C kjX10_161 dX10_next_202 ?_
            refine J_lmul (pc := 205) C dX10_next_205 ?_
            refine J_aload_n (pc := 206) C dX10_next_206 rfl 0 rfl ?_
            refine J_getR (pc := 207) C flX10_44 dX10_next_207 (fun a53 => ?_)
            refine J_aload_n (pc := 210) C dX10_next_210 rfl 0 rfl ?_
            refine J_getI (pc := 211) C flX10_142 dX10_next_211 (fun x54 => ?_)
            refine J_iald (pc := 214) C dX10_next_214 (fun x55 => ?_)
            refine J_i2l (pc := 215) C dX10_next_215 ?_
            refine J_ladd (pc := 216) C dX10_next_216 ?_
            refine J_ldc2 (pc := 217) C kjX10_163 dX10_next_217 ?_
            refine J_lsub (pc := 220) C dX10_next_220 ?_
            refine J_goto (pc := 221) (tgt := 227) C dX10_next_221 (by decide) ?_
            exact vfX10_next_227 C hr ih al0 (((x52 * (32 : Int64)) + x55.toInt64) - (96 : Int64)) al0 h45
def fX10_next_114  (al0 : Nat) (xs0 : Int32) (as1 : Nat) (h0 : PH) : Option (Unit × PH) :=
    bn (wr 10 23 (.int xs0) as1 h0) fun h20 =>
    bn (rdI 10 23 al0 h20) fun x21 =>
    if x21 = (3 : Int32) then (bn (rdR 10 19 al0 h20) fun a56 =>
    bn (rdI 10 21 al0 h20) fun x57 =>
    bn (aldI 0 a56 x57 h20) fun x58 =>
    bn (wr 10 24 (.long x58.toInt64) al0 h20) fun h59 =>
    bn (rdI 10 22 al0 h59) fun x60 =>
    bn (wr 10 22 (.int (x60 + (1 : Int32))) al0 h59) fun h61 =>
    fX10_next_149  FU al0 h61) else
    fX10_next_149  FU al0 h20
set_option maxHeartbeats 4000000 in
set_option maxRecDepth 100000 in
theorem vfX10_next_114 {p : Program} {l : Launch} {e : Env} {s : State} {m : MethodId} {args : Array Value} {below : List Frame} {meth : Method} {c : Code} {G : GX} (C : Cx p s m args meth c G cX10_next 1 RX10) (hr : meth.sig.returnType = none) (al0 : Nat) (xs0 : Int32) (as1 : Nat) (h0 : PH) : J p l e rmX10_next s m args below meth c G 1 (qM below args s rvU G 0 0) 0 0 h0 114 [(0, .ref al0)] [.int xs0, .ref as1] (fX10_next_114  al0 xs0 as1 h0) := by
  unfold fX10_next_114
  refine J_put (pc := 114) C flX10_158 cl10 ft10_23 rfl rfl dX10_next_114 (fun h20 => ?_)
  refine J_aload_n (pc := 117) C dX10_next_117 rfl 0 rfl ?_
  refine J_getI (pc := 118) C flX10_158 dX10_next_118 (fun x21 => ?_)
  refine J_iconst (pc := 121) (v := 3) C dX10_next_121 (by decide) ?_
  refine J_icmp_ne (pc := 122) (tgt := 149) C dX10_next_122 (by decide) ?_ ?_
  · exact vfX10_next_149 C hr  FU al0 h20
  · refine J_aload_n (pc := 125) C dX10_next_125 rfl 0 rfl ?_
    refine J_aload_n (pc := 126) C dX10_next_126 rfl 0 rfl ?_
    refine J_getR (pc := 127) C flX10_44 dX10_next_127 (fun a56 => ?_)
    refine J_aload_n (pc := 130) C dX10_next_130 rfl 0 rfl ?_
    refine J_getI (pc := 131) C flX10_145 dX10_next_131 (fun x57 => ?_)
    refine J_iald (pc := 134) C dX10_next_134 (fun x58 => ?_)
    refine J_i2l (pc := 135) C dX10_next_135 ?_
    refine J_put (pc := 136) C flX10_148 cl10 ft10_24 rfl rfl dX10_next_136 (fun h59 => ?_)
    refine J_aload_n (pc := 139) C dX10_next_139 rfl 0 rfl ?_
    refine J_dup (pc := 140) C dX10_next_140 rfl ?_
    refine J_getI (pc := 141) C flX10_142 dX10_next_141 (fun x60 => ?_)
    refine J_iconst (pc := 144) (v := 1) C dX10_next_144 (by decide) ?_
    refine J_iadd (pc := 145) C dX10_next_145 ?_
    refine J_put (pc := 146) C flX10_142 cl10 ft10_22 rfl rfl dX10_next_146 (fun h61 => ?_)
    exact vfX10_next_149 C hr  FU al0 h61
def fX10_next_46  (al0 : Nat) (h0 : PH) : Option (Unit × PH) :=
    bn (rdI 10 21 al0 h0) fun x5 =>
    bn (wr 10 22 (.int x5) al0 h0) fun h6 =>
    bn (wr 10 24 (.long (0 : Int64)) al0 h6) fun h7 =>
    bn (rdI 10 21 al0 h7) fun x8 =>
    bn (rdI 10 20 al0 h7) fun x9 =>
    if x8 = x9 then (fX10_next_114  al0 (0 : Int32) al0 h7) else
    bn (rdR 10 19 al0 h7) fun a10 =>
    bn (rdI 10 21 al0 h7) fun x11 =>
    bn (aldI 0 a10 x11 h7) fun x12 =>
    bn2 (fX10_isSmall x12 h7) fun x14 h13 =>
    if x14 = 0 then (bn (rdR 10 19 al0 h13) fun a15 =>
    bn (rdI 10 21 al0 h13) fun x16 =>
    bn (aldI 0 a15 x16 h13) fun x17 =>
    bn2 (fX10_isDigit x17 h13) fun x19 h18 =>
    if x19 = 0 then (fX10_next_114  al0 (3 : Int32) al0 h18) else
    fX10_next_114  al0 (2 : Int32) al0 h18) else
    fX10_next_114  al0 (1 : Int32) al0 h13
set_option maxHeartbeats 4000000 in
set_option maxRecDepth 100000 in
theorem vfX10_next_46 {p : Program} {l : Launch} {e : Env} {s : State} {m : MethodId} {args : Array Value} {below : List Frame} {meth : Method} {c : Code} {G : GX} (C : Cx p s m args meth c G cX10_next 1 RX10) (hr : meth.sig.returnType = none) (al0 : Nat) (h0 : PH) : J p l e rmX10_next s m args below meth c G 1 (qM below args s rvU G 0 0) 0 0 h0 46 [(0, .ref al0)] [] (fX10_next_46  al0 h0) := by
  unfold fX10_next_46
  refine J_aload_n (pc := 46) C dX10_next_46 rfl 0 rfl ?_
  refine J_aload_n (pc := 47) C dX10_next_47 rfl 0 rfl ?_
  refine J_getI (pc := 48) C flX10_145 dX10_next_48 (fun x5 => ?_)
  refine J_put (pc := 51) C flX10_142 cl10 ft10_22 rfl rfl dX10_next_51 (fun h6 => ?_)
  refine J_aload_n (pc := 54) C dX10_next_54 rfl 0 rfl ?_
  refine J_lconst (pc := 55) (v := 0) C dX10_next_55 (by decide) ?_
  refine J_put (pc := 56) C flX10_148 cl10 ft10_24 rfl rfl dX10_next_56 (fun h7 => ?_)
  refine J_aload_n (pc := 59) C dX10_next_59 rfl 0 rfl ?_
  refine J_aload_n (pc := 60) C dX10_next_60 rfl 0 rfl ?_
  refine J_getI (pc := 61) C flX10_145 dX10_next_61 (fun x8 => ?_)
  refine J_aload_n (pc := 64) C dX10_next_64 rfl 0 rfl ?_
  refine J_getI (pc := 65) C flX10_135 dX10_next_65 (fun x9 => ?_)
  refine J_icmp_ne (pc := 68) (tgt := 75) C dX10_next_68 (by decide) ?_ ?_
  · refine J_aload_n (pc := 75) C dX10_next_75 rfl 0 rfl ?_
    refine J_getR (pc := 76) C flX10_44 dX10_next_76 (fun a10 => ?_)
    refine J_aload_n (pc := 79) C dX10_next_79 rfl 0 rfl ?_
    refine J_getI (pc := 80) C flX10_145 dX10_next_80 (fun x11 => ?_)
    refine J_iald (pc := 83) C dX10_next_83 (fun x12 => ?_)
    refine J_callSI (pc := 84) (As := [.int x12]) (rest := [.ref al0]) C (fun z hz => mX10_isSmall x12 h7 z hz) mwX10_isSmall mlX10_152 stX10_isSmall rfl dX10_next_84 (by decide) rfl (Nat.le_of_ble_eq_true rfl) (by decide) (fun x14 h13 => ?_)
    refine J_if_eq (pc := 87) (tgt := 94) C dX10_next_87 (by decide) ?_ ?_
    · refine J_aload_n (pc := 94) C dX10_next_94 rfl 0 rfl ?_
      refine J_getR (pc := 95) C flX10_44 dX10_next_95 (fun a15 => ?_)
      refine J_aload_n (pc := 98) C dX10_next_98 rfl 0 rfl ?_
      refine J_getI (pc := 99) C flX10_145 dX10_next_99 (fun x16 => ?_)
      refine J_iald (pc := 102) C dX10_next_102 (fun x17 => ?_)
      refine J_callSI (pc := 103) (As := [.int x17]) (rest := [.ref al0]) C (fun z hz => mX10_isDigit x17 h13 z hz) mwX10_isDigit mlX10_155 stX10_isDigit rfl dX10_next_103 (by decide) rfl (Nat.le_of_ble_eq_true rfl) (by decide) (fun x19 h18 => ?_)
      refine J_if_eq (pc := 106) (tgt := 113) C dX10_next_106 (by decide) ?_ ?_
      · refine J_iconst (pc := 113) (v := 3) C dX10_next_113 (by decide) ?_
        exact vfX10_next_114 C hr  al0 (3 : Int32) al0 h18
      · refine J_iconst (pc := 109) (v := 2) C dX10_next_109 (by decide) ?_
        refine J_goto (pc := 110) (tgt := 114) C dX10_next_110 (by decide) ?_
        exact vfX10_next_114 C hr  al0 (2 : Int32) al0 h18
    · refine J_iconst (pc := 90) (v := 1) C dX10_next_90 (by decide) ?_
      refine J_goto (pc := 91) (tgt := 114) C dX10_next_91 (by decide) ?_
      exact vfX10_next_114 C hr  al0 (1 : Int32) al0 h13
  · refine J_iconst (pc := 71) (v := 0) C dX10_next_71 (by decide) ?_
    refine J_goto (pc := 72) (tgt := 114) C dX10_next_72 (by decide) ?_
    exact vfX10_next_114 C hr  al0 (0 : Int32) al0 h7
def fX10_next_8  : Nat → Nat → PH → Option (Unit × PH)
  | 0, _, _ => none
  | n + 1, al0, h0 =>
    bn (rdI 10 21 al0 h0) fun x3 =>
    bn (rdI 10 20 al0 h0) fun x4 =>
    if x4 ≤ x3 then (fX10_next_46  al0 h0) else
    bn (rdR 10 19 al0 h0) fun a62 =>
    bn (rdI 10 21 al0 h0) fun x63 =>
    bn (aldI 0 a62 x63 h0) fun x64 =>
    if x64 = (32 : Int32) then (bn (rdI 10 21 al0 h0) fun x65 =>
    bn (wr 10 21 (.int (x65 + (1 : Int32))) al0 h0) fun h66 =>
    (fX10_next_8 n) al0 h66) else
    fX10_next_46  al0 h0
set_option maxHeartbeats 4000000 in
set_option maxRecDepth 100000 in
theorem vfX10_next_8 {p : Program} {l : Launch} {e : Env} {s : State} {m : MethodId} {args : Array Value} {below : List Frame} {meth : Method} {c : Code} {G : GX} (C : Cx p s m args meth c G cX10_next 1 RX10) (hr : meth.sig.returnType = none) : ∀ (n : Nat) (al0 : Nat) (h0 : PH), J p l e rmX10_next s m args below meth c G 1 (qM below args s rvU G 0 0) 0 0 h0 8 [(0, .ref al0)] [] (fX10_next_8  n al0 h0) := by
  intro n
  induction n with
  | zero => exact fun al0 h0 => J_none C
  | succ n ih =>
    intro al0 h0
    unfold fX10_next_8
    refine J_aload_n (pc := 8) C dX10_next_8 rfl 0 rfl ?_
    refine J_getI (pc := 9) C flX10_145 dX10_next_9 (fun x3 => ?_)
    refine J_aload_n (pc := 12) C dX10_next_12 rfl 0 rfl ?_
    refine J_getI (pc := 13) C flX10_135 dX10_next_13 (fun x4 => ?_)
    refine J_icmp_ge (pc := 16) (tgt := 46) C dX10_next_16 (by decide) ?_ ?_
    · exact vfX10_next_46 C hr  al0 h0
    · refine J_aload_n (pc := 19) C dX10_next_19 rfl 0 rfl ?_
      refine J_getR (pc := 20) C flX10_44 dX10_next_20 (fun a62 => ?_)
      refine J_aload_n (pc := 23) C dX10_next_23 rfl 0 rfl ?_
      refine J_getI (pc := 24) C flX10_145 dX10_next_24 (fun x63 => ?_)
      refine J_iald (pc := 27) C dX10_next_27 (fun x64 => ?_)
      refine J_bipush (pc := 28) (v := 32) C dX10_next_28 (by decide) ?_
      refine J_icmp_ne (pc := 30) (tgt := 46) C dX10_next_30 (by decide) ?_ ?_
      · exact vfX10_next_46 C hr  al0 h0
      · refine J_aload_n (pc := 33) C dX10_next_33 rfl 0 rfl ?_
        refine J_dup (pc := 34) C dX10_next_34 rfl ?_
        refine J_getI (pc := 35) C flX10_145 dX10_next_35 (fun x65 => ?_)
        refine J_iconst (pc := 38) (v := 1) C dX10_next_38 (by decide) ?_
        refine J_iadd (pc := 39) C dX10_next_39 ?_
        refine J_put (pc := 40) C flX10_145 cl10 ft10_21 rfl rfl dX10_next_40 (fun h66 => ?_)
        refine J_goto (pc := 43) (tgt := 8) C dX10_next_43 (by decide) ?_
        exact ih al0 h66
def fX10_next  (a0 : Nat) (h0 : PH) : Option (Unit × PH) :=
    bn (rdI 10 22 a0 h0) fun x1 =>
    bn (wr 10 21 (.int x1) a0 h0) fun h2 =>
    fX10_next_8  FU a0 h2
set_option maxHeartbeats 4000000 in
set_option maxRecDepth 100000 in
theorem vfX10_next {p : Program} {l : Launch} {e : Env} {s : State} {m : MethodId} {args : Array Value} {below : List Frame} {meth : Method} {c : Code} {G : GX} (C : Cx p s m args meth c G cX10_next 1 RX10) (hr : meth.sig.returnType = none) (a0 : Nat) (h0 : PH) : J p l e rmX10_next s m args below meth c G 1 (qM below args s rvU G 0 0) 0 0 h0 0 [(0, .ref a0)] [] (fX10_next  a0 h0) := by
  unfold fX10_next
  refine J_aload_n (pc := 0) C dX10_next_0 rfl 0 rfl ?_
  refine J_aload_n (pc := 1) C dX10_next_1 rfl 0 rfl ?_
  refine J_getI (pc := 2) C flX10_142 dX10_next_2 (fun x1 => ?_)
  refine J_put (pc := 5) C flX10_145 cl10 ft10_21 rfl rfl dX10_next_5 (fun h2 => ?_)
  exact vfX10_next_8 C hr  FU a0 h2
theorem mX10_next {l : Launch} {G : GX} (a0 : Nat) (h0 : PH) : ∀ z, fX10_next a0 h0 = some z → MC l G yX10_next cX10_next 1 none rmX10_next [.ref a0] h0 (rvU z.1) z.2 :=
  Met_J (own := RX10) (by decide) rfl (Nat.le_of_ble_eq_true rfl) (fun p e s m args below meth c C hr hn => vfX10_next C hr a0 h0)

theorem dX10_isNamed_0 : decode cX10_isNamed 0 = .ok (.iconst 0, 1) := by decide +kernel
theorem dX10_isNamed_1 : decode cX10_isNamed 1 = .ok (.istore_n 1, 1) := by decide +kernel
theorem dX10_isNamed_2 : decode cX10_isNamed 2 = .ok (.iconst 0, 1) := by decide +kernel
theorem dX10_isNamed_3 : decode cX10_isNamed 3 = .ok (.istore_n 2, 1) := by decide +kernel
theorem dX10_isNamed_4 : decode cX10_isNamed 4 = .ok (.iload_n 2, 1) := by decide +kernel
theorem dX10_isNamed_5 : decode cX10_isNamed 5 = .ok (.aload_n 0, 1) := by decide +kernel
theorem dX10_isNamed_6 : decode cX10_isNamed 6 = .ok (.getfield 180, 3) := by decide +kernel
theorem dX10_isNamed_9 : decode cX10_isNamed 9 = .ok (.if_icmp .ge 106, 3) := by decide +kernel
theorem dX10_isNamed_12 : decode cX10_isNamed 12 = .ok (.aload_n 0, 1) := by decide +kernel
theorem dX10_isNamed_13 : decode cX10_isNamed 13 = .ok (.getfield 41, 3) := by decide +kernel
theorem dX10_isNamed_16 : decode cX10_isNamed 16 = .ok (.iload_n 2, 1) := by decide +kernel
theorem dX10_isNamed_17 : decode cX10_isNamed 17 = .ok (.iaload, 1) := by decide +kernel
theorem dX10_isNamed_18 : decode cX10_isNamed 18 = .ok (.aload_n 0, 1) := by decide +kernel
theorem dX10_isNamed_19 : decode cX10_isNamed 19 = .ok (.getfield 142, 3) := by decide +kernel
theorem dX10_isNamed_22 : decode cX10_isNamed 22 = .ok (.aload_n 0, 1) := by decide +kernel
theorem dX10_isNamed_23 : decode cX10_isNamed 23 = .ok (.getfield 145, 3) := by decide +kernel
theorem dX10_isNamed_26 : decode cX10_isNamed 26 = .ok (.isub, 1) := by decide +kernel
theorem dX10_isNamed_27 : decode cX10_isNamed 27 = .ok (.if_icmp .ne 7, 3) := by decide +kernel
theorem dX10_isNamed_30 : decode cX10_isNamed 30 = .ok (.iconst 1, 1) := by decide +kernel
theorem dX10_isNamed_31 : decode cX10_isNamed 31 = .ok (.goto 4, 3) := by decide +kernel
theorem dX10_isNamed_34 : decode cX10_isNamed 34 = .ok (.iconst 0, 1) := by decide +kernel
theorem dX10_isNamed_35 : decode cX10_isNamed 35 = .ok (.istore_n 3, 1) := by decide +kernel
theorem dX10_isNamed_36 : decode cX10_isNamed 36 = .ok (.iconst 0, 1) := by decide +kernel
theorem dX10_isNamed_37 : decode cX10_isNamed 37 = .ok (.istore 4, 2) := by decide +kernel
theorem dX10_isNamed_39 : decode cX10_isNamed 39 = .ok (.iload 4, 2) := by decide +kernel
theorem dX10_isNamed_41 : decode cX10_isNamed 41 = .ok (.aload_n 0, 1) := by decide +kernel
theorem dX10_isNamed_42 : decode cX10_isNamed 42 = .ok (.getfield 41, 3) := by decide +kernel
theorem dX10_isNamed_45 : decode cX10_isNamed 45 = .ok (.iload_n 2, 1) := by decide +kernel
theorem dX10_isNamed_46 : decode cX10_isNamed 46 = .ok (.iaload, 1) := by decide +kernel
theorem dX10_isNamed_47 : decode cX10_isNamed 47 = .ok (.if_icmp .ge 48, 3) := by decide +kernel
theorem dX10_isNamed_50 : decode cX10_isNamed 50 = .ok (.iload_n 3, 1) := by decide +kernel
theorem dX10_isNamed_51 : decode cX10_isNamed 51 = .ok (.ifCond .eq 44, 3) := by decide +kernel
theorem dX10_isNamed_54 : decode cX10_isNamed 54 = .ok (.aload_n 0, 1) := by decide +kernel
theorem dX10_isNamed_55 : decode cX10_isNamed 55 = .ok (.getfield 44, 3) := by decide +kernel
theorem dX10_isNamed_58 : decode cX10_isNamed 58 = .ok (.aload_n 0, 1) := by decide +kernel
theorem dX10_isNamed_59 : decode cX10_isNamed 59 = .ok (.getfield 38, 3) := by decide +kernel
theorem dX10_isNamed_62 : decode cX10_isNamed 62 = .ok (.iload_n 2, 1) := by decide +kernel
theorem dX10_isNamed_63 : decode cX10_isNamed 63 = .ok (.iaload, 1) := by decide +kernel
theorem dX10_isNamed_64 : decode cX10_isNamed 64 = .ok (.iload 4, 2) := by decide +kernel
theorem dX10_isNamed_66 : decode cX10_isNamed 66 = .ok (.iadd, 1) := by decide +kernel
theorem dX10_isNamed_67 : decode cX10_isNamed 67 = .ok (.iaload, 1) := by decide +kernel
theorem dX10_isNamed_68 : decode cX10_isNamed 68 = .ok (.aload_n 0, 1) := by decide +kernel
theorem dX10_isNamed_69 : decode cX10_isNamed 69 = .ok (.getfield 44, 3) := by decide +kernel
theorem dX10_isNamed_72 : decode cX10_isNamed 72 = .ok (.aload_n 0, 1) := by decide +kernel
theorem dX10_isNamed_73 : decode cX10_isNamed 73 = .ok (.getfield 145, 3) := by decide +kernel
theorem dX10_isNamed_76 : decode cX10_isNamed 76 = .ok (.iload 4, 2) := by decide +kernel
theorem dX10_isNamed_78 : decode cX10_isNamed 78 = .ok (.iadd, 1) := by decide +kernel
theorem dX10_isNamed_79 : decode cX10_isNamed 79 = .ok (.iaload, 1) := by decide +kernel
theorem dX10_isNamed_80 : decode cX10_isNamed 80 = .ok (.if_icmp .ne 7, 3) := by decide +kernel
theorem dX10_isNamed_83 : decode cX10_isNamed 83 = .ok (.iconst 1, 1) := by decide +kernel
theorem dX10_isNamed_84 : decode cX10_isNamed 84 = .ok (.goto 4, 3) := by decide +kernel
theorem dX10_isNamed_87 : decode cX10_isNamed 87 = .ok (.iconst 0, 1) := by decide +kernel
theorem dX10_isNamed_88 : decode cX10_isNamed 88 = .ok (.istore_n 3, 1) := by decide +kernel
theorem dX10_isNamed_89 : decode cX10_isNamed 89 = .ok (.iinc 4 1, 3) := by decide +kernel
theorem dX10_isNamed_92 : decode cX10_isNamed 92 = .ok (.goto (-53), 3) := by decide +kernel
theorem dX10_isNamed_95 : decode cX10_isNamed 95 = .ok (.iload_n 1, 1) := by decide +kernel
theorem dX10_isNamed_96 : decode cX10_isNamed 96 = .ok (.ifCond .ne 7, 3) := by decide +kernel
theorem dX10_isNamed_99 : decode cX10_isNamed 99 = .ok (.iload_n 3, 1) := by decide +kernel
theorem dX10_isNamed_100 : decode cX10_isNamed 100 = .ok (.ifCond .eq 7, 3) := by decide +kernel
theorem dX10_isNamed_103 : decode cX10_isNamed 103 = .ok (.iconst 1, 1) := by decide +kernel
theorem dX10_isNamed_104 : decode cX10_isNamed 104 = .ok (.goto 4, 3) := by decide +kernel
theorem dX10_isNamed_107 : decode cX10_isNamed 107 = .ok (.iconst 0, 1) := by decide +kernel
theorem dX10_isNamed_108 : decode cX10_isNamed 108 = .ok (.istore_n 1, 1) := by decide +kernel
theorem dX10_isNamed_109 : decode cX10_isNamed 109 = .ok (.iinc 2 1, 3) := by decide +kernel
theorem dX10_isNamed_112 : decode cX10_isNamed 112 = .ok (.goto (-108), 3) := by decide +kernel
theorem dX10_isNamed_115 : decode cX10_isNamed 115 = .ok (.iload_n 1, 1) := by decide +kernel
theorem dX10_isNamed_116 : decode cX10_isNamed 116 = .ok (.ireturn, 1) := by decide +kernel
def rmX10_isNamed : Room := { frames := 0, cells := 0, slots := 0, locals := 0 }
def fX10_isNamed_108 (r4 : Nat → Int32 → Int32 → PH → Option (Int32 × PH)) (al0 : Nat) (xl2 : Int32) (xs0 : Int32) (h0 : PH) : Option (Int32 × PH) :=
    r4 al0 xs0 (xl2 + 1) h0
set_option maxHeartbeats 4000000 in
set_option maxRecDepth 100000 in
theorem vfX10_isNamed_108 {p : Program} {l : Launch} {e : Env} {s : State} {m : MethodId} {args : Array Value} {below : List Frame} {meth : Method} {c : Code} {G : GX} (C : Cx p s m args meth c G cX10_isNamed 5 RX10) (hr : meth.sig.returnType = (some .boolean)) {r4 : Nat → Int32 → Int32 → PH → Option (Int32 × PH)} (k4 : ∀ (al0 : Nat) (xl1 : Int32) (xl2 : Int32) (h0 : PH), J p l e rmX10_isNamed s m args below meth c G 5 (qM below args s rvI G 0 0) 0 0 h0 4 [(0, .ref al0), (1, .int xl1), (2, .int xl2)] [] (r4 al0 xl1 xl2 h0)) (al0 : Nat) (xl2 : Int32) (xs0 : Int32) (h0 : PH) : J p l e rmX10_isNamed s m args below meth c G 5 (qM below args s rvI G 0 0) 0 0 h0 108 [(0, .ref al0), (2, .int xl2)] [.int xs0] (fX10_isNamed_108 r4 al0 xl2 xs0 h0) := by
  unfold fX10_isNamed_108
  refine J_istore_n (pc := 108) (lv1 := [(1, .int xs0), (0, .ref al0), (2, .int xl2)]) C dX10_isNamed_108 rfl (by decide) rfl ?_
  refine J_iinc (pc := 109) (v := (xl2 + 1)) (lv1 := [(2, .int (xl2 + 1)), (1, .int xs0), (0, .ref al0)]) C dX10_isNamed_109 2 rfl rfl (by decide) rfl ?_
  refine J_goto (pc := 112) (tgt := 4) C dX10_isNamed_112 (by decide) ?_
  refine J_sub [2, 1, 0] rfl ?_
  exact k4 al0 xs0 (xl2 + 1) h0
def fX10_isNamed_103 (r4 : Nat → Int32 → Int32 → PH → Option (Int32 × PH)) (al0 : Nat) (xl2 : Int32) (h0 : PH) : Option (Int32 × PH) :=
    fX10_isNamed_108 r4 al0 xl2 (1 : Int32) h0
set_option maxHeartbeats 4000000 in
set_option maxRecDepth 100000 in
theorem vfX10_isNamed_103 {p : Program} {l : Launch} {e : Env} {s : State} {m : MethodId} {args : Array Value} {below : List Frame} {meth : Method} {c : Code} {G : GX} (C : Cx p s m args meth c G cX10_isNamed 5 RX10) (hr : meth.sig.returnType = (some .boolean)) {r4 : Nat → Int32 → Int32 → PH → Option (Int32 × PH)} (k4 : ∀ (al0 : Nat) (xl1 : Int32) (xl2 : Int32) (h0 : PH), J p l e rmX10_isNamed s m args below meth c G 5 (qM below args s rvI G 0 0) 0 0 h0 4 [(0, .ref al0), (1, .int xl1), (2, .int xl2)] [] (r4 al0 xl1 xl2 h0)) (al0 : Nat) (xl2 : Int32) (h0 : PH) : J p l e rmX10_isNamed s m args below meth c G 5 (qM below args s rvI G 0 0) 0 0 h0 103 [(0, .ref al0), (2, .int xl2)] [] (fX10_isNamed_103 r4 al0 xl2 h0) := by
  unfold fX10_isNamed_103
  refine J_iconst (pc := 103) (v := 1) C dX10_isNamed_103 (by decide) ?_
  refine J_goto (pc := 104) (tgt := 108) C dX10_isNamed_104 (by decide) ?_
  exact vfX10_isNamed_108 C hr k4 al0 xl2 (1 : Int32) h0
def fX10_isNamed_95 (r4 : Nat → Int32 → Int32 → PH → Option (Int32 × PH)) (al0 : Nat) (xl1 : Int32) (xl2 : Int32) (xl3 : Int32) (h0 : PH) : Option (Int32 × PH) :=
    if xl1 = 0 then (if xl3 = 0 then (fX10_isNamed_108 r4 al0 xl2 (0 : Int32) h0) else
    fX10_isNamed_103 r4 al0 xl2 h0) else
    fX10_isNamed_103 r4 al0 xl2 h0
set_option maxHeartbeats 4000000 in
set_option maxRecDepth 100000 in
theorem vfX10_isNamed_95 {p : Program} {l : Launch} {e : Env} {s : State} {m : MethodId} {args : Array Value} {below : List Frame} {meth : Method} {c : Code} {G : GX} (C : Cx p s m args meth c G cX10_isNamed 5 RX10) (hr : meth.sig.returnType = (some .boolean)) {r4 : Nat → Int32 → Int32 → PH → Option (Int32 × PH)} (k4 : ∀ (al0 : Nat) (xl1 : Int32) (xl2 : Int32) (h0 : PH), J p l e rmX10_isNamed s m args below meth c G 5 (qM below args s rvI G 0 0) 0 0 h0 4 [(0, .ref al0), (1, .int xl1), (2, .int xl2)] [] (r4 al0 xl1 xl2 h0)) (al0 : Nat) (xl1 : Int32) (xl2 : Int32) (xl3 : Int32) (h0 : PH) : J p l e rmX10_isNamed s m args below meth c G 5 (qM below args s rvI G 0 0) 0 0 h0 95 [(0, .ref al0), (1, .int xl1), (2, .int xl2), (3, .int xl3)] [] (fX10_isNamed_95 r4 al0 xl1 xl2 xl3 h0) := by
  unfold fX10_isNamed_95
  refine J_iload_n (pc := 95) C dX10_isNamed_95 rfl 1 rfl ?_
  refine J_if_ne (pc := 96) (tgt := 103) C dX10_isNamed_96 (by decide) ?_ ?_
  · refine J_sub [0, 2] rfl ?_
    exact vfX10_isNamed_103 C hr k4 al0 xl2 h0
  · refine J_iload_n (pc := 99) C dX10_isNamed_99 rfl 3 rfl ?_
    refine J_if_eq (pc := 100) (tgt := 107) C dX10_isNamed_100 (by decide) ?_ ?_
    · refine J_iconst (pc := 107) (v := 0) C dX10_isNamed_107 (by decide) ?_
      refine J_sub [0, 2] rfl ?_
      exact vfX10_isNamed_108 C hr k4 al0 xl2 (0 : Int32) h0
    · refine J_sub [0, 2] rfl ?_
      exact vfX10_isNamed_103 C hr k4 al0 xl2 h0
def fX10_isNamed_88 (r4 : Nat → Int32 → Int32 → PH → Option (Int32 × PH)) (r39 : Nat → Int32 → Int32 → Int32 → Int32 → PH → Option (Int32 × PH)) (al0 : Nat) (xl1 : Int32) (xl2 : Int32) (xl4 : Int32) (xs0 : Int32) (h0 : PH) : Option (Int32 × PH) :=
    r39 al0 xl1 xl2 xs0 (xl4 + 1) h0
set_option maxHeartbeats 4000000 in
set_option maxRecDepth 100000 in
theorem vfX10_isNamed_88 {p : Program} {l : Launch} {e : Env} {s : State} {m : MethodId} {args : Array Value} {below : List Frame} {meth : Method} {c : Code} {G : GX} (C : Cx p s m args meth c G cX10_isNamed 5 RX10) (hr : meth.sig.returnType = (some .boolean)) {r4 : Nat → Int32 → Int32 → PH → Option (Int32 × PH)} (k4 : ∀ (al0 : Nat) (xl1 : Int32) (xl2 : Int32) (h0 : PH), J p l e rmX10_isNamed s m args below meth c G 5 (qM below args s rvI G 0 0) 0 0 h0 4 [(0, .ref al0), (1, .int xl1), (2, .int xl2)] [] (r4 al0 xl1 xl2 h0)) {r39 : Nat → Int32 → Int32 → Int32 → Int32 → PH → Option (Int32 × PH)} (k39 : ∀ (al0 : Nat) (xl1 : Int32) (xl2 : Int32) (xl3 : Int32) (xl4 : Int32) (h0 : PH), J p l e rmX10_isNamed s m args below meth c G 5 (qM below args s rvI G 0 0) 0 0 h0 39 [(0, .ref al0), (1, .int xl1), (2, .int xl2), (3, .int xl3), (4, .int xl4)] [] (r39 al0 xl1 xl2 xl3 xl4 h0)) (al0 : Nat) (xl1 : Int32) (xl2 : Int32) (xl4 : Int32) (xs0 : Int32) (h0 : PH) : J p l e rmX10_isNamed s m args below meth c G 5 (qM below args s rvI G 0 0) 0 0 h0 88 [(0, .ref al0), (1, .int xl1), (2, .int xl2), (4, .int xl4)] [.int xs0] (fX10_isNamed_88 r4 r39 al0 xl1 xl2 xl4 xs0 h0) := by
  unfold fX10_isNamed_88
  refine J_istore_n (pc := 88) (lv1 := [(3, .int xs0), (0, .ref al0), (1, .int xl1), (2, .int xl2), (4, .int xl4)]) C dX10_isNamed_88 rfl (by decide) rfl ?_
  refine J_iinc (pc := 89) (v := (xl4 + 1)) (lv1 := [(4, .int (xl4 + 1)), (3, .int xs0), (0, .ref al0), (1, .int xl1), (2, .int xl2)]) C dX10_isNamed_89 4 rfl rfl (by decide) rfl ?_
  refine J_goto (pc := 92) (tgt := 39) C dX10_isNamed_92 (by decide) ?_
  refine J_sub [2, 3, 4, 1, 0] rfl ?_
  exact k39 al0 xl1 xl2 xs0 (xl4 + 1) h0
def fX10_isNamed_39 (r4 : Nat → Int32 → Int32 → PH → Option (Int32 × PH)) : Nat → Nat → Int32 → Int32 → Int32 → Int32 → PH → Option (Int32 × PH)
  | 0, _, _, _, _, _, _ => none
  | n + 1, al0, xl1, xl2, xl3, xl4, h0 =>
    bn (rdR 10 18 al0 h0) fun a6 =>
    bn (aldI 0 a6 xl2 h0) fun x7 =>
    if x7 ≤ xl4 then (fX10_isNamed_95 r4 al0 xl1 xl2 xl3 h0) else
    if xl3 = 0 then (fX10_isNamed_95 r4 al0 xl1 xl2 xl3 h0) else
    bn (rdR 10 19 al0 h0) fun a8 =>
    bn (rdR 10 17 al0 h0) fun a9 =>
    bn (aldI 0 a9 xl2 h0) fun x10 =>
    bn (aldI 0 a8 (x10 + xl4) h0) fun x11 =>
    bn (rdR 10 19 al0 h0) fun a12 =>
    bn (rdI 10 21 al0 h0) fun x13 =>
    bn (aldI 0 a12 (x13 + xl4) h0) fun x14 =>
    if x11 = x14 then (fX10_isNamed_88 r4 (fX10_isNamed_39 r4 n) al0 xl1 xl2 xl4 (1 : Int32) h0) else
    fX10_isNamed_88 r4 (fX10_isNamed_39 r4 n) al0 xl1 xl2 xl4 (0 : Int32) h0
set_option maxHeartbeats 4000000 in
set_option maxRecDepth 100000 in
theorem vfX10_isNamed_39 {p : Program} {l : Launch} {e : Env} {s : State} {m : MethodId} {args : Array Value} {below : List Frame} {meth : Method} {c : Code} {G : GX} (C : Cx p s m args meth c G cX10_isNamed 5 RX10) (hr : meth.sig.returnType = (some .boolean)) {r4 : Nat → Int32 → Int32 → PH → Option (Int32 × PH)} (k4 : ∀ (al0 : Nat) (xl1 : Int32) (xl2 : Int32) (h0 : PH), J p l e rmX10_isNamed s m args below meth c G 5 (qM below args s rvI G 0 0) 0 0 h0 4 [(0, .ref al0), (1, .int xl1), (2, .int xl2)] [] (r4 al0 xl1 xl2 h0)) : ∀ (n : Nat) (al0 : Nat) (xl1 : Int32) (xl2 : Int32) (xl3 : Int32) (xl4 : Int32) (h0 : PH), J p l e rmX10_isNamed s m args below meth c G 5 (qM below args s rvI G 0 0) 0 0 h0 39 [(0, .ref al0), (1, .int xl1), (2, .int xl2), (3, .int xl3), (4, .int xl4)] [] (fX10_isNamed_39 r4 n al0 xl1 xl2 xl3 xl4 h0) := by
  intro n
  induction n with
  | zero => exact fun al0 xl1 xl2 xl3 xl4 h0 => J_none C
  | succ n ih =>
    intro al0 xl1 xl2 xl3 xl4 h0
    unfold fX10_isNamed_39
    refine J_iload (pc := 39) C dX10_isNamed_39 4 rfl ?_
    refine J_aload_n (pc := 41) C dX10_isNamed_41 rfl 0 rfl ?_
    refine J_getR (pc := 42) C flX10_41 dX10_isNamed_42 (fun a6 => ?_)
    refine J_iload_n (pc := 45) C dX10_isNamed_45 rfl 2 rfl ?_
    refine J_iald (pc := 46) C dX10_isNamed_46 (fun x7 => ?_)
    refine J_icmp_ge (pc := 47) (tgt := 95) C dX10_isNamed_47 (by decide) ?_ ?_
    · refine J_sub [0, 1, 2, 3] rfl ?_
      exact vfX10_isNamed_95 C hr k4 al0 xl1 xl2 xl3 h0
    · refine J_iload_n (pc := 50) C dX10_isNamed_50 rfl 3 rfl ?_
      refine J_if_eq (pc := 51) (tgt := 95) C dX10_isNamed_51 (by decide) ?_ ?_
      · refine J_sub [0, 1, 2, 3] rfl ?_
        exact vfX10_isNamed_95 C hr k4 al0 xl1 xl2 xl3 h0
      · refine J_aload_n (pc := 54) C dX10_isNamed_54 rfl 0 rfl ?_
        refine J_getR (pc := 55) C flX10_44 dX10_isNamed_55 (fun a8 => ?_)
        refine J_aload_n (pc := 58) C dX10_isNamed_58 rfl 0 rfl ?_
        refine J_getR (pc := 59) C flX10_38 dX10_isNamed_59 (fun a9 => ?_)
        refine J_iload_n (pc := 62) C dX10_isNamed_62 rfl 2 rfl ?_
        refine J_iald (pc := 63) C dX10_isNamed_63 (fun x10 => ?_)
        refine J_iload (pc := 64) C dX10_isNamed_64 4 rfl ?_
        refine J_iadd (pc := 66) C dX10_isNamed_66 ?_
        refine J_iald (pc := 67) C dX10_isNamed_67 (fun x11 => ?_)
        refine J_aload_n (pc := 68) C dX10_isNamed_68 rfl 0 rfl ?_
        refine J_getR (pc := 69) C flX10_44 dX10_isNamed_69 (fun a12 => ?_)
        refine J_aload_n (pc := 72) C dX10_isNamed_72 rfl 0 rfl ?_
        refine J_getI (pc := 73) C flX10_145 dX10_isNamed_73 (fun x13 => ?_)
        refine J_iload (pc := 76) C dX10_isNamed_76 4 rfl ?_
        refine J_iadd (pc := 78) C dX10_isNamed_78 ?_
        refine J_iald (pc := 79) C dX10_isNamed_79 (fun x14 => ?_)
        refine J_icmp_ne (pc := 80) (tgt := 87) C dX10_isNamed_80 (by decide) ?_ ?_
        · refine J_iconst (pc := 87) (v := 0) C dX10_isNamed_87 (by decide) ?_
          refine J_sub [0, 1, 2, 4] rfl ?_
          exact vfX10_isNamed_88 C hr k4 ih al0 xl1 xl2 xl4 (0 : Int32) h0
        · refine J_iconst (pc := 83) (v := 1) C dX10_isNamed_83 (by decide) ?_
          refine J_goto (pc := 84) (tgt := 88) C dX10_isNamed_84 (by decide) ?_
          refine J_sub [0, 1, 2, 4] rfl ?_
          exact vfX10_isNamed_88 C hr k4 ih al0 xl1 xl2 xl4 (1 : Int32) h0
def fX10_isNamed_35 (r4 : Nat → Int32 → Int32 → PH → Option (Int32 × PH)) (al0 : Nat) (xl1 : Int32) (xl2 : Int32) (xs0 : Int32) (h0 : PH) : Option (Int32 × PH) :=
    fX10_isNamed_39 r4 FU al0 xl1 xl2 xs0 (0 : Int32) h0
set_option maxHeartbeats 4000000 in
set_option maxRecDepth 100000 in
theorem vfX10_isNamed_35 {p : Program} {l : Launch} {e : Env} {s : State} {m : MethodId} {args : Array Value} {below : List Frame} {meth : Method} {c : Code} {G : GX} (C : Cx p s m args meth c G cX10_isNamed 5 RX10) (hr : meth.sig.returnType = (some .boolean)) {r4 : Nat → Int32 → Int32 → PH → Option (Int32 × PH)} (k4 : ∀ (al0 : Nat) (xl1 : Int32) (xl2 : Int32) (h0 : PH), J p l e rmX10_isNamed s m args below meth c G 5 (qM below args s rvI G 0 0) 0 0 h0 4 [(0, .ref al0), (1, .int xl1), (2, .int xl2)] [] (r4 al0 xl1 xl2 h0)) (al0 : Nat) (xl1 : Int32) (xl2 : Int32) (xs0 : Int32) (h0 : PH) : J p l e rmX10_isNamed s m args below meth c G 5 (qM below args s rvI G 0 0) 0 0 h0 35 [(0, .ref al0), (1, .int xl1), (2, .int xl2)] [.int xs0] (fX10_isNamed_35 r4 al0 xl1 xl2 xs0 h0) := by
  unfold fX10_isNamed_35
  refine J_istore_n (pc := 35) (lv1 := [(3, .int xs0), (0, .ref al0), (1, .int xl1), (2, .int xl2)]) C dX10_isNamed_35 rfl (by decide) rfl ?_
  refine J_iconst (pc := 36) (v := 0) C dX10_isNamed_36 (by decide) ?_
  refine J_istore (pc := 37) (lv1 := [(4, .int (0 : Int32)), (3, .int xs0), (0, .ref al0), (1, .int xl1), (2, .int xl2)]) C dX10_isNamed_37 (by decide) rfl ?_
  refine J_sub [2, 3, 4, 1, 0] rfl ?_
  exact vfX10_isNamed_39 C hr k4 FU al0 xl1 xl2 xs0 (0 : Int32) h0
def fX10_isNamed_4  : Nat → Nat → Int32 → Int32 → PH → Option (Int32 × PH)
  | 0, _, _, _, _ => none
  | n + 1, al0, xl1, xl2, h0 =>
    bn (rdI 10 13 al0 h0) fun x1 =>
    if x1 ≤ xl2 then (if xl1 = 0 ∨ xl1 = 1 then some (xl1, h0) else none) else
    bn (rdR 10 18 al0 h0) fun a2 =>
    bn (aldI 0 a2 xl2 h0) fun x3 =>
    bn (rdI 10 22 al0 h0) fun x4 =>
    bn (rdI 10 21 al0 h0) fun x5 =>
    if x3 = (x4 - x5) then (fX10_isNamed_35 (fX10_isNamed_4 n) al0 xl1 xl2 (1 : Int32) h0) else
    fX10_isNamed_35 (fX10_isNamed_4 n) al0 xl1 xl2 (0 : Int32) h0
set_option maxHeartbeats 4000000 in
set_option maxRecDepth 100000 in
theorem vfX10_isNamed_4 {p : Program} {l : Launch} {e : Env} {s : State} {m : MethodId} {args : Array Value} {below : List Frame} {meth : Method} {c : Code} {G : GX} (C : Cx p s m args meth c G cX10_isNamed 5 RX10) (hr : meth.sig.returnType = (some .boolean)) : ∀ (n : Nat) (al0 : Nat) (xl1 : Int32) (xl2 : Int32) (h0 : PH), J p l e rmX10_isNamed s m args below meth c G 5 (qM below args s rvI G 0 0) 0 0 h0 4 [(0, .ref al0), (1, .int xl1), (2, .int xl2)] [] (fX10_isNamed_4  n al0 xl1 xl2 h0) := by
  intro n
  induction n with
  | zero => exact fun al0 xl1 xl2 h0 => J_none C
  | succ n ih =>
    intro al0 xl1 xl2 h0
    unfold fX10_isNamed_4
    refine J_iload_n (pc := 4) C dX10_isNamed_4 rfl 2 rfl ?_
    refine J_aload_n (pc := 5) C dX10_isNamed_5 rfl 0 rfl ?_
    refine J_getI (pc := 6) C flX10_180 dX10_isNamed_6 (fun x1 => ?_)
    refine J_icmp_ge (pc := 9) (tgt := 115) C dX10_isNamed_9 (by decide) ?_ ?_
    · refine J_iload_n (pc := 115) C dX10_isNamed_115 rfl 1 rfl ?_
      exact J_zretC (pc := 116) C hr dX10_isNamed_116
    · refine J_aload_n (pc := 12) C dX10_isNamed_12 rfl 0 rfl ?_
      refine J_getR (pc := 13) C flX10_41 dX10_isNamed_13 (fun a2 => ?_)
      refine J_iload_n (pc := 16) C dX10_isNamed_16 rfl 2 rfl ?_
      refine J_iald (pc := 17) C dX10_isNamed_17 (fun x3 => ?_)
      refine J_aload_n (pc := 18) C dX10_isNamed_18 rfl 0 rfl ?_
      refine J_getI (pc := 19) C flX10_142 dX10_isNamed_19 (fun x4 => ?_)
      refine J_aload_n (pc := 22) C dX10_isNamed_22 rfl 0 rfl ?_
      refine J_getI (pc := 23) C flX10_145 dX10_isNamed_23 (fun x5 => ?_)
      refine J_isub (pc := 26) C dX10_isNamed_26 ?_
      refine J_icmp_ne (pc := 27) (tgt := 34) C dX10_isNamed_27 (by decide) ?_ ?_
      · refine J_iconst (pc := 34) (v := 0) C dX10_isNamed_34 (by decide) ?_
        exact vfX10_isNamed_35 C hr ih al0 xl1 xl2 (0 : Int32) h0
      · refine J_iconst (pc := 30) (v := 1) C dX10_isNamed_30 (by decide) ?_
        refine J_goto (pc := 31) (tgt := 35) C dX10_isNamed_31 (by decide) ?_
        exact vfX10_isNamed_35 C hr ih al0 xl1 xl2 (1 : Int32) h0
def fX10_isNamed  (a0 : Nat) (h0 : PH) : Option (Int32 × PH) :=
    fX10_isNamed_4  FU a0 (0 : Int32) (0 : Int32) h0
set_option maxHeartbeats 4000000 in
set_option maxRecDepth 100000 in
theorem vfX10_isNamed {p : Program} {l : Launch} {e : Env} {s : State} {m : MethodId} {args : Array Value} {below : List Frame} {meth : Method} {c : Code} {G : GX} (C : Cx p s m args meth c G cX10_isNamed 5 RX10) (hr : meth.sig.returnType = (some .boolean)) (a0 : Nat) (h0 : PH) : J p l e rmX10_isNamed s m args below meth c G 5 (qM below args s rvI G 0 0) 0 0 h0 0 [(0, .ref a0)] [] (fX10_isNamed  a0 h0) := by
  unfold fX10_isNamed
  refine J_iconst (pc := 0) (v := 0) C dX10_isNamed_0 (by decide) ?_
  refine J_istore_n (pc := 1) (lv1 := [(1, .int (0 : Int32)), (0, .ref a0)]) C dX10_isNamed_1 rfl (by decide) rfl ?_
  refine J_iconst (pc := 2) (v := 0) C dX10_isNamed_2 (by decide) ?_
  refine J_istore_n (pc := 3) (lv1 := [(2, .int (0 : Int32)), (1, .int (0 : Int32)), (0, .ref a0)]) C dX10_isNamed_3 rfl (by decide) rfl ?_
  refine J_sub [2, 1, 0] rfl ?_
  exact vfX10_isNamed_4 C hr  FU a0 (0 : Int32) (0 : Int32) h0
theorem mX10_isNamed {l : Launch} {G : GX} (a0 : Nat) (h0 : PH) : ∀ z, fX10_isNamed a0 h0 = some z → MC l G yX10_isNamed cX10_isNamed 5 (some .boolean) rmX10_isNamed [.ref a0] h0 (rvI z.1) z.2 :=
  Met_J (own := RX10) (by decide) rfl (Nat.le_of_ble_eq_true rfl) (fun p e s m args below meth c C hr hn => vfX10_isNamed C hr a0 h0)

theorem dX10_must_0 : decode cX10_must 0 = .ok (.aload_n 0, 1) := by decide +kernel
theorem dX10_must_1 : decode cX10_must 1 = .ok (.getfield 169, 3) := by decide +kernel
theorem dX10_must_4 : decode cX10_must 4 = .ok (.ifCond .ne 20, 3) := by decide +kernel
theorem dX10_must_7 : decode cX10_must 7 = .ok (.iload_n 1, 1) := by decide +kernel
theorem dX10_must_8 : decode cX10_must 8 = .ok (.ifCond .ne 16, 3) := by decide +kernel
theorem dX10_must_11 : decode cX10_must 11 = .ok (.aload_n 0, 1) := by decide +kernel
theorem dX10_must_12 : decode cX10_must 12 = .ok (.iconst 1, 1) := by decide +kernel
theorem dX10_must_13 : decode cX10_must 13 = .ok (.putfield 169, 3) := by decide +kernel
theorem dX10_must_16 : decode cX10_must 16 = .ok (.aload_n 0, 1) := by decide +kernel
theorem dX10_must_17 : decode cX10_must 17 = .ok (.aload_n 0, 1) := by decide +kernel
theorem dX10_must_18 : decode cX10_must 18 = .ok (.getfield 145, 3) := by decide +kernel
theorem dX10_must_21 : decode cX10_must 21 = .ok (.putfield 47, 3) := by decide +kernel
theorem dX10_must_24 : decode cX10_must 24 = .ok (.aload_n 0, 1) := by decide +kernel
theorem dX10_must_25 : decode cX10_must 25 = .ok (.getfield 169, 3) := by decide +kernel
theorem dX10_must_28 : decode cX10_must 28 = .ok (.ifCond .ne 7, 3) := by decide +kernel
theorem dX10_must_31 : decode cX10_must 31 = .ok (.aload_n 0, 1) := by decide +kernel
theorem dX10_must_32 : decode cX10_must 32 = .ok (.invokevirtual 173, 3) := by decide +kernel
theorem dX10_must_35 : decode cX10_must 35 = .ok (.return_, 1) := by decide +kernel
def rmX10_must : Room := { frames := 2, cells := 0, slots := 0, locals := 40 }
def fX10_must  (a0 : Nat) (xp0 : Int32) (h0 : PH) : Option (Unit × PH) :=
    bn (rdI 10 26 a0 h0) fun x1 =>
    if x1 = 0 then (if xp0 = 0 then (bn (wr 10 26 (.int (1 : Int32)) a0 h0) fun h6 =>
    bn (rdI 10 21 a0 h6) fun x7 =>
    bn (wr 10 25 (.int x7) a0 h6) fun h8 =>
    bn (rdI 10 26 a0 h8) fun x9 =>
    if x9 = 0 then (bn (chk 10 a0 h8) fun _ => bn2 (fX10_next a0 h8) fun _ h10 =>
    some ((), h10)) else
    some ((), h8)) else
    bn (rdI 10 26 a0 h0) fun x4 =>
    if x4 = 0 then (bn (chk 10 a0 h0) fun _ => bn2 (fX10_next a0 h0) fun _ h5 =>
    some ((), h5)) else
    some ((), h0)) else
    bn (rdI 10 26 a0 h0) fun x2 =>
    if x2 = 0 then (bn (chk 10 a0 h0) fun _ => bn2 (fX10_next a0 h0) fun _ h3 =>
    some ((), h3)) else
    some ((), h0)
set_option maxHeartbeats 4000000 in
set_option maxRecDepth 100000 in
theorem vfX10_must {p : Program} {l : Launch} {e : Env} {s : State} {m : MethodId} {args : Array Value} {below : List Frame} {meth : Method} {c : Code} {G : GX} (C : Cx p s m args meth c G cX10_must 2 RX10) (hr : meth.sig.returnType = none) (a0 : Nat) (xp0 : Int32) (h0 : PH) : J p l e rmX10_must s m args below meth c G 2 (qM below args s rvU G 0 0) 0 0 h0 0 [(0, .ref a0), (1, .int xp0)] [] (fX10_must  a0 xp0 h0) := by
  unfold fX10_must
  refine J_aload_n (pc := 0) C dX10_must_0 rfl 0 rfl ?_
  refine J_getI (pc := 1) C flX10_169 dX10_must_1 (fun x1 => ?_)
  refine J_if_ne (pc := 4) (tgt := 24) C dX10_must_4 (by decide) ?_ ?_
  · refine J_aload_n (pc := 24) C dX10_must_24 rfl 0 rfl ?_
    refine J_getI (pc := 25) C flX10_169 dX10_must_25 (fun x2 => ?_)
    refine J_if_ne (pc := 28) (tgt := 35) C dX10_must_28 (by decide) ?_ ?_
    · exact J_vret (pc := 35) C hr dX10_must_35
    · refine J_aload_n (pc := 31) C dX10_must_31 rfl 0 rfl ?_
      refine J_callVU (pc := 32) (As := []) (rest := []) C (fun z hz => mX10_next a0 h0 z hz) mwX10_next csX10_next mlX10_173 inX10_next rfl dX10_must_32 (by decide) rfl (Nat.le_of_ble_eq_true rfl) (by decide) (fun _ h3 => ?_)
      exact J_vret (pc := 35) C hr dX10_must_35
  · refine J_iload_n (pc := 7) C dX10_must_7 rfl 1 rfl ?_
    refine J_if_ne (pc := 8) (tgt := 24) C dX10_must_8 (by decide) ?_ ?_
    · refine J_aload_n (pc := 24) C dX10_must_24 rfl 0 rfl ?_
      refine J_getI (pc := 25) C flX10_169 dX10_must_25 (fun x4 => ?_)
      refine J_if_ne (pc := 28) (tgt := 35) C dX10_must_28 (by decide) ?_ ?_
      · exact J_vret (pc := 35) C hr dX10_must_35
      · refine J_aload_n (pc := 31) C dX10_must_31 rfl 0 rfl ?_
        refine J_callVU (pc := 32) (As := []) (rest := []) C (fun z hz => mX10_next a0 h0 z hz) mwX10_next csX10_next mlX10_173 inX10_next rfl dX10_must_32 (by decide) rfl (Nat.le_of_ble_eq_true rfl) (by decide) (fun _ h5 => ?_)
        exact J_vret (pc := 35) C hr dX10_must_35
    · refine J_aload_n (pc := 11) C dX10_must_11 rfl 0 rfl ?_
      refine J_iconst (pc := 12) (v := 1) C dX10_must_12 (by decide) ?_
      refine J_put (pc := 13) C flX10_169 cl10 ft10_26 rfl rfl dX10_must_13 (fun h6 => ?_)
      refine J_aload_n (pc := 16) C dX10_must_16 rfl 0 rfl ?_
      refine J_aload_n (pc := 17) C dX10_must_17 rfl 0 rfl ?_
      refine J_getI (pc := 18) C flX10_145 dX10_must_18 (fun x7 => ?_)
      refine J_put (pc := 21) C flX10_47 cl10 ft10_25 rfl rfl dX10_must_21 (fun h8 => ?_)
      refine J_aload_n (pc := 24) C dX10_must_24 rfl 0 rfl ?_
      refine J_getI (pc := 25) C flX10_169 dX10_must_25 (fun x9 => ?_)
      refine J_if_ne (pc := 28) (tgt := 35) C dX10_must_28 (by decide) ?_ ?_
      · exact J_vret (pc := 35) C hr dX10_must_35
      · refine J_aload_n (pc := 31) C dX10_must_31 rfl 0 rfl ?_
        refine J_callVU (pc := 32) (As := []) (rest := []) C (fun z hz => mX10_next a0 h8 z hz) mwX10_next csX10_next mlX10_173 inX10_next rfl dX10_must_32 (by decide) rfl (Nat.le_of_ble_eq_true rfl) (by decide) (fun _ h10 => ?_)
        exact J_vret (pc := 35) C hr dX10_must_35
theorem mX10_must {l : Launch} {G : GX} (a0 : Nat) (xp0 : Int32) (h0 : PH) : ∀ z, fX10_must a0 xp0 h0 = some z → MC l G yX10_must cX10_must 2 none rmX10_must [.ref a0, .int xp0] h0 (rvU z.1) z.2 :=
  Met_J (own := RX10) (by decide) rfl (Nat.le_of_ble_eq_true rfl) (fun p e s m args below meth c C hr hn => vfX10_must C hr a0 xp0 h0)

