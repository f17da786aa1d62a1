theorem dX10_beatOne_0 : decode cX10_beatOne 0 = .ok (.iconst 0, 1) := by decide +kernel
theorem dX10_beatOne_1 : decode cX10_beatOne 1 = .ok (.istore_n 2, 1) := by decide +kernel
theorem dX10_beatOne_2 : decode cX10_beatOne 2 = .ok (.iload_n 2, 1) := by decide +kernel
theorem dX10_beatOne_3 : decode cX10_beatOne 3 = .ok (.aload_n 0, 1) := by decide +kernel
theorem dX10_beatOne_4 : decode cX10_beatOne 4 = .ok (.getfield 210, 3) := by decide +kernel
theorem dX10_beatOne_7 : decode cX10_beatOne 7 = .ok (.if_icmp .ge 16, 3) := by decide +kernel
theorem dX10_beatOne_10 : decode cX10_beatOne 10 = .ok (.aload_n 0, 1) := by decide +kernel
theorem dX10_beatOne_11 : decode cX10_beatOne 11 = .ok (.getfield 57, 3) := by decide +kernel
theorem dX10_beatOne_14 : decode cX10_beatOne 14 = .ok (.iload_n 2, 1) := by decide +kernel
theorem dX10_beatOne_15 : decode cX10_beatOne 15 = .ok (.iconst 0, 1) := by decide +kernel
theorem dX10_beatOne_16 : decode cX10_beatOne 16 = .ok (.bastore, 1) := by decide +kernel
theorem dX10_beatOne_17 : decode cX10_beatOne 17 = .ok (.iinc 2 1, 3) := by decide +kernel
theorem dX10_beatOne_20 : decode cX10_beatOne 20 = .ok (.goto (-18), 3) := by decide +kernel
theorem dX10_beatOne_23 : decode cX10_beatOne 23 = .ok (.iconst 0, 1) := by decide +kernel
theorem dX10_beatOne_24 : decode cX10_beatOne 24 = .ok (.istore_n 2, 1) := by decide +kernel
theorem dX10_beatOne_25 : decode cX10_beatOne 25 = .ok (.iload_n 2, 1) := by decide +kernel
theorem dX10_beatOne_26 : decode cX10_beatOne 26 = .ok (.aload_n 0, 1) := by decide +kernel
theorem dX10_beatOne_27 : decode cX10_beatOne 27 = .ok (.getfield 60, 3) := by decide +kernel
theorem dX10_beatOne_30 : decode cX10_beatOne 30 = .ok (.iload_n 1, 1) := by decide +kernel
theorem dX10_beatOne_31 : decode cX10_beatOne 31 = .ok (.iaload, 1) := by decide +kernel
theorem dX10_beatOne_32 : decode cX10_beatOne 32 = .ok (.if_icmp .ge 159, 3) := by decide +kernel
theorem dX10_beatOne_35 : decode cX10_beatOne 35 = .ok (.iconst (-1), 1) := by decide +kernel
theorem dX10_beatOne_36 : decode cX10_beatOne 36 = .ok (.istore_n 3, 1) := by decide +kernel
theorem dX10_beatOne_37 : decode cX10_beatOne 37 = .ok (.iconst 0, 1) := by decide +kernel
theorem dX10_beatOne_38 : decode cX10_beatOne 38 = .ok (.istore 4, 2) := by decide +kernel
theorem dX10_beatOne_40 : decode cX10_beatOne 40 = .ok (.iload 4, 2) := by decide +kernel
theorem dX10_beatOne_42 : decode cX10_beatOne 42 = .ok (.aload_n 0, 1) := by decide +kernel
theorem dX10_beatOne_43 : decode cX10_beatOne 43 = .ok (.getfield 210, 3) := by decide +kernel
theorem dX10_beatOne_46 : decode cX10_beatOne 46 = .ok (.if_icmp .ge 126, 3) := by decide +kernel
theorem dX10_beatOne_49 : decode cX10_beatOne 49 = .ok (.aload_n 0, 1) := by decide +kernel
theorem dX10_beatOne_50 : decode cX10_beatOne 50 = .ok (.getfield 57, 3) := by decide +kernel
theorem dX10_beatOne_53 : decode cX10_beatOne 53 = .ok (.iload 4, 2) := by decide +kernel
theorem dX10_beatOne_55 : decode cX10_beatOne 55 = .ok (.baload, 1) := by decide +kernel
theorem dX10_beatOne_56 : decode cX10_beatOne 56 = .ok (.ifCond .ne 75, 3) := by decide +kernel
theorem dX10_beatOne_59 : decode cX10_beatOne 59 = .ok (.aload_n 0, 1) := by decide +kernel
theorem dX10_beatOne_60 : decode cX10_beatOne 60 = .ok (.getfield 54, 3) := by decide +kernel
theorem dX10_beatOne_63 : decode cX10_beatOne 63 = .ok (.iload 4, 2) := by decide +kernel
theorem dX10_beatOne_65 : decode cX10_beatOne 65 = .ok (.iaload, 1) := by decide +kernel
theorem dX10_beatOne_66 : decode cX10_beatOne 66 = .ok (.i2l, 1) := by decide +kernel
theorem dX10_beatOne_67 : decode cX10_beatOne 67 = .ok (.aload_n 0, 1) := by decide +kernel
theorem dX10_beatOne_68 : decode cX10_beatOne 68 = .ok (.getfield 63, 3) := by decide +kernel
theorem dX10_beatOne_71 : decode cX10_beatOne 71 = .ok (.iconst 2, 1) := by decide +kernel
theorem dX10_beatOne_72 : decode cX10_beatOne 72 = .ok (.iload_n 1, 1) := by decide +kernel
theorem dX10_beatOne_73 : decode cX10_beatOne 73 = .ok (.imul, 1) := by decide +kernel
theorem dX10_beatOne_74 : decode cX10_beatOne 74 = .ok (.iaload, 1) := by decide +kernel
theorem dX10_beatOne_75 : decode cX10_beatOne 75 = .ok (.i2l, 1) := by decide +kernel
theorem dX10_beatOne_76 : decode cX10_beatOne 76 = .ok (.aload_n 0, 1) := by decide +kernel
theorem dX10_beatOne_77 : decode cX10_beatOne 77 = .ok (.getfield 63, 3) := by decide +kernel
theorem dX10_beatOne_80 : decode cX10_beatOne 80 = .ok (.iconst 2, 1) := by decide +kernel
theorem dX10_beatOne_81 : decode cX10_beatOne 81 = .ok (.iload_n 1, 1) := by decide +kernel
theorem dX10_beatOne_82 : decode cX10_beatOne 82 = .ok (.imul, 1) := by decide +kernel
theorem dX10_beatOne_83 : decode cX10_beatOne 83 = .ok (.iconst 1, 1) := by decide +kernel
theorem dX10_beatOne_84 : decode cX10_beatOne 84 = .ok (.iadd, 1) := by decide +kernel
theorem dX10_beatOne_85 : decode cX10_beatOne 85 = .ok (.iaload, 1) := by decide +kernel
theorem dX10_beatOne_86 : decode cX10_beatOne 86 = .ok (.i2l, 1) := by decide +kernel
theorem dX10_beatOne_87 : decode cX10_beatOne 87 = .ok (.invokestatic 99, 3) := by decide +kernel
theorem dX10_beatOne_90 : decode cX10_beatOne 90 = .ok (.ifCond .eq 41, 3) := by decide +kernel
theorem dX10_beatOne_93 : decode cX10_beatOne 93 = .ok (.aload_n 0, 1) := by decide +kernel
theorem dX10_beatOne_94 : decode cX10_beatOne 94 = .ok (.getfield 51, 3) := by decide +kernel
theorem dX10_beatOne_97 : decode cX10_beatOne 97 = .ok (.iload 4, 2) := by decide +kernel
theorem dX10_beatOne_99 : decode cX10_beatOne 99 = .ok (.iaload, 1) := by decide +kernel
theorem dX10_beatOne_100 : decode cX10_beatOne 100 = .ok (.i2l, 1) := by decide +kernel
theorem dX10_beatOne_101 : decode cX10_beatOne 101 = .ok (.aload_n 0, 1) := by decide +kernel
theorem dX10_beatOne_102 : decode cX10_beatOne 102 = .ok (.getfield 66, 3) := by decide +kernel
theorem dX10_beatOne_105 : decode cX10_beatOne 105 = .ok (.iconst 2, 1) := by decide +kernel
theorem dX10_beatOne_106 : decode cX10_beatOne 106 = .ok (.iload_n 1, 1) := by decide +kernel
theorem dX10_beatOne_107 : decode cX10_beatOne 107 = .ok (.imul, 1) := by decide +kernel
theorem dX10_beatOne_108 : decode cX10_beatOne 108 = .ok (.iaload, 1) := by decide +kernel
theorem dX10_beatOne_109 : decode cX10_beatOne 109 = .ok (.i2l, 1) := by decide +kernel
theorem dX10_beatOne_110 : decode cX10_beatOne 110 = .ok (.aload_n 0, 1) := by decide +kernel
theorem dX10_beatOne_111 : decode cX10_beatOne 111 = .ok (.getfield 66, 3) := by decide +kernel
theorem dX10_beatOne_114 : decode cX10_beatOne 114 = .ok (.iconst 2, 1) := by decide +kernel
theorem dX10_beatOne_115 : decode cX10_beatOne 115 = .ok (.iload_n 1, 1) := by decide +kernel
theorem dX10_beatOne_116 : decode cX10_beatOne 116 = .ok (.imul, 1) := by decide +kernel
theorem dX10_beatOne_117 : decode cX10_beatOne 117 = .ok (.iconst 1, 1) := by decide +kernel
theorem dX10_beatOne_118 : decode cX10_beatOne 118 = .ok (.iadd, 1) := by decide +kernel
theorem dX10_beatOne_119 : decode cX10_beatOne 119 = .ok (.iaload, 1) := by decide +kernel
theorem dX10_beatOne_120 : decode cX10_beatOne 120 = .ok (.i2l, 1) := by decide +kernel
theorem dX10_beatOne_121 : decode cX10_beatOne 121 = .ok (.invokestatic 99, 3) := by decide +kernel
theorem dX10_beatOne_124 : decode cX10_beatOne 124 = .ok (.ifCond .eq 7, 3) := by decide +kernel
theorem dX10_beatOne_127 : decode cX10_beatOne 127 = .ok (.iconst 1, 1) := by decide +kernel
theorem dX10_beatOne_128 : decode cX10_beatOne 128 = .ok (.goto 4, 3) := by decide +kernel
theorem dX10_beatOne_131 : decode cX10_beatOne 131 = .ok (.iconst 0, 1) := by decide +kernel
theorem dX10_beatOne_132 : decode cX10_beatOne 132 = .ok (.istore 5, 2) := by decide +kernel
theorem dX10_beatOne_134 : decode cX10_beatOne 134 = .ok (.iload 5, 2) := by decide +kernel
theorem dX10_beatOne_136 : decode cX10_beatOne 136 = .ok (.ifCond .eq 28, 3) := by decide +kernel
theorem dX10_beatOne_139 : decode cX10_beatOne 139 = .ok (.iload_n 3, 1) := by decide +kernel
theorem dX10_beatOne_140 : decode cX10_beatOne 140 = .ok (.ifCond .lt 19, 3) := by decide +kernel
theorem dX10_beatOne_143 : decode cX10_beatOne 143 = .ok (.aload_n 0, 1) := by decide +kernel
theorem dX10_beatOne_144 : decode cX10_beatOne 144 = .ok (.getfield 54, 3) := by decide +kernel
theorem dX10_beatOne_147 : decode cX10_beatOne 147 = .ok (.iload 4, 2) := by decide +kernel
theorem dX10_beatOne_149 : decode cX10_beatOne 149 = .ok (.iaload, 1) := by decide +kernel
theorem dX10_beatOne_150 : decode cX10_beatOne 150 = .ok (.aload_n 0, 1) := by decide +kernel
theorem dX10_beatOne_151 : decode cX10_beatOne 151 = .ok (.getfield 54, 3) := by decide +kernel
theorem dX10_beatOne_154 : decode cX10_beatOne 154 = .ok (.iload_n 3, 1) := by decide +kernel
theorem dX10_beatOne_155 : decode cX10_beatOne 155 = .ok (.iaload, 1) := by decide +kernel
theorem dX10_beatOne_156 : decode cX10_beatOne 156 = .ok (.if_icmp .le 8, 3) := by decide +kernel
theorem dX10_beatOne_159 : decode cX10_beatOne 159 = .ok (.iload 4, 2) := by decide +kernel
theorem dX10_beatOne_161 : decode cX10_beatOne 161 = .ok (.goto 4, 3) := by decide +kernel
theorem dX10_beatOne_164 : decode cX10_beatOne 164 = .ok (.iload_n 3, 1) := by decide +kernel
theorem dX10_beatOne_165 : decode cX10_beatOne 165 = .ok (.istore_n 3, 1) := by decide +kernel
theorem dX10_beatOne_166 : decode cX10_beatOne 166 = .ok (.iinc 4 1, 3) := by decide +kernel
theorem dX10_beatOne_169 : decode cX10_beatOne 169 = .ok (.goto (-129), 3) := by decide +kernel
theorem dX10_beatOne_172 : decode cX10_beatOne 172 = .ok (.iload_n 3, 1) := by decide +kernel
theorem dX10_beatOne_173 : decode cX10_beatOne 173 = .ok (.ifCond .ge 5, 3) := by decide +kernel
theorem dX10_beatOne_176 : decode cX10_beatOne 176 = .ok (.iconst 0, 1) := by decide +kernel
theorem dX10_beatOne_177 : decode cX10_beatOne 177 = .ok (.ireturn, 1) := by decide +kernel
theorem dX10_beatOne_178 : decode cX10_beatOne 178 = .ok (.aload_n 0, 1) := by decide +kernel
theorem dX10_beatOne_179 : decode cX10_beatOne 179 = .ok (.getfield 57, 3) := by decide +kernel
theorem dX10_beatOne_182 : decode cX10_beatOne 182 = .ok (.iload_n 3, 1) := by decide +kernel
theorem dX10_beatOne_183 : decode cX10_beatOne 183 = .ok (.iconst 1, 1) := by decide +kernel
theorem dX10_beatOne_184 : decode cX10_beatOne 184 = .ok (.bastore, 1) := by decide +kernel
theorem dX10_beatOne_185 : decode cX10_beatOne 185 = .ok (.iinc 2 1, 3) := by decide +kernel
theorem dX10_beatOne_188 : decode cX10_beatOne 188 = .ok (.goto (-163), 3) := by decide +kernel
theorem dX10_beatOne_191 : decode cX10_beatOne 191 = .ok (.iconst 0, 1) := by decide +kernel
theorem dX10_beatOne_192 : decode cX10_beatOne 192 = .ok (.istore_n 2, 1) := by decide +kernel
theorem dX10_beatOne_193 : decode cX10_beatOne 193 = .ok (.iload_n 2, 1) := by decide +kernel
theorem dX10_beatOne_194 : decode cX10_beatOne 194 = .ok (.aload_n 0, 1) := by decide +kernel
theorem dX10_beatOne_195 : decode cX10_beatOne 195 = .ok (.getfield 210, 3) := by decide +kernel
theorem dX10_beatOne_198 : decode cX10_beatOne 198 = .ok (.if_icmp .ge 32, 3) := by decide +kernel
theorem dX10_beatOne_201 : decode cX10_beatOne 201 = .ok (.aload_n 0, 1) := by decide +kernel
theorem dX10_beatOne_202 : decode cX10_beatOne 202 = .ok (.getfield 54, 3) := by decide +kernel
theorem dX10_beatOne_205 : decode cX10_beatOne 205 = .ok (.iload_n 2, 1) := by decide +kernel
theorem dX10_beatOne_206 : decode cX10_beatOne 206 = .ok (.dup2, 1) := by decide +kernel
theorem dX10_beatOne_207 : decode cX10_beatOne 207 = .ok (.iaload, 1) := by decide +kernel
theorem dX10_beatOne_208 : decode cX10_beatOne 208 = .ok (.aload_n 0, 1) := by decide +kernel
theorem dX10_beatOne_209 : decode cX10_beatOne 209 = .ok (.getfield 57, 3) := by decide +kernel
theorem dX10_beatOne_212 : decode cX10_beatOne 212 = .ok (.iload_n 2, 1) := by decide +kernel
theorem dX10_beatOne_213 : decode cX10_beatOne 213 = .ok (.baload, 1) := by decide +kernel
theorem dX10_beatOne_214 : decode cX10_beatOne 214 = .ok (.ifCond .eq 7, 3) := by decide +kernel
theorem dX10_beatOne_217 : decode cX10_beatOne 217 = .ok (.iconst 1, 1) := by decide +kernel
theorem dX10_beatOne_218 : decode cX10_beatOne 218 = .ok (.goto 4, 3) := by decide +kernel
theorem dX10_beatOne_221 : decode cX10_beatOne 221 = .ok (.iconst 0, 1) := by decide +kernel
theorem dX10_beatOne_222 : decode cX10_beatOne 222 = .ok (.iadd, 1) := by decide +kernel
theorem dX10_beatOne_223 : decode cX10_beatOne 223 = .ok (.iastore, 1) := by decide +kernel
theorem dX10_beatOne_224 : decode cX10_beatOne 224 = .ok (.iinc 2 1, 3) := by decide +kernel
theorem dX10_beatOne_227 : decode cX10_beatOne 227 = .ok (.goto (-34), 3) := by decide +kernel
theorem dX10_beatOne_230 : decode cX10_beatOne 230 = .ok (.iconst 1, 1) := by decide +kernel
theorem dX10_beatOne_231 : decode cX10_beatOne 231 = .ok (.ireturn, 1) := by decide +kernel
def rmX10_beatOne : Room := { frames := 1, cells := 0, slots := 0, locals := 25 }
def fX10_beatOne_222 (r193 : Nat → Int32 → PH → Option (Int32 × PH)) (al0 : Nat) (xl2 : Int32) (xs0 : Int32) (xs1 : Int32) (xs2 : Int32) (as3 : Nat) (h0 : PH) : Option (Int32 × PH) :=
    bn (astI as3 xs2 (xs1 + xs0) h0) fun h9 =>
    r193 al0 (xl2 + 1) h9
set_option maxHeartbeats 4000000 in
set_option maxRecDepth 100000 in
theorem vfX10_beatOne_222 {p : Program} {l : Launch} {e : Env} {s : State} {m : MethodId} {args : Array Value} {below : List Frame} {meth : Method} {c : Code} {G : GX} (C : Cx p s m args meth c G cX10_beatOne 6 RX10) (hr : meth.sig.returnType = (some .boolean)) {r193 : Nat → Int32 → PH → Option (Int32 × PH)} (k193 : ∀ (al0 : Nat) (xl2 : Int32) (h0 : PH), J p l e rmX10_beatOne s m args below meth c G 6 (qM below args s rvI G 0 0) 0 0 h0 193 [(0, .ref al0), (2, .int xl2)] [] (r193 al0 xl2 h0)) (al0 : Nat) (xl2 : Int32) (xs0 : Int32) (xs1 : Int32) (xs2 : Int32) (as3 : Nat) (h0 : PH) : J p l e rmX10_beatOne s m args below meth c G 6 (qM below args s rvI G 0 0) 0 0 h0 222 [(0, .ref al0), (2, .int xl2)] [.int xs0, .int xs1, .int xs2, .ref as3] (fX10_beatOne_222 r193 al0 xl2 xs0 xs1 xs2 as3 h0) := by
  unfold fX10_beatOne_222
  refine J_iadd (pc := 222) C dX10_beatOne_222 ?_
  refine J_iast (pc := 223) C dX10_beatOne_223 (fun h9 => ?_)
  refine J_iinc (pc := 224) (v := (xl2 + 1)) (lv1 := [(2, .int (xl2 + 1)), (0, .ref al0)]) C dX10_beatOne_224 1 rfl rfl (by decide) rfl ?_
  refine J_goto (pc := 227) (tgt := 193) C dX10_beatOne_227 (by decide) ?_
  refine J_sub [1, 0] rfl ?_
  exact k193 al0 (xl2 + 1) h9
def fX10_beatOne_193  : Nat → Nat → Int32 → PH → Option (Int32 × PH)
  | 0, _, _, _ => none
  | n + 1, al0, xl2, h0 =>
    bn (rdI 10 27 al0 h0) fun x4 =>
    if x4 ≤ xl2 then (some ((1 : Int32), h0)) else
    bn (rdR 10 29 al0 h0) fun a5 =>
    bn (aldI 0 a5 xl2 h0) fun x6 =>
    bn (rdR 10 30 al0 h0) fun a7 =>
    bn (aldI 1 a7 xl2 h0) fun x8 =>
    if x8 = 0 then (fX10_beatOne_222 (fX10_beatOne_193 n) al0 xl2 (0 : Int32) x6 xl2 a5 h0) else
    fX10_beatOne_222 (fX10_beatOne_193 n) al0 xl2 (1 : Int32) x6 xl2 a5 h0
set_option maxHeartbeats 4000000 in
set_option maxRecDepth 100000 in
theorem vfX10_beatOne_193 {p : Program} {l : Launch} {e : Env} {s : State} {m : MethodId} {args : Array Value} {below : List Frame} {meth : Method} {c : Code} {G : GX} (C : Cx p s m args meth c G cX10_beatOne 6 RX10) (hr : meth.sig.returnType = (some .boolean)) : ∀ (n : Nat) (al0 : Nat) (xl2 : Int32) (h0 : PH), J p l e rmX10_beatOne s m args below meth c G 6 (qM below args s rvI G 0 0) 0 0 h0 193 [(0, .ref al0), (2, .int xl2)] [] (fX10_beatOne_193  n al0 xl2 h0) := by
  intro n
  induction n with
  | zero => exact fun al0 xl2 h0 => J_none C
  | succ n ih =>
    intro al0 xl2 h0
    unfold fX10_beatOne_193
    refine J_iload_n (pc := 193) C dX10_beatOne_193 rfl 1 rfl ?_
    refine J_aload_n (pc := 194) C dX10_beatOne_194 rfl 0 rfl ?_
    refine J_getI (pc := 195) C flX10_210 dX10_beatOne_195 (fun x4 => ?_)
    refine J_icmp_ge (pc := 198) (tgt := 230) C dX10_beatOne_198 (by decide) ?_ ?_
    · refine J_iconst (pc := 230) (v := 1) C dX10_beatOne_230 (by decide) ?_
      exact J_zret (pc := 231) C hr rfl dX10_beatOne_231
    · refine J_aload_n (pc := 201) C dX10_beatOne_201 rfl 0 rfl ?_
      refine J_getR (pc := 202) C flX10_54 dX10_beatOne_202 (fun a5 => ?_)
      refine J_iload_n (pc := 205) C dX10_beatOne_205 rfl 1 rfl ?_
      refine J_dup2 (pc := 206) C dX10_beatOne_206 rfl rfl ?_
      refine J_iald (pc := 207) C dX10_beatOne_207 (fun x6 => ?_)
      refine J_aload_n (pc := 208) C dX10_beatOne_208 rfl 0 rfl ?_
      refine J_getR (pc := 209) C flX10_57 dX10_beatOne_209 (fun a7 => ?_)
      refine J_iload_n (pc := 212) C dX10_beatOne_212 rfl 1 rfl ?_
      refine J_zald (pc := 213) C dX10_beatOne_213 (fun x8 => ?_)
      refine J_if_eq (pc := 214) (tgt := 221) C dX10_beatOne_214 (by decide) ?_ ?_
      · refine J_iconst (pc := 221) (v := 0) C dX10_beatOne_221 (by decide) ?_
        exact vfX10_beatOne_222 C hr ih al0 xl2 (0 : Int32) x6 xl2 a5 h0
      · refine J_iconst (pc := 217) (v := 1) C dX10_beatOne_217 (by decide) ?_
        refine J_goto (pc := 218) (tgt := 222) C dX10_beatOne_218 (by decide) ?_
        exact vfX10_beatOne_222 C hr ih al0 xl2 (1 : Int32) x6 xl2 a5 h0
def fX10_beatOne_165 (r25 : Nat → Int32 → Int32 → PH → Option (Int32 × PH)) (r40 : Nat → Int32 → Int32 → Int32 → Int32 → PH → Option (Int32 × PH)) (al0 : Nat) (xl1 : Int32) (xl2 : Int32) (xl4 : Int32) (xs0 : Int32) (h0 : PH) : Option (Int32 × PH) :=
    r40 al0 xl1 xl2 xs0 (xl4 + 1) h0
set_option maxHeartbeats 4000000 in
set_option maxRecDepth 100000 in
theorem vfX10_beatOne_165 {p : Program} {l : Launch} {e : Env} {s : State} {m : MethodId} {args : Array Value} {below : List Frame} {meth : Method} {c : Code} {G : GX} (C : Cx p s m args meth c G cX10_beatOne 6 RX10) (hr : meth.sig.returnType = (some .boolean)) {r25 : Nat → Int32 → Int32 → PH → Option (Int32 × PH)} (k25 : ∀ (al0 : Nat) (xl1 : Int32) (xl2 : Int32) (h0 : PH), J p l e rmX10_beatOne s m args below meth c G 6 (qM below args s rvI G 0 0) 0 0 h0 25 [(0, .ref al0), (1, .int xl1), (2, .int xl2)] [] (r25 al0 xl1 xl2 h0)) {r40 : Nat → Int32 → Int32 → Int32 → Int32 → PH → Option (Int32 × PH)} (k40 : ∀ (al0 : Nat) (xl1 : Int32) (xl2 : Int32) (xl3 : Int32) (xl4 : Int32) (h0 : PH), J p l e rmX10_beatOne s m args below meth c G 6 (qM below args s rvI G 0 0) 0 0 h0 40 [(0, .ref al0), (1, .int xl1), (2, .int xl2), (3, .int xl3), (4, .int xl4)] [] (r40 al0 xl1 xl2 xl3 xl4 h0)) (al0 : Nat) (xl1 : Int32) (xl2 : Int32) (xl4 : Int32) (xs0 : Int32) (h0 : PH) : J p l e rmX10_beatOne s m args below meth c G 6 (qM below args s rvI G 0 0) 0 0 h0 165 [(0, .ref al0), (1, .int xl1), (2, .int xl2), (4, .int xl4)] [.int xs0] (fX10_beatOne_165 r25 r40 al0 xl1 xl2 xl4 xs0 h0) := by
  unfold fX10_beatOne_165
  refine J_istore_n (pc := 165) (lv1 := [(3, .int xs0), (0, .ref al0), (1, .int xl1), (2, .int xl2), (4, .int xl4)]) C dX10_beatOne_165 rfl (by decide) rfl ?_
  refine J_iinc (pc := 166) (v := (xl4 + 1)) (lv1 := [(4, .int (xl4 + 1)), (3, .int xs0), (0, .ref al0), (1, .int xl1), (2, .int xl2)]) C dX10_beatOne_166 4 rfl rfl (by decide) rfl ?_
  refine J_goto (pc := 169) (tgt := 40) C dX10_beatOne_169 (by decide) ?_
  refine J_sub [2, 3, 4, 1, 0] rfl ?_
  exact k40 al0 xl1 xl2 xs0 (xl4 + 1) h0
def fX10_beatOne_164 (r25 : Nat → Int32 → Int32 → PH → Option (Int32 × PH)) (r40 : Nat → Int32 → Int32 → Int32 → Int32 → PH → Option (Int32 × PH)) (al0 : Nat) (xl1 : Int32) (xl2 : Int32) (xl3 : Int32) (xl4 : Int32) (h0 : PH) : Option (Int32 × PH) :=
    fX10_beatOne_165 r25 r40 al0 xl1 xl2 xl4 xl3 h0
set_option maxHeartbeats 4000000 in
set_option maxRecDepth 100000 in
theorem vfX10_beatOne_164 {p : Program} {l : Launch} {e : Env} {s : State} {m : MethodId} {args : Array Value} {below : List Frame} {meth : Method} {c : Code} {G : GX} (C : Cx p s m args meth c G cX10_beatOne 6 RX10) (hr : meth.sig.returnType = (some .boolean)) {r25 : Nat → Int32 → Int32 → PH → Option (Int32 × PH)} (k25 : ∀ (al0 : Nat) (xl1 : Int32) (xl2 : Int32) (h0 : PH), J p l e rmX10_beatOne s m args below meth c G 6 (qM below args s rvI G 0 0) 0 0 h0 25 [(0, .ref al0), (1, .int xl1), (2, .int xl2)] [] (r25 al0 xl1 xl2 h0)) {r40 : Nat → Int32 → Int32 → Int32 → Int32 → PH → Option (Int32 × PH)} (k40 : ∀ (al0 : Nat) (xl1 : Int32) (xl2 : Int32) (xl3 : Int32) (xl4 : Int32) (h0 : PH), J p l e rmX10_beatOne s m args below meth c G 6 (qM below args s rvI G 0 0) 0 0 h0 40 [(0, .ref al0), (1, .int xl1), (2, .int xl2), (3, .int xl3), (4, .int xl4)] [] (r40 al0 xl1 xl2 xl3 xl4 h0)) (al0 : Nat) (xl1 : Int32) (xl2 : Int32) (xl3 : Int32) (xl4 : Int32) (h0 : PH) : J p l e rmX10_beatOne s m args below meth c G 6 (qM below args s rvI G 0 0) 0 0 h0 164 [(0, .ref al0), (1, .int xl1), (2, .int xl2), (3, .int xl3), (4, .int xl4)] [] (fX10_beatOne_164 r25 r40 al0 xl1 xl2 xl3 xl4 h0) := by
  unfold fX10_beatOne_164
  refine J_iload_n (pc := 164) C dX10_beatOne_164 rfl 3 rfl ?_
  refine J_sub [0, 1, 2, 4] rfl ?_
  exact vfX10_beatOne_165 C hr k25 k40 al0 xl1 xl2 xl4 xl3 h0
def fX10_beatOne_159 (r25 : Nat → Int32 → Int32 → PH → Option (Int32 × PH)) (r40 : Nat → Int32 → Int32 → Int32 → Int32 → PH → Option (Int32 × PH)) (al0 : Nat) (xl1 : Int32) (xl2 : Int32) (xl4 : Int32) (h0 : PH) : Option (Int32 × PH) :=
    fX10_beatOne_165 r25 r40 al0 xl1 xl2 xl4 xl4 h0
set_option maxHeartbeats 4000000 in
set_option maxRecDepth 100000 in
theorem vfX10_beatOne_159 {p : Program} {l : Launch} {e : Env} {s : State} {m : MethodId} {args : Array Value} {below : List Frame} {meth : Method} {c : Code} {G : GX} (C : Cx p s m args meth c G cX10_beatOne 6 RX10) (hr : meth.sig.returnType = (some .boolean)) {r25 : Nat → Int32 → Int32 → PH → Option (Int32 × PH)} (k25 : ∀ (al0 : Nat) (xl1 : Int32) (xl2 : Int32) (h0 : PH), J p l e rmX10_beatOne s m args below meth c G 6 (qM below args s rvI G 0 0) 0 0 h0 25 [(0, .ref al0), (1, .int xl1), (2, .int xl2)] [] (r25 al0 xl1 xl2 h0)) {r40 : Nat → Int32 → Int32 → Int32 → Int32 → PH → Option (Int32 × PH)} (k40 : ∀ (al0 : Nat) (xl1 : Int32) (xl2 : Int32) (xl3 : Int32) (xl4 : Int32) (h0 : PH), J p l e rmX10_beatOne s m args below meth c G 6 (qM below args s rvI G 0 0) 0 0 h0 40 [(0, .ref al0), (1, .int xl1), (2, .int xl2), (3, .int xl3), (4, .int xl4)] [] (r40 al0 xl1 xl2 xl3 xl4 h0)) (al0 : Nat) (xl1 : Int32) (xl2 : Int32) (xl4 : Int32) (h0 : PH) : J p l e rmX10_beatOne s m args below meth c G 6 (qM below args s rvI G 0 0) 0 0 h0 159 [(0, .ref al0), (1, .int xl1), (2, .int xl2), (4, .int xl4)] [] (fX10_beatOne_159 r25 r40 al0 xl1 xl2 xl4 h0) := by
  unfold fX10_beatOne_159
  refine J_iload (pc := 159) C dX10_beatOne_159 3 rfl ?_
  refine J_goto (pc := 161) (tgt := 165) C dX10_beatOne_161 (by decide) ?_
  exact vfX10_beatOne_165 C hr k25 k40 al0 xl1 xl2 xl4 xl4 h0
def fX10_beatOne_132 (r25 : Nat → Int32 → Int32 → PH → Option (Int32 × PH)) (r40 : Nat → Int32 → Int32 → Int32 → Int32 → PH → Option (Int32 × PH)) (al0 : Nat) (xl1 : Int32) (xl2 : Int32) (xl3 : Int32) (xl4 : Int32) (xs0 : Int32) (h0 : PH) : Option (Int32 × PH) :=
    if xs0 = 0 then (fX10_beatOne_164 r25 r40 al0 xl1 xl2 xl3 xl4 h0) else
    if xl3 < 0 then (fX10_beatOne_159 r25 r40 al0 xl1 xl2 xl4 h0) else
    bn (rdR 10 29 al0 h0) fun a15 =>
    bn (aldI 0 a15 xl4 h0) fun x16 =>
    bn (rdR 10 29 al0 h0) fun a17 =>
    bn (aldI 0 a17 xl3 h0) fun x18 =>
    if x16 ≤ x18 then (fX10_beatOne_164 r25 r40 al0 xl1 xl2 xl3 xl4 h0) else
    fX10_beatOne_159 r25 r40 al0 xl1 xl2 xl4 h0
set_option maxHeartbeats 4000000 in
set_option maxRecDepth 100000 in
theorem vfX10_beatOne_132 {p : Program} {l : Launch} {e : Env} {s : State} {m : MethodId} {args : Array Value} {below : List Frame} {meth : Method} {c : Code} {G : GX} (C : Cx p s m args meth c G cX10_beatOne 6 RX10) (hr : meth.sig.returnType = (some .boolean)) {r25 : Nat → Int32 → Int32 → PH → Option (Int32 × PH)} (k25 : ∀ (al0 : Nat) (xl1 : Int32) (xl2 : Int32) (h0 : PH), J p l e rmX10_beatOne s m args below meth c G 6 (qM below args s rvI G 0 0) 0 0 h0 25 [(0, .ref al0), (1, .int xl1), (2, .int xl2)] [] (r25 al0 xl1 xl2 h0)) {r40 : Nat → Int32 → Int32 → Int32 → Int32 → PH → Option (Int32 × PH)} (k40 : ∀ (al0 : Nat) (xl1 : Int32) (xl2 : Int32) (xl3 : Int32) (xl4 : Int32) (h0 : PH), J p l e rmX10_beatOne s m args below meth c G 6 (qM below args s rvI G 0 0) 0 0 h0 40 [(0, .ref al0), (1, .int xl1), (2, .int xl2), (3, .int xl3), (4, .int xl4)] [] (r40 al0 xl1 xl2 xl3 xl4 h0)) (al0 : Nat) (xl1 : Int32) (xl2 : Int32) (xl3 : Int32) (xl4 : Int32) (xs0 : Int32) (h0 : PH) : J p l e rmX10_beatOne s m args below meth c G 6 (qM below args s rvI G 0 0) 0 0 h0 132 [(0, .ref al0), (1, .int xl1), (2, .int xl2), (3, .int xl3), (4, .int xl4)] [.int xs0] (fX10_beatOne_132 r25 r40 al0 xl1 xl2 xl3 xl4 xs0 h0) := by
  unfold fX10_beatOne_132
  refine J_istore (pc := 132) (lv1 := [(5, .int xs0), (0, .ref al0), (1, .int xl1), (2, .int xl2), (3, .int xl3), (4, .int xl4)]) C dX10_beatOne_132 (by decide) rfl ?_
  refine J_iload (pc := 134) C dX10_beatOne_134 0 rfl ?_
  refine J_if_eq (pc := 136) (tgt := 164) C dX10_beatOne_136 (by decide) ?_ ?_
  · refine J_sub [1, 2, 3, 4, 5] rfl ?_
    exact vfX10_beatOne_164 C hr k25 k40 al0 xl1 xl2 xl3 xl4 h0
  · refine J_iload_n (pc := 139) C dX10_beatOne_139 rfl 4 rfl ?_
    refine J_if_lt (pc := 140) (tgt := 159) C dX10_beatOne_140 (by decide) ?_ ?_
    · refine J_sub [1, 2, 3, 5] rfl ?_
      exact vfX10_beatOne_159 C hr k25 k40 al0 xl1 xl2 xl4 h0
    · refine J_aload_n (pc := 143) C dX10_beatOne_143 rfl 1 rfl ?_
      refine J_getR (pc := 144) C flX10_54 dX10_beatOne_144 (fun a15 => ?_)
      refine J_iload (pc := 147) C dX10_beatOne_147 5 rfl ?_
      refine J_iald (pc := 149) C dX10_beatOne_149 (fun x16 => ?_)
      refine J_aload_n (pc := 150) C dX10_beatOne_150 rfl 1 rfl ?_
      refine J_getR (pc := 151) C flX10_54 dX10_beatOne_151 (fun a17 => ?_)
      refine J_iload_n (pc := 154) C dX10_beatOne_154 rfl 4 rfl ?_
      refine J_iald (pc := 155) C dX10_beatOne_155 (fun x18 => ?_)
      refine J_icmp_le (pc := 156) (tgt := 164) C dX10_beatOne_156 (by decide) ?_ ?_
      · refine J_sub [1, 2, 3, 4, 5] rfl ?_
        exact vfX10_beatOne_164 C hr k25 k40 al0 xl1 xl2 xl3 xl4 h0
      · refine J_sub [1, 2, 3, 5] rfl ?_
        exact vfX10_beatOne_159 C hr k25 k40 al0 xl1 xl2 xl4 h0
def fX10_beatOne_131 (r25 : Nat → Int32 → Int32 → PH → Option (Int32 × PH)) (r40 : Nat → Int32 → Int32 → Int32 → Int32 → PH → Option (Int32 × PH)) (al0 : Nat) (xl1 : Int32) (xl2 : Int32) (xl3 : Int32) (xl4 : Int32) (h0 : PH) : Option (Int32 × PH) :=
    fX10_beatOne_132 r25 r40 al0 xl1 xl2 xl3 xl4 (0 : Int32) h0
set_option maxHeartbeats 4000000 in
set_option maxRecDepth 100000 in
theorem vfX10_beatOne_131 {p : Program} {l : Launch} {e : Env} {s : State} {m : MethodId} {args : Array Value} {below : List Frame} {meth : Method} {c : Code} {G : GX} (C : Cx p s m args meth c G cX10_beatOne 6 RX10) (hr : meth.sig.returnType = (some .boolean)) {r25 : Nat → Int32 → Int32 → PH → Option (Int32 × PH)} (k25 : ∀ (al0 : Nat) (xl1 : Int32) (xl2 : Int32) (h0 : PH), J p l e rmX10_beatOne s m args below meth c G 6 (qM below args s rvI G 0 0) 0 0 h0 25 [(0, .ref al0), (1, .int xl1), (2, .int xl2)] [] (r25 al0 xl1 xl2 h0)) {r40 : Nat → Int32 → Int32 → Int32 → Int32 → PH → Option (Int32 × PH)} (k40 : ∀ (al0 : Nat) (xl1 : Int32) (xl2 : Int32) (xl3 : Int32) (xl4 : Int32) (h0 : PH), J p l e rmX10_beatOne s m args below meth c G 6 (qM below args s rvI G 0 0) 0 0 h0 40 [(0, .ref al0), (1, .int xl1), (2, .int xl2), (3, .int xl3), (4, .int xl4)] [] (r40 al0 xl1 xl2 xl3 xl4 h0)) (al0 : Nat) (xl1 : Int32) (xl2 : Int32) (xl3 : Int32) (xl4 : Int32) (h0 : PH) : J p l e rmX10_beatOne s m args below meth c G 6 (qM below args s rvI G 0 0) 0 0 h0 131 [(0, .ref al0), (1, .int xl1), (2, .int xl2), (3, .int xl3), (4, .int xl4)] [] (fX10_beatOne_131 r25 r40 al0 xl1 xl2 xl3 xl4 h0) := by
  unfold fX10_beatOne_131
  refine J_iconst (pc := 131) (v := 0) C dX10_beatOne_131 (by decide) ?_
  exact vfX10_beatOne_132 C hr k25 k40 al0 xl1 xl2 xl3 xl4 (0 : Int32) h0
def fX10_beatOne_40 (r25 : Nat → Int32 → Int32 → PH → Option (Int32 × PH)) : Nat → Nat → Int32 → Int32 → Int32 → Int32 → PH → Option (Int32 × PH)
  | 0, _, _, _, _, _, _ => none
  | n + 1, al0, xl1, xl2, xl3, xl4, h0 =>
    bn (rdI 10 27 al0 h0) fun x10 =>
    if x10 ≤ xl4 then (if 0 ≤ xl3 then (bn (rdR 10 30 al0 h0) fun a11 =>
    bn (astZ a11 xl3 (1 : Int32) h0) fun h12 =>
    r25 al0 xl1 (xl2 + 1) h12) else
    some ((0 : Int32), h0)) else
    bn (rdR 10 30 al0 h0) fun a13 =>
    bn (aldI 1 a13 xl4 h0) fun x14 =>
    if x14 = 0 then (bn (rdR 10 29 al0 h0) fun a19 =>
    bn (aldI 0 a19 xl4 h0) fun x20 =>
    bn (rdR 10 32 al0 h0) fun a21 =>
    bn (aldI 0 a21 ((2 : Int32) * xl1) h0) fun x22 =>
    bn (rdR 10 32 al0 h0) fun a23 =>
    bn (aldI 0 a23 (((2 : Int32) * xl1) + (1 : Int32)) h0) fun x24 =>
    bn2 (fX10_in x20.toInt64 x22.toInt64 x24.toInt64 h0) fun x26 h25 =>
    if x26 = 0 then (fX10_beatOne_131 r25 (fX10_beatOne_40 r25 n) al0 xl1 xl2 xl3 xl4 h25) else
    bn (rdR 10 28 al0 h25) fun a27 =>
    bn (aldI 0 a27 xl4 h25) fun x28 =>
    bn (rdR 10 33 al0 h25) fun a29 =>
    bn (aldI 0 a29 ((2 : Int32) * xl1) h25) fun x30 =>
    bn (rdR 10 33 al0 h25) fun a31 =>
    bn (aldI 0 a31 (((2 : Int32) * xl1) + (1 : Int32)) h25) fun x32 =>
    bn2 (fX10_in x28.toInt64 x30.toInt64 x32.toInt64 h25) fun x34 h33 =>
    if x34 = 0 then (fX10_beatOne_131 r25 (fX10_beatOne_40 r25 n) al0 xl1 xl2 xl3 xl4 h33) else
    fX10_beatOne_132 r25 (fX10_beatOne_40 r25 n) al0 xl1 xl2 xl3 xl4 (1 : Int32) h33) else
    fX10_beatOne_131 r25 (fX10_beatOne_40 r25 n) al0 xl1 xl2 xl3 xl4 h0
set_option maxHeartbeats 4000000 in
set_option maxRecDepth 100000 in
theorem vfX10_beatOne_40 {p : Program} {l : Launch} {e : Env} {s : State} {m : MethodId} {args : Array Value} {below : List Frame} {meth : Method} {c : Code} {G : GX} (C : Cx p s m args meth c G cX10_beatOne 6 RX10) (hr : meth.sig.returnType = (some .boolean)) {r25 : Nat → Int32 → Int32 → PH → Option (Int32 × PH)} (k25 : ∀ (al0 : Nat) (xl1 : Int32) (xl2 : Int32) (h0 : PH), J p l e rmX10_beatOne s m args below meth c G 6 (qM below args s rvI G 0 0) 0 0 h0 25 [(0, .ref al0), (1, .int xl1), (2, .int xl2)] [] (r25 al0 xl1 xl2 h0)) : ∀ (n : Nat) (al0 : Nat) (xl1 : Int32) (xl2 : Int32) (xl3 : Int32) (xl4 : Int32) (h0 : PH), J p l e rmX10_beatOne s m args below meth c G 6 (qM below args s rvI G 0 0) 0 0 h0 40 [(0, .ref al0), (1, .int xl1), (2, .int xl2), (3, .int xl3), (4, .int xl4)] [] (fX10_beatOne_40 r25 n al0 xl1 xl2 xl3 xl4 h0) := by
  intro n
  induction n with
  | zero => exact fun al0 xl1 xl2 xl3 xl4 h0 => J_none C
  | succ n ih =>
    intro al0 xl1 xl2 xl3 xl4 h0
    unfold fX10_beatOne_40
    refine J_iload (pc := 40) C dX10_beatOne_40 4 rfl ?_
    refine J_aload_n (pc := 42) C dX10_beatOne_42 rfl 0 rfl ?_
    refine J_getI (pc := 43) C flX10_210 dX10_beatOne_43 (fun x10 => ?_)
    refine J_icmp_ge (pc := 46) (tgt := 172) C dX10_beatOne_46 (by decide) ?_ ?_
    · refine J_iload_n (pc := 172) C dX10_beatOne_172 rfl 3 rfl ?_
      refine J_if_ge (pc := 173) (tgt := 178) C dX10_beatOne_173 (by decide) ?_ ?_
      · refine J_aload_n (pc := 178) C dX10_beatOne_178 rfl 0 rfl ?_
        refine J_getR (pc := 179) C flX10_57 dX10_beatOne_179 (fun a11 => ?_)
        refine J_iload_n (pc := 182) C dX10_beatOne_182 rfl 3 rfl ?_
        refine J_iconst (pc := 183) (v := 1) C dX10_beatOne_183 (by decide) ?_
        refine J_zast (pc := 184) C dX10_beatOne_184 (fun h12 => ?_)
        refine J_iinc (pc := 185) (v := (xl2 + 1)) (lv1 := [(2, .int (xl2 + 1)), (0, .ref al0), (1, .int xl1), (3, .int xl3), (4, .int xl4)]) C dX10_beatOne_185 2 rfl rfl (by decide) rfl ?_
        refine J_goto (pc := 188) (tgt := 25) C dX10_beatOne_188 (by decide) ?_
        refine J_sub [1, 2, 0] rfl ?_
        exact k25 al0 xl1 (xl2 + 1) h12
      · refine J_iconst (pc := 176) (v := 0) C dX10_beatOne_176 (by decide) ?_
        exact J_zret (pc := 177) C hr rfl dX10_beatOne_177
    · refine J_aload_n (pc := 49) C dX10_beatOne_49 rfl 0 rfl ?_
      refine J_getR (pc := 50) C flX10_57 dX10_beatOne_50 (fun a13 => ?_)
      refine J_iload (pc := 53) C dX10_beatOne_53 4 rfl ?_
      refine J_zald (pc := 55) C dX10_beatOne_55 (fun x14 => ?_)
      refine J_if_ne (pc := 56) (tgt := 131) C dX10_beatOne_56 (by decide) ?_ ?_
      · exact vfX10_beatOne_131 C hr k25 ih al0 xl1 xl2 xl3 xl4 h0
      · refine J_aload_n (pc := 59) C dX10_beatOne_59 rfl 0 rfl ?_
        refine J_getR (pc := 60) C flX10_54 dX10_beatOne_60 (fun a19 => ?_)
        refine J_iload (pc := 63) C dX10_beatOne_63 4 rfl ?_
        refine J_iald (pc := 65) C dX10_beatOne_65 (fun x20 => ?_)
        refine J_i2l (pc := 66) C dX10_beatOne_66 ?_
        refine J_aload_n (pc := 67) C dX10_beatOne_67 rfl 0 rfl ?_
        refine J_getR (pc := 68) C flX10_63 dX10_beatOne_68 (fun a21 => ?_)
        refine J_iconst (pc := 71) (v := 2) C dX10_beatOne_71 (by decide) ?_
        refine J_iload_n (pc := 72) C dX10_beatOne_72 rfl 1 rfl ?_
        refine J_imul (pc := 73) C dX10_beatOne_73 ?_
        refine J_iald (pc := 74) C dX10_beatOne_74 (fun x22 => ?_)
        refine J_i2l (pc := 75) C dX10_beatOne_75 ?_
        refine J_aload_n (pc := 76) C dX10_beatOne_76 rfl 0 rfl ?_
        refine J_getR (pc := 77) C flX10_63 dX10_beatOne_77 (fun a23 => ?_)
        refine J_iconst (pc := 80) (v := 2) C dX10_beatOne_80 (by decide) ?_
        refine J_iload_n (pc := 81) C dX10_beatOne_81 rfl 1 rfl ?_
        refine J_imul (pc := 82) C dX10_beatOne_82 ?_
        refine J_iconst (pc := 83) (v := 1) C dX10_beatOne_83 (by decide) ?_
        refine J_iadd (pc := 84) C dX10_beatOne_84 ?_
        refine J_iald (pc := 85) C dX10_beatOne_85 (fun x24 => ?_)
        refine J_i2l (pc := 86) C dX10_beatOne_86 ?_
        refine J_callSI (pc := 87) (As := [.long x20.toInt64, .long x22.toInt64, .long x24.toInt64]) (rest := []) C (fun z hz => mX10_in x20.toInt64 x22.toInt64 x24.toInt64 h0 z hz) mwX10_in mlX10_99 stX10_in rfl dX10_beatOne_87 (by decide) rfl (Nat.le_of_ble_eq_true rfl) (by decide) (fun x26 h25 => ?_)
        refine J_if_eq (pc := 90) (tgt := 131) C dX10_beatOne_90 (by decide) ?_ ?_
        · exact vfX10_beatOne_131 C hr k25 ih al0 xl1 xl2 xl3 xl4 h25
        · refine J_aload_n (pc := 93) C dX10_beatOne_93 rfl 0 rfl ?_
          refine J_getR (pc := 94) C flX10_51 dX10_beatOne_94 (fun a27 => ?_)
          refine J_iload (pc := 97) C dX10_beatOne_97 4 rfl ?_
          refine J_iald (pc := 99) C dX10_beatOne_99 (fun x28 => ?_)
          refine J_i2l (pc := 100) C dX10_beatOne_100 ?_
          refine J_aload_n (pc := 101) C dX10_beatOne_101 rfl 0 rfl ?_
          refine J_getR (pc := 102) C flX10_66 dX10_beatOne_102 (fun a29 => ?_)
          refine J_iconst (pc := 105) (v := 2) C dX10_beatOne_105 (by decide) ?_
          refine J_iload_n (pc := 106) C dX10_beatOne_106 rfl 1 rfl ?_
          refine J_imul (pc := 107) C dX10_beatOne_107 ?_
          refine J_iald (pc := 108) C dX10_beatOne_108 (fun x30 => ?_)
          refine J_i2l (pc := 109) C dX10_beatOne_109 ?_
          refine J_aload_n (pc := 110) C dX10_beatOne_110 rfl 0 rfl ?_
          refine J_getR (pc := 111) C flX10_66 dX10_beatOne_111 (fun a31 => ?_)
          refine J_iconst (pc := 114) (v := 2) C dX10_beatOne_114 (by decide) ?_
          refine J_iload_n (pc := 115) C dX10_beatOne_115 rfl 1 rfl ?_
          refine J_imul (pc := 116) C dX10_beatOne_116 ?_
          refine J_iconst (pc := 117) (v := 1) C dX10_beatOne_117 (by decide) ?_
          refine J_iadd (pc := 118) C dX10_beatOne_118 ?_
          refine J_iald (pc := 119) C dX10_beatOne_119 (fun x32 => ?_)
          refine J_i2l (pc := 120) C dX10_beatOne_120 ?_
          refine J_callSI (pc := 121) (As := [.long x28.toInt64, .long x30.toInt64, .long x32.toInt64]) (rest := []) C (fun z hz => mX10_in x28.toInt64 x30.toInt64 x32.toInt64 h25 z hz) mwX10_in mlX10_99 stX10_in rfl dX10_beatOne_121 (by decide) rfl (Nat.le_of_ble_eq_true rfl) (by decide) (fun x34 h33 => ?_)
          refine J_if_eq (pc := 124) (tgt := 131) C dX10_beatOne_124 (by decide) ?_ ?_
          · exact vfX10_beatOne_131 C hr k25 ih al0 xl1 xl2 xl3 xl4 h33
          · refine J_iconst (pc := 127) (v := 1) C dX10_beatOne_127 (by decide) ?_
            refine J_goto (pc := 128) (tgt := 132) C dX10_beatOne_128 (by decide) ?_
            exact vfX10_beatOne_132 C hr k25 ih al0 xl1 xl2 xl3 xl4 (1 : Int32) h33
def fX10_beatOne_25  : Nat → Nat → Int32 → Int32 → PH → Option (Int32 × PH)
  | 0, _, _, _, _ => none
  | n + 1, al0, xl1, xl2, h0 =>
    bn (rdR 10 31 al0 h0) fun a2 =>
    bn (aldI 0 a2 xl1 h0) fun x3 =>
    if x3 ≤ xl2 then (fX10_beatOne_193  FU al0 (0 : Int32) h0) else
    fX10_beatOne_40 (fX10_beatOne_25 n) FU al0 xl1 xl2 (-1 : Int32) (0 : Int32) h0
set_option maxHeartbeats 4000000 in
set_option maxRecDepth 100000 in
theorem vfX10_beatOne_25 {p : Program} {l : Launch} {e : Env} {s : State} {m : MethodId} {args : Array Value} {below : List Frame} {meth : Method} {c : Code} {G : GX} (C : Cx p s m args meth c G cX10_beatOne 6 RX10) (hr : meth.sig.returnType = (some .boolean)) : ∀ (n : Nat) (al0 : Nat) (xl1 : Int32) (xl2 : Int32) (h0 : PH), J p l e rmX10_beatOne s m args below meth c G 6 (qM below args s rvI G 0 0) 0 0 h0 25 [(0, .ref al0), (1, .int xl1), (2, .int xl2)] [] (fX10_beatOne_25  n al0 xl1 xl2 h0) := by
  intro n
  induction n with
  | zero => exact fun al0 xl1 xl2 h0 => J_none C
  | succ n ih =>
    intro al0 xl1 xl2 h0
    unfold fX10_beatOne_25
    refine J_iload_n (pc := 25) C dX10_beatOne_25 rfl 2 rfl ?_
    refine J_aload_n (pc := 26) C dX10_beatOne_26 rfl 0 rfl ?_
    refine J_getR (pc := 27) C flX10_60 dX10_beatOne_27 (fun a2 => ?_)
    refine J_iload_n (pc := 30) C dX10_beatOne_30 rfl 1 rfl ?_
    refine J_iald (pc := 31) C dX10_beatOne_31 (fun x3 => ?_)
    refine J_icmp_ge (pc := 32) (tgt := 191) C dX10_beatOne_32 (by decide) ?_ ?_
    · refine J_iconst (pc := 191) (v := 0) C dX10_beatOne_191 (by decide) ?_
      refine J_istore_n (pc := 192) (lv1 := [(2, .int (0 : Int32)), (0, .ref al0), (1, .int xl1)]) C dX10_beatOne_192 rfl (by decide) rfl ?_
      refine J_sub [1, 0] rfl ?_
      exact vfX10_beatOne_193 C hr  FU al0 (0 : Int32) h0
    · refine J_iconst (pc := 35) (v := -1) C dX10_beatOne_35 (by decide) ?_
      refine J_istore_n (pc := 36) (lv1 := [(3, .int (-1 : Int32)), (0, .ref al0), (1, .int xl1), (2, .int xl2)]) C dX10_beatOne_36 rfl (by decide) rfl ?_
      refine J_iconst (pc := 37) (v := 0) C dX10_beatOne_37 (by decide) ?_
      refine J_istore (pc := 38) (lv1 := [(4, .int (0 : Int32)), (3, .int (-1 : Int32)), (0, .ref al0), (1, .int xl1), (2, .int xl2)]) C dX10_beatOne_38 (by decide) rfl ?_
      refine J_sub [2, 3, 4, 1, 0] rfl ?_
      exact vfX10_beatOne_40 C hr ih FU al0 xl1 xl2 (-1 : Int32) (0 : Int32) h0
def fX10_beatOne_2  : Nat → Nat → Int32 → Int32 → PH → Option (Int32 × PH)
  | 0, _, _, _, _ => none
  | n + 1, al0, xl1, xl2, h0 =>
    bn (rdI 10 27 al0 h0) fun x1 =>
    if x1 ≤ xl2 then (fX10_beatOne_25  FU al0 xl1 (0 : Int32) h0) else
    bn (rdR 10 30 al0 h0) fun a35 =>
    bn (astZ a35 xl2 (0 : Int32) h0) fun h36 =>
    (fX10_beatOne_2 n) al0 xl1 (xl2 + 1) h36
set_option maxHeartbeats 4000000 in
set_option maxRecDepth 100000 in
theorem vfX10_beatOne_2 {p : Program} {l : Launch} {e : Env} {s : State} {m : MethodId} {args : Array Value} {below : List Frame} {meth : Method} {c : Code} {G : GX} (C : Cx p s m args meth c G cX10_beatOne 6 RX10) (hr : meth.sig.returnType = (some .boolean)) : ∀ (n : Nat) (al0 : Nat) (xl1 : Int32) (xl2 : Int32) (h0 : PH), J p l e rmX10_beatOne s m args below meth c G 6 (qM below args s rvI G 0 0) 0 0 h0 2 [(0, .ref al0), (1, .int xl1), (2, .int xl2)] [] (fX10_beatOne_2  n al0 xl1 xl2 h0) := by
  intro n
  induction n with
  | zero => exact fun al0 xl1 xl2 h0 => J_none C
  | succ n ih =>
    intro al0 xl1 xl2 h0
    unfold fX10_beatOne_2
    refine J_iload_n (pc := 2) C dX10_beatOne_2 rfl 2 rfl ?_
    refine J_aload_n (pc := 3) C dX10_beatOne_3 rfl 0 rfl ?_
    refine J_getI (pc := 4) C flX10_210 dX10_beatOne_4 (fun x1 => ?_)
    refine J_icmp_ge (pc := 7) (tgt := 23) C dX10_beatOne_7 (by decide) ?_ ?_
    · refine J_iconst (pc := 23) (v := 0) C dX10_beatOne_23 (by decide) ?_
      refine J_istore_n (pc := 24) (lv1 := [(2, .int (0 : Int32)), (0, .ref al0), (1, .int xl1)]) C dX10_beatOne_24 rfl (by decide) rfl ?_
      refine J_sub [1, 2, 0] rfl ?_
      exact vfX10_beatOne_25 C hr  FU al0 xl1 (0 : Int32) h0
    · refine J_aload_n (pc := 10) C dX10_beatOne_10 rfl 0 rfl ?_
      refine J_getR (pc := 11) C flX10_57 dX10_beatOne_11 (fun a35 => ?_)
      refine J_iload_n (pc := 14) C dX10_beatOne_14 rfl 2 rfl ?_
      refine J_iconst (pc := 15) (v := 0) C dX10_beatOne_15 (by decide) ?_
      refine J_zast (pc := 16) C dX10_beatOne_16 (fun h36 => ?_)
      refine J_iinc (pc := 17) (v := (xl2 + 1)) (lv1 := [(2, .int (xl2 + 1)), (0, .ref al0), (1, .int xl1)]) C dX10_beatOne_17 2 rfl rfl (by decide) rfl ?_
      refine J_goto (pc := 20) (tgt := 2) C dX10_beatOne_20 (by decide) ?_
      refine J_sub [1, 2, 0] rfl ?_
      exact ih al0 xl1 (xl2 + 1) h36
def fX10_beatOne  (a0 : Nat) (xp0 : Int32) (h0 : PH) : Option (Int32 × PH) :=
    fX10_beatOne_2  FU a0 xp0 (0 : Int32) h0
set_option maxHeartbeats 4000000 in
set_option maxRecDepth 100000 in
theorem vfX10_beatOne {p : Program} {l : Launch} {e : Env} {s : State} {m : MethodId} {args : Array Value} {below : List Frame} {meth : Method} {c : Code} {G : GX} (C : Cx p s m args meth c G cX10_beatOne 6 RX10) (hr : meth.sig.returnType = (some .boolean)) (a0 : Nat) (xp0 : Int32) (h0 : PH) : J p l e rmX10_beatOne s m args below meth c G 6 (qM below args s rvI G 0 0) 0 0 h0 0 [(0, .ref a0), (1, .int xp0)] [] (fX10_beatOne  a0 xp0 h0) := by
  unfold fX10_beatOne
  refine J_iconst (pc := 0) (v := 0) C dX10_beatOne_0 (by decide) ?_
  refine J_istore_n (pc := 1) (lv1 := [(2, .int (0 : Int32)), (0, .ref a0), (1, .int xp0)]) C dX10_beatOne_1 rfl (by decide) rfl ?_
  refine J_sub [1, 2, 0] rfl ?_
  exact vfX10_beatOne_2 C hr  FU a0 xp0 (0 : Int32) h0
theorem mX10_beatOne {l : Launch} {G : GX} (a0 : Nat) (xp0 : Int32) (h0 : PH) : ∀ z, fX10_beatOne a0 xp0 h0 = some z → MC l G yX10_beatOne cX10_beatOne 6 (some .boolean) rmX10_beatOne [.ref a0, .int xp0] h0 (rvI z.1) z.2 :=
  Met_J (own := RX10) (by decide) rfl (Nat.le_of_ble_eq_true rfl) (fun p e s m args below meth c C hr hn => vfX10_beatOne C hr a0 xp0 h0)

theorem dX10_beat_0 : decode cX10_beat 0 = .ok (.aload_n 0, 1) := by decide +kernel
theorem dX10_beat_1 : decode cX10_beat 1 = .ok (.iconst 0, 1) := by decide +kernel
theorem dX10_beat_2 : decode cX10_beat 2 = .ok (.putfield 90, 3) := by decide +kernel
theorem dX10_beat_5 : decode cX10_beat 5 = .ok (.iload_n 1, 1) := by decide +kernel
theorem dX10_beat_6 : decode cX10_beat 6 = .ok (.i2l, 1) := by decide +kernel
theorem dX10_beat_7 : decode cX10_beat 7 = .ok (.lconst 0, 1) := by decide +kernel
theorem dX10_beat_8 : decode cX10_beat 8 = .ok (.ldc2_w 127, 3) := by decide +kernel
theorem dX10_beat_11 : decode cX10_beat 11 = .ok (.invokestatic 99, 3) := by decide +kernel
theorem dX10_beat_14 : decode cX10_beat 14 = .ok (.ifCond .eq 15, 3) := by decide +kernel
theorem dX10_beat_17 : decode cX10_beat 17 = .ok (.iload_n 2, 1) := by decide +kernel
theorem dX10_beat_18 : decode cX10_beat 18 = .ok (.i2l, 1) := by decide +kernel
theorem dX10_beat_19 : decode cX10_beat 19 = .ok (.lconst 0, 1) := by decide +kernel
theorem dX10_beat_20 : decode cX10_beat 20 = .ok (.ldc2_w 218, 3) := by decide +kernel
theorem dX10_beat_23 : decode cX10_beat 23 = .ok (.invokestatic 99, 3) := by decide +kernel
theorem dX10_beat_26 : decode cX10_beat 26 = .ok (.ifCond .ne 9, 3) := by decide +kernel
theorem dX10_beat_29 : decode cX10_beat 29 = .ok (.aload_n 0, 1) := by decide +kernel
theorem dX10_beat_30 : decode cX10_beat 30 = .ok (.iconst (-1), 1) := by decide +kernel
theorem dX10_beat_31 : decode cX10_beat 31 = .ok (.invokevirtual 107, 3) := by decide +kernel
theorem dX10_beat_34 : decode cX10_beat 34 = .ok (.ireturn, 1) := by decide +kernel
theorem dX10_beat_35 : decode cX10_beat 35 = .ok (.iconst 0, 1) := by decide +kernel
theorem dX10_beat_36 : decode cX10_beat 36 = .ok (.istore_n 3, 1) := by decide +kernel
theorem dX10_beat_37 : decode cX10_beat 37 = .ok (.iconst 1, 1) := by decide +kernel
theorem dX10_beat_38 : decode cX10_beat 38 = .ok (.istore 4, 2) := by decide +kernel
theorem dX10_beat_40 : decode cX10_beat 40 = .ok (.iload_n 3, 1) := by decide +kernel
theorem dX10_beat_41 : decode cX10_beat 41 = .ok (.iload_n 2, 1) := by decide +kernel
theorem dX10_beat_42 : decode cX10_beat 42 = .ok (.if_icmp .ge 31, 3) := by decide +kernel
theorem dX10_beat_45 : decode cX10_beat 45 = .ok (.iload 4, 2) := by decide +kernel
theorem dX10_beat_47 : decode cX10_beat 47 = .ok (.ifCond .eq 26, 3) := by decide +kernel
theorem dX10_beat_50 : decode cX10_beat 50 = .ok (.aload_n 0, 1) := by decide +kernel
theorem dX10_beat_51 : decode cX10_beat 51 = .ok (.iload_n 1, 1) := by decide +kernel
theorem dX10_beat_52 : decode cX10_beat 52 = .ok (.invokevirtual 220, 3) := by decide +kernel
theorem dX10_beat_55 : decode cX10_beat 55 = .ok (.istore 4, 2) := by decide +kernel
theorem dX10_beat_57 : decode cX10_beat 57 = .ok (.iload_n 3, 1) := by decide +kernel
theorem dX10_beat_58 : decode cX10_beat 58 = .ok (.iload 4, 2) := by decide +kernel
theorem dX10_beat_60 : decode cX10_beat 60 = .ok (.ifCond .eq 7, 3) := by decide +kernel
theorem dX10_beat_63 : decode cX10_beat 63 = .ok (.iconst 1, 1) := by decide +kernel
theorem dX10_beat_64 : decode cX10_beat 64 = .ok (.goto 4, 3) := by decide +kernel
theorem dX10_beat_67 : decode cX10_beat 67 = .ok (.iconst 0, 1) := by decide +kernel
theorem dX10_beat_68 : decode cX10_beat 68 = .ok (.iadd, 1) := by decide +kernel
theorem dX10_beat_69 : decode cX10_beat 69 = .ok (.istore_n 3, 1) := by decide +kernel
theorem dX10_beat_70 : decode cX10_beat 70 = .ok (.goto (-30), 3) := by decide +kernel
theorem dX10_beat_73 : decode cX10_beat 73 = .ok (.aload_n 0, 1) := by decide +kernel
theorem dX10_beat_74 : decode cX10_beat 74 = .ok (.iload_n 3, 1) := by decide +kernel
theorem dX10_beat_75 : decode cX10_beat 75 = .ok (.invokevirtual 107, 3) := by decide +kernel
theorem dX10_beat_78 : decode cX10_beat 78 = .ok (.ireturn, 1) := by decide +kernel
def rmX10_beat : Room := { frames := 2, cells := 0, slots := 0, locals := 50 }
def fX10_beat_68 (r40 : Nat → Int32 → Int32 → Int32 → Int32 → PH → Option (Int32 × PH)) (al0 : Nat) (xl1 : Int32) (xl2 : Int32) (xl4 : Int32) (xs0 : Int32) (xs1 : Int32) (h0 : PH) : Option (Int32 × PH) :=
    nm (xs1 + xs0) fun x14 =>
    r40 al0 xl1 xl2 x14 xl4 h0
set_option maxHeartbeats 4000000 in
set_option maxRecDepth 100000 in
theorem vfX10_beat_68 {p : Program} {l : Launch} {e : Env} {s : State} {m : MethodId} {args : Array Value} {below : List Frame} {meth : Method} {c : Code} {G : GX} (C : Cx p s m args meth c G cX10_beat 5 RX10) (hr : meth.sig.returnType = (some .int)) {r40 : Nat → Int32 → Int32 → Int32 → Int32 → PH → Option (Int32 × PH)} (k40 : ∀ (al0 : Nat) (xl1 : Int32) (xl2 : Int32) (xl3 : Int32) (xl4 : Int32) (h0 : PH), J p l e rmX10_beat s m args below meth c G 5 (qM below args s rvI G 0 0) 0 0 h0 40 [(0, .ref al0), (1, .int xl1), (2, .int xl2), (3, .int xl3), (4, .int xl4)] [] (r40 al0 xl1 xl2 xl3 xl4 h0)) (al0 : Nat) (xl1 : Int32) (xl2 : Int32) (xl4 : Int32) (xs0 : Int32) (xs1 : Int32) (h0 : PH) : J p l e rmX10_beat s m args below meth c G 5 (qM below args s rvI G 0 0) 0 0 h0 68 [(0, .ref al0), (1, .int xl1), (2, .int xl2), (4, .int xl4)] [.int xs0, .int xs1] (fX10_beat_68 r40 al0 xl1 xl2 xl4 xs0 xs1 h0) := by
  unfold fX10_beat_68
  refine J_iadd (pc := 68) C dX10_beat_68 ?_
  refine J_nm (fv := .int) (fun x14 => ?_)
  refine J_istore_n (pc := 69) (lv1 := [(3, .int x14), (0, .ref al0), (1, .int xl1), (2, .int xl2), (4, .int xl4)]) C dX10_beat_69 rfl (by decide) rfl ?_
  refine J_goto (pc := 70) (tgt := 40) C dX10_beat_70 (by decide) ?_
  refine J_sub [1, 2, 3, 0, 4] rfl ?_
  exact k40 al0 xl1 xl2 x14 xl4 h0
def fX10_beat_40  : Nat → Nat → Int32 → Int32 → Int32 → Int32 → PH → Option (Int32 × PH)
  | 0, _, _, _, _, _, _ => none
  | n + 1, al0, xl1, xl2, xl3, xl4, h0 =>
    if xl2 ≤ xl3 then (bn (chk 10 al0 h0) fun _ => bn2 (fX10_told al0 xl3 h0) fun x9 h8 =>
    some (x9, h8)) else
    if xl4 = 0 then (bn (chk 10 al0 h0) fun _ => bn2 (fX10_told al0 xl3 h0) fun x11 h10 =>
    some (x11, h10)) else
    bn (chk 10 al0 h0) fun _ => bn2 (fX10_beatOne al0 xl1 h0) fun x13 h12 =>
    if x13 = 0 then (fX10_beat_68 (fX10_beat_40 n) al0 xl1 xl2 x13 (0 : Int32) xl3 h12) else
    fX10_beat_68 (fX10_beat_40 n) al0 xl1 xl2 x13 (1 : Int32) xl3 h12
set_option maxHeartbeats 4000000 in
set_option maxRecDepth 100000 in
theorem vfX10_beat_40 {p : Program} {l : Launch} {e : Env} {s : State} {m : MethodId} {args : Array Value} {below : List Frame} {meth : Method} {c : Code} {G : GX} (C : Cx p s m args meth c G cX10_beat 5 RX10) (hr : meth.sig.returnType = (some .int)) : ∀ (n : Nat) (al0 : Nat) (xl1 : Int32) (xl2 : Int32) (xl3 : Int32) (xl4 : Int32) (h0 : PH), J p l e rmX10_beat s m args below meth c G 5 (qM below args s rvI G 0 0) 0 0 h0 40 [(0, .ref al0), (1, .int xl1), (2, .int xl2), (3, .int xl3), (4, .int xl4)] [] (fX10_beat_40  n al0 xl1 xl2 xl3 xl4 h0) := by
  intro n
  induction n with
  | zero => exact fun al0 xl1 xl2 xl3 xl4 h0 => J_none C
  | succ n ih =>
    intro al0 xl1 xl2 xl3 xl4 h0
    unfold fX10_beat_40
    refine J_iload_n (pc := 40) C dX10_beat_40 rfl 3 rfl ?_
    refine J_iload_n (pc := 41) C dX10_beat_41 rfl 2 rfl ?_
    refine J_icmp_ge (pc := 42) (tgt := 73) C dX10_beat_42 (by decide) ?_ ?_
    · refine J_aload_n (pc := 73) C dX10_beat_73 rfl 0 rfl ?_
      refine J_iload_n (pc := 74) C dX10_beat_74 rfl 3 rfl ?_
      refine J_callVI (pc := 75) (As := [.int xl3]) (rest := []) C (fun z hz => mX10_told al0 xl3 h0 z hz) mwX10_told csX10_told mlX10_107 inX10_told rfl dX10_beat_75 (by decide) rfl (Nat.le_of_ble_eq_true rfl) (by decide) (fun x9 h8 => ?_)
      exact J_iret (pc := 78) C hr dX10_beat_78
    · refine J_iload (pc := 45) C dX10_beat_45 4 rfl ?_
      refine J_if_eq (pc := 47) (tgt := 73) C dX10_beat_47 (by decide) ?_ ?_
      · refine J_aload_n (pc := 73) C dX10_beat_73 rfl 0 rfl ?_
        refine J_iload_n (pc := 74) C dX10_beat_74 rfl 3 rfl ?_
        refine J_callVI (pc := 75) (As := [.int xl3]) (rest := []) C (fun z hz => mX10_told al0 xl3 h0 z hz) mwX10_told csX10_told mlX10_107 inX10_told rfl dX10_beat_75 (by decide) rfl (Nat.le_of_ble_eq_true rfl) (by decide) (fun x11 h10 => ?_)
        exact J_iret (pc := 78) C hr dX10_beat_78
      · refine J_aload_n (pc := 50) C dX10_beat_50 rfl 0 rfl ?_
        refine J_iload_n (pc := 51) C dX10_beat_51 rfl 1 rfl ?_
        refine J_callVI (pc := 52) (As := [.int xl1]) (rest := []) C (fun z hz => mX10_beatOne al0 xl1 h0 z hz) mwX10_beatOne csX10_beatOne mlX10_220 inX10_beatOne rfl dX10_beat_52 (by decide) rfl (Nat.le_of_ble_eq_true rfl) (by decide) (fun x13 h12 => ?_)
        refine J_istore (pc := 55) (lv1 := [(4, .int x13), (0, .ref al0), (1, .int xl1), (2, .int xl2), (3, .int xl3)]) C dX10_beat_55 (by decide) rfl ?_
        refine J_iload_n (pc := 57) C dX10_beat_57 rfl 4 rfl ?_
        refine J_iload (pc := 58) C dX10_beat_58 0 rfl ?_
        refine J_if_eq (pc := 60) (tgt := 67) C dX10_beat_60 (by decide) ?_ ?_
        · refine J_iconst (pc := 67) (v := 0) C dX10_beat_67 (by decide) ?_
          refine J_sub [1, 2, 3, 0] rfl ?_
          exact vfX10_beat_68 C hr ih al0 xl1 xl2 x13 (0 : Int32) xl3 h12
        · refine J_iconst (pc := 63) (v := 1) C dX10_beat_63 (by decide) ?_
          refine J_goto (pc := 64) (tgt := 68) C dX10_beat_64 (by decide) ?_
          refine J_sub [1, 2, 3, 0] rfl ?_
          exact vfX10_beat_68 C hr ih al0 xl1 xl2 x13 (1 : Int32) xl3 h12
def fX10_beat  (a0 : Nat) (xp0 : Int32) (xp1 : Int32) (h0 : PH) : Option (Int32 × PH) :=
    bn (wr 10 0 (.int (0 : Int32)) a0 h0) fun h1 =>
    bn2 (fX10_in xp0.toInt64 (0 : Int64) (2 : Int64) h1) fun x3 h2 =>
    if x3 = 0 then (bn (chk 10 a0 h2) fun _ => bn2 (fX10_told a0 (-1 : Int32) h2) fun x5 h4 =>
    some (x5, h4)) else
    bn2 (fX10_in xp1.toInt64 (0 : Int64) (20 : Int64) h2) fun x7 h6 =>
    if x7 = 0 then (bn (chk 10 a0 h6) fun _ => bn2 (fX10_told a0 (-1 : Int32) h6) fun x16 h15 =>
    some (x16, h15)) else
    fX10_beat_40  FU a0 xp0 xp1 (0 : Int32) (1 : Int32) h6
set_option maxHeartbeats 4000000 in
set_option maxRecDepth 100000 in
theorem vfX10_beat {p : Program} {l : Launch} {e : Env} {s : State} {m : MethodId} {args : Array Value} {below : List Frame} {meth : Method} {c : Code} {G : GX} (C : Cx p s m args meth c G cX10_beat 5 RX10) (hr : meth.sig.returnType = (some .int)) (a0 : Nat) (xp0 : Int32) (xp1 : Int32) (h0 : PH) : J p l e rmX10_beat s m args below meth c G 5 (qM below args s rvI G 0 0) 0 0 h0 0 [(0, .ref a0), (1, .int xp0), (2, .int xp1)] [] (fX10_beat  a0 xp0 xp1 h0) := by
  unfold fX10_beat
  refine J_aload_n (pc := 0) C dX10_beat_0 rfl 0 rfl ?_
  refine J_iconst (pc := 1) (v := 0) C dX10_beat_1 (by decide) ?_
  refine J_put (pc := 2) C flX10_90 cl10 ft10_0 rfl rfl dX10_beat_2 (fun h1 => ?_)
  refine J_iload_n (pc := 5) C dX10_beat_5 rfl 1 rfl ?_
  refine J_i2l (pc := 6) C dX10_beat_6 ?_
  refine J_lconst (pc := 7) (v := 0) C dX10_beat_7 (by decide) ?_
  refine J_ldc2 (pc := 8) C kjX10_127 dX10_beat_8 ?_
  refine J_callSI (pc := 11) (As := [.long xp0.toInt64, .long (0 : Int64), .long (2 : Int64)]) (rest := []) C (fun z hz => mX10_in xp0.toInt64 (0 : Int64) (2 : Int64) h1 z hz) mwX10_in mlX10_99 stX10_in rfl dX10_beat_11 (by decide) rfl (Nat.le_of_ble_eq_true rfl) (by decide) (fun x3 h2 => ?_)
  refine J_if_eq (pc := 14) (tgt := 29) C dX10_beat_14 (by decide) ?_ ?_
  · refine J_aload_n (pc := 29) C dX10_beat_29 rfl 0 rfl ?_
    refine J_iconst (pc := 30) (v := -1) C dX10_beat_30 (by decide) ?_
    refine J_callVI (pc := 31) (As := [.int (-1 : Int32)]) (rest := []) C (fun z hz => mX10_told a0 (-1 : Int32) h2 z hz) mwX10_told csX10_told mlX10_107 inX10_told rfl dX10_beat_31 (by decide) rfl (Nat.le_of_ble_eq_true rfl) (by decide) (fun x5 h4 => ?_)
    exact J_iret (pc := 34) C hr dX10_beat_34
  · refine J_iload_n (pc := 17) C dX10_beat_17 rfl 2 rfl ?_
    refine J_i2l (pc := 18) C dX10_beat_18 ?_
    refine J_lconst (pc := 19) (v := 0) C dX10_beat_19 (by decide) ?_
    refine J_ldc2 (pc := 20) C kjX10_218 dX10_beat_20 ?_
    refine J_callSI (pc := 23) (As := [.long xp1.toInt64, .long (0 : Int64), .long (20 : Int64)]) (rest := []) C (fun z hz => mX10_in xp1.toInt64 (0 : Int64) (20 : Int64) h2 z hz) mwX10_in mlX10_99 stX10_in rfl dX10_beat_23 (by decide) rfl (Nat.le_of_ble_eq_true rfl) (by decide) (fun x7 h6 => ?_)
    refine J_if_ne (pc := 26) (tgt := 35) C dX10_beat_26 (by decide) ?_ ?_
    · refine J_iconst (pc := 35) (v := 0) C dX10_beat_35 (by decide) ?_
      refine J_istore_n (pc := 36) (lv1 := [(3, .int (0 : Int32)), (0, .ref a0), (1, .int xp0), (2, .int xp1)]) C dX10_beat_36 rfl (by decide) rfl ?_
      refine J_iconst (pc := 37) (v := 1) C dX10_beat_37 (by decide) ?_
      refine J_istore (pc := 38) (lv1 := [(4, .int (1 : Int32)), (3, .int (0 : Int32)), (0, .ref a0), (1, .int xp0), (2, .int xp1)]) C dX10_beat_38 (by decide) rfl ?_
      refine J_sub [2, 3, 4, 1, 0] rfl ?_
      exact vfX10_beat_40 C hr  FU a0 xp0 xp1 (0 : Int32) (1 : Int32) h6
    · refine J_aload_n (pc := 29) C dX10_beat_29 rfl 0 rfl ?_
      refine J_iconst (pc := 30) (v := -1) C dX10_beat_30 (by decide) ?_
      refine J_callVI (pc := 31) (As := [.int (-1 : Int32)]) (rest := []) C (fun z hz => mX10_told a0 (-1 : Int32) h6 z hz) mwX10_told csX10_told mlX10_107 inX10_told rfl dX10_beat_31 (by decide) rfl (Nat.le_of_ble_eq_true rfl) (by decide) (fun x16 h15 => ?_)
      exact J_iret (pc := 34) C hr dX10_beat_34
theorem mX10_beat {l : Launch} {G : GX} (a0 : Nat) (xp0 : Int32) (xp1 : Int32) (h0 : PH) : ∀ z, fX10_beat a0 xp0 xp1 h0 = some z → MC l G yX10_beat cX10_beat 5 (some .int) rmX10_beat [.ref a0, .int xp0, .int xp1] h0 (rvI z.1) z.2 :=
  Met_J (own := RX10) (by decide) rfl (Nat.le_of_ble_eq_true rfl) (fun p e s m args below meth c C hr hn => vfX10_beat C hr a0 xp0 xp1 h0)

theorem dX0_makeLeaf_0 : decode cX0_makeLeaf 0 = .ok (.iload_n 2, 1) := by decide +kernel
theorem dX0_makeLeaf_1 : decode cX0_makeLeaf 1 = .ok (.iconst 1, 1) := by decide +kernel
theorem dX0_makeLeaf_2 : decode cX0_makeLeaf 2 = .ok (.sipush 10000, 3) := by decide +kernel
theorem dX0_makeLeaf_5 : decode cX0_makeLeaf 5 = .ok (.invokestatic 21, 3) := by decide +kernel
theorem dX0_makeLeaf_8 : decode cX0_makeLeaf 8 = .ok (.ifCond .ne 5, 3) := by decide +kernel
theorem dX0_makeLeaf_11 : decode cX0_makeLeaf 11 = .ok (.iconst (-1), 1) := by decide +kernel
theorem dX0_makeLeaf_12 : decode cX0_makeLeaf 12 = .ok (.ireturn, 1) := by decide +kernel
theorem dX0_makeLeaf_13 : decode cX0_makeLeaf 13 = .ok (.aload_n 1, 1) := by decide +kernel
theorem dX0_makeLeaf_14 : decode cX0_makeLeaf 14 = .ok (.ifnonnull 6, 3) := by decide +kernel
theorem dX0_makeLeaf_17 : decode cX0_makeLeaf 17 = .ok (.bipush (-2), 2) := by decide +kernel
theorem dX0_makeLeaf_19 : decode cX0_makeLeaf 19 = .ok (.ireturn, 1) := by decide +kernel
theorem dX0_makeLeaf_20 : decode cX0_makeLeaf 20 = .ok (.aload_n 1, 1) := by decide +kernel
theorem dX0_makeLeaf_21 : decode cX0_makeLeaf 21 = .ok (.invokevirtual 25, 3) := by decide +kernel
theorem dX0_makeLeaf_24 : decode cX0_makeLeaf 24 = .ok (.ifCond .eq 6, 3) := by decide +kernel
theorem dX0_makeLeaf_27 : decode cX0_makeLeaf 27 = .ok (.bipush (-3), 2) := by decide +kernel
theorem dX0_makeLeaf_29 : decode cX0_makeLeaf 29 = .ok (.ireturn, 1) := by decide +kernel
theorem dX0_makeLeaf_30 : decode cX0_makeLeaf 30 = .ok (.aload_n 1, 1) := by decide +kernel
theorem dX0_makeLeaf_31 : decode cX0_makeLeaf 31 = .ok (.iload_n 2, 1) := by decide +kernel
theorem dX0_makeLeaf_32 : decode cX0_makeLeaf 32 = .ok (.putfield 31, 3) := by decide +kernel
theorem dX0_makeLeaf_35 : decode cX0_makeLeaf 35 = .ok (.aload_n 0, 1) := by decide +kernel
theorem dX0_makeLeaf_36 : decode cX0_makeLeaf 36 = .ok (.dup, 1) := by decide +kernel
theorem dX0_makeLeaf_37 : decode cX0_makeLeaf 37 = .ok (.getfield 9, 3) := by decide +kernel
theorem dX0_makeLeaf_40 : decode cX0_makeLeaf 40 = .ok (.iconst 1, 1) := by decide +kernel
theorem dX0_makeLeaf_41 : decode cX0_makeLeaf 41 = .ok (.iadd, 1) := by decide +kernel
theorem dX0_makeLeaf_42 : decode cX0_makeLeaf 42 = .ok (.putfield 9, 3) := by decide +kernel
theorem dX0_makeLeaf_45 : decode cX0_makeLeaf 45 = .ok (.aload_n 0, 1) := by decide +kernel
theorem dX0_makeLeaf_46 : decode cX0_makeLeaf 46 = .ok (.getfield 9, 3) := by decide +kernel
theorem dX0_makeLeaf_49 : decode cX0_makeLeaf 49 = .ok (.ireturn, 1) := by decide +kernel
def rmX0_makeLeaf : Room := { frames := 1, cells := 0, slots := 0, locals := 22 }
def fX0_makeLeaf  (a0 : Nat) (op0 : Option Nat) (xp1 : Int32) (h0 : PH) : Option (Int32 × PH) :=
    bn2 (fX9_within xp1 (1 : Int32) (10000 : Int32) h0) fun x2 h1 =>
    if x2 = 0 then (some ((-1 : Int32), h1)) else
    onul op0 (some ((-2 : Int32), h1)) fun a3 =>
    bn (chk 5 a3 h1) fun _ => bn2 (fX5_isLeaf a3 h1) fun x5 h4 =>
    if x5 = 0 then (bn (wr 5 2 (.int xp1) a3 h4) fun h6 =>
    bn (rdI 0 0 a0 h6) fun x7 =>
    bn (wr 0 0 (.int (x7 + (1 : Int32))) a0 h6) fun h8 =>
    bn (rdI 0 0 a0 h8) fun x9 =>
    some (x9, h8)) else
    some ((-3 : Int32), h4)
set_option maxHeartbeats 4000000 in
set_option maxRecDepth 100000 in
theorem vfX0_makeLeaf {p : Program} {l : Launch} {e : Env} {s : State} {m : MethodId} {args : Array Value} {below : List Frame} {meth : Method} {c : Code} {G : GX} (C : Cx p s m args meth c G cX0_makeLeaf 3 RX0) (hr : meth.sig.returnType = (some .int)) (a0 : Nat) (op0 : Option Nat) (xp1 : Int32) (h0 : PH) : J p l e rmX0_makeLeaf s m args below meth c G 3 (qM below args s rvI G 0 0) 0 0 h0 0 [(0, .ref a0), (1, va_rf op0), (2, .int xp1)] [] (fX0_makeLeaf  a0 op0 xp1 h0) := by
  unfold fX0_makeLeaf
  refine J_iload_n (pc := 0) C dX0_makeLeaf_0 rfl 2 rfl ?_
  refine J_iconst (pc := 1) (v := 1) C dX0_makeLeaf_1 (by decide) ?_
  refine J_sipush (pc := 2) (v := 10000) C dX0_makeLeaf_2 (by decide) ?_
  refine J_callSNI (pc := 5) (As := [.int xp1, .int (1 : Int32), .int (10000 : Int32)]) (rest := []) C (fun z hz => mX9_within xp1 (1 : Int32) (10000 : Int32) h0 z hz) mwX9_within "GoldLeaves" (by decide +kernel) stX9_within rfl dX0_makeLeaf_5 (by decide) rfl (Nat.le_of_ble_eq_true rfl) (by decide) (fun x2 h1 => ?_)
  refine J_if_ne (pc := 8) (tgt := 13) C dX0_makeLeaf_8 (by decide) ?_ ?_
  · refine J_aload_nQ (pc := 13) (x := op0) C dX0_makeLeaf_13 rfl 1 rfl ?_
    refine J_onul (fun hx => ?_) (fun a3 hx => ?_)
    · subst hx
      refine J_ifnonnullN (pc := 14) C dX0_makeLeaf_14 ?_
      refine J_bipush (pc := 17) (v := -2) C dX0_makeLeaf_17 (by decide) ?_
      exact J_iret (pc := 19) C hr dX0_makeLeaf_19
    · subst hx
      refine J_ifnonnull (pc := 14) (tgt := 20) C dX0_makeLeaf_14 (by decide) ?_
      refine J_aload_n (pc := 20) C dX0_makeLeaf_20 rfl 1 rfl ?_
      refine J_callVI (pc := 21) (As := []) (rest := []) C (fun z hz => mX5_isLeaf a3 h1 z hz) mwX5_isLeaf csX5_isLeaf mlX0_25 inX5_isLeaf rfl dX0_makeLeaf_21 (by decide) rfl (Nat.le_of_ble_eq_true rfl) (by decide) (fun x5 h4 => ?_)
      refine J_if_eq (pc := 24) (tgt := 30) C dX0_makeLeaf_24 (by decide) ?_ ?_
      · refine J_aload_n (pc := 30) C dX0_makeLeaf_30 rfl 1 rfl ?_
        refine J_iload_n (pc := 31) C dX0_makeLeaf_31 rfl 2 rfl ?_
        refine J_put (pc := 32) C flX0_31 cl5 ft5_2 rfl rfl dX0_makeLeaf_32 (fun h6 => ?_)
        refine J_aload_n (pc := 35) C dX0_makeLeaf_35 rfl 0 rfl ?_
        refine J_dup (pc := 36) C dX0_makeLeaf_36 rfl ?_
        refine J_getI (pc := 37) C flX0_9 dX0_makeLeaf_37 (fun x7 => ?_)
        refine J_iconst (pc := 40) (v := 1) C dX0_makeLeaf_40 (by decide) ?_
        refine J_iadd (pc := 41) C dX0_makeLeaf_41 ?_
        refine J_put (pc := 42) C flX0_9 cl0 ft0_0 rfl rfl dX0_makeLeaf_42 (fun h8 => ?_)
        refine J_aload_n (pc := 45) C dX0_makeLeaf_45 rfl 0 rfl ?_
        refine J_getI (pc := 46) C flX0_9 dX0_makeLeaf_46 (fun x9 => ?_)
        exact J_iret (pc := 49) C hr dX0_makeLeaf_49
      · refine J_bipush (pc := 27) (v := -3) C dX0_makeLeaf_27 (by decide) ?_
        exact J_iret (pc := 29) C hr dX0_makeLeaf_29
  · refine J_iconst (pc := 11) (v := -1) C dX0_makeLeaf_11 (by decide) ?_
    exact J_iret (pc := 12) C hr dX0_makeLeaf_12
theorem mX0_makeLeaf {l : Launch} {G : GX} (a0 : Nat) (op0 : Option Nat) (xp1 : Int32) (h0 : PH) : ∀ z, fX0_makeLeaf a0 op0 xp1 h0 = some z → MC l G yX0_makeLeaf cX0_makeLeaf 3 (some .int) rmX0_makeLeaf [.ref a0, va_rf op0, .int xp1] h0 (rvI z.1) z.2 :=
  Met_J (own := RX0) (by decide) rfl (by cases op0 <;> exact Nat.le_of_ble_eq_true rfl) (fun p e s m args below meth c C hr hn => by
    cases op0 with
    | none => exact vfX0_makeLeaf C hr a0 none xp1 h0
    | some qo => exact vfX0_makeLeaf C hr a0 (some qo) xp1 h0)

theorem dX9_leaf_0 : decode cX9_leaf 0 = .ok (.aload_n 0, 1) := by decide +kernel
theorem dX9_leaf_1 : decode cX9_leaf 1 = .ok (.aload_n 0, 1) := by decide +kernel
theorem dX9_leaf_2 : decode cX9_leaf 2 = .ok (.getfield 19, 3) := by decide +kernel
theorem dX9_leaf_5 : decode cX9_leaf 5 = .ok (.aload_n 0, 1) := by decide +kernel
theorem dX9_leaf_6 : decode cX9_leaf 6 = .ok (.getfield 10, 3) := by decide +kernel
theorem dX9_leaf_9 : decode cX9_leaf 9 = .ok (.iload_n 1, 1) := by decide +kernel
theorem dX9_leaf_10 : decode cX9_leaf 10 = .ok (.invokevirtual 81, 3) := by decide +kernel
theorem dX9_leaf_13 : decode cX9_leaf 13 = .ok (.iload_n 2, 1) := by decide +kernel
theorem dX9_leaf_14 : decode cX9_leaf 14 = .ok (.invokevirtual 170, 3) := by decide +kernel
theorem dX9_leaf_17 : decode cX9_leaf 17 = .ok (.invokevirtual 70, 3) := by decide +kernel
theorem dX9_leaf_20 : decode cX9_leaf 20 = .ok (.ireturn, 1) := by decide +kernel
def rmX9_leaf : Room := { frames := 2, cells := 0, slots := 0, locals := 44 }
def fX9_leaf  (a0 : Nat) (xp0 : Int32) (xp1 : Int32) (h0 : PH) : Option (Int32 × PH) :=
    bn (rdR 9 1 a0 h0) fun a1 =>
    bn (rdR 9 0 a0 h0) fun a2 =>
    bn (chk 7 a2 h0) fun _ => bn2 (fX7_living a2 xp0 h0) fun o4 h3 =>
    bn (chk 0 a1 h3) fun _ => bn2 (fX0_makeLeaf a1 o4 xp1 h3) fun x6 h5 =>
    bn (chk 9 a0 h5) fun _ => bn2 (fX9_noted a0 x6 h5) fun x8 h7 =>
    some (x8, h7)
set_option maxHeartbeats 4000000 in
set_option maxRecDepth 100000 in
theorem vfX9_leaf {p : Program} {l : Launch} {e : Env} {s : State} {m : MethodId} {args : Array Value} {below : List Frame} {meth : Method} {c : Code} {G : GX} (C : Cx p s m args meth c G cX9_leaf 3 RX9) (hr : meth.sig.returnType = (some .int)) (a0 : Nat) (xp0 : Int32) (xp1 : Int32) (h0 : PH) : J p l e rmX9_leaf s m args below meth c G 3 (qM below args s rvI G 0 0) 0 0 h0 0 [(0, .ref a0), (1, .int xp0), (2, .int xp1)] [] (fX9_leaf  a0 xp0 xp1 h0) := by
  unfold fX9_leaf
  refine J_aload_n (pc := 0) C dX9_leaf_0 rfl 0 rfl ?_
  refine J_aload_n (pc := 1) C dX9_leaf_1 rfl 0 rfl ?_
  refine J_getR (pc := 2) C flX9_19 dX9_leaf_2 (fun a1 => ?_)
  refine J_aload_n (pc := 5) C dX9_leaf_5 rfl 0 rfl ?_
  refine J_getR (pc := 6) C flX9_10 dX9_leaf_6 (fun a2 => ?_)
  refine J_iload_n (pc := 9) C dX9_leaf_9 rfl 1 rfl ?_
  refine J_callVR (pc := 10) (As := [.int xp0]) (rest := [.ref a1, .ref a0]) C (fun z hz => mX7_living a2 xp0 h0 z hz) mwX7_living csX7_living mlX9_81 inX7_living rfl dX9_leaf_10 (by decide) rfl (Nat.le_of_ble_eq_true rfl) (by decide) (fun o4 h3 => ?_)
  refine J_iload_n (pc := 13) C dX9_leaf_13 rfl 2 rfl ?_
  refine J_callVI (pc := 14) (As := [va_rf o4, .int xp1]) (rest := [.ref a0]) C (fun z hz => mX0_makeLeaf a1 o4 xp1 h3 z hz) mwX0_makeLeaf csX0_makeLeaf mlX9_170 inX0_makeLeaf rfl dX9_leaf_14 (by decide) rfl (Nat.le_of_ble_eq_true rfl) (by decide) (fun x6 h5 => ?_)
  refine J_callVI (pc := 17) (As := [.int x6]) (rest := []) C (fun z hz => mX9_noted a0 x6 h5 z hz) mwX9_noted csX9_noted mlX9_70 inX9_noted rfl dX9_leaf_17 (by decide) rfl (Nat.le_of_ble_eq_true rfl) (by decide) (fun x8 h7 => ?_)
  exact J_iret (pc := 20) C hr dX9_leaf_20
theorem mX9_leaf {l : Launch} {G : GX} (a0 : Nat) (xp0 : Int32) (xp1 : Int32) (h0 : PH) : ∀ z, fX9_leaf a0 xp0 xp1 h0 = some z → MC l G yX9_leaf cX9_leaf 3 (some .int) rmX9_leaf [.ref a0, .int xp0, .int xp1] h0 (rvI z.1) z.2 :=
  Met_J (own := RX9) (by decide) rfl (Nat.le_of_ble_eq_true rfl) (fun p e s m args below meth c C hr hn => vfX9_leaf C hr a0 xp0 xp1 h0)

