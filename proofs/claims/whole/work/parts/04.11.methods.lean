theorem dX10_isSign_0 : decode cX10_isSign 0 = .ok (.aload_n 0, 1) := by decide +kernel
theorem dX10_isSign_1 : decode cX10_isSign 1 = .ok (.getfield 158, 3) := by decide +kernel
theorem dX10_isSign_4 : decode cX10_isSign 4 = .ok (.iconst 3, 1) := by decide +kernel
theorem dX10_isSign_5 : decode cX10_isSign 5 = .ok (.if_icmp .ne 17, 3) := by decide +kernel
theorem dX10_isSign_8 : decode cX10_isSign 8 = .ok (.aload_n 0, 1) := by decide +kernel
theorem dX10_isSign_9 : decode cX10_isSign 9 = .ok (.getfield 148, 3) := by decide +kernel
theorem dX10_isSign_12 : decode cX10_isSign 12 = .ok (.iload_n 1, 1) := by decide +kernel
theorem dX10_isSign_13 : decode cX10_isSign 13 = .ok (.i2l, 1) := by decide +kernel
theorem dX10_isSign_14 : decode cX10_isSign 14 = .ok (.lcmp, 1) := by decide +kernel
theorem dX10_isSign_15 : decode cX10_isSign 15 = .ok (.ifCond .ne 7, 3) := by decide +kernel
theorem dX10_isSign_18 : decode cX10_isSign 18 = .ok (.iconst 1, 1) := by decide +kernel
theorem dX10_isSign_19 : decode cX10_isSign 19 = .ok (.goto 4, 3) := by decide +kernel
theorem dX10_isSign_22 : decode cX10_isSign 22 = .ok (.iconst 0, 1) := by decide +kernel
theorem dX10_isSign_23 : decode cX10_isSign 23 = .ok (.ireturn, 1) := by decide +kernel
def rmX10_isSign : Room := { frames := 0, cells := 0, slots := 0, locals := 0 }
def fX10_isSign  (a0 : Nat) (xp0 : Int32) (h0 : PH) : Option (Int32 × PH) :=
    bn (rdI 10 23 a0 h0) fun x1 =>
    if x1 = (3 : Int32) then (bn (rdJ 10 24 a0 h0) fun x2 =>
    if x2 = xp0.toInt64 then (some ((1 : Int32), h0)) else
    some ((0 : Int32), h0)) else
    some ((0 : Int32), h0)
set_option maxHeartbeats 4000000 in
set_option maxRecDepth 100000 in
theorem vfX10_isSign {p : Program} {l : Launch} {e : Env} {s : State} {m : MethodId} {args : Array Value} {below : List Frame} {meth : Method} {c : Code} {G : GX} (C : Cx p s m args meth c G cX10_isSign 2 RX10) (hr : meth.sig.returnType = (some .boolean)) (a0 : Nat) (xp0 : Int32) (h0 : PH) : J p l e rmX10_isSign s m args below meth c G 2 (qM below args s rvI G 0 0) 0 0 h0 0 [(0, .ref a0), (1, .int xp0)] [] (fX10_isSign  a0 xp0 h0) := by
  unfold fX10_isSign
  refine J_aload_n (pc := 0) C dX10_isSign_0 rfl 0 rfl ?_
  refine J_getI (pc := 1) C flX10_158 dX10_isSign_1 (fun x1 => ?_)
  refine J_iconst (pc := 4) (v := 3) C dX10_isSign_4 (by decide) ?_
  refine J_icmp_ne (pc := 5) (tgt := 22) C dX10_isSign_5 (by decide) ?_ ?_
  · refine J_iconst (pc := 22) (v := 0) C dX10_isSign_22 (by decide) ?_
    exact J_zret (pc := 23) C hr rfl dX10_isSign_23
  · refine J_aload_n (pc := 8) C dX10_isSign_8 rfl 0 rfl ?_
    refine J_getJ (pc := 9) C flX10_148 dX10_isSign_9 (fun x2 => ?_)
    refine J_iload_n (pc := 12) C dX10_isSign_12 rfl 1 rfl ?_
    refine J_i2l (pc := 13) C dX10_isSign_13 ?_
    refine J_lcmp_ne (pc := 14) (tgt := 22) C dX10_isSign_14 dX10_isSign_15 (by decide) ?_ ?_
    · refine J_iconst (pc := 22) (v := 0) C dX10_isSign_22 (by decide) ?_
      exact J_zret (pc := 23) C hr rfl dX10_isSign_23
    · refine J_iconst (pc := 18) (v := 1) C dX10_isSign_18 (by decide) ?_
      refine J_goto (pc := 19) (tgt := 23) C dX10_isSign_19 (by decide) ?_
      exact J_zret (pc := 23) C hr rfl dX10_isSign_23
theorem mX10_isSign {l : Launch} {G : GX} (a0 : Nat) (xp0 : Int32) (h0 : PH) : ∀ z, fX10_isSign a0 xp0 h0 = some z → MC l G yX10_isSign cX10_isSign 2 (some .boolean) rmX10_isSign [.ref a0, .int xp0] h0 (rvI z.1) z.2 :=
  Met_J (own := RX10) (by decide) rfl (Nat.le_of_ble_eq_true rfl) (fun p e s m args below meth c C hr hn => vfX10_isSign C hr a0 xp0 h0)

theorem dX10_isWord_0 : decode cX10_isWord 0 = .ok (.iload_n 1, 1) := by decide +kernel
theorem dX10_isWord_1 : decode cX10_isWord 1 = .ok (.i2l, 1) := by decide +kernel
theorem dX10_isWord_2 : decode cX10_isWord 2 = .ok (.ldc2_w 163, 3) := by decide +kernel
theorem dX10_isWord_5 : decode cX10_isWord 5 = .ok (.lsub, 1) := by decide +kernel
theorem dX10_isWord_6 : decode cX10_isWord 6 = .ok (.ldc2_w 161, 3) := by decide +kernel
theorem dX10_isWord_9 : decode cX10_isWord 9 = .ok (.lmul, 1) := by decide +kernel
theorem dX10_isWord_10 : decode cX10_isWord 10 = .ok (.iload_n 2, 1) := by decide +kernel
theorem dX10_isWord_11 : decode cX10_isWord 11 = .ok (.i2l, 1) := by decide +kernel
theorem dX10_isWord_12 : decode cX10_isWord 12 = .ok (.ladd, 1) := by decide +kernel
theorem dX10_isWord_13 : decode cX10_isWord 13 = .ok (.ldc2_w 163, 3) := by decide +kernel
theorem dX10_isWord_16 : decode cX10_isWord 16 = .ok (.lsub, 1) := by decide +kernel
theorem dX10_isWord_17 : decode cX10_isWord 17 = .ok (.lstore 7, 2) := by decide +kernel
theorem dX10_isWord_19 : decode cX10_isWord 19 = .ok (.iload_n 3, 1) := by decide +kernel
theorem dX10_isWord_20 : decode cX10_isWord 20 = .ok (.ifCond .ne 8, 3) := by decide +kernel
theorem dX10_isWord_23 : decode cX10_isWord 23 = .ok (.lload 7, 2) := by decide +kernel
theorem dX10_isWord_25 : decode cX10_isWord 25 = .ok (.goto 16, 3) := by decide +kernel
theorem dX10_isWord_28 : decode cX10_isWord 28 = .ok (.lload 7, 2) := by decide +kernel
theorem dX10_isWord_30 : decode cX10_isWord 30 = .ok (.ldc2_w 161, 3) := by decide +kernel
theorem dX10_isWord_33 : decode cX10_isWord 33 = .ok (.lmul, 1) := by decide +kernel
theorem dX10_isWord_34 : decode cX10_isWord 34 = .ok (.iload_n 3, 1) := by decide +kernel
theorem dX10_isWord_35 : decode cX10_isWord 35 = .ok (.i2l, 1) := by decide +kernel
theorem dX10_isWord_36 : decode cX10_isWord 36 = .ok (.ladd, 1) := by decide +kernel
theorem dX10_isWord_37 : decode cX10_isWord 37 = .ok (.ldc2_w 163, 3) := by decide +kernel
theorem dX10_isWord_40 : decode cX10_isWord 40 = .ok (.lsub, 1) := by decide +kernel
theorem dX10_isWord_41 : decode cX10_isWord 41 = .ok (.lstore 7, 2) := by decide +kernel
theorem dX10_isWord_43 : decode cX10_isWord 43 = .ok (.iload 4, 2) := by decide +kernel
theorem dX10_isWord_45 : decode cX10_isWord 45 = .ok (.ifCond .ne 8, 3) := by decide +kernel
theorem dX10_isWord_48 : decode cX10_isWord 48 = .ok (.lload 7, 2) := by decide +kernel
theorem dX10_isWord_50 : decode cX10_isWord 50 = .ok (.goto 17, 3) := by decide +kernel
theorem dX10_isWord_53 : decode cX10_isWord 53 = .ok (.lload 7, 2) := by decide +kernel
theorem dX10_isWord_55 : decode cX10_isWord 55 = .ok (.ldc2_w 161, 3) := by decide +kernel
theorem dX10_isWord_58 : decode cX10_isWord 58 = .ok (.lmul, 1) := by decide +kernel
theorem dX10_isWord_59 : decode cX10_isWord 59 = .ok (.iload 4, 2) := by decide +kernel
theorem dX10_isWord_61 : decode cX10_isWord 61 = .ok (.i2l, 1) := by decide +kernel
theorem dX10_isWord_62 : decode cX10_isWord 62 = .ok (.ladd, 1) := by decide +kernel
theorem dX10_isWord_63 : decode cX10_isWord 63 = .ok (.ldc2_w 163, 3) := by decide +kernel
theorem dX10_isWord_66 : decode cX10_isWord 66 = .ok (.lsub, 1) := by decide +kernel
theorem dX10_isWord_67 : decode cX10_isWord 67 = .ok (.lstore 7, 2) := by decide +kernel
theorem dX10_isWord_69 : decode cX10_isWord 69 = .ok (.iload 5, 2) := by decide +kernel
theorem dX10_isWord_71 : decode cX10_isWord 71 = .ok (.ifCond .ne 8, 3) := by decide +kernel
theorem dX10_isWord_74 : decode cX10_isWord 74 = .ok (.lload 7, 2) := by decide +kernel
theorem dX10_isWord_76 : decode cX10_isWord 76 = .ok (.goto 17, 3) := by decide +kernel
theorem dX10_isWord_79 : decode cX10_isWord 79 = .ok (.lload 7, 2) := by decide +kernel
theorem dX10_isWord_81 : decode cX10_isWord 81 = .ok (.ldc2_w 161, 3) := by decide +kernel
theorem dX10_isWord_84 : decode cX10_isWord 84 = .ok (.lmul, 1) := by decide +kernel
theorem dX10_isWord_85 : decode cX10_isWord 85 = .ok (.iload 5, 2) := by decide +kernel
theorem dX10_isWord_87 : decode cX10_isWord 87 = .ok (.i2l, 1) := by decide +kernel
theorem dX10_isWord_88 : decode cX10_isWord 88 = .ok (.ladd, 1) := by decide +kernel
theorem dX10_isWord_89 : decode cX10_isWord 89 = .ok (.ldc2_w 163, 3) := by decide +kernel
theorem dX10_isWord_92 : decode cX10_isWord 92 = .ok (.lsub, 1) := by decide +kernel
theorem dX10_isWord_93 : decode cX10_isWord 93 = .ok (.lstore 7, 2) := by decide +kernel
theorem dX10_isWord_95 : decode cX10_isWord 95 = .ok (.iload 6, 2) := by decide +kernel
theorem dX10_isWord_97 : decode cX10_isWord 97 = .ok (.ifCond .ne 8, 3) := by decide +kernel
theorem dX10_isWord_100 : decode cX10_isWord 100 = .ok (.lload 7, 2) := by decide +kernel
theorem dX10_isWord_102 : decode cX10_isWord 102 = .ok (.goto 17, 3) := by decide +kernel
theorem dX10_isWord_105 : decode cX10_isWord 105 = .ok (.lload 7, 2) := by decide +kernel
theorem dX10_isWord_107 : decode cX10_isWord 107 = .ok (.ldc2_w 161, 3) := by decide +kernel
theorem dX10_isWord_110 : decode cX10_isWord 110 = .ok (.lmul, 1) := by decide +kernel
theorem dX10_isWord_111 : decode cX10_isWord 111 = .ok (.iload 6, 2) := by decide +kernel
theorem dX10_isWord_113 : decode cX10_isWord 113 = .ok (.i2l, 1) := by decide +kernel
theorem dX10_isWord_114 : decode cX10_isWord 114 = .ok (.ladd, 1) := by decide +kernel
theorem dX10_isWord_115 : decode cX10_isWord 115 = .ok (.ldc2_w 163, 3) := by decide +kernel
theorem dX10_isWord_118 : decode cX10_isWord 118 = .ok (.lsub, 1) := by decide +kernel
theorem dX10_isWord_119 : decode cX10_isWord 119 = .ok (.lstore 7, 2) := by decide +kernel
theorem dX10_isWord_121 : decode cX10_isWord 121 = .ok (.aload_n 0, 1) := by decide +kernel
theorem dX10_isWord_122 : decode cX10_isWord 122 = .ok (.getfield 158, 3) := by decide +kernel
theorem dX10_isWord_125 : decode cX10_isWord 125 = .ok (.iconst 1, 1) := by decide +kernel
theorem dX10_isWord_126 : decode cX10_isWord 126 = .ok (.if_icmp .ne 17, 3) := by decide +kernel
theorem dX10_isWord_129 : decode cX10_isWord 129 = .ok (.aload_n 0, 1) := by decide +kernel
theorem dX10_isWord_130 : decode cX10_isWord 130 = .ok (.getfield 148, 3) := by decide +kernel
theorem dX10_isWord_133 : decode cX10_isWord 133 = .ok (.lload 7, 2) := by decide +kernel
theorem dX10_isWord_135 : decode cX10_isWord 135 = .ok (.lcmp, 1) := by decide +kernel
theorem dX10_isWord_136 : decode cX10_isWord 136 = .ok (.ifCond .ne 7, 3) := by decide +kernel
theorem dX10_isWord_139 : decode cX10_isWord 139 = .ok (.iconst 1, 1) := by decide +kernel
theorem dX10_isWord_140 : decode cX10_isWord 140 = .ok (.goto 4, 3) := by decide +kernel
theorem dX10_isWord_143 : decode cX10_isWord 143 = .ok (.iconst 0, 1) := by decide +kernel
theorem dX10_isWord_144 : decode cX10_isWord 144 = .ok (.ireturn, 1) := by decide +kernel
def rmX10_isWord : Room := { frames := 0, cells := 0, slots := 0, locals := 0 }
def fX10_isWord_119  (al0 : Nat) (xs0 : Int64) (h0 : PH) : Option (Int32 × PH) :=
    bn (rdI 10 23 al0 h0) fun x2 =>
    if x2 = (1 : Int32) then (bn (rdJ 10 24 al0 h0) fun x3 =>
    if x3 = xs0 then (some ((1 : Int32), h0)) else
    some ((0 : Int32), h0)) else
    some ((0 : Int32), h0)
set_option maxHeartbeats 4000000 in
set_option maxRecDepth 100000 in
theorem vfX10_isWord_119 {p : Program} {l : Launch} {e : Env} {s : State} {m : MethodId} {args : Array Value} {below : List Frame} {meth : Method} {c : Code} {G : GX} (C : Cx p s m args meth c G cX10_isWord 9 RX10) (hr : meth.sig.returnType = (some .boolean)) (al0 : Nat) (xs0 : Int64) (h0 : PH) : J p l e rmX10_isWord s m args below meth c G 9 (qM below args s rvI G 0 0) 0 0 h0 119 [(0, .ref al0)] [.long xs0] (fX10_isWord_119  al0 xs0 h0) := by
  unfold fX10_isWord_119
  refine J_lstore (pc := 119) (lv1 := [(7, .long xs0), (0, .ref al0)]) C dX10_isWord_119 (by decide) rfl ?_
  refine J_aload_n (pc := 121) C dX10_isWord_121 rfl 1 rfl ?_
  refine J_getI (pc := 122) C flX10_158 dX10_isWord_122 (fun x2 => ?_)
  refine J_iconst (pc := 125) (v := 1) C dX10_isWord_125 (by decide) ?_
  refine J_icmp_ne (pc := 126) (tgt := 143) C dX10_isWord_126 (by decide) ?_ ?_
  · refine J_iconst (pc := 143) (v := 0) C dX10_isWord_143 (by decide) ?_
    exact J_zret (pc := 144) C hr rfl dX10_isWord_144
  · refine J_aload_n (pc := 129) C dX10_isWord_129 rfl 1 rfl ?_
    refine J_getJ (pc := 130) C flX10_148 dX10_isWord_130 (fun x3 => ?_)
    refine J_lload (pc := 133) C dX10_isWord_133 0 rfl ?_
    refine J_lcmp_ne (pc := 135) (tgt := 143) C dX10_isWord_135 dX10_isWord_136 (by decide) ?_ ?_
    · refine J_iconst (pc := 143) (v := 0) C dX10_isWord_143 (by decide) ?_
      exact J_zret (pc := 144) C hr rfl dX10_isWord_144
    · refine J_iconst (pc := 139) (v := 1) C dX10_isWord_139 (by decide) ?_
      refine J_goto (pc := 140) (tgt := 144) C dX10_isWord_140 (by decide) ?_
      exact J_zret (pc := 144) C hr rfl dX10_isWord_144
def fX10_isWord_93  (al0 : Nat) (xl6 : Int32) (xs0 : Int64) (h0 : PH) : Option (Int32 × PH) :=
    if xl6 = 0 then (fX10_isWord_119  al0 xs0 h0) else
    fX10_isWord_119  al0 (((xs0 * (32 : Int64)) + xl6.toInt64) - (96 : Int64)) h0
set_option maxHeartbeats 4000000 in
set_option maxRecDepth 100000 in
theorem vfX10_isWord_93 {p : Program} {l : Launch} {e : Env} {s : State} {m : MethodId} {args : Array Value} {below : List Frame} {meth : Method} {c : Code} {G : GX} (C : Cx p s m args meth c G cX10_isWord 9 RX10) (hr : meth.sig.returnType = (some .boolean)) (al0 : Nat) (xl6 : Int32) (xs0 : Int64) (h0 : PH) : J p l e rmX10_isWord s m args below meth c G 9 (qM below args s rvI G 0 0) 0 0 h0 93 [(0, .ref al0), (6, .int xl6)] [.long xs0] (fX10_isWord_93  al0 xl6 xs0 h0) := by
  unfold fX10_isWord_93
  refine J_lstore (pc := 93) (lv1 := [(7, .long xs0), (0, .ref al0), (6, .int xl6)]) C dX10_isWord_93 (by decide) rfl ?_
  refine J_iload (pc := 95) C dX10_isWord_95 2 rfl ?_
  refine J_if_ne (pc := 97) (tgt := 105) C dX10_isWord_97 (by decide) ?_ ?_
  · refine J_lload (pc := 105) C dX10_isWord_105 0 rfl ?_
    refine J_ldc2 (pc := 107) C kjX10_161 dX10_isWord_107 ?_
    refine J_lmul (pc := 110) C dX10_isWord_110 ?_
    refine J_iload (pc := 111) C dX10_isWord_111 2 rfl ?_
    refine J_i2l (pc := 113) C dX10_isWord_113 ?_
    refine J_ladd (pc := 114) C dX10_isWord_114 ?_
    refine J_ldc2 (pc := 115) C kjX10_163 dX10_isWord_115 ?_
    refine J_lsub (pc := 118) C dX10_isWord_118 ?_
    refine J_sub [1] rfl ?_
    exact vfX10_isWord_119 C hr  al0 (((xs0 * (32 : Int64)) + xl6.toInt64) - (96 : Int64)) h0
  · refine J_lload (pc := 100) C dX10_isWord_100 0 rfl ?_
    refine J_goto (pc := 102) (tgt := 119) C dX10_isWord_102 (by decide) ?_
    refine J_sub [1] rfl ?_
    exact vfX10_isWord_119 C hr  al0 xs0 h0
def fX10_isWord_67  (al0 : Nat) (xl5 : Int32) (xl6 : Int32) (xs0 : Int64) (h0 : PH) : Option (Int32 × PH) :=
    if xl5 = 0 then (fX10_isWord_93  al0 xl6 xs0 h0) else
    fX10_isWord_93  al0 xl6 (((xs0 * (32 : Int64)) + xl5.toInt64) - (96 : Int64)) h0
set_option maxHeartbeats 4000000 in
set_option maxRecDepth 100000 in
theorem vfX10_isWord_67 {p : Program} {l : Launch} {e : Env} {s : State} {m : MethodId} {args : Array Value} {below : List Frame} {meth : Method} {c : Code} {G : GX} (C : Cx p s m args meth c G cX10_isWord 9 RX10) (hr : meth.sig.returnType = (some .boolean)) (al0 : Nat) (xl5 : Int32) (xl6 : Int32) (xs0 : Int64) (h0 : PH) : J p l e rmX10_isWord s m args below meth c G 9 (qM below args s rvI G 0 0) 0 0 h0 67 [(0, .ref al0), (5, .int xl5), (6, .int xl6)] [.long xs0] (fX10_isWord_67  al0 xl5 xl6 xs0 h0) := by
  unfold fX10_isWord_67
  refine J_lstore (pc := 67) (lv1 := [(7, .long xs0), (0, .ref al0), (5, .int xl5), (6, .int xl6)]) C dX10_isWord_67 (by decide) rfl ?_
  refine J_iload (pc := 69) C dX10_isWord_69 2 rfl ?_
  refine J_if_ne (pc := 71) (tgt := 79) C dX10_isWord_71 (by decide) ?_ ?_
  · refine J_lload (pc := 79) C dX10_isWord_79 0 rfl ?_
    refine J_ldc2 (pc := 81) C kjX10_161 dX10_isWord_81 ?_
    refine J_lmul (pc := 84) C dX10_isWord_84 ?_
    refine J_iload (pc := 85) C dX10_isWord_85 2 rfl ?_
    refine J_i2l (pc := 87) C dX10_isWord_87 ?_
    refine J_ladd (pc := 88) C dX10_isWord_88 ?_
    refine J_ldc2 (pc := 89) C kjX10_163 dX10_isWord_89 ?_
    refine J_lsub (pc := 92) C dX10_isWord_92 ?_
    refine J_sub [1, 3] rfl ?_
    exact vfX10_isWord_93 C hr  al0 xl6 (((xs0 * (32 : Int64)) + xl5.toInt64) - (96 : Int64)) h0
  · refine J_lload (pc := 74) C dX10_isWord_74 0 rfl ?_
    refine J_goto (pc := 76) (tgt := 93) C dX10_isWord_76 (by decide) ?_
    refine J_sub [1, 3] rfl ?_
    exact vfX10_isWord_93 C hr  al0 xl6 xs0 h0
def fX10_isWord_41  (al0 : Nat) (xl4 : Int32) (xl5 : Int32) (xl6 : Int32) (xs0 : Int64) (h0 : PH) : Option (Int32 × PH) :=
    if xl4 = 0 then (fX10_isWord_67  al0 xl5 xl6 xs0 h0) else
    fX10_isWord_67  al0 xl5 xl6 (((xs0 * (32 : Int64)) + xl4.toInt64) - (96 : Int64)) h0
set_option maxHeartbeats 4000000 in
set_option maxRecDepth 100000 in
theorem vfX10_isWord_41 {p : Program} {l : Launch} {e : Env} {s : State} {m : MethodId} {args : Array Value} {below : List Frame} {meth : Method} {c : Code} {G : GX} (C : Cx p s m args meth c G cX10_isWord 9 RX10) (hr : meth.sig.returnType = (some .boolean)) (al0 : Nat) (xl4 : Int32) (xl5 : Int32) (xl6 : Int32) (xs0 : Int64) (h0 : PH) : J p l e rmX10_isWord s m args below meth c G 9 (qM below args s rvI G 0 0) 0 0 h0 41 [(0, .ref al0), (4, .int xl4), (5, .int xl5), (6, .int xl6)] [.long xs0] (fX10_isWord_41  al0 xl4 xl5 xl6 xs0 h0) := by
  unfold fX10_isWord_41
  refine J_lstore (pc := 41) (lv1 := [(7, .long xs0), (0, .ref al0), (4, .int xl4), (5, .int xl5), (6, .int xl6)]) C dX10_isWord_41 (by decide) rfl ?_
  refine J_iload (pc := 43) C dX10_isWord_43 2 rfl ?_
  refine J_if_ne (pc := 45) (tgt := 53) C dX10_isWord_45 (by decide) ?_ ?_
  · refine J_lload (pc := 53) C dX10_isWord_53 0 rfl ?_
    refine J_ldc2 (pc := 55) C kjX10_161 dX10_isWord_55 ?_
    refine J_lmul (pc := 58) C dX10_isWord_58 ?_
    refine J_iload (pc := 59) C dX10_isWord_59 2 rfl ?_
    refine J_i2l (pc := 61) C dX10_isWord_61 ?_
    refine J_ladd (pc := 62) C dX10_isWord_62 ?_
    refine J_ldc2 (pc := 63) C kjX10_163 dX10_isWord_63 ?_
    refine J_lsub (pc := 66) C dX10_isWord_66 ?_
    refine J_sub [1, 3, 4] rfl ?_
    exact vfX10_isWord_67 C hr  al0 xl5 xl6 (((xs0 * (32 : Int64)) + xl4.toInt64) - (96 : Int64)) h0
  · refine J_lload (pc := 48) C dX10_isWord_48 0 rfl ?_
    refine J_goto (pc := 50) (tgt := 67) C dX10_isWord_50 (by decide) ?_
    refine J_sub [1, 3, 4] rfl ?_
    exact vfX10_isWord_67 C hr  al0 xl5 xl6 xs0 h0
def fX10_isWord  (a0 : Nat) (xp0 : Int32) (xp1 : Int32) (xp2 : Int32) (xp3 : Int32) (xp4 : Int32) (xp5 : Int32) (h0 : PH) : Option (Int32 × PH) :=
    nm ((((xp0.toInt64 - (96 : Int64)) * (32 : Int64)) + xp1.toInt64) - (96 : Int64)) fun x1 =>
    if xp2 = 0 then (fX10_isWord_41  a0 xp3 xp4 xp5 x1 h0) else
    fX10_isWord_41  a0 xp3 xp4 xp5 (((x1 * (32 : Int64)) + xp2.toInt64) - (96 : Int64)) h0
set_option maxHeartbeats 4000000 in
set_option maxRecDepth 100000 in
theorem vfX10_isWord {p : Program} {l : Launch} {e : Env} {s : State} {m : MethodId} {args : Array Value} {below : List Frame} {meth : Method} {c : Code} {G : GX} (C : Cx p s m args meth c G cX10_isWord 9 RX10) (hr : meth.sig.returnType = (some .boolean)) (a0 : Nat) (xp0 : Int32) (xp1 : Int32) (xp2 : Int32) (xp3 : Int32) (xp4 : Int32) (xp5 : Int32) (h0 : PH) : J p l e rmX10_isWord s m args below meth c G 9 (qM below args s rvI G 0 0) 0 0 h0 0 [(0, .ref a0), (1, .int xp0), (2, .int xp1), (3, .int xp2), (4, .int xp3), (5, .int xp4), (6, .int xp5)] [] (fX10_isWord  a0 xp0 xp1 xp2 xp3 xp4 xp5 h0) := by
  unfold fX10_isWord
  refine J_iload_n (pc := 0) C dX10_isWord_0 rfl 1 rfl ?_
  refine J_i2l (pc := 1) C dX10_isWord_1 ?_
  refine J_ldc2 (pc := 2) C kjX10_163 dX10_isWord_2 ?_
  refine J_lsub (pc := 5) C dX10_isWord_5 ?_
  refine J_ldc2 (pc := 6) C kjX10_161 dX10_isWord_6 ?_
  refine J_lmul (pc := 9) C dX10_isWord_9 ?_
  refine J_iload_n (pc := 10) C dX10_isWord_10 rfl 2 rfl ?_
  refine J_i2l (pc := 11) C dX10_isWord_11 ?_
  refine J_ladd (pc := 12) C dX10_isWord_12 ?_
  refine J_ldc2 (pc := 13) C kjX10_163 dX10_isWord_13 ?_
  refine J_lsub (pc := 16) C dX10_isWord_16 ?_
  refine J_nm (fv := .long) (fun x1 => ?_)
  refine J_lstore (pc := 17) (lv1 := [(7, .long x1), (0, .ref a0), (1, .int xp0), (2, .int xp1), (3, .int xp2), (4, .int xp3), (5, .int xp4), (6, .int xp5)]) C dX10_isWord_17 (by decide) rfl ?_
  refine J_iload_n (pc := 19) C dX10_isWord_19 rfl 4 rfl ?_
  refine J_if_ne (pc := 20) (tgt := 28) C dX10_isWord_20 (by decide) ?_ ?_
  · refine J_lload (pc := 28) C dX10_isWord_28 0 rfl ?_
    refine J_ldc2 (pc := 30) C kjX10_161 dX10_isWord_30 ?_
    refine J_lmul (pc := 33) C dX10_isWord_33 ?_
    refine J_iload_n (pc := 34) C dX10_isWord_34 rfl 4 rfl ?_
    refine J_i2l (pc := 35) C dX10_isWord_35 ?_
    refine J_ladd (pc := 36) C dX10_isWord_36 ?_
    refine J_ldc2 (pc := 37) C kjX10_163 dX10_isWord_37 ?_
    refine J_lsub (pc := 40) C dX10_isWord_40 ?_
    refine J_sub [1, 5, 6, 7] rfl ?_
    exact vfX10_isWord_41 C hr  a0 xp3 xp4 xp5 (((x1 * (32 : Int64)) + xp2.toInt64) - (96 : Int64)) h0
  · refine J_lload (pc := 23) C dX10_isWord_23 0 rfl ?_
    refine J_goto (pc := 25) (tgt := 41) C dX10_isWord_25 (by decide) ?_
    refine J_sub [1, 5, 6, 7] rfl ?_
    exact vfX10_isWord_41 C hr  a0 xp3 xp4 xp5 x1 h0
theorem mX10_isWord {l : Launch} {G : GX} (a0 : Nat) (xp0 : Int32) (xp1 : Int32) (xp2 : Int32) (xp3 : Int32) (xp4 : Int32) (xp5 : Int32) (h0 : PH) : ∀ z, fX10_isWord a0 xp0 xp1 xp2 xp3 xp4 xp5 h0 = some z → MC l G yX10_isWord cX10_isWord 9 (some .boolean) rmX10_isWord [.ref a0, .int xp0, .int xp1, .int xp2, .int xp3, .int xp4, .int xp5] h0 (rvI z.1) z.2 :=
  Met_J (own := RX10) (by decide) rfl (Nat.le_of_ble_eq_true rfl) (fun p e s m args below meth c C hr hn => vfX10_isWord C hr a0 xp0 xp1 xp2 xp3 xp4 xp5 h0)

theorem dX10_number_0 : decode cX10_number 0 = .ok (.aload_n 0, 1) := by decide +kernel
theorem dX10_number_1 : decode cX10_number 1 = .ok (.getfield 148, 3) := by decide +kernel
theorem dX10_number_4 : decode cX10_number 4 = .ok (.l2i, 1) := by decide +kernel
theorem dX10_number_5 : decode cX10_number 5 = .ok (.istore_n 3, 1) := by decide +kernel
theorem dX10_number_6 : decode cX10_number 6 = .ok (.aload_n 0, 1) := by decide +kernel
theorem dX10_number_7 : decode cX10_number 7 = .ok (.aload_n 0, 1) := by decide +kernel
theorem dX10_number_8 : decode cX10_number 8 = .ok (.getfield 158, 3) := by decide +kernel
theorem dX10_number_11 : decode cX10_number 11 = .ok (.iconst 2, 1) := by decide +kernel
theorem dX10_number_12 : decode cX10_number 12 = .ok (.if_icmp .ne 21, 3) := by decide +kernel
theorem dX10_number_15 : decode cX10_number 15 = .ok (.aload_n 0, 1) := by decide +kernel
theorem dX10_number_16 : decode cX10_number 16 = .ok (.getfield 148, 3) := by decide +kernel
theorem dX10_number_19 : decode cX10_number 19 = .ok (.lload_n 1, 1) := by decide +kernel
theorem dX10_number_20 : decode cX10_number 20 = .ok (.ldc2_w 105, 3) := by decide +kernel
theorem dX10_number_23 : decode cX10_number 23 = .ok (.invokestatic 99, 3) := by decide +kernel
theorem dX10_number_26 : decode cX10_number 26 = .ok (.ifCond .eq 7, 3) := by decide +kernel
theorem dX10_number_29 : decode cX10_number 29 = .ok (.iconst 1, 1) := by decide +kernel
theorem dX10_number_30 : decode cX10_number 30 = .ok (.goto 4, 3) := by decide +kernel
theorem dX10_number_33 : decode cX10_number 33 = .ok (.iconst 0, 1) := by decide +kernel
theorem dX10_number_34 : decode cX10_number 34 = .ok (.invokevirtual 176, 3) := by decide +kernel
theorem dX10_number_37 : decode cX10_number 37 = .ok (.iload_n 3, 1) := by decide +kernel
theorem dX10_number_38 : decode cX10_number 38 = .ok (.ireturn, 1) := by decide +kernel
def rmX10_number : Room := { frames := 3, cells := 0, slots := 0, locals := 61 }
def fX10_number  (a0 : Nat) (xp0 : Int64) (h0 : PH) : Option (Int32 × PH) :=
    bn (rdJ 10 24 a0 h0) fun x1 =>
    bn (rdI 10 23 a0 h0) fun x2 =>
    if x2 = (2 : Int32) then (bn (rdJ 10 24 a0 h0) fun x4 =>
    bn2 (fX10_in x4 xp0 (1000 : Int64) h0) fun x6 h5 =>
    if x6 = 0 then (bn (chk 10 a0 h5) fun _ => bn2 (fX10_must a0 (0 : Int32) h5) fun _ h7 =>
    some (x1.toInt32, h7)) else
    bn (chk 10 a0 h5) fun _ => bn2 (fX10_must a0 (1 : Int32) h5) fun _ h8 =>
    some (x1.toInt32, h8)) else
    bn (chk 10 a0 h0) fun _ => bn2 (fX10_must a0 (0 : Int32) h0) fun _ h3 =>
    some (x1.toInt32, h3)
set_option maxHeartbeats 4000000 in
set_option maxRecDepth 100000 in
theorem vfX10_number {p : Program} {l : Launch} {e : Env} {s : State} {m : MethodId} {args : Array Value} {below : List Frame} {meth : Method} {c : Code} {G : GX} (C : Cx p s m args meth c G cX10_number 4 RX10) (hr : meth.sig.returnType = (some .int)) (a0 : Nat) (xp0 : Int64) (h0 : PH) : J p l e rmX10_number s m args below meth c G 4 (qM below args s rvI G 0 0) 0 0 h0 0 [(0, .ref a0), (1, .long xp0)] [] (fX10_number  a0 xp0 h0) := by
  unfold fX10_number
  refine J_aload_n (pc := 0) C dX10_number_0 rfl 0 rfl ?_
  refine J_getJ (pc := 1) C flX10_148 dX10_number_1 (fun x1 => ?_)
  refine J_l2i (pc := 4) C dX10_number_4 ?_
  refine J_istore_n (pc := 5) (lv1 := [(3, .int x1.toInt32), (0, .ref a0), (1, .long xp0)]) C dX10_number_5 rfl (by decide) rfl ?_
  refine J_aload_n (pc := 6) C dX10_number_6 rfl 1 rfl ?_
  refine J_aload_n (pc := 7) C dX10_number_7 rfl 1 rfl ?_
  refine J_getI (pc := 8) C flX10_158 dX10_number_8 (fun x2 => ?_)
  refine J_iconst (pc := 11) (v := 2) C dX10_number_11 (by decide) ?_
  refine J_icmp_ne (pc := 12) (tgt := 33) C dX10_number_12 (by decide) ?_ ?_
  · refine J_iconst (pc := 33) (v := 0) C dX10_number_33 (by decide) ?_
    refine J_callVU (pc := 34) (As := [.int (0 : Int32)]) (rest := []) C (fun z hz => mX10_must a0 (0 : Int32) h0 z hz) mwX10_must csX10_must mlX10_176 inX10_must rfl dX10_number_34 (by decide) rfl (Nat.le_of_ble_eq_true rfl) (by decide) (fun _ h3 => ?_)
    refine J_iload_n (pc := 37) C dX10_number_37 rfl 0 rfl ?_
    exact J_iret (pc := 38) C hr dX10_number_38
  · refine J_aload_n (pc := 15) C dX10_number_15 rfl 1 rfl ?_
    refine J_getJ (pc := 16) C flX10_148 dX10_number_16 (fun x4 => ?_)
    refine J_lload_n (pc := 19) C dX10_number_19 rfl 2 rfl ?_
    refine J_ldc2 (pc := 20) C kjX10_105 dX10_number_20 ?_
    refine J_callSI (pc := 23) (As := [.long x4, .long xp0, .long (1000 : Int64)]) (rest := [.ref a0]) C (fun z hz => mX10_in x4 xp0 (1000 : Int64) h0 z hz) mwX10_in mlX10_99 stX10_in rfl dX10_number_23 (by decide) rfl (Nat.le_of_ble_eq_true rfl) (by decide) (fun x6 h5 => ?_)
    refine J_if_eq (pc := 26) (tgt := 33) C dX10_number_26 (by decide) ?_ ?_
    · refine J_iconst (pc := 33) (v := 0) C dX10_number_33 (by decide) ?_
      refine J_callVU (pc := 34) (As := [.int (0 : Int32)]) (rest := []) C (fun z hz => mX10_must a0 (0 : Int32) h5 z hz) mwX10_must csX10_must mlX10_176 inX10_must rfl dX10_number_34 (by decide) rfl (Nat.le_of_ble_eq_true rfl) (by decide) (fun _ h7 => ?_)
      refine J_iload_n (pc := 37) C dX10_number_37 rfl 0 rfl ?_
      exact J_iret (pc := 38) C hr dX10_number_38
    · refine J_iconst (pc := 29) (v := 1) C dX10_number_29 (by decide) ?_
      refine J_goto (pc := 30) (tgt := 34) C dX10_number_30 (by decide) ?_
      refine J_callVU (pc := 34) (As := [.int (1 : Int32)]) (rest := []) C (fun z hz => mX10_must a0 (1 : Int32) h5 z hz) mwX10_must csX10_must mlX10_176 inX10_must rfl dX10_number_34 (by decide) rfl (Nat.le_of_ble_eq_true rfl) (by decide) (fun _ h8 => ?_)
      refine J_iload_n (pc := 37) C dX10_number_37 rfl 0 rfl ?_
      exact J_iret (pc := 38) C hr dX10_number_38
theorem mX10_number {l : Launch} {G : GX} (a0 : Nat) (xp0 : Int64) (h0 : PH) : ∀ z, fX10_number a0 xp0 h0 = some z → MC l G yX10_number cX10_number 4 (some .int) rmX10_number [.ref a0, .long xp0] h0 (rvI z.1) z.2 :=
  Met_J (own := RX10) (by decide) rfl (Nat.le_of_ble_eq_true rfl) (fun p e s m args below meth c C hr hn => vfX10_number C hr a0 xp0 h0)

theorem dX10_readTest_0 : decode cX10_readTest 0 = .ok (.aload_n 0, 1) := by decide +kernel
theorem dX10_readTest_1 : decode cX10_readTest 1 = .ok (.bipush 103, 2) := by decide +kernel
theorem dX10_readTest_3 : decode cX10_readTest 3 = .ok (.bipush 111, 2) := by decide +kernel
theorem dX10_readTest_5 : decode cX10_readTest 5 = .ok (.bipush 108, 2) := by decide +kernel
theorem dX10_readTest_7 : decode cX10_readTest 7 = .ok (.bipush 100, 2) := by decide +kernel
theorem dX10_readTest_9 : decode cX10_readTest 9 = .ok (.iconst 0, 1) := by decide +kernel
theorem dX10_readTest_10 : decode cX10_readTest 10 = .ok (.iconst 0, 1) := by decide +kernel
theorem dX10_readTest_11 : decode cX10_readTest 11 = .ok (.invokevirtual 183, 3) := by decide +kernel
theorem dX10_readTest_14 : decode cX10_readTest 14 = .ok (.ifCond .eq 7, 3) := by decide +kernel
theorem dX10_readTest_17 : decode cX10_readTest 17 = .ok (.iconst 0, 1) := by decide +kernel
theorem dX10_readTest_18 : decode cX10_readTest 18 = .ok (.goto 50, 3) := by decide +kernel
theorem dX10_readTest_21 : decode cX10_readTest 21 = .ok (.aload_n 0, 1) := by decide +kernel
theorem dX10_readTest_22 : decode cX10_readTest 22 = .ok (.bipush 115, 2) := by decide +kernel
theorem dX10_readTest_24 : decode cX10_readTest 24 = .ok (.bipush 105, 2) := by decide +kernel
theorem dX10_readTest_26 : decode cX10_readTest 26 = .ok (.bipush 108, 2) := by decide +kernel
theorem dX10_readTest_28 : decode cX10_readTest 28 = .ok (.bipush 118, 2) := by decide +kernel
theorem dX10_readTest_30 : decode cX10_readTest 30 = .ok (.bipush 101, 2) := by decide +kernel
theorem dX10_readTest_32 : decode cX10_readTest 32 = .ok (.bipush 114, 2) := by decide +kernel
theorem dX10_readTest_34 : decode cX10_readTest 34 = .ok (.invokevirtual 183, 3) := by decide +kernel
theorem dX10_readTest_37 : decode cX10_readTest 37 = .ok (.ifCond .eq 7, 3) := by decide +kernel
theorem dX10_readTest_40 : decode cX10_readTest 40 = .ok (.iconst 1, 1) := by decide +kernel
theorem dX10_readTest_41 : decode cX10_readTest 41 = .ok (.goto 27, 3) := by decide +kernel
theorem dX10_readTest_44 : decode cX10_readTest 44 = .ok (.aload_n 0, 1) := by decide +kernel
theorem dX10_readTest_45 : decode cX10_readTest 45 = .ok (.bipush 99, 2) := by decide +kernel
theorem dX10_readTest_47 : decode cX10_readTest 47 = .ok (.bipush 111, 2) := by decide +kernel
theorem dX10_readTest_49 : decode cX10_readTest 49 = .ok (.bipush 112, 2) := by decide +kernel
theorem dX10_readTest_51 : decode cX10_readTest 51 = .ok (.bipush 112, 2) := by decide +kernel
theorem dX10_readTest_53 : decode cX10_readTest 53 = .ok (.bipush 101, 2) := by decide +kernel
theorem dX10_readTest_55 : decode cX10_readTest 55 = .ok (.bipush 114, 2) := by decide +kernel
theorem dX10_readTest_57 : decode cX10_readTest 57 = .ok (.invokevirtual 183, 3) := by decide +kernel
theorem dX10_readTest_60 : decode cX10_readTest 60 = .ok (.ifCond .eq 7, 3) := by decide +kernel
theorem dX10_readTest_63 : decode cX10_readTest 63 = .ok (.iconst 2, 1) := by decide +kernel
theorem dX10_readTest_64 : decode cX10_readTest 64 = .ok (.goto 4, 3) := by decide +kernel
theorem dX10_readTest_67 : decode cX10_readTest 67 = .ok (.iconst (-1), 1) := by decide +kernel
theorem dX10_readTest_68 : decode cX10_readTest 68 = .ok (.istore_n 1, 1) := by decide +kernel
theorem dX10_readTest_69 : decode cX10_readTest 69 = .ok (.aload_n 0, 1) := by decide +kernel
theorem dX10_readTest_70 : decode cX10_readTest 70 = .ok (.iload_n 1, 1) := by decide +kernel
theorem dX10_readTest_71 : decode cX10_readTest 71 = .ok (.ifCond .lt 16, 3) := by decide +kernel
theorem dX10_readTest_74 : decode cX10_readTest 74 = .ok (.aload_n 0, 1) := by decide +kernel
theorem dX10_readTest_75 : decode cX10_readTest 75 = .ok (.getfield 187, 3) := by decide +kernel
theorem dX10_readTest_78 : decode cX10_readTest 78 = .ok (.bipush 30, 2) := by decide +kernel
theorem dX10_readTest_80 : decode cX10_readTest 80 = .ok (.if_icmp .ge 7, 3) := by decide +kernel
theorem dX10_readTest_83 : decode cX10_readTest 83 = .ok (.iconst 1, 1) := by decide +kernel
theorem dX10_readTest_84 : decode cX10_readTest 84 = .ok (.goto 4, 3) := by decide +kernel
theorem dX10_readTest_87 : decode cX10_readTest 87 = .ok (.iconst 0, 1) := by decide +kernel
theorem dX10_readTest_88 : decode cX10_readTest 88 = .ok (.invokevirtual 176, 3) := by decide +kernel
theorem dX10_readTest_91 : decode cX10_readTest 91 = .ok (.aload_n 0, 1) := by decide +kernel
theorem dX10_readTest_92 : decode cX10_readTest 92 = .ok (.lconst 0, 1) := by decide +kernel
theorem dX10_readTest_93 : decode cX10_readTest 93 = .ok (.invokevirtual 190, 3) := by decide +kernel
theorem dX10_readTest_96 : decode cX10_readTest 96 = .ok (.istore_n 2, 1) := by decide +kernel
theorem dX10_readTest_97 : decode cX10_readTest 97 = .ok (.aload_n 0, 1) := by decide +kernel
theorem dX10_readTest_98 : decode cX10_readTest 98 = .ok (.aload_n 0, 1) := by decide +kernel
theorem dX10_readTest_99 : decode cX10_readTest 99 = .ok (.bipush 116, 2) := by decide +kernel
theorem dX10_readTest_101 : decode cX10_readTest 101 = .ok (.bipush 111, 2) := by decide +kernel
theorem dX10_readTest_103 : decode cX10_readTest 103 = .ok (.iconst 0, 1) := by decide +kernel
theorem dX10_readTest_104 : decode cX10_readTest 104 = .ok (.iconst 0, 1) := by decide +kernel
theorem dX10_readTest_105 : decode cX10_readTest 105 = .ok (.iconst 0, 1) := by decide +kernel
theorem dX10_readTest_106 : decode cX10_readTest 106 = .ok (.iconst 0, 1) := by decide +kernel
theorem dX10_readTest_107 : decode cX10_readTest 107 = .ok (.invokevirtual 183, 3) := by decide +kernel
theorem dX10_readTest_110 : decode cX10_readTest 110 = .ok (.invokevirtual 176, 3) := by decide +kernel
theorem dX10_readTest_113 : decode cX10_readTest 113 = .ok (.aload_n 0, 1) := by decide +kernel
theorem dX10_readTest_114 : decode cX10_readTest 114 = .ok (.iload_n 2, 1) := by decide +kernel
theorem dX10_readTest_115 : decode cX10_readTest 115 = .ok (.i2l, 1) := by decide +kernel
theorem dX10_readTest_116 : decode cX10_readTest 116 = .ok (.invokevirtual 190, 3) := by decide +kernel
theorem dX10_readTest_119 : decode cX10_readTest 119 = .ok (.istore_n 3, 1) := by decide +kernel
theorem dX10_readTest_120 : decode cX10_readTest 120 = .ok (.aload_n 0, 1) := by decide +kernel
theorem dX10_readTest_121 : decode cX10_readTest 121 = .ok (.getfield 169, 3) := by decide +kernel
theorem dX10_readTest_124 : decode cX10_readTest 124 = .ok (.ifCond .eq 4, 3) := by decide +kernel
theorem dX10_readTest_127 : decode cX10_readTest 127 = .ok (.return_, 1) := by decide +kernel
theorem dX10_readTest_128 : decode cX10_readTest 128 = .ok (.aload_n 0, 1) := by decide +kernel
theorem dX10_readTest_129 : decode cX10_readTest 129 = .ok (.getfield 35, 3) := by decide +kernel
theorem dX10_readTest_132 : decode cX10_readTest 132 = .ok (.iconst 3, 1) := by decide +kernel
theorem dX10_readTest_133 : decode cX10_readTest 133 = .ok (.aload_n 0, 1) := by decide +kernel
theorem dX10_readTest_134 : decode cX10_readTest 134 = .ok (.getfield 187, 3) := by decide +kernel
theorem dX10_readTest_137 : decode cX10_readTest 137 = .ok (.imul, 1) := by decide +kernel
theorem dX10_readTest_138 : decode cX10_readTest 138 = .ok (.iload_n 1, 1) := by decide +kernel
theorem dX10_readTest_139 : decode cX10_readTest 139 = .ok (.iastore, 1) := by decide +kernel
theorem dX10_readTest_140 : decode cX10_readTest 140 = .ok (.aload_n 0, 1) := by decide +kernel
theorem dX10_readTest_141 : decode cX10_readTest 141 = .ok (.getfield 35, 3) := by decide +kernel
theorem dX10_readTest_144 : decode cX10_readTest 144 = .ok (.iconst 3, 1) := by decide +kernel
theorem dX10_readTest_145 : decode cX10_readTest 145 = .ok (.aload_n 0, 1) := by decide +kernel
theorem dX10_readTest_146 : decode cX10_readTest 146 = .ok (.getfield 187, 3) := by decide +kernel
theorem dX10_readTest_149 : decode cX10_readTest 149 = .ok (.imul, 1) := by decide +kernel
theorem dX10_readTest_150 : decode cX10_readTest 150 = .ok (.iconst 1, 1) := by decide +kernel
theorem dX10_readTest_151 : decode cX10_readTest 151 = .ok (.iadd, 1) := by decide +kernel
theorem dX10_readTest_152 : decode cX10_readTest 152 = .ok (.iload_n 2, 1) := by decide +kernel
theorem dX10_readTest_153 : decode cX10_readTest 153 = .ok (.iastore, 1) := by decide +kernel
theorem dX10_readTest_154 : decode cX10_readTest 154 = .ok (.aload_n 0, 1) := by decide +kernel
theorem dX10_readTest_155 : decode cX10_readTest 155 = .ok (.getfield 35, 3) := by decide +kernel
theorem dX10_readTest_158 : decode cX10_readTest 158 = .ok (.iconst 3, 1) := by decide +kernel
theorem dX10_readTest_159 : decode cX10_readTest 159 = .ok (.aload_n 0, 1) := by decide +kernel
theorem dX10_readTest_160 : decode cX10_readTest 160 = .ok (.getfield 187, 3) := by decide +kernel
theorem dX10_readTest_163 : decode cX10_readTest 163 = .ok (.imul, 1) := by decide +kernel
theorem dX10_readTest_164 : decode cX10_readTest 164 = .ok (.iconst 2, 1) := by decide +kernel
theorem dX10_readTest_165 : decode cX10_readTest 165 = .ok (.iadd, 1) := by decide +kernel
theorem dX10_readTest_166 : decode cX10_readTest 166 = .ok (.iload_n 3, 1) := by decide +kernel
theorem dX10_readTest_167 : decode cX10_readTest 167 = .ok (.iastore, 1) := by decide +kernel
theorem dX10_readTest_168 : decode cX10_readTest 168 = .ok (.aload_n 0, 1) := by decide +kernel
theorem dX10_readTest_169 : decode cX10_readTest 169 = .ok (.dup, 1) := by decide +kernel
theorem dX10_readTest_170 : decode cX10_readTest 170 = .ok (.getfield 187, 3) := by decide +kernel
theorem dX10_readTest_173 : decode cX10_readTest 173 = .ok (.iconst 1, 1) := by decide +kernel
theorem dX10_readTest_174 : decode cX10_readTest 174 = .ok (.iadd, 1) := by decide +kernel
theorem dX10_readTest_175 : decode cX10_readTest 175 = .ok (.putfield 187, 3) := by decide +kernel
theorem dX10_readTest_178 : decode cX10_readTest 178 = .ok (.return_, 1) := by decide +kernel
def rmX10_readTest : Room := { frames := 4, cells := 0, slots := 0, locals := 84 }
def fX10_readTest_88  (al0 : Nat) (xl1 : Int32) (xs0 : Int32) (as1 : Nat) (h0 : PH) : Option (Unit × PH) :=
    bn (chk 10 as1 h0) fun _ => bn2 (fX10_must as1 xs0 h0) fun _ h7 =>
    bn (chk 10 al0 h7) fun _ => bn2 (fX10_number al0 (0 : Int64) h7) fun x9 h8 =>
    bn (chk 10 al0 h8) fun _ => bn2 (fX10_isWord al0 (116 : Int32) (111 : Int32) (0 : Int32) (0 : Int32) (0 : Int32) (0 : Int32) h8) fun x11 h10 =>
    bn (chk 10 al0 h10) fun _ => bn2 (fX10_must al0 x11 h10) fun _ h12 =>
    bn (chk 10 al0 h12) fun _ => bn2 (fX10_number al0 x9.toInt64 h12) fun x14 h13 =>
    bn (rdI 10 26 al0 h13) fun x15 =>
    if x15 = 0 then (bn (rdR 10 16 al0 h13) fun a16 =>
    bn (rdI 10 14 al0 h13) fun x17 =>
    bn (astI a16 ((3 : Int32) * x17) xl1 h13) fun h18 =>
    bn (rdR 10 16 al0 h18) fun a19 =>
    bn (rdI 10 14 al0 h18) fun x20 =>
    bn (astI a19 (((3 : Int32) * x20) + (1 : Int32)) x9 h18) fun h21 =>
    bn (rdR 10 16 al0 h21) fun a22 =>
    bn (rdI 10 14 al0 h21) fun x23 =>
    bn (astI a22 (((3 : Int32) * x23) + (2 : Int32)) x14 h21) fun h24 =>
    bn (rdI 10 14 al0 h24) fun x25 =>
    bn (wr 10 14 (.int (x25 + (1 : Int32))) al0 h24) fun h26 =>
    some ((), h26)) else
    some ((), h13)
set_option maxHeartbeats 4000000 in
set_option maxRecDepth 100000 in
theorem vfX10_readTest_88 {p : Program} {l : Launch} {e : Env} {s : State} {m : MethodId} {args : Array Value} {below : List Frame} {meth : Method} {c : Code} {G : GX} (C : Cx p s m args meth c G cX10_readTest 4 RX10) (hr : meth.sig.returnType = none) (al0 : Nat) (xl1 : Int32) (xs0 : Int32) (as1 : Nat) (h0 : PH) : J p l e rmX10_readTest s m args below meth c G 4 (qM below args s rvU G 0 0) 0 0 h0 88 [(0, .ref al0), (1, .int xl1)] [.int xs0, .ref as1] (fX10_readTest_88  al0 xl1 xs0 as1 h0) := by
  unfold fX10_readTest_88
  refine J_callVU (pc := 88) (As := [.int xs0]) (rest := []) C (fun z hz => mX10_must as1 xs0 h0 z hz) mwX10_must csX10_must mlX10_176 inX10_must rfl dX10_readTest_88 (by decide) rfl (Nat.le_of_ble_eq_true rfl) (by decide) (fun _ h7 => ?_)
  refine J_aload_n (pc := 91) C dX10_readTest_91 rfl 0 rfl ?_
  refine J_lconst (pc := 92) (v := 0) C dX10_readTest_92 (by decide) ?_
  refine J_callVI (pc := 93) (As := [.long (0 : Int64)]) (rest := []) C (fun z hz => mX10_number al0 (0 : Int64) h7 z hz) mwX10_number csX10_number mlX10_190 inX10_number rfl dX10_readTest_93 (by decide) rfl (Nat.le_of_ble_eq_true rfl) (by decide) (fun x9 h8 => ?_)
  refine J_istore_n (pc := 96) (lv1 := [(2, .int x9), (0, .ref al0), (1, .int xl1)]) C dX10_readTest_96 rfl (by decide) rfl ?_
  refine J_aload_n (pc := 97) C dX10_readTest_97 rfl 1 rfl ?_
  refine J_aload_n (pc := 98) C dX10_readTest_98 rfl 1 rfl ?_
  refine J_bipush (pc := 99) (v := 116) C dX10_readTest_99 (by decide) ?_
  refine J_bipush (pc := 101) (v := 111) C dX10_readTest_101 (by decide) ?_
  refine J_iconst (pc := 103) (v := 0) C dX10_readTest_103 (by decide) ?_
  refine J_iconst (pc := 104) (v := 0) C dX10_readTest_104 (by decide) ?_
  refine J_iconst (pc := 105) (v := 0) C dX10_readTest_105 (by decide) ?_
  refine J_iconst (pc := 106) (v := 0) C dX10_readTest_106 (by decide) ?_
  refine J_callVI (pc := 107) (As := [.int (116 : Int32), .int (111 : Int32), .int (0 : Int32), .int (0 : Int32), .int (0 : Int32), .int (0 : Int32)]) (rest := [.ref al0]) C (fun z hz => mX10_isWord al0 (116 : Int32) (111 : Int32) (0 : Int32) (0 : Int32) (0 : Int32) (0 : Int32) h8 z hz) mwX10_isWord csX10_isWord mlX10_183 inX10_isWord rfl dX10_readTest_107 (by decide) rfl (Nat.le_of_ble_eq_true rfl) (by decide) (fun x11 h10 => ?_)
  refine J_callVU (pc := 110) (As := [.int x11]) (rest := []) C (fun z hz => mX10_must al0 x11 h10 z hz) mwX10_must csX10_must mlX10_176 inX10_must rfl dX10_readTest_110 (by decide) rfl (Nat.le_of_ble_eq_true rfl) (by decide) (fun _ h12 => ?_)
  refine J_aload_n (pc := 113) C dX10_readTest_113 rfl 1 rfl ?_
  refine J_iload_n (pc := 114) C dX10_readTest_114 rfl 0 rfl ?_
  refine J_i2l (pc := 115) C dX10_readTest_115 ?_
  refine J_callVI (pc := 116) (As := [.long x9.toInt64]) (rest := []) C (fun z hz => mX10_number al0 x9.toInt64 h12 z hz) mwX10_number csX10_number mlX10_190 inX10_number rfl dX10_readTest_116 (by decide) rfl (Nat.le_of_ble_eq_true rfl) (by decide) (fun x14 h13 => ?_)
  refine J_istore_n (pc := 119) (lv1 := [(3, .int x14), (2, .int x9), (0, .ref al0), (1, .int xl1)]) C dX10_readTest_119 rfl (by decide) rfl ?_
  refine J_aload_n (pc := 120) C dX10_readTest_120 rfl 2 rfl ?_
  refine J_getI (pc := 121) C flX10_169 dX10_readTest_121 (fun x15 => ?_)
  refine J_if_eq (pc := 124) (tgt := 128) C dX10_readTest_124 (by decide) ?_ ?_
  · refine J_aload_n (pc := 128) C dX10_readTest_128 rfl 2 rfl ?_
    refine J_getR (pc := 129) C flX10_35 dX10_readTest_129 (fun a16 => ?_)
    refine J_iconst (pc := 132) (v := 3) C dX10_readTest_132 (by decide) ?_
    refine J_aload_n (pc := 133) C dX10_readTest_133 rfl 2 rfl ?_
    refine J_getI (pc := 134) C flX10_187 dX10_readTest_134 (fun x17 => ?_)
    refine J_imul (pc := 137) C dX10_readTest_137 ?_
    refine J_iload_n (pc := 138) C dX10_readTest_138 rfl 3 rfl ?_
    refine J_iast (pc := 139) C dX10_readTest_139 (fun h18 => ?_)
    refine J_aload_n (pc := 140) C dX10_readTest_140 rfl 2 rfl ?_
    refine J_getR (pc := 141) C flX10_35 dX10_readTest_141 (fun a19 => ?_)
    refine J_iconst (pc := 144) (v := 3) C dX10_readTest_144 (by decide) ?_
    refine J_aload_n (pc := 145) C dX10_readTest_145 rfl 2 rfl ?_
    refine J_getI (pc := 146) C flX10_187 dX10_readTest_146 (fun x20 => ?_)
    refine J_imul (pc := 149) C dX10_readTest_149 ?_
    refine J_iconst (pc := 150) (v := 1) C dX10_readTest_150 (by decide) ?_
    refine J_iadd (pc := 151) C dX10_readTest_151 ?_
    refine J_iload_n (pc := 152) C dX10_readTest_152 rfl 1 rfl ?_
    refine J_iast (pc := 153) C dX10_readTest_153 (fun h21 => ?_)
    refine J_aload_n (pc := 154) C dX10_readTest_154 rfl 2 rfl ?_
    refine J_getR (pc := 155) C flX10_35 dX10_readTest_155 (fun a22 => ?_)
    refine J_iconst (pc := 158) (v := 3) C dX10_readTest_158 (by decide) ?_
    refine J_aload_n (pc := 159) C dX10_readTest_159 rfl 2 rfl ?_
    refine J_getI (pc := 160) C flX10_187 dX10_readTest_160 (fun x23 => ?_)
    refine J_imul (pc := 163) C dX10_readTest_163 ?_
    refine J_iconst (pc := 164) (v := 2) C dX10_readTest_164 (by decide) ?_
    refine J_iadd (pc := 165) C dX10_readTest_165 ?_
    refine J_iload_n (pc := 166) C dX10_readTest_166 rfl 0 rfl ?_
    refine J_iast (pc := 167) C dX10_readTest_167 (fun h24 => ?_)
    refine J_aload_n (pc := 168) C dX10_readTest_168 rfl 2 rfl ?_
    refine J_dup (pc := 169) C dX10_readTest_169 rfl ?_
    refine J_getI (pc := 170) C flX10_187 dX10_readTest_170 (fun x25 => ?_)
    refine J_iconst (pc := 173) (v := 1) C dX10_readTest_173 (by decide) ?_
    refine J_iadd (pc := 174) C dX10_readTest_174 ?_
    refine J_put (pc := 175) C flX10_187 cl10 ft10_14 rfl rfl dX10_readTest_175 (fun h26 => ?_)
    exact J_vret (pc := 178) C hr dX10_readTest_178
  · exact J_vret (pc := 127) C hr dX10_readTest_127
def fX10_readTest_87  (al0 : Nat) (xl1 : Int32) (as0 : Nat) (h0 : PH) : Option (Unit × PH) :=
    fX10_readTest_88  al0 xl1 (0 : Int32) as0 h0
set_option maxHeartbeats 4000000 in
set_option maxRecDepth 100000 in
theorem vfX10_readTest_87 {p : Program} {l : Launch} {e : Env} {s : State} {m : MethodId} {args : Array Value} {below : List Frame} {meth : Method} {c : Code} {G : GX} (C : Cx p s m args meth c G cX10_readTest 4 RX10) (hr : meth.sig.returnType = none) (al0 : Nat) (xl1 : Int32) (as0 : Nat) (h0 : PH) : J p l e rmX10_readTest s m args below meth c G 4 (qM below args s rvU G 0 0) 0 0 h0 87 [(0, .ref al0), (1, .int xl1)] [.ref as0] (fX10_readTest_87  al0 xl1 as0 h0) := by
  unfold fX10_readTest_87
  refine J_iconst (pc := 87) (v := 0) C dX10_readTest_87 (by decide) ?_
  exact vfX10_readTest_88 C hr  al0 xl1 (0 : Int32) as0 h0
def fX10_readTest_68  (al0 : Nat) (xs0 : Int32) (h0 : PH) : Option (Unit × PH) :=
    if xs0 < 0 then (fX10_readTest_87  al0 xs0 al0 h0) else
    bn (rdI 10 14 al0 h0) fun x27 =>
    if (30 : Int32) ≤ x27 then (fX10_readTest_87  al0 xs0 al0 h0) else
    fX10_readTest_88  al0 xs0 (1 : Int32) al0 h0
set_option maxHeartbeats 4000000 in
set_option maxRecDepth 100000 in
theorem vfX10_readTest_68 {p : Program} {l : Launch} {e : Env} {s : State} {m : MethodId} {args : Array Value} {below : List Frame} {meth : Method} {c : Code} {G : GX} (C : Cx p s m args meth c G cX10_readTest 4 RX10) (hr : meth.sig.returnType = none) (al0 : Nat) (xs0 : Int32) (h0 : PH) : J p l e rmX10_readTest s m args below meth c G 4 (qM below args s rvU G 0 0) 0 0 h0 68 [(0, .ref al0)] [.int xs0] (fX10_readTest_68  al0 xs0 h0) := by
  unfold fX10_readTest_68
  refine J_istore_n (pc := 68) (lv1 := [(1, .int xs0), (0, .ref al0)]) C dX10_readTest_68 rfl (by decide) rfl ?_
  refine J_aload_n (pc := 69) C dX10_readTest_69 rfl 1 rfl ?_
  refine J_iload_n (pc := 70) C dX10_readTest_70 rfl 0 rfl ?_
  refine J_if_lt (pc := 71) (tgt := 87) C dX10_readTest_71 (by decide) ?_ ?_
  · refine J_sub [1, 0] rfl ?_
    exact vfX10_readTest_87 C hr  al0 xs0 al0 h0
  · refine J_aload_n (pc := 74) C dX10_readTest_74 rfl 1 rfl ?_
    refine J_getI (pc := 75) C flX10_187 dX10_readTest_75 (fun x27 => ?_)
    refine J_bipush (pc := 78) (v := 30) C dX10_readTest_78 (by decide) ?_
    refine J_icmp_ge (pc := 80) (tgt := 87) C dX10_readTest_80 (by decide) ?_ ?_
    · refine J_sub [1, 0] rfl ?_
      exact vfX10_readTest_87 C hr  al0 xs0 al0 h0
    · refine J_iconst (pc := 83) (v := 1) C dX10_readTest_83 (by decide) ?_
      refine J_goto (pc := 84) (tgt := 88) C dX10_readTest_84 (by decide) ?_
      refine J_sub [1, 0] rfl ?_
      exact vfX10_readTest_88 C hr  al0 xs0 (1 : Int32) al0 h0
def fX10_readTest  (a0 : Nat) (h0 : PH) : Option (Unit × PH) :=
    bn (chk 10 a0 h0) fun _ => bn2 (fX10_isWord a0 (103 : Int32) (111 : Int32) (108 : Int32) (100 : Int32) (0 : Int32) (0 : Int32) h0) fun x2 h1 =>
    if x2 = 0 then (bn (chk 10 a0 h1) fun _ => bn2 (fX10_isWord a0 (115 : Int32) (105 : Int32) (108 : Int32) (118 : Int32) (101 : Int32) (114 : Int32) h1) fun x4 h3 =>
    if x4 = 0 then (bn (chk 10 a0 h3) fun _ => bn2 (fX10_isWord a0 (99 : Int32) (111 : Int32) (112 : Int32) (112 : Int32) (101 : Int32) (114 : Int32) h3) fun x6 h5 =>
    if x6 = 0 then (fX10_readTest_68  a0 (-1 : Int32) h5) else
    fX10_readTest_68  a0 (2 : Int32) h5) else
    fX10_readTest_68  a0 (1 : Int32) h3) else
    fX10_readTest_68  a0 (0 : Int32) h1
set_option maxHeartbeats 4000000 in
set_option maxRecDepth 100000 in
theorem vfX10_readTest {p : Program} {l : Launch} {e : Env} {s : State} {m : MethodId} {args : Array Value} {below : List Frame} {meth : Method} {c : Code} {G : GX} (C : Cx p s m args meth c G cX10_readTest 4 RX10) (hr : meth.sig.returnType = none) (a0 : Nat) (h0 : PH) : J p l e rmX10_readTest s m args below meth c G 4 (qM below args s rvU G 0 0) 0 0 h0 0 [(0, .ref a0)] [] (fX10_readTest  a0 h0) := by
  unfold fX10_readTest
  refine J_aload_n (pc := 0) C dX10_readTest_0 rfl 0 rfl ?_
  refine J_bipush (pc := 1) (v := 103) C dX10_readTest_1 (by decide) ?_
  refine J_bipush (pc := 3) (v := 111) C dX10_readTest_3 (by decide) ?_
  refine J_bipush (pc := 5) (v := 108) C dX10_readTest_5 (by decide) ?_
  refine J_bipush (pc := 7) (v := 100) C dX10_readTest_7 (by decide) ?_
  refine J_iconst (pc := 9) (v := 0) C dX10_readTest_9 (by decide) ?_
  refine J_iconst (pc := 10) (v := 0) C dX10_readTest_10 (by decide) ?_
  refine J_callVI (pc := 11) (As := [.int (103 : Int32), .int (111 : Int32), .int (108 : Int32), .int (100 : Int32), .int (0 : Int32), .int (0 : Int32)]) (rest := []) C (fun z hz => mX10_isWord a0 (103 : Int32) (111 : Int32) (108 : Int32) (100 : Int32) (0 : Int32) (0 : Int32) h0 z hz) mwX10_isWord csX10_isWord mlX10_183 inX10_isWord rfl dX10_readTest_11 (by decide) rfl (Nat.le_of_ble_eq_true rfl) (by decide) (fun x2 h1 => ?_)
  refine J_if_eq (pc := 14) (tgt := 21) C dX10_readTest_14 (by decide) ?_ ?_
  · refine J_aload_n (pc := 21) C dX10_readTest_21 rfl 0 rfl ?_
    refine J_bipush (pc := 22) (v := 115) C dX10_readTest_22 (by decide) ?_
    refine J_bipush (pc := 24) (v := 105) C dX10_readTest_24 (by decide) ?_
    refine J_bipush (pc := 26) (v := 108) C dX10_readTest_26 (by decide) ?_
    refine J_bipush (pc := 28) (v := 118) C dX10_readTest_28 (by decide) ?_
    refine J_bipush (pc := 30) (v := 101) C dX10_readTest_30 (by decide) ?_
    refine J_bipush (pc := 32) (v := 114) C dX10_readTest_32 (by decide) ?_
    refine J_callVI (pc := 34) (As := [.int (115 : Int32), .int (105 : Int32), .int (108 : Int32), .int (118 : Int32), .int (101 : Int32), .int (114 : Int32)]) (rest := []) C (fun z hz => mX10_isWord a0 (115 : Int32) (105 : Int32) (108 : Int32) (118 : Int32) (101 : Int32) (114 : Int32) h1 z hz) mwX10_isWord csX10_isWord mlX10_183 inX10_isWord rfl dX10_readTest_34 (by decide) rfl (Nat.le_of_ble_eq_true rfl) (by decide) (fun x4 h3 => ?_)
    refine J_if_eq (pc := 37) (tgt := 44) C dX10_readTest_37 (by decide) ?_ ?_
    · refine J_aload_n (pc := 44) C dX10_readTest_44 rfl 0 rfl ?_
      refine J_bipush (pc := 45) (v := 99) C dX10_readTest_45 (by decide) ?_
      refine J_bipush (pc := 47) (v := 111) C dX10_readTest_47 (by decide) ?_
      refine J_bipush (pc := 49) (v := 112) C dX10_readTest_49 (by decide) ?_
      refine J_bipush (pc := 51) (v := 112) C dX10_readTest_51 (by decide) ?_
      refine J_bipush (pc := 53) (v := 101) C dX10_readTest_53 (by decide) ?_
      refine J_bipush (pc := 55) (v := 114) C dX10_readTest_55 (by decide) ?_
      refine J_callVI (pc := 57) (As := [.int (99 : Int32), .int (111 : Int32), .int (112 : Int32), .int (112 : Int32), .int (101 : Int32), .int (114 : Int32)]) (rest := []) C (fun z hz => mX10_isWord a0 (99 : Int32) (111 : Int32) (112 : Int32) (112 : Int32) (101 : Int32) (114 : Int32) h3 z hz) mwX10_isWord csX10_isWord mlX10_183 inX10_isWord rfl dX10_readTest_57 (by decide) rfl (Nat.le_of_ble_eq_true rfl) (by decide) (fun x6 h5 => ?_)
      refine J_if_eq (pc := 60) (tgt := 67) C dX10_readTest_60 (by decide) ?_ ?_
      · refine J_iconst (pc := 67) (v := -1) C dX10_readTest_67 (by decide) ?_
        exact vfX10_readTest_68 C hr  a0 (-1 : Int32) h5
      · refine J_iconst (pc := 63) (v := 2) C dX10_readTest_63 (by decide) ?_
        refine J_goto (pc := 64) (tgt := 68) C dX10_readTest_64 (by decide) ?_
        exact vfX10_readTest_68 C hr  a0 (2 : Int32) h5
    · refine J_iconst (pc := 40) (v := 1) C dX10_readTest_40 (by decide) ?_
      refine J_goto (pc := 41) (tgt := 68) C dX10_readTest_41 (by decide) ?_
      exact vfX10_readTest_68 C hr  a0 (1 : Int32) h3
  · refine J_iconst (pc := 17) (v := 0) C dX10_readTest_17 (by decide) ?_
    refine J_goto (pc := 18) (tgt := 68) C dX10_readTest_18 (by decide) ?_
    exact vfX10_readTest_68 C hr  a0 (0 : Int32) h1
theorem mX10_readTest {l : Launch} {G : GX} (a0 : Nat) (h0 : PH) : ∀ z, fX10_readTest a0 h0 = some z → MC l G yX10_readTest cX10_readTest 4 none rmX10_readTest [.ref a0] h0 (rvU z.1) z.2 :=
  Met_J (own := RX10) (by decide) rfl (Nat.le_of_ble_eq_true rfl) (fun p e s m args below meth c C hr hn => vfX10_readTest C hr a0 h0)

