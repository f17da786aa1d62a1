theorem dX10_bind_0 : decode cX10_bind 0 = .ok (.aload_n 0, 1) := by decide +kernel
theorem dX10_bind_1 : decode cX10_bind 1 = .ok (.iconst 0, 1) := by decide +kernel
theorem dX10_bind_2 : decode cX10_bind 2 = .ok (.putfield 90, 3) := by decide +kernel
theorem dX10_bind_5 : decode cX10_bind 5 = .ok (.iload_n 1, 1) := by decide +kernel
theorem dX10_bind_6 : decode cX10_bind 6 = .ok (.i2l, 1) := by decide +kernel
theorem dX10_bind_7 : decode cX10_bind 7 = .ok (.lconst 1, 1) := by decide +kernel
theorem dX10_bind_8 : decode cX10_bind 8 = .ok (.ldc2_w 228, 3) := by decide +kernel
theorem dX10_bind_11 : decode cX10_bind 11 = .ok (.invokestatic 99, 3) := by decide +kernel
theorem dX10_bind_14 : decode cX10_bind 14 = .ok (.ifCond .ne 9, 3) := by decide +kernel
theorem dX10_bind_17 : decode cX10_bind 17 = .ok (.aload_n 0, 1) := by decide +kernel
theorem dX10_bind_18 : decode cX10_bind 18 = .ok (.iconst (-1), 1) := by decide +kernel
theorem dX10_bind_19 : decode cX10_bind 19 = .ok (.invokevirtual 107, 3) := by decide +kernel
theorem dX10_bind_22 : decode cX10_bind 22 = .ok (.ireturn, 1) := by decide +kernel
theorem dX10_bind_23 : decode cX10_bind 23 = .ok (.iconst 0, 1) := by decide +kernel
theorem dX10_bind_24 : decode cX10_bind 24 = .ok (.istore_n 2, 1) := by decide +kernel
theorem dX10_bind_25 : decode cX10_bind 25 = .ok (.iconst 0, 1) := by decide +kernel
theorem dX10_bind_26 : decode cX10_bind 26 = .ok (.istore_n 3, 1) := by decide +kernel
theorem dX10_bind_27 : decode cX10_bind 27 = .ok (.iload_n 3, 1) := by decide +kernel
theorem dX10_bind_28 : decode cX10_bind 28 = .ok (.aload_n 0, 1) := by decide +kernel
theorem dX10_bind_29 : decode cX10_bind 29 = .ok (.getfield 96, 3) := by decide +kernel
theorem dX10_bind_32 : decode cX10_bind 32 = .ok (.if_icmp .ge 35, 3) := by decide +kernel
theorem dX10_bind_35 : decode cX10_bind 35 = .ok (.iload_n 2, 1) := by decide +kernel
theorem dX10_bind_36 : decode cX10_bind 36 = .ok (.aload_n 0, 1) := by decide +kernel
theorem dX10_bind_37 : decode cX10_bind 37 = .ok (.iload_n 3, 1) := by decide +kernel
theorem dX10_bind_38 : decode cX10_bind 38 = .ok (.invokevirtual 124, 3) := by decide +kernel
theorem dX10_bind_41 : decode cX10_bind 41 = .ok (.ifCond .eq 17, 3) := by decide +kernel
theorem dX10_bind_44 : decode cX10_bind 44 = .ok (.aload_n 0, 1) := by decide +kernel
theorem dX10_bind_45 : decode cX10_bind 45 = .ok (.getfield 23, 3) := by decide +kernel
theorem dX10_bind_48 : decode cX10_bind 48 = .ok (.iload_n 3, 1) := by decide +kernel
theorem dX10_bind_49 : decode cX10_bind 49 = .ok (.iaload, 1) := by decide +kernel
theorem dX10_bind_50 : decode cX10_bind 50 = .ok (.iconst (-1), 1) := by decide +kernel
theorem dX10_bind_51 : decode cX10_bind 51 = .ok (.if_icmp .ne 7, 3) := by decide +kernel
theorem dX10_bind_54 : decode cX10_bind 54 = .ok (.iconst 1, 1) := by decide +kernel
theorem dX10_bind_55 : decode cX10_bind 55 = .ok (.goto 4, 3) := by decide +kernel
theorem dX10_bind_58 : decode cX10_bind 58 = .ok (.iconst 0, 1) := by decide +kernel
theorem dX10_bind_59 : decode cX10_bind 59 = .ok (.iadd, 1) := by decide +kernel
theorem dX10_bind_60 : decode cX10_bind 60 = .ok (.istore_n 2, 1) := by decide +kernel
theorem dX10_bind_61 : decode cX10_bind 61 = .ok (.iinc 3 1, 3) := by decide +kernel
theorem dX10_bind_64 : decode cX10_bind 64 = .ok (.goto (-37), 3) := by decide +kernel
theorem dX10_bind_67 : decode cX10_bind 67 = .ok (.iload_n 2, 1) := by decide +kernel
theorem dX10_bind_68 : decode cX10_bind 68 = .ok (.iload_n 1, 1) := by decide +kernel
theorem dX10_bind_69 : decode cX10_bind 69 = .ok (.idiv, 1) := by decide +kernel
theorem dX10_bind_70 : decode cX10_bind 70 = .ok (.istore_n 3, 1) := by decide +kernel
theorem dX10_bind_71 : decode cX10_bind 71 = .ok (.iload_n 3, 1) := by decide +kernel
theorem dX10_bind_72 : decode cX10_bind 72 = .ok (.iload_n 1, 1) := by decide +kernel
theorem dX10_bind_73 : decode cX10_bind 73 = .ok (.imul, 1) := by decide +kernel
theorem dX10_bind_74 : decode cX10_bind 74 = .ok (.istore 4, 2) := by decide +kernel
theorem dX10_bind_76 : decode cX10_bind 76 = .ok (.iconst 0, 1) := by decide +kernel
theorem dX10_bind_77 : decode cX10_bind 77 = .ok (.istore 5, 2) := by decide +kernel
theorem dX10_bind_79 : decode cX10_bind 79 = .ok (.iload 5, 2) := by decide +kernel
theorem dX10_bind_81 : decode cX10_bind 81 = .ok (.aload_n 0, 1) := by decide +kernel
theorem dX10_bind_82 : decode cX10_bind 82 = .ok (.getfield 96, 3) := by decide +kernel
theorem dX10_bind_85 : decode cX10_bind 85 = .ok (.if_icmp .ge 57, 3) := by decide +kernel
theorem dX10_bind_88 : decode cX10_bind 88 = .ok (.iload 4, 2) := by decide +kernel
theorem dX10_bind_90 : decode cX10_bind 90 = .ok (.ifCond .le 52, 3) := by decide +kernel
theorem dX10_bind_93 : decode cX10_bind 93 = .ok (.aload_n 0, 1) := by decide +kernel
theorem dX10_bind_94 : decode cX10_bind 94 = .ok (.iload 5, 2) := by decide +kernel
theorem dX10_bind_96 : decode cX10_bind 96 = .ok (.invokevirtual 124, 3) := by decide +kernel
theorem dX10_bind_99 : decode cX10_bind 99 = .ok (.ifCond .eq 37, 3) := by decide +kernel
theorem dX10_bind_102 : decode cX10_bind 102 = .ok (.aload_n 0, 1) := by decide +kernel
theorem dX10_bind_103 : decode cX10_bind 103 = .ok (.getfield 23, 3) := by decide +kernel
theorem dX10_bind_106 : decode cX10_bind 106 = .ok (.iload 5, 2) := by decide +kernel
theorem dX10_bind_108 : decode cX10_bind 108 = .ok (.iaload, 1) := by decide +kernel
theorem dX10_bind_109 : decode cX10_bind 109 = .ok (.iconst (-1), 1) := by decide +kernel
theorem dX10_bind_110 : decode cX10_bind 110 = .ok (.if_icmp .ne 26, 3) := by decide +kernel
theorem dX10_bind_113 : decode cX10_bind 113 = .ok (.aload_n 0, 1) := by decide +kernel
theorem dX10_bind_114 : decode cX10_bind 114 = .ok (.getfield 23, 3) := by decide +kernel
theorem dX10_bind_117 : decode cX10_bind 117 = .ok (.iload 5, 2) := by decide +kernel
theorem dX10_bind_119 : decode cX10_bind 119 = .ok (.aload_n 0, 1) := by decide +kernel
theorem dX10_bind_120 : decode cX10_bind 120 = .ok (.getfield 230, 3) := by decide +kernel
theorem dX10_bind_123 : decode cX10_bind 123 = .ok (.iload_n 3, 1) := by decide +kernel
theorem dX10_bind_124 : decode cX10_bind 124 = .ok (.iload_n 1, 1) := by decide +kernel
theorem dX10_bind_125 : decode cX10_bind 125 = .ok (.imul, 1) := by decide +kernel
theorem dX10_bind_126 : decode cX10_bind 126 = .ok (.iload 4, 2) := by decide +kernel
theorem dX10_bind_128 : decode cX10_bind 128 = .ok (.isub, 1) := by decide +kernel
theorem dX10_bind_129 : decode cX10_bind 129 = .ok (.iload_n 1, 1) := by decide +kernel
theorem dX10_bind_130 : decode cX10_bind 130 = .ok (.idiv, 1) := by decide +kernel
theorem dX10_bind_131 : decode cX10_bind 131 = .ok (.iadd, 1) := by decide +kernel
theorem dX10_bind_132 : decode cX10_bind 132 = .ok (.iastore, 1) := by decide +kernel
theorem dX10_bind_133 : decode cX10_bind 133 = .ok (.iinc 4 (-1), 3) := by decide +kernel
theorem dX10_bind_136 : decode cX10_bind 136 = .ok (.iinc 5 1, 3) := by decide +kernel
theorem dX10_bind_139 : decode cX10_bind 139 = .ok (.goto (-60), 3) := by decide +kernel
theorem dX10_bind_142 : decode cX10_bind 142 = .ok (.aload_n 0, 1) := by decide +kernel
theorem dX10_bind_143 : decode cX10_bind 143 = .ok (.dup, 1) := by decide +kernel
theorem dX10_bind_144 : decode cX10_bind 144 = .ok (.getfield 230, 3) := by decide +kernel
theorem dX10_bind_147 : decode cX10_bind 147 = .ok (.iload_n 3, 1) := by decide +kernel
theorem dX10_bind_148 : decode cX10_bind 148 = .ok (.iadd, 1) := by decide +kernel
theorem dX10_bind_149 : decode cX10_bind 149 = .ok (.putfield 230, 3) := by decide +kernel
theorem dX10_bind_152 : decode cX10_bind 152 = .ok (.aload_n 0, 1) := by decide +kernel
theorem dX10_bind_153 : decode cX10_bind 153 = .ok (.iload_n 3, 1) := by decide +kernel
theorem dX10_bind_154 : decode cX10_bind 154 = .ok (.invokevirtual 107, 3) := by decide +kernel
theorem dX10_bind_157 : decode cX10_bind 157 = .ok (.ireturn, 1) := by decide +kernel
def rmX10_bind : Room := { frames := 1, cells := 0, slots := 0, locals := 25 }
def fX10_bind_136 (r79 : Nat → Int32 → Int32 → Int32 → Int32 → PH → Option (Int32 × PH)) (al0 : Nat) (xl1 : Int32) (xl3 : Int32) (xl4 : Int32) (xl5 : Int32) (h0 : PH) : Option (Int32 × PH) :=
    r79 al0 xl1 xl3 xl4 (xl5 + 1) h0
set_option maxHeartbeats 4000000 in
set_option maxRecDepth 100000 in
theorem vfX10_bind_136 {p : Program} {l : Launch} {e : Env} {s : State} {m : MethodId} {args : Array Value} {below : List Frame} {meth : Method} {c : Code} {G : GX} (C : Cx p s m args meth c G cX10_bind 6 RX10) (hr : meth.sig.returnType = (some .int)) {r79 : Nat → Int32 → Int32 → Int32 → Int32 → PH → Option (Int32 × PH)} (k79 : ∀ (al0 : Nat) (xl1 : Int32) (xl3 : Int32) (xl4 : Int32) (xl5 : Int32) (h0 : PH), J p l e rmX10_bind s m args below meth c G 6 (qM below args s rvI G 0 0) 0 0 h0 79 [(0, .ref al0), (1, .int xl1), (3, .int xl3), (4, .int xl4), (5, .int xl5)] [] (r79 al0 xl1 xl3 xl4 xl5 h0)) (al0 : Nat) (xl1 : Int32) (xl3 : Int32) (xl4 : Int32) (xl5 : Int32) (h0 : PH) : J p l e rmX10_bind s m args below meth c G 6 (qM below args s rvI G 0 0) 0 0 h0 136 [(0, .ref al0), (1, .int xl1), (3, .int xl3), (4, .int xl4), (5, .int xl5)] [] (fX10_bind_136 r79 al0 xl1 xl3 xl4 xl5 h0) := by
  unfold fX10_bind_136
  refine J_iinc (pc := 136) (v := (xl5 + 1)) (lv1 := [(5, .int (xl5 + 1)), (0, .ref al0), (1, .int xl1), (3, .int xl3), (4, .int xl4)]) C dX10_bind_136 4 rfl rfl (by decide) rfl ?_
  refine J_goto (pc := 139) (tgt := 79) C dX10_bind_139 (by decide) ?_
  refine J_sub [1, 2, 3, 4, 0] rfl ?_
  exact k79 al0 xl1 xl3 xl4 (xl5 + 1) h0
def fX10_bind_79  : Nat → Nat → Int32 → Int32 → Int32 → Int32 → PH → Option (Int32 × PH)
  | 0, _, _, _, _, _, _ => none
  | n + 1, al0, xl1, xl3, xl4, xl5, h0 =>
    bn (rdI 10 4 al0 h0) fun x7 =>
    if x7 ≤ xl5 then (bn (rdI 10 9 al0 h0) fun x8 =>
    bn (wr 10 9 (.int (x8 + xl3)) al0 h0) fun h9 =>
    bn (chk 10 al0 h9) fun _ => bn2 (fX10_told al0 xl3 h9) fun x11 h10 =>
    some (x11, h10)) else
    if xl4 ≤ 0 then (bn (rdI 10 9 al0 h0) fun x12 =>
    bn (wr 10 9 (.int (x12 + xl3)) al0 h0) fun h13 =>
    bn (chk 10 al0 h13) fun _ => bn2 (fX10_told al0 xl3 h13) fun x15 h14 =>
    some (x15, h14)) else
    bn (chk 10 al0 h0) fun _ => bn2 (fX10_isLeaf al0 xl5 h0) fun x17 h16 =>
    if x17 = 0 then (fX10_bind_136 (fX10_bind_79 n) al0 xl1 xl3 xl4 xl5 h16) else
    bn (rdR 10 8 al0 h16) fun a18 =>
    bn (aldI 0 a18 xl5 h16) fun x19 =>
    if x19 = (-1 : Int32) then (bn (rdR 10 8 al0 h16) fun a20 =>
    bn (rdI 10 9 al0 h16) fun x21 =>
    if xl1 = 0 then none else
    bn (astI a20 xl5 (x21 + (((xl3 * xl1) - xl4) / xl1)) h16) fun h22 =>
    fX10_bind_136 (fX10_bind_79 n) al0 xl1 xl3 (xl4 + (-1)) xl5 h22) else
    fX10_bind_136 (fX10_bind_79 n) al0 xl1 xl3 xl4 xl5 h16
set_option maxHeartbeats 4000000 in
set_option maxRecDepth 100000 in
theorem vfX10_bind_79 {p : Program} {l : Launch} {e : Env} {s : State} {m : MethodId} {args : Array Value} {below : List Frame} {meth : Method} {c : Code} {G : GX} (C : Cx p s m args meth c G cX10_bind 6 RX10) (hr : meth.sig.returnType = (some .int)) : ∀ (n : Nat) (al0 : Nat) (xl1 : Int32) (xl3 : Int32) (xl4 : Int32) (xl5 : Int32) (h0 : PH), J p l e rmX10_bind s m args below meth c G 6 (qM below args s rvI G 0 0) 0 0 h0 79 [(0, .ref al0), (1, .int xl1), (3, .int xl3), (4, .int xl4), (5, .int xl5)] [] (fX10_bind_79  n al0 xl1 xl3 xl4 xl5 h0) := by
  intro n
  induction n with
  | zero => exact fun al0 xl1 xl3 xl4 xl5 h0 => J_none C
  | succ n ih =>
    intro al0 xl1 xl3 xl4 xl5 h0
    unfold fX10_bind_79
    refine J_iload (pc := 79) C dX10_bind_79 4 rfl ?_
    refine J_aload_n (pc := 81) C dX10_bind_81 rfl 0 rfl ?_
    refine J_getI (pc := 82) C flX10_96 dX10_bind_82 (fun x7 => ?_)
    refine J_icmp_ge (pc := 85) (tgt := 142) C dX10_bind_85 (by decide) ?_ ?_
    · refine J_aload_n (pc := 142) C dX10_bind_142 rfl 0 rfl ?_
      refine J_dup (pc := 143) C dX10_bind_143 rfl ?_
      refine J_getI (pc := 144) C flX10_230 dX10_bind_144 (fun x8 => ?_)
      refine J_iload_n (pc := 147) C dX10_bind_147 rfl 2 rfl ?_
      refine J_iadd (pc := 148) C dX10_bind_148 ?_
      refine J_put (pc := 149) C flX10_230 cl10 ft10_9 rfl rfl dX10_bind_149 (fun h9 => ?_)
      refine J_aload_n (pc := 152) C dX10_bind_152 rfl 0 rfl ?_
      refine J_iload_n (pc := 153) C dX10_bind_153 rfl 2 rfl ?_
      refine J_callVI (pc := 154) (As := [.int xl3]) (rest := []) C (fun z hz => mX10_told al0 xl3 h9 z hz) mwX10_told csX10_told mlX10_107 inX10_told rfl dX10_bind_154 (by decide) rfl (Nat.le_of_ble_eq_true rfl) (by decide) (fun x11 h10 => ?_)
      exact J_iret (pc := 157) C hr dX10_bind_157
    · refine J_iload (pc := 88) C dX10_bind_88 3 rfl ?_
      refine J_if_le (pc := 90) (tgt := 142) C dX10_bind_90 (by decide) ?_ ?_
      · refine J_aload_n (pc := 142) C dX10_bind_142 rfl 0 rfl ?_
        refine J_dup (pc := 143) C dX10_bind_143 rfl ?_
        refine J_getI (pc := 144) C flX10_230 dX10_bind_144 (fun x12 => ?_)
        refine J_iload_n (pc := 147) C dX10_bind_147 rfl 2 rfl ?_
        refine J_iadd (pc := 148) C dX10_bind_148 ?_
        refine J_put (pc := 149) C flX10_230 cl10 ft10_9 rfl rfl dX10_bind_149 (fun h13 => ?_)
        refine J_aload_n (pc := 152) C dX10_bind_152 rfl 0 rfl ?_
        refine J_iload_n (pc := 153) C dX10_bind_153 rfl 2 rfl ?_
        refine J_callVI (pc := 154) (As := [.int xl3]) (rest := []) C (fun z hz => mX10_told al0 xl3 h13 z hz) mwX10_told csX10_told mlX10_107 inX10_told rfl dX10_bind_154 (by decide) rfl (Nat.le_of_ble_eq_true rfl) (by decide) (fun x15 h14 => ?_)
        exact J_iret (pc := 157) C hr dX10_bind_157
      · refine J_aload_n (pc := 93) C dX10_bind_93 rfl 0 rfl ?_
        refine J_iload (pc := 94) C dX10_bind_94 4 rfl ?_
        refine J_callVI (pc := 96) (As := [.int xl5]) (rest := []) C (fun z hz => mX10_isLeaf al0 xl5 h0 z hz) mwX10_isLeaf csX10_isLeaf mlX10_124 inX10_isLeaf rfl dX10_bind_96 (by decide) rfl (Nat.le_of_ble_eq_true rfl) (by decide) (fun x17 h16 => ?_)
        refine J_if_eq (pc := 99) (tgt := 136) C dX10_bind_99 (by decide) ?_ ?_
        · exact vfX10_bind_136 C hr ih al0 xl1 xl3 xl4 xl5 h16
        · refine J_aload_n (pc := 102) C dX10_bind_102 rfl 0 rfl ?_
          refine J_getR (pc := 103) C flX10_23 dX10_bind_103 (fun a18 => ?_)
          refine J_iload (pc := 106) C dX10_bind_106 4 rfl ?_
          refine J_iald (pc := 108) C dX10_bind_108 (fun x19 => ?_)
          refine J_iconst (pc := 109) (v := -1) C dX10_bind_109 (by decide) ?_
          refine J_icmp_ne (pc := 110) (tgt := 136) C dX10_bind_110 (by decide) ?_ ?_
          · exact vfX10_bind_136 C hr ih al0 xl1 xl3 xl4 xl5 h16
          · refine J_aload_n (pc := 113) C dX10_bind_113 rfl 0 rfl ?_
            refine J_getR (pc := 114) C flX10_23 dX10_bind_114 (fun a20 => ?_)
            refine J_iload (pc := 117) C dX10_bind_117 4 rfl ?_
            refine J_aload_n (pc := 119) C dX10_bind_119 rfl 0 rfl ?_
            refine J_getI (pc := 120) C flX10_230 dX10_bind_120 (fun x21 => ?_)
            refine J_iload_n (pc := 123) C dX10_bind_123 rfl 2 rfl ?_
            refine J_iload_n (pc := 124) C dX10_bind_124 rfl 1 rfl ?_
            refine J_imul (pc := 125) C dX10_bind_125 ?_
            refine J_iload (pc := 126) C dX10_bind_126 3 rfl ?_
            refine J_isub (pc := 128) C dX10_bind_128 ?_
            refine J_iload_n (pc := 129) C dX10_bind_129 rfl 1 rfl ?_
            refine J_idiv (pc := 130) C dX10_bind_130 ?_
            refine J_iadd (pc := 131) C dX10_bind_131 ?_
            refine J_iast (pc := 132) C dX10_bind_132 (fun h22 => ?_)
            refine J_iinc (pc := 133) (v := (xl4 + (-1))) (lv1 := [(4, .int (xl4 + (-1))), (0, .ref al0), (1, .int xl1), (3, .int xl3), (5, .int xl5)]) C dX10_bind_133 3 rfl rfl (by decide) rfl ?_
            refine J_sub [1, 2, 3, 0, 4] rfl ?_
            exact vfX10_bind_136 C hr ih al0 xl1 xl3 (xl4 + (-1)) xl5 h22
def fX10_bind_59 (r27 : Nat → Int32 → Int32 → Int32 → PH → Option (Int32 × PH)) (al0 : Nat) (xl1 : Int32) (xl3 : Int32) (xs0 : Int32) (xs1 : Int32) (h0 : PH) : Option (Int32 × PH) :=
    nm (xs1 + xs0) fun x25 =>
    r27 al0 xl1 x25 (xl3 + 1) h0
set_option maxHeartbeats 4000000 in
set_option maxRecDepth 100000 in
theorem vfX10_bind_59 {p : Program} {l : Launch} {e : Env} {s : State} {m : MethodId} {args : Array Value} {below : List Frame} {meth : Method} {c : Code} {G : GX} (C : Cx p s m args meth c G cX10_bind 6 RX10) (hr : meth.sig.returnType = (some .int)) {r27 : Nat → Int32 → Int32 → Int32 → PH → Option (Int32 × PH)} (k27 : ∀ (al0 : Nat) (xl1 : Int32) (xl2 : Int32) (xl3 : Int32) (h0 : PH), J p l e rmX10_bind s m args below meth c G 6 (qM below args s rvI G 0 0) 0 0 h0 27 [(0, .ref al0), (1, .int xl1), (2, .int xl2), (3, .int xl3)] [] (r27 al0 xl1 xl2 xl3 h0)) (al0 : Nat) (xl1 : Int32) (xl3 : Int32) (xs0 : Int32) (xs1 : Int32) (h0 : PH) : J p l e rmX10_bind s m args below meth c G 6 (qM below args s rvI G 0 0) 0 0 h0 59 [(0, .ref al0), (1, .int xl1), (3, .int xl3)] [.int xs0, .int xs1] (fX10_bind_59 r27 al0 xl1 xl3 xs0 xs1 h0) := by
  unfold fX10_bind_59
  refine J_iadd (pc := 59) C dX10_bind_59 ?_
  refine J_nm (fv := .int) (fun x25 => ?_)
  refine J_istore_n (pc := 60) (lv1 := [(2, .int x25), (0, .ref al0), (1, .int xl1), (3, .int xl3)]) C dX10_bind_60 rfl (by decide) rfl ?_
  refine J_iinc (pc := 61) (v := (xl3 + 1)) (lv1 := [(3, .int (xl3 + 1)), (2, .int x25), (0, .ref al0), (1, .int xl1)]) C dX10_bind_61 3 rfl rfl (by decide) rfl ?_
  refine J_goto (pc := 64) (tgt := 27) C dX10_bind_64 (by decide) ?_
  refine J_sub [2, 3, 1, 0] rfl ?_
  exact k27 al0 xl1 x25 (xl3 + 1) h0
def fX10_bind_58 (r27 : Nat → Int32 → Int32 → Int32 → PH → Option (Int32 × PH)) (al0 : Nat) (xl1 : Int32) (xl3 : Int32) (xs0 : Int32) (h0 : PH) : Option (Int32 × PH) :=
    fX10_bind_59 r27 al0 xl1 xl3 (0 : Int32) xs0 h0
set_option maxHeartbeats 4000000 in
set_option maxRecDepth 100000 in
theorem vfX10_bind_58 {p : Program} {l : Launch} {e : Env} {s : State} {m : MethodId} {args : Array Value} {below : List Frame} {meth : Method} {c : Code} {G : GX} (C : Cx p s m args meth c G cX10_bind 6 RX10) (hr : meth.sig.returnType = (some .int)) {r27 : Nat → Int32 → Int32 → Int32 → PH → Option (Int32 × PH)} (k27 : ∀ (al0 : Nat) (xl1 : Int32) (xl2 : Int32) (xl3 : Int32) (h0 : PH), J p l e rmX10_bind s m args below meth c G 6 (qM below args s rvI G 0 0) 0 0 h0 27 [(0, .ref al0), (1, .int xl1), (2, .int xl2), (3, .int xl3)] [] (r27 al0 xl1 xl2 xl3 h0)) (al0 : Nat) (xl1 : Int32) (xl3 : Int32) (xs0 : Int32) (h0 : PH) : J p l e rmX10_bind s m args below meth c G 6 (qM below args s rvI G 0 0) 0 0 h0 58 [(0, .ref al0), (1, .int xl1), (3, .int xl3)] [.int xs0] (fX10_bind_58 r27 al0 xl1 xl3 xs0 h0) := by
  unfold fX10_bind_58
  refine J_iconst (pc := 58) (v := 0) C dX10_bind_58 (by decide) ?_
  exact vfX10_bind_59 C hr k27 al0 xl1 xl3 (0 : Int32) xs0 h0
def fX10_bind_27  : Nat → Nat → Int32 → Int32 → Int32 → PH → Option (Int32 × PH)
  | 0, _, _, _, _, _ => none
  | n + 1, al0, xl1, xl2, xl3, h0 =>
    bn (rdI 10 4 al0 h0) fun x4 =>
    if x4 ≤ xl3 then (if xl1 = 0 then none else
    nm (xl2 / xl1) fun x5 =>
    nm (x5 * xl1) fun x6 =>
    fX10_bind_79  FU al0 xl1 x5 x6 (0 : Int32) h0) else
    bn (chk 10 al0 h0) fun _ => bn2 (fX10_isLeaf al0 xl3 h0) fun x24 h23 =>
    if x24 = 0 then (fX10_bind_58 (fX10_bind_27 n) al0 xl1 xl3 xl2 h23) else
    bn (rdR 10 8 al0 h23) fun a26 =>
    bn (aldI 0 a26 xl3 h23) fun x27 =>
    if x27 = (-1 : Int32) then (fX10_bind_59 (fX10_bind_27 n) al0 xl1 xl3 (1 : Int32) xl2 h23) else
    fX10_bind_58 (fX10_bind_27 n) al0 xl1 xl3 xl2 h23
set_option maxHeartbeats 4000000 in
set_option maxRecDepth 100000 in
theorem vfX10_bind_27 {p : Program} {l : Launch} {e : Env} {s : State} {m : MethodId} {args : Array Value} {below : List Frame} {meth : Method} {c : Code} {G : GX} (C : Cx p s m args meth c G cX10_bind 6 RX10) (hr : meth.sig.returnType = (some .int)) : ∀ (n : Nat) (al0 : Nat) (xl1 : Int32) (xl2 : Int32) (xl3 : Int32) (h0 : PH), J p l e rmX10_bind s m args below meth c G 6 (qM below args s rvI G 0 0) 0 0 h0 27 [(0, .ref al0), (1, .int xl1), (2, .int xl2), (3, .int xl3)] [] (fX10_bind_27  n al0 xl1 xl2 xl3 h0) := by
  intro n
  induction n with
  | zero => exact fun al0 xl1 xl2 xl3 h0 => J_none C
  | succ n ih =>
    intro al0 xl1 xl2 xl3 h0
    unfold fX10_bind_27
    refine J_iload_n (pc := 27) C dX10_bind_27 rfl 3 rfl ?_
    refine J_aload_n (pc := 28) C dX10_bind_28 rfl 0 rfl ?_
    refine J_getI (pc := 29) C flX10_96 dX10_bind_29 (fun x4 => ?_)
    refine J_icmp_ge (pc := 32) (tgt := 67) C dX10_bind_32 (by decide) ?_ ?_
    · refine J_iload_n (pc := 67) C dX10_bind_67 rfl 2 rfl ?_
      refine J_iload_n (pc := 68) C dX10_bind_68 rfl 1 rfl ?_
      refine J_idiv (pc := 69) C dX10_bind_69 ?_
      refine J_nm (fv := .int) (fun x5 => ?_)
      refine J_istore_n (pc := 70) (lv1 := [(3, .int x5), (0, .ref al0), (1, .int xl1), (2, .int xl2)]) C dX10_bind_70 rfl (by decide) rfl ?_
      refine J_iload_n (pc := 71) C dX10_bind_71 rfl 0 rfl ?_
      refine J_iload_n (pc := 72) C dX10_bind_72 rfl 2 rfl ?_
      refine J_imul (pc := 73) C dX10_bind_73 ?_
      refine J_nm (fv := .int) (fun x6 => ?_)
      refine J_istore (pc := 74) (lv1 := [(4, .int x6), (3, .int x5), (0, .ref al0), (1, .int xl1), (2, .int xl2)]) C dX10_bind_74 (by decide) rfl ?_
      refine J_iconst (pc := 76) (v := 0) C dX10_bind_76 (by decide) ?_
      refine J_istore (pc := 77) (lv1 := [(5, .int (0 : Int32)), (4, .int x6), (3, .int x5), (0, .ref al0), (1, .int xl1), (2, .int xl2)]) C dX10_bind_77 (by decide) rfl ?_
      refine J_sub [3, 4, 2, 1, 0] rfl ?_
      exact vfX10_bind_79 C hr  FU al0 xl1 x5 x6 (0 : Int32) h0
    · refine J_iload_n (pc := 35) C dX10_bind_35 rfl 2 rfl ?_
      refine J_aload_n (pc := 36) C dX10_bind_36 rfl 0 rfl ?_
      refine J_iload_n (pc := 37) C dX10_bind_37 rfl 3 rfl ?_
      refine J_callVI (pc := 38) (As := [.int xl3]) (rest := [.int xl2]) C (fun z hz => mX10_isLeaf al0 xl3 h0 z hz) mwX10_isLeaf csX10_isLeaf mlX10_124 inX10_isLeaf rfl dX10_bind_38 (by decide) rfl (Nat.le_of_ble_eq_true rfl) (by decide) (fun x24 h23 => ?_)
      refine J_if_eq (pc := 41) (tgt := 58) C dX10_bind_41 (by decide) ?_ ?_
      · refine J_sub [0, 1, 3] rfl ?_
        exact vfX10_bind_58 C hr ih al0 xl1 xl3 xl2 h23
      · refine J_aload_n (pc := 44) C dX10_bind_44 rfl 0 rfl ?_
        refine J_getR (pc := 45) C flX10_23 dX10_bind_45 (fun a26 => ?_)
        refine J_iload_n (pc := 48) C dX10_bind_48 rfl 3 rfl ?_
        refine J_iald (pc := 49) C dX10_bind_49 (fun x27 => ?_)
        refine J_iconst (pc := 50) (v := -1) C dX10_bind_50 (by decide) ?_
        refine J_icmp_ne (pc := 51) (tgt := 58) C dX10_bind_51 (by decide) ?_ ?_
        · refine J_sub [0, 1, 3] rfl ?_
          exact vfX10_bind_58 C hr ih al0 xl1 xl3 xl2 h23
        · refine J_iconst (pc := 54) (v := 1) C dX10_bind_54 (by decide) ?_
          refine J_goto (pc := 55) (tgt := 59) C dX10_bind_55 (by decide) ?_
          refine J_sub [0, 1, 3] rfl ?_
          exact vfX10_bind_59 C hr ih al0 xl1 xl3 (1 : Int32) xl2 h23
def fX10_bind  (a0 : Nat) (xp0 : Int32) (h0 : PH) : Option (Int32 × PH) :=
    bn (wr 10 0 (.int (0 : Int32)) a0 h0) fun h1 =>
    bn2 (fX10_in xp0.toInt64 (1 : Int64) (50 : Int64) h1) fun x3 h2 =>
    if x3 = 0 then (bn (chk 10 a0 h2) fun _ => bn2 (fX10_told a0 (-1 : Int32) h2) fun x29 h28 =>
    some (x29, h28)) else
    fX10_bind_27  FU a0 xp0 (0 : Int32) (0 : Int32) h2
set_option maxHeartbeats 4000000 in
set_option maxRecDepth 100000 in
theorem vfX10_bind {p : Program} {l : Launch} {e : Env} {s : State} {m : MethodId} {args : Array Value} {below : List Frame} {meth : Method} {c : Code} {G : GX} (C : Cx p s m args meth c G cX10_bind 6 RX10) (hr : meth.sig.returnType = (some .int)) (a0 : Nat) (xp0 : Int32) (h0 : PH) : J p l e rmX10_bind s m args below meth c G 6 (qM below args s rvI G 0 0) 0 0 h0 0 [(0, .ref a0), (1, .int xp0)] [] (fX10_bind  a0 xp0 h0) := by
  unfold fX10_bind
  refine J_aload_n (pc := 0) C dX10_bind_0 rfl 0 rfl ?_
  refine J_iconst (pc := 1) (v := 0) C dX10_bind_1 (by decide) ?_
  refine J_put (pc := 2) C flX10_90 cl10 ft10_0 rfl rfl dX10_bind_2 (fun h1 => ?_)
  refine J_iload_n (pc := 5) C dX10_bind_5 rfl 1 rfl ?_
  refine J_i2l (pc := 6) C dX10_bind_6 ?_
  refine J_lconst (pc := 7) (v := 1) C dX10_bind_7 (by decide) ?_
  refine J_ldc2 (pc := 8) C kjX10_228 dX10_bind_8 ?_
  refine J_callSI (pc := 11) (As := [.long xp0.toInt64, .long (1 : Int64), .long (50 : Int64)]) (rest := []) C (fun z hz => mX10_in xp0.toInt64 (1 : Int64) (50 : Int64) h1 z hz) mwX10_in mlX10_99 stX10_in rfl dX10_bind_11 (by decide) rfl (Nat.le_of_ble_eq_true rfl) (by decide) (fun x3 h2 => ?_)
  refine J_if_ne (pc := 14) (tgt := 23) C dX10_bind_14 (by decide) ?_ ?_
  · refine J_iconst (pc := 23) (v := 0) C dX10_bind_23 (by decide) ?_
    refine J_istore_n (pc := 24) (lv1 := [(2, .int (0 : Int32)), (0, .ref a0), (1, .int xp0)]) C dX10_bind_24 rfl (by decide) rfl ?_
    refine J_iconst (pc := 25) (v := 0) C dX10_bind_25 (by decide) ?_
    refine J_istore_n (pc := 26) (lv1 := [(3, .int (0 : Int32)), (2, .int (0 : Int32)), (0, .ref a0), (1, .int xp0)]) C dX10_bind_26 rfl (by decide) rfl ?_
    refine J_sub [2, 3, 1, 0] rfl ?_
    exact vfX10_bind_27 C hr  FU a0 xp0 (0 : Int32) (0 : Int32) h2
  · refine J_aload_n (pc := 17) C dX10_bind_17 rfl 0 rfl ?_
    refine J_iconst (pc := 18) (v := -1) C dX10_bind_18 (by decide) ?_
    refine J_callVI (pc := 19) (As := [.int (-1 : Int32)]) (rest := []) C (fun z hz => mX10_told a0 (-1 : Int32) h2 z hz) mwX10_told csX10_told mlX10_107 inX10_told rfl dX10_bind_19 (by decide) rfl (Nat.le_of_ble_eq_true rfl) (by decide) (fun x29 h28 => ?_)
    exact J_iret (pc := 22) C hr dX10_bind_22
theorem mX10_bind {l : Launch} {G : GX} (a0 : Nat) (xp0 : Int32) (h0 : PH) : ∀ z, fX10_bind a0 xp0 h0 = some z → MC l G yX10_bind cX10_bind 6 (some .int) rmX10_bind [.ref a0, .int xp0] h0 (rvI z.1) z.2 :=
  Met_J (own := RX10) (by decide) rfl (Nat.le_of_ble_eq_true rfl) (fun p e s m args below meth c C hr hn => vfX10_bind C hr a0 xp0 h0)

theorem dX9_book_0 : decode cX9_book 0 = .ok (.aload_n 0, 1) := by decide +kernel
theorem dX9_book_1 : decode cX9_book 1 = .ok (.getfield 10, 3) := by decide +kernel
theorem dX9_book_4 : decode cX9_book 4 = .ok (.iload_n 1, 1) := by decide +kernel
theorem dX9_book_5 : decode cX9_book 5 = .ok (.invokevirtual 81, 3) := by decide +kernel
theorem dX9_book_8 : decode cX9_book 8 = .ok (.astore_n 2, 1) := by decide +kernel
theorem dX9_book_9 : decode cX9_book 9 = .ok (.aload_n 2, 1) := by decide +kernel
theorem dX9_book_10 : decode cX9_book 10 = .ok (.ifnonnull 7, 3) := by decide +kernel
theorem dX9_book_13 : decode cX9_book 13 = .ok (.iconst (-1), 1) := by decide +kernel
theorem dX9_book_14 : decode cX9_book 14 = .ok (.goto 7, 3) := by decide +kernel
theorem dX9_book_17 : decode cX9_book 17 = .ok (.aload_n 2, 1) := by decide +kernel
theorem dX9_book_18 : decode cX9_book 18 = .ok (.getfield 191, 3) := by decide +kernel
theorem dX9_book_21 : decode cX9_book 21 = .ok (.ireturn, 1) := by decide +kernel
def rmX9_book : Room := { frames := 1, cells := 0, slots := 0, locals := 22 }
def fX9_book  (a0 : Nat) (xp0 : Int32) (h0 : PH) : Option (Int32 × PH) :=
    bn (rdR 9 0 a0 h0) fun a1 =>
    bn (chk 7 a1 h0) fun _ => bn2 (fX7_living a1 xp0 h0) fun o3 h2 =>
    onul o3 (some ((-1 : Int32), h2)) fun a4 =>
    bn (rdI 5 3 a4 h2) fun x5 =>
    some (x5, h2)
set_option maxHeartbeats 4000000 in
set_option maxRecDepth 100000 in
theorem vfX9_book {p : Program} {l : Launch} {e : Env} {s : State} {m : MethodId} {args : Array Value} {below : List Frame} {meth : Method} {c : Code} {G : GX} (C : Cx p s m args meth c G cX9_book 3 RX9) (hr : meth.sig.returnType = (some .int)) (a0 : Nat) (xp0 : Int32) (h0 : PH) : J p l e rmX9_book s m args below meth c G 3 (qM below args s rvI G 0 0) 0 0 h0 0 [(0, .ref a0), (1, .int xp0)] [] (fX9_book  a0 xp0 h0) := by
  unfold fX9_book
  refine J_aload_n (pc := 0) C dX9_book_0 rfl 0 rfl ?_
  refine J_getR (pc := 1) C flX9_10 dX9_book_1 (fun a1 => ?_)
  refine J_iload_n (pc := 4) C dX9_book_4 rfl 1 rfl ?_
  refine J_callVR (pc := 5) (As := [.int xp0]) (rest := []) C (fun z hz => mX7_living a1 xp0 h0 z hz) mwX7_living csX7_living mlX9_81 inX7_living rfl dX9_book_5 (by decide) rfl (Nat.le_of_ble_eq_true rfl) (by decide) (fun o3 h2 => ?_)
  refine J_astore_nQ (pc := 8) (x := o3) (lv1 := [(2, va_rf o3), (0, .ref a0), (1, .int xp0)]) C dX9_book_8 rfl (by decide) rfl ?_
  refine J_aload_nQ (pc := 9) (x := o3) C dX9_book_9 rfl 0 rfl ?_
  refine J_onul (fun hx => ?_) (fun a4 hx => ?_)
  · subst hx
    refine J_ifnonnullN (pc := 10) C dX9_book_10 ?_
    refine J_iconst (pc := 13) (v := -1) C dX9_book_13 (by decide) ?_
    refine J_goto (pc := 14) (tgt := 21) C dX9_book_14 (by decide) ?_
    exact J_iret (pc := 21) C hr dX9_book_21
  · subst hx
    refine J_ifnonnull (pc := 10) (tgt := 17) C dX9_book_10 (by decide) ?_
    refine J_aload_n (pc := 17) C dX9_book_17 rfl 0 rfl ?_
    refine J_getI (pc := 18) C flX9_191 dX9_book_18 (fun x5 => ?_)
    exact J_iret (pc := 21) C hr dX9_book_21
theorem mX9_book {l : Launch} {G : GX} (a0 : Nat) (xp0 : Int32) (h0 : PH) : ∀ z, fX9_book a0 xp0 h0 = some z → MC l G yX9_book cX9_book 3 (some .int) rmX9_book [.ref a0, .int xp0] h0 (rvI z.1) z.2 :=
  Met_J (own := RX9) (by decide) rfl (Nat.le_of_ble_eq_true rfl) (fun p e s m args below meth c C hr hn => vfX9_book C hr a0 xp0 h0)

theorem dX10_book_0 : decode cX10_book 0 = .ok (.aload_n 0, 1) := by decide +kernel
theorem dX10_book_1 : decode cX10_book 1 = .ok (.iconst 0, 1) := by decide +kernel
theorem dX10_book_2 : decode cX10_book 2 = .ok (.putfield 90, 3) := by decide +kernel
theorem dX10_book_5 : decode cX10_book 5 = .ok (.aload_n 0, 1) := by decide +kernel
theorem dX10_book_6 : decode cX10_book 6 = .ok (.iload_n 1, 1) := by decide +kernel
theorem dX10_book_7 : decode cX10_book 7 = .ok (.invokevirtual 117, 3) := by decide +kernel
theorem dX10_book_10 : decode cX10_book 10 = .ok (.ifCond .eq 12, 3) := by decide +kernel
theorem dX10_book_13 : decode cX10_book 13 = .ok (.aload_n 0, 1) := by decide +kernel
theorem dX10_book_14 : decode cX10_book 14 = .ok (.getfield 23, 3) := by decide +kernel
theorem dX10_book_17 : decode cX10_book 17 = .ok (.iload_n 1, 1) := by decide +kernel
theorem dX10_book_18 : decode cX10_book 18 = .ok (.iaload, 1) := by decide +kernel
theorem dX10_book_19 : decode cX10_book 19 = .ok (.goto 4, 3) := by decide +kernel
theorem dX10_book_22 : decode cX10_book 22 = .ok (.iconst (-1), 1) := by decide +kernel
theorem dX10_book_23 : decode cX10_book 23 = .ok (.ireturn, 1) := by decide +kernel
def rmX10_book : Room := { frames := 2, cells := 0, slots := 0, locals := 46 }
def fX10_book  (a0 : Nat) (xp0 : Int32) (h0 : PH) : Option (Int32 × PH) :=
    bn (wr 10 0 (.int (0 : Int32)) a0 h0) fun h1 =>
    bn (chk 10 a0 h1) fun _ => bn2 (fX10_isPiece a0 xp0 h1) fun x3 h2 =>
    if x3 = 0 then (some ((-1 : Int32), h2)) else
    bn (rdR 10 8 a0 h2) fun a4 =>
    bn (aldI 0 a4 xp0 h2) fun x5 =>
    some (x5, h2)
set_option maxHeartbeats 4000000 in
set_option maxRecDepth 100000 in
theorem vfX10_book {p : Program} {l : Launch} {e : Env} {s : State} {m : MethodId} {args : Array Value} {below : List Frame} {meth : Method} {c : Code} {G : GX} (C : Cx p s m args meth c G cX10_book 2 RX10) (hr : meth.sig.returnType = (some .int)) (a0 : Nat) (xp0 : Int32) (h0 : PH) : J p l e rmX10_book s m args below meth c G 2 (qM below args s rvI G 0 0) 0 0 h0 0 [(0, .ref a0), (1, .int xp0)] [] (fX10_book  a0 xp0 h0) := by
  unfold fX10_book
  refine J_aload_n (pc := 0) C dX10_book_0 rfl 0 rfl ?_
  refine J_iconst (pc := 1) (v := 0) C dX10_book_1 (by decide) ?_
  refine J_put (pc := 2) C flX10_90 cl10 ft10_0 rfl rfl dX10_book_2 (fun h1 => ?_)
  refine J_aload_n (pc := 5) C dX10_book_5 rfl 0 rfl ?_
  refine J_iload_n (pc := 6) C dX10_book_6 rfl 1 rfl ?_
  refine J_callVI (pc := 7) (As := [.int xp0]) (rest := []) C (fun z hz => mX10_isPiece a0 xp0 h1 z hz) mwX10_isPiece csX10_isPiece mlX10_117 inX10_isPiece rfl dX10_book_7 (by decide) rfl (Nat.le_of_ble_eq_true rfl) (by decide) (fun x3 h2 => ?_)
  refine J_if_eq (pc := 10) (tgt := 22) C dX10_book_10 (by decide) ?_ ?_
  · refine J_iconst (pc := 22) (v := -1) C dX10_book_22 (by decide) ?_
    exact J_iret (pc := 23) C hr dX10_book_23
  · refine J_aload_n (pc := 13) C dX10_book_13 rfl 0 rfl ?_
    refine J_getR (pc := 14) C flX10_23 dX10_book_14 (fun a4 => ?_)
    refine J_iload_n (pc := 17) C dX10_book_17 rfl 1 rfl ?_
    refine J_iald (pc := 18) C dX10_book_18 (fun x5 => ?_)
    refine J_goto (pc := 19) (tgt := 23) C dX10_book_19 (by decide) ?_
    exact J_iret (pc := 23) C hr dX10_book_23
theorem mX10_book {l : Launch} {G : GX} (a0 : Nat) (xp0 : Int32) (h0 : PH) : ∀ z, fX10_book a0 xp0 h0 = some z → MC l G yX10_book cX10_book 2 (some .int) rmX10_book [.ref a0, .int xp0] h0 (rvI z.1) z.2 :=
  Met_J (own := RX10) (by decide) rfl (Nat.le_of_ble_eq_true rfl) (fun p e s m args below meth c C hr hn => vfX10_book C hr a0 xp0 h0)

theorem dX9_leavesAlong_0 : decode cX9_leavesAlong 0 = .ok (.iload_n 0, 1) := by decide +kernel
theorem dX9_leavesAlong_1 : decode cX9_leavesAlong 1 = .ok (.iload_n 1, 1) := by decide +kernel
theorem dX9_leavesAlong_2 : decode cX9_leavesAlong 2 = .ok (.if_icmp .le 8, 3) := by decide +kernel
theorem dX9_leavesAlong_5 : decode cX9_leavesAlong 5 = .ok (.iload_n 2, 1) := by decide +kernel
theorem dX9_leavesAlong_6 : decode cX9_leavesAlong 6 = .ok (.iconst 1, 1) := by decide +kernel
theorem dX9_leavesAlong_7 : decode cX9_leavesAlong 7 = .ok (.if_icmp .ge 5, 3) := by decide +kernel
theorem dX9_leavesAlong_10 : decode cX9_leavesAlong 10 = .ok (.lconst 1, 1) := by decide +kernel
theorem dX9_leavesAlong_11 : decode cX9_leavesAlong 11 = .ok (.lreturn, 1) := by decide +kernel
theorem dX9_leavesAlong_12 : decode cX9_leavesAlong 12 = .ok (.iconst 1, 1) := by decide +kernel
theorem dX9_leavesAlong_13 : decode cX9_leavesAlong 13 = .ok (.iload_n 0, 1) := by decide +kernel
theorem dX9_leavesAlong_14 : decode cX9_leavesAlong 14 = .ok (.iload_n 1, 1) := by decide +kernel
theorem dX9_leavesAlong_15 : decode cX9_leavesAlong 15 = .ok (.isub, 1) := by decide +kernel
theorem dX9_leavesAlong_16 : decode cX9_leavesAlong 16 = .ok (.iload_n 2, 1) := by decide +kernel
theorem dX9_leavesAlong_17 : decode cX9_leavesAlong 17 = .ok (.iadd, 1) := by decide +kernel
theorem dX9_leavesAlong_18 : decode cX9_leavesAlong 18 = .ok (.iconst 1, 1) := by decide +kernel
theorem dX9_leavesAlong_19 : decode cX9_leavesAlong 19 = .ok (.isub, 1) := by decide +kernel
theorem dX9_leavesAlong_20 : decode cX9_leavesAlong 20 = .ok (.iload_n 2, 1) := by decide +kernel
theorem dX9_leavesAlong_21 : decode cX9_leavesAlong 21 = .ok (.idiv, 1) := by decide +kernel
theorem dX9_leavesAlong_22 : decode cX9_leavesAlong 22 = .ok (.iadd, 1) := by decide +kernel
theorem dX9_leavesAlong_23 : decode cX9_leavesAlong 23 = .ok (.i2l, 1) := by decide +kernel
theorem dX9_leavesAlong_24 : decode cX9_leavesAlong 24 = .ok (.lreturn, 1) := by decide +kernel
def rmX9_leavesAlong : Room := { frames := 0, cells := 0, slots := 0, locals := 0 }
def fX9_leavesAlong  (xp0 : Int32) (xp1 : Int32) (xp2 : Int32) (h0 : PH) : Option (Int64 × PH) :=
    if xp0 ≤ xp1 then (some ((1 : Int64), h0)) else
    if (1 : Int32) ≤ xp2 then (if xp2 = 0 then none else
    some (((1 : Int32) + ((((xp0 - xp1) + xp2) - (1 : Int32)) / xp2)).toInt64, h0)) else
    some ((1 : Int64), h0)
set_option maxHeartbeats 4000000 in
set_option maxRecDepth 100000 in
theorem vfX9_leavesAlong {p : Program} {l : Launch} {e : Env} {s : State} {m : MethodId} {args : Array Value} {below : List Frame} {meth : Method} {c : Code} {G : GX} (C : Cx p s m args meth c G cX9_leavesAlong 3 RX9) (hr : meth.sig.returnType = (some .long)) (xp0 : Int32) (xp1 : Int32) (xp2 : Int32) (h0 : PH) : J p l e rmX9_leavesAlong s m args below meth c G 3 (qM below args s rvJ G 0 0) 0 0 h0 0 [(0, .int xp0), (1, .int xp1), (2, .int xp2)] [] (fX9_leavesAlong  xp0 xp1 xp2 h0) := by
  unfold fX9_leavesAlong
  refine J_iload_n (pc := 0) C dX9_leavesAlong_0 rfl 0 rfl ?_
  refine J_iload_n (pc := 1) C dX9_leavesAlong_1 rfl 1 rfl ?_
  refine J_icmp_le (pc := 2) (tgt := 10) C dX9_leavesAlong_2 (by decide) ?_ ?_
  · refine J_lconst (pc := 10) (v := 1) C dX9_leavesAlong_10 (by decide) ?_
    exact J_lret (pc := 11) C hr dX9_leavesAlong_11
  · refine J_iload_n (pc := 5) C dX9_leavesAlong_5 rfl 2 rfl ?_
    refine J_iconst (pc := 6) (v := 1) C dX9_leavesAlong_6 (by decide) ?_
    refine J_icmp_ge (pc := 7) (tgt := 12) C dX9_leavesAlong_7 (by decide) ?_ ?_
    · refine J_iconst (pc := 12) (v := 1) C dX9_leavesAlong_12 (by decide) ?_
      refine J_iload_n (pc := 13) C dX9_leavesAlong_13 rfl 0 rfl ?_
      refine J_iload_n (pc := 14) C dX9_leavesAlong_14 rfl 1 rfl ?_
      refine J_isub (pc := 15) C dX9_leavesAlong_15 ?_
      refine J_iload_n (pc := 16) C dX9_leavesAlong_16 rfl 2 rfl ?_
      refine J_iadd (pc := 17) C dX9_leavesAlong_17 ?_
      refine J_iconst (pc := 18) (v := 1) C dX9_leavesAlong_18 (by decide) ?_
      refine J_isub (pc := 19) C dX9_leavesAlong_19 ?_
      refine J_iload_n (pc := 20) C dX9_leavesAlong_20 rfl 2 rfl ?_
      refine J_idiv (pc := 21) C dX9_leavesAlong_21 ?_
      refine J_iadd (pc := 22) C dX9_leavesAlong_22 ?_
      refine J_i2l (pc := 23) C dX9_leavesAlong_23 ?_
      exact J_lret (pc := 24) C hr dX9_leavesAlong_24
    · refine J_lconst (pc := 10) (v := 1) C dX9_leavesAlong_10 (by decide) ?_
      exact J_lret (pc := 11) C hr dX9_leavesAlong_11
theorem mX9_leavesAlong {l : Launch} {G : GX} (xp0 : Int32) (xp1 : Int32) (xp2 : Int32) (h0 : PH) : ∀ z, fX9_leavesAlong xp0 xp1 xp2 h0 = some z → MC l G yX9_leavesAlong cX9_leavesAlong 3 (some .long) rmX9_leavesAlong [.int xp0, .int xp1, .int xp2] h0 (rvJ z.1) z.2 :=
  Met_J (own := RX9) (by decide) rfl (Nat.le_of_ble_eq_true rfl) (fun p e s m args below meth c C hr hn => vfX9_leavesAlong C hr xp0 xp1 xp2 h0)

theorem dX9_surface_0 : decode cX9_surface 0 = .ok (.iload_n 1, 1) := by decide +kernel
theorem dX9_surface_1 : decode cX9_surface 1 = .ok (.iconst 1, 1) := by decide +kernel
theorem dX9_surface_2 : decode cX9_surface 2 = .ok (.sipush 10000, 3) := by decide +kernel
theorem dX9_surface_5 : decode cX9_surface 5 = .ok (.invokestatic 97, 3) := by decide +kernel
theorem dX9_surface_8 : decode cX9_surface 8 = .ok (.ifCond .eq 37, 3) := by decide +kernel
theorem dX9_surface_11 : decode cX9_surface 11 = .ok (.iload_n 2, 1) := by decide +kernel
theorem dX9_surface_12 : decode cX9_surface 12 = .ok (.iconst 1, 1) := by decide +kernel
theorem dX9_surface_13 : decode cX9_surface 13 = .ok (.sipush 10000, 3) := by decide +kernel
theorem dX9_surface_16 : decode cX9_surface 16 = .ok (.invokestatic 97, 3) := by decide +kernel
theorem dX9_surface_19 : decode cX9_surface 19 = .ok (.ifCond .eq 26, 3) := by decide +kernel
theorem dX9_surface_22 : decode cX9_surface 22 = .ok (.iload_n 3, 1) := by decide +kernel
theorem dX9_surface_23 : decode cX9_surface 23 = .ok (.iconst 1, 1) := by decide +kernel
theorem dX9_surface_24 : decode cX9_surface 24 = .ok (.sipush 200, 3) := by decide +kernel
theorem dX9_surface_27 : decode cX9_surface 27 = .ok (.invokestatic 97, 3) := by decide +kernel
theorem dX9_surface_30 : decode cX9_surface 30 = .ok (.ifCond .eq 15, 3) := by decide +kernel
theorem dX9_surface_33 : decode cX9_surface 33 = .ok (.iload 4, 2) := by decide +kernel
theorem dX9_surface_35 : decode cX9_surface 35 = .ok (.iconst 0, 1) := by decide +kernel
theorem dX9_surface_36 : decode cX9_surface 36 = .ok (.iload_n 3, 1) := by decide +kernel
theorem dX9_surface_37 : decode cX9_surface 37 = .ok (.iconst 1, 1) := by decide +kernel
theorem dX9_surface_38 : decode cX9_surface 38 = .ok (.isub, 1) := by decide +kernel
theorem dX9_surface_39 : decode cX9_surface 39 = .ok (.invokestatic 97, 3) := by decide +kernel
theorem dX9_surface_42 : decode cX9_surface 42 = .ok (.ifCond .ne 7, 3) := by decide +kernel
theorem dX9_surface_45 : decode cX9_surface 45 = .ok (.ldc2_w 101, 3) := by decide +kernel
theorem dX9_surface_48 : decode cX9_surface 48 = .ok (.lreturn, 1) := by decide +kernel
theorem dX9_surface_49 : decode cX9_surface 49 = .ok (.iload_n 1, 1) := by decide +kernel
theorem dX9_surface_50 : decode cX9_surface 50 = .ok (.iload_n 3, 1) := by decide +kernel
theorem dX9_surface_51 : decode cX9_surface 51 = .ok (.iload_n 3, 1) := by decide +kernel
theorem dX9_surface_52 : decode cX9_surface 52 = .ok (.iload 4, 2) := by decide +kernel
theorem dX9_surface_54 : decode cX9_surface 54 = .ok (.isub, 1) := by decide +kernel
theorem dX9_surface_55 : decode cX9_surface 55 = .ok (.invokestatic 194, 3) := by decide +kernel
theorem dX9_surface_58 : decode cX9_surface 58 = .ok (.iload_n 2, 1) := by decide +kernel
theorem dX9_surface_59 : decode cX9_surface 59 = .ok (.iload_n 3, 1) := by decide +kernel
theorem dX9_surface_60 : decode cX9_surface 60 = .ok (.iload_n 3, 1) := by decide +kernel
theorem dX9_surface_61 : decode cX9_surface 61 = .ok (.iload 4, 2) := by decide +kernel
theorem dX9_surface_63 : decode cX9_surface 63 = .ok (.isub, 1) := by decide +kernel
theorem dX9_surface_64 : decode cX9_surface 64 = .ok (.invokestatic 194, 3) := by decide +kernel
theorem dX9_surface_67 : decode cX9_surface 67 = .ok (.lmul, 1) := by decide +kernel
theorem dX9_surface_68 : decode cX9_surface 68 = .ok (.lreturn, 1) := by decide +kernel
def rmX9_surface : Room := { frames := 1, cells := 0, slots := 0, locals := 22 }
def fX9_surface  (a0 : Nat) (xp0 : Int32) (xp1 : Int32) (xp2 : Int32) (xp3 : Int32) (h0 : PH) : Option (Int64 × PH) :=
    bn2 (fX9_within xp0 (1 : Int32) (10000 : Int32) h0) fun x2 h1 =>
    if x2 = 0 then (some ((-1 : Int64), h1)) else
    bn2 (fX9_within xp1 (1 : Int32) (10000 : Int32) h1) fun x4 h3 =>
    if x4 = 0 then (some ((-1 : Int64), h3)) else
    bn2 (fX9_within xp2 (1 : Int32) (200 : Int32) h3) fun x6 h5 =>
    if x6 = 0 then (some ((-1 : Int64), h5)) else
    bn2 (fX9_within xp3 (0 : Int32) (xp2 - (1 : Int32)) h5) fun x8 h7 =>
    if x8 = 0 then (some ((-1 : Int64), h7)) else
    bn2 (fX9_leavesAlong xp0 xp2 (xp2 - xp3) h7) fun x10 h9 =>
    bn2 (fX9_leavesAlong xp1 xp2 (xp2 - xp3) h9) fun x12 h11 =>
    some ((x10 * x12), h11)
set_option maxHeartbeats 4000000 in
set_option maxRecDepth 100000 in
theorem vfX9_surface {p : Program} {l : Launch} {e : Env} {s : State} {m : MethodId} {args : Array Value} {below : List Frame} {meth : Method} {c : Code} {G : GX} (C : Cx p s m args meth c G cX9_surface 5 RX9) (hr : meth.sig.returnType = (some .long)) (a0 : Nat) (xp0 : Int32) (xp1 : Int32) (xp2 : Int32) (xp3 : Int32) (h0 : PH) : J p l e rmX9_surface s m args below meth c G 5 (qM below args s rvJ G 0 0) 0 0 h0 0 [(0, .ref a0), (1, .int xp0), (2, .int xp1), (3, .int xp2), (4, .int xp3)] [] (fX9_surface  a0 xp0 xp1 xp2 xp3 h0) := by
  unfold fX9_surface
  refine J_iload_n (pc := 0) C dX9_surface_0 rfl 1 rfl ?_
  refine J_iconst (pc := 1) (v := 1) C dX9_surface_1 (by decide) ?_
  refine J_sipush (pc := 2) (v := 10000) C dX9_surface_2 (by decide) ?_
  refine J_callSI (pc := 5) (As := [.int xp0, .int (1 : Int32), .int (10000 : Int32)]) (rest := []) C (fun z hz => mX9_within xp0 (1 : Int32) (10000 : Int32) h0 z hz) mwX9_within mlX9_97 stX9_within rfl dX9_surface_5 (by decide) rfl (Nat.le_of_ble_eq_true rfl) (by decide) (fun x2 h1 => ?_)
  refine J_if_eq (pc := 8) (tgt := 45) C dX9_surface_8 (by decide) ?_ ?_
  · refine J_ldc2 (pc := 45) C kjX9_101 dX9_surface_45 ?_
    exact J_lret (pc := 48) C hr dX9_surface_48
  · refine J_iload_n (pc := 11) C dX9_surface_11 rfl 2 rfl ?_
    refine J_iconst (pc := 12) (v := 1) C dX9_surface_12 (by decide) ?_
    refine J_sipush (pc := 13) (v := 10000) C dX9_surface_13 (by decide) ?_
    refine J_callSI (pc := 16) (As := [.int xp1, .int (1 : Int32), .int (10000 : Int32)]) (rest := []) C (fun z hz => mX9_within xp1 (1 : Int32) (10000 : Int32) h1 z hz) mwX9_within mlX9_97 stX9_within rfl dX9_surface_16 (by decide) rfl (Nat.le_of_ble_eq_true rfl) (by decide) (fun x4 h3 => ?_)
    refine J_if_eq (pc := 19) (tgt := 45) C dX9_surface_19 (by decide) ?_ ?_
    · refine J_ldc2 (pc := 45) C kjX9_101 dX9_surface_45 ?_
      exact J_lret (pc := 48) C hr dX9_surface_48
    · refine J_iload_n (pc := 22) C dX9_surface_22 rfl 3 rfl ?_
      refine J_iconst (pc := 23) (v := 1) C dX9_surface_23 (by decide) ?_
      refine J_sipush (pc := 24) (v := 200) C dX9_surface_24 (by decide) ?_
      refine J_callSI (pc := 27) (As := [.int xp2, .int (1 : Int32), .int (200 : Int32)]) (rest := []) C (fun z hz => mX9_within xp2 (1 : Int32) (200 : Int32) h3 z hz) mwX9_within mlX9_97 stX9_within rfl dX9_surface_27 (by decide) rfl (Nat.le_of_ble_eq_true rfl) (by decide) (fun x6 h5 => ?_)
      refine J_if_eq (pc := 30) (tgt := 45) C dX9_surface_30 (by decide) ?_ ?_
      · refine J_ldc2 (pc := 45) C kjX9_101 dX9_surface_45 ?_
        exact J_lret (pc := 48) C hr dX9_surface_48
      · refine J_iload (pc := 33) C dX9_surface_33 4 rfl ?_
        refine J_iconst (pc := 35) (v := 0) C dX9_surface_35 (by decide) ?_
        refine J_iload_n (pc := 36) C dX9_surface_36 rfl 3 rfl ?_
        refine J_iconst (pc := 37) (v := 1) C dX9_surface_37 (by decide) ?_
        refine J_isub (pc := 38) C dX9_surface_38 ?_
        refine J_callSI (pc := 39) (As := [.int xp3, .int (0 : Int32), .int (xp2 - (1 : Int32))]) (rest := []) C (fun z hz => mX9_within xp3 (0 : Int32) (xp2 - (1 : Int32)) h5 z hz) mwX9_within mlX9_97 stX9_within rfl dX9_surface_39 (by decide) rfl (Nat.le_of_ble_eq_true rfl) (by decide) (fun x8 h7 => ?_)
        refine J_if_ne (pc := 42) (tgt := 49) C dX9_surface_42 (by decide) ?_ ?_
        · refine J_iload_n (pc := 49) C dX9_surface_49 rfl 1 rfl ?_
          refine J_iload_n (pc := 50) C dX9_surface_50 rfl 3 rfl ?_
          refine J_iload_n (pc := 51) C dX9_surface_51 rfl 3 rfl ?_
          refine J_iload (pc := 52) C dX9_surface_52 4 rfl ?_
          refine J_isub (pc := 54) C dX9_surface_54 ?_
          refine J_callSJ (pc := 55) (As := [.int xp0, .int xp2, .int (xp2 - xp3)]) (rest := []) C (fun z hz => mX9_leavesAlong xp0 xp2 (xp2 - xp3) h7 z hz) mwX9_leavesAlong mlX9_194 stX9_leavesAlong rfl dX9_surface_55 (by decide) rfl (Nat.le_of_ble_eq_true rfl) (by decide) (fun x10 h9 => ?_)
          refine J_iload_n (pc := 58) C dX9_surface_58 rfl 2 rfl ?_
          refine J_iload_n (pc := 59) C dX9_surface_59 rfl 3 rfl ?_
          refine J_iload_n (pc := 60) C dX9_surface_60 rfl 3 rfl ?_
          refine J_iload (pc := 61) C dX9_surface_61 4 rfl ?_
          refine J_isub (pc := 63) C dX9_surface_63 ?_
          refine J_callSJ (pc := 64) (As := [.int xp1, .int xp2, .int (xp2 - xp3)]) (rest := [.long x10]) C (fun z hz => mX9_leavesAlong xp1 xp2 (xp2 - xp3) h9 z hz) mwX9_leavesAlong mlX9_194 stX9_leavesAlong rfl dX9_surface_64 (by decide) rfl (Nat.le_of_ble_eq_true rfl) (by decide) (fun x12 h11 => ?_)
          refine J_lmul (pc := 67) C dX9_surface_67 ?_
          exact J_lret (pc := 68) C hr dX9_surface_68
        · refine J_ldc2 (pc := 45) C kjX9_101 dX9_surface_45 ?_
          exact J_lret (pc := 48) C hr dX9_surface_48
theorem mX9_surface {l : Launch} {G : GX} (a0 : Nat) (xp0 : Int32) (xp1 : Int32) (xp2 : Int32) (xp3 : Int32) (h0 : PH) : ∀ z, fX9_surface a0 xp0 xp1 xp2 xp3 h0 = some z → MC l G yX9_surface cX9_surface 5 (some .long) rmX9_surface [.ref a0, .int xp0, .int xp1, .int xp2, .int xp3] h0 (rvJ z.1) z.2 :=
  Met_J (own := RX9) (by decide) rfl (Nat.le_of_ble_eq_true rfl) (fun p e s m args below meth c C hr hn => vfX9_surface C hr a0 xp0 xp1 xp2 xp3 h0)

theorem dX10_along_0 : decode cX10_along 0 = .ok (.iload_n 0, 1) := by decide +kernel
theorem dX10_along_1 : decode cX10_along 1 = .ok (.iload_n 1, 1) := by decide +kernel
theorem dX10_along_2 : decode cX10_along 2 = .ok (.if_icmp .gt 7, 3) := by decide +kernel
theorem dX10_along_5 : decode cX10_along 5 = .ok (.lconst 1, 1) := by decide +kernel
theorem dX10_along_6 : decode cX10_along 6 = .ok (.goto 19, 3) := by decide +kernel
theorem dX10_along_9 : decode cX10_along 9 = .ok (.lconst 1, 1) := by decide +kernel
theorem dX10_along_10 : decode cX10_along 10 = .ok (.iload_n 0, 1) := by decide +kernel
theorem dX10_along_11 : decode cX10_along 11 = .ok (.iload_n 1, 1) := by decide +kernel
theorem dX10_along_12 : decode cX10_along 12 = .ok (.isub, 1) := by decide +kernel
theorem dX10_along_13 : decode cX10_along 13 = .ok (.iload_n 1, 1) := by decide +kernel
theorem dX10_along_14 : decode cX10_along 14 = .ok (.iadd, 1) := by decide +kernel
theorem dX10_along_15 : decode cX10_along 15 = .ok (.iload_n 2, 1) := by decide +kernel
theorem dX10_along_16 : decode cX10_along 16 = .ok (.isub, 1) := by decide +kernel
theorem dX10_along_17 : decode cX10_along 17 = .ok (.iconst 1, 1) := by decide +kernel
theorem dX10_along_18 : decode cX10_along 18 = .ok (.isub, 1) := by decide +kernel
theorem dX10_along_19 : decode cX10_along 19 = .ok (.iload_n 1, 1) := by decide +kernel
theorem dX10_along_20 : decode cX10_along 20 = .ok (.iload_n 2, 1) := by decide +kernel
theorem dX10_along_21 : decode cX10_along 21 = .ok (.isub, 1) := by decide +kernel
theorem dX10_along_22 : decode cX10_along 22 = .ok (.idiv, 1) := by decide +kernel
theorem dX10_along_23 : decode cX10_along 23 = .ok (.i2l, 1) := by decide +kernel
theorem dX10_along_24 : decode cX10_along 24 = .ok (.ladd, 1) := by decide +kernel
theorem dX10_along_25 : decode cX10_along 25 = .ok (.lreturn, 1) := by decide +kernel
def rmX10_along : Room := { frames := 0, cells := 0, slots := 0, locals := 0 }
def fX10_along  (xp0 : Int32) (xp1 : Int32) (xp2 : Int32) (h0 : PH) : Option (Int64 × PH) :=
    if xp1 < xp0 then (if (xp1 - xp2) = 0 then none else
    some (((1 : Int64) + (((((xp0 - xp1) + xp1) - xp2) - (1 : Int32)) / (xp1 - xp2)).toInt64), h0)) else
    some ((1 : Int64), h0)
set_option maxHeartbeats 4000000 in
set_option maxRecDepth 100000 in
theorem vfX10_along {p : Program} {l : Launch} {e : Env} {s : State} {m : MethodId} {args : Array Value} {below : List Frame} {meth : Method} {c : Code} {G : GX} (C : Cx p s m args meth c G cX10_along 3 RX10) (hr : meth.sig.returnType = (some .long)) (xp0 : Int32) (xp1 : Int32) (xp2 : Int32) (h0 : PH) : J p l e rmX10_along s m args below meth c G 3 (qM below args s rvJ G 0 0) 0 0 h0 0 [(0, .int xp0), (1, .int xp1), (2, .int xp2)] [] (fX10_along  xp0 xp1 xp2 h0) := by
  unfold fX10_along
  refine J_iload_n (pc := 0) C dX10_along_0 rfl 0 rfl ?_
  refine J_iload_n (pc := 1) C dX10_along_1 rfl 1 rfl ?_
  refine J_icmp_gt (pc := 2) (tgt := 9) C dX10_along_2 (by decide) ?_ ?_
  · refine J_lconst (pc := 9) (v := 1) C dX10_along_9 (by decide) ?_
    refine J_iload_n (pc := 10) C dX10_along_10 rfl 0 rfl ?_
    refine J_iload_n (pc := 11) C dX10_along_11 rfl 1 rfl ?_
    refine J_isub (pc := 12) C dX10_along_12 ?_
    refine J_iload_n (pc := 13) C dX10_along_13 rfl 1 rfl ?_
    refine J_iadd (pc := 14) C dX10_along_14 ?_
    refine J_iload_n (pc := 15) C dX10_along_15 rfl 2 rfl ?_
    refine J_isub (pc := 16) C dX10_along_16 ?_
    refine J_iconst (pc := 17) (v := 1) C dX10_along_17 (by decide) ?_
    refine J_isub (pc := 18) C dX10_along_18 ?_
    refine J_iload_n (pc := 19) C dX10_along_19 rfl 1 rfl ?_
    refine J_iload_n (pc := 20) C dX10_along_20 rfl 2 rfl ?_
    refine J_isub (pc := 21) C dX10_along_21 ?_
    refine J_idiv (pc := 22) C dX10_along_22 ?_
    refine J_i2l (pc := 23) C dX10_along_23 ?_
    refine J_ladd (pc := 24) C dX10_along_24 ?_
    exact J_lret (pc := 25) C hr dX10_along_25
  · refine J_lconst (pc := 5) (v := 1) C dX10_along_5 (by decide) ?_
    refine J_goto (pc := 6) (tgt := 25) C dX10_along_6 (by decide) ?_
    exact J_lret (pc := 25) C hr dX10_along_25
theorem mX10_along {l : Launch} {G : GX} (xp0 : Int32) (xp1 : Int32) (xp2 : Int32) (h0 : PH) : ∀ z, fX10_along xp0 xp1 xp2 h0 = some z → MC l G yX10_along cX10_along 3 (some .long) rmX10_along [.int xp0, .int xp1, .int xp2] h0 (rvJ z.1) z.2 :=
  Met_J (own := RX10) (by decide) rfl (Nat.le_of_ble_eq_true rfl) (fun p e s m args below meth c C hr hn => vfX10_along C hr xp0 xp1 xp2 h0)

theorem dX10_surface_0 : decode cX10_surface 0 = .ok (.aload_n 0, 1) := by decide +kernel
theorem dX10_surface_1 : decode cX10_surface 1 = .ok (.iconst 0, 1) := by decide +kernel
theorem dX10_surface_2 : decode cX10_surface 2 = .ok (.putfield 90, 3) := by decide +kernel
theorem dX10_surface_5 : decode cX10_surface 5 = .ok (.iload_n 1, 1) := by decide +kernel
theorem dX10_surface_6 : decode cX10_surface 6 = .ok (.i2l, 1) := by decide +kernel
theorem dX10_surface_7 : decode cX10_surface 7 = .ok (.lconst 1, 1) := by decide +kernel
theorem dX10_surface_8 : decode cX10_surface 8 = .ok (.ldc2_w 223, 3) := by decide +kernel
theorem dX10_surface_11 : decode cX10_surface 11 = .ok (.invokestatic 99, 3) := by decide +kernel
theorem dX10_surface_14 : decode cX10_surface 14 = .ok (.ifCond .eq 45, 3) := by decide +kernel
theorem dX10_surface_17 : decode cX10_surface 17 = .ok (.iload_n 2, 1) := by decide +kernel
theorem dX10_surface_18 : decode cX10_surface 18 = .ok (.i2l, 1) := by decide +kernel
theorem dX10_surface_19 : decode cX10_surface 19 = .ok (.lconst 1, 1) := by decide +kernel
theorem dX10_surface_20 : decode cX10_surface 20 = .ok (.ldc2_w 223, 3) := by decide +kernel
theorem dX10_surface_23 : decode cX10_surface 23 = .ok (.invokestatic 99, 3) := by decide +kernel
theorem dX10_surface_26 : decode cX10_surface 26 = .ok (.ifCond .eq 33, 3) := by decide +kernel
theorem dX10_surface_29 : decode cX10_surface 29 = .ok (.iload_n 3, 1) := by decide +kernel
theorem dX10_surface_30 : decode cX10_surface 30 = .ok (.i2l, 1) := by decide +kernel
theorem dX10_surface_31 : decode cX10_surface 31 = .ok (.lconst 1, 1) := by decide +kernel
theorem dX10_surface_32 : decode cX10_surface 32 = .ok (.ldc2_w 233, 3) := by decide +kernel
theorem dX10_surface_35 : decode cX10_surface 35 = .ok (.invokestatic 99, 3) := by decide +kernel
theorem dX10_surface_38 : decode cX10_surface 38 = .ok (.ifCond .eq 21, 3) := by decide +kernel
theorem dX10_surface_41 : decode cX10_surface 41 = .ok (.iload 4, 2) := by decide +kernel
theorem dX10_surface_43 : decode cX10_surface 43 = .ok (.i2l, 1) := by decide +kernel
theorem dX10_surface_44 : decode cX10_surface 44 = .ok (.lconst 0, 1) := by decide +kernel
theorem dX10_surface_45 : decode cX10_surface 45 = .ok (.iload_n 3, 1) := by decide +kernel
theorem dX10_surface_46 : decode cX10_surface 46 = .ok (.i2l, 1) := by decide +kernel
theorem dX10_surface_47 : decode cX10_surface 47 = .ok (.lconst 1, 1) := by decide +kernel
theorem dX10_surface_48 : decode cX10_surface 48 = .ok (.lsub, 1) := by decide +kernel
theorem dX10_surface_49 : decode cX10_surface 49 = .ok (.invokestatic 99, 3) := by decide +kernel
theorem dX10_surface_52 : decode cX10_surface 52 = .ok (.ifCond .eq 7, 3) := by decide +kernel
theorem dX10_surface_55 : decode cX10_surface 55 = .ok (.iconst 1, 1) := by decide +kernel
theorem dX10_surface_56 : decode cX10_surface 56 = .ok (.goto 4, 3) := by decide +kernel
theorem dX10_surface_59 : decode cX10_surface 59 = .ok (.iconst 0, 1) := by decide +kernel
theorem dX10_surface_60 : decode cX10_surface 60 = .ok (.istore 5, 2) := by decide +kernel
theorem dX10_surface_62 : decode cX10_surface 62 = .ok (.iload 5, 2) := by decide +kernel
theorem dX10_surface_64 : decode cX10_surface 64 = .ok (.ifCond .eq 21, 3) := by decide +kernel
theorem dX10_surface_67 : decode cX10_surface 67 = .ok (.iload_n 1, 1) := by decide +kernel
theorem dX10_surface_68 : decode cX10_surface 68 = .ok (.iload_n 3, 1) := by decide +kernel
theorem dX10_surface_69 : decode cX10_surface 69 = .ok (.iload 4, 2) := by decide +kernel
theorem dX10_surface_71 : decode cX10_surface 71 = .ok (.invokestatic 235, 3) := by decide +kernel
theorem dX10_surface_74 : decode cX10_surface 74 = .ok (.iload_n 2, 1) := by decide +kernel
theorem dX10_surface_75 : decode cX10_surface 75 = .ok (.iload_n 3, 1) := by decide +kernel
theorem dX10_surface_76 : decode cX10_surface 76 = .ok (.iload 4, 2) := by decide +kernel
theorem dX10_surface_78 : decode cX10_surface 78 = .ok (.invokestatic 235, 3) := by decide +kernel
theorem dX10_surface_81 : decode cX10_surface 81 = .ok (.lmul, 1) := by decide +kernel
theorem dX10_surface_82 : decode cX10_surface 82 = .ok (.goto 6, 3) := by decide +kernel
theorem dX10_surface_85 : decode cX10_surface 85 = .ok (.ldc2_w 133, 3) := by decide +kernel
theorem dX10_surface_88 : decode cX10_surface 88 = .ok (.lreturn, 1) := by decide +kernel
def rmX10_surface : Room := { frames := 1, cells := 0, slots := 0, locals := 25 }
def fX10_surface_60  (xl1 : Int32) (xl2 : Int32) (xl3 : Int32) (xl4 : Int32) (xs0 : Int32) (h0 : PH) : Option (Int64 × PH) :=
    if xs0 = 0 then (some ((-1 : Int64), h0)) else
    bn2 (fX10_along xl1 xl3 xl4 h0) fun x5 h4 =>
    bn2 (fX10_along xl2 xl3 xl4 h4) fun x7 h6 =>
    some ((x5 * x7), h6)
set_option maxHeartbeats 4000000 in
set_option maxRecDepth 100000 in
theorem vfX10_surface_60 {p : Program} {l : Launch} {e : Env} {s : State} {m : MethodId} {args : Array Value} {below : List Frame} {meth : Method} {c : Code} {G : GX} (C : Cx p s m args meth c G cX10_surface 6 RX10) (hr : meth.sig.returnType = (some .long)) (xl1 : Int32) (xl2 : Int32) (xl3 : Int32) (xl4 : Int32) (xs0 : Int32) (h0 : PH) : J p l e rmX10_surface s m args below meth c G 6 (qM below args s rvJ G 0 0) 0 0 h0 60 [(1, .int xl1), (2, .int xl2), (3, .int xl3), (4, .int xl4)] [.int xs0] (fX10_surface_60  xl1 xl2 xl3 xl4 xs0 h0) := by
  unfold fX10_surface_60
  refine J_istore (pc := 60) (lv1 := [(5, .int xs0), (1, .int xl1), (2, .int xl2), (3, .int xl3), (4, .int xl4)]) C dX10_surface_60 (by decide) rfl ?_
  refine J_iload (pc := 62) C dX10_surface_62 0 rfl ?_
  refine J_if_eq (pc := 64) (tgt := 85) C dX10_surface_64 (by decide) ?_ ?_
  · refine J_ldc2 (pc := 85) C kjX10_133 dX10_surface_85 ?_
    exact J_lret (pc := 88) C hr dX10_surface_88
  · refine J_iload_n (pc := 67) C dX10_surface_67 rfl 1 rfl ?_
    refine J_iload_n (pc := 68) C dX10_surface_68 rfl 3 rfl ?_
    refine J_iload (pc := 69) C dX10_surface_69 4 rfl ?_
    refine J_callSJ (pc := 71) (As := [.int xl1, .int xl3, .int xl4]) (rest := []) C (fun z hz => mX10_along xl1 xl3 xl4 h0 z hz) mwX10_along mlX10_235 stX10_along rfl dX10_surface_71 (by decide) rfl (Nat.le_of_ble_eq_true rfl) (by decide) (fun x5 h4 => ?_)
    refine J_iload_n (pc := 74) C dX10_surface_74 rfl 2 rfl ?_
    refine J_iload_n (pc := 75) C dX10_surface_75 rfl 3 rfl ?_
    refine J_iload (pc := 76) C dX10_surface_76 4 rfl ?_
    refine J_callSJ (pc := 78) (As := [.int xl2, .int xl3, .int xl4]) (rest := [.long x5]) C (fun z hz => mX10_along xl2 xl3 xl4 h4 z hz) mwX10_along mlX10_235 stX10_along rfl dX10_surface_78 (by decide) rfl (Nat.le_of_ble_eq_true rfl) (by decide) (fun x7 h6 => ?_)
    refine J_lmul (pc := 81) C dX10_surface_81 ?_
    refine J_goto (pc := 82) (tgt := 88) C dX10_surface_82 (by decide) ?_
    exact J_lret (pc := 88) C hr dX10_surface_88
def fX10_surface_59  (xl1 : Int32) (xl2 : Int32) (xl3 : Int32) (xl4 : Int32) (h0 : PH) : Option (Int64 × PH) :=
    fX10_surface_60  xl1 xl2 xl3 xl4 (0 : Int32) h0
set_option maxHeartbeats 4000000 in
set_option maxRecDepth 100000 in
theorem vfX10_surface_59 {p : Program} {l : Launch} {e : Env} {s : State} {m : MethodId} {args : Array Value} {below : List Frame} {meth : Method} {c : Code} {G : GX} (C : Cx p s m args meth c G cX10_surface 6 RX10) (hr : meth.sig.returnType = (some .long)) (xl1 : Int32) (xl2 : Int32) (xl3 : Int32) (xl4 : Int32) (h0 : PH) : J p l e rmX10_surface s m args below meth c G 6 (qM below args s rvJ G 0 0) 0 0 h0 59 [(1, .int xl1), (2, .int xl2), (3, .int xl3), (4, .int xl4)] [] (fX10_surface_59  xl1 xl2 xl3 xl4 h0) := by
  unfold fX10_surface_59
  refine J_iconst (pc := 59) (v := 0) C dX10_surface_59 (by decide) ?_
  exact vfX10_surface_60 C hr  xl1 xl2 xl3 xl4 (0 : Int32) h0
def fX10_surface  (a0 : Nat) (xp0 : Int32) (xp1 : Int32) (xp2 : Int32) (xp3 : Int32) (h0 : PH) : Option (Int64 × PH) :=
    bn (wr 10 0 (.int (0 : Int32)) a0 h0) fun h1 =>
    bn2 (fX10_in xp0.toInt64 (1 : Int64) (10000 : Int64) h1) fun x3 h2 =>
    if x3 = 0 then (fX10_surface_59  xp0 xp1 xp2 xp3 h2) else
    bn2 (fX10_in xp1.toInt64 (1 : Int64) (10000 : Int64) h2) fun x9 h8 =>
    if x9 = 0 then (fX10_surface_59  xp0 xp1 xp2 xp3 h8) else
    bn2 (fX10_in xp2.toInt64 (1 : Int64) (200 : Int64) h8) fun x11 h10 =>
    if x11 = 0 then (fX10_surface_59  xp0 xp1 xp2 xp3 h10) else
    bn2 (fX10_in xp3.toInt64 (0 : Int64) (xp2.toInt64 - (1 : Int64)) h10) fun x13 h12 =>
    if x13 = 0 then (fX10_surface_59  xp0 xp1 xp2 xp3 h12) else
    fX10_surface_60  xp0 xp1 xp2 xp3 (1 : Int32) h12
set_option maxHeartbeats 4000000 in
set_option maxRecDepth 100000 in
theorem vfX10_surface {p : Program} {l : Launch} {e : Env} {s : State} {m : MethodId} {args : Array Value} {below : List Frame} {meth : Method} {c : Code} {G : GX} (C : Cx p s m args meth c G cX10_surface 6 RX10) (hr : meth.sig.returnType = (some .long)) (a0 : Nat) (xp0 : Int32) (xp1 : Int32) (xp2 : Int32) (xp3 : Int32) (h0 : PH) : J p l e rmX10_surface s m args below meth c G 6 (qM below args s rvJ G 0 0) 0 0 h0 0 [(0, .ref a0), (1, .int xp0), (2, .int xp1), (3, .int xp2), (4, .int xp3)] [] (fX10_surface  a0 xp0 xp1 xp2 xp3 h0) := by
  unfold fX10_surface
  refine J_aload_n (pc := 0) C dX10_surface_0 rfl 0 rfl ?_
  refine J_iconst (pc := 1) (v := 0) C dX10_surface_1 (by decide) ?_
  refine J_put (pc := 2) C flX10_90 cl10 ft10_0 rfl rfl dX10_surface_2 (fun h1 => ?_)
  refine J_iload_n (pc := 5) C dX10_surface_5 rfl 1 rfl ?_
  refine J_i2l (pc := 6) C dX10_surface_6 ?_
  refine J_lconst (pc := 7) (v := 1) C dX10_surface_7 (by decide) ?_
  refine J_ldc2 (pc := 8) C kjX10_223 dX10_surface_8 ?_
  refine J_callSI (pc := 11) (As := [.long xp0.toInt64, .long (1 : Int64), .long (10000 : Int64)]) (rest := []) C (fun z hz => mX10_in xp0.toInt64 (1 : Int64) (10000 : Int64) h1 z hz) mwX10_in mlX10_99 stX10_in rfl dX10_surface_11 (by decide) rfl (Nat.le_of_ble_eq_true rfl) (by decide) (fun x3 h2 => ?_)
  refine J_if_eq (pc := 14) (tgt := 59) C dX10_surface_14 (by decide) ?_ ?_
  · refine J_sub [1, 2, 3, 4] rfl ?_
    exact vfX10_surface_59 C hr  xp0 xp1 xp2 xp3 h2
  · refine J_iload_n (pc := 17) C dX10_surface_17 rfl 2 rfl ?_
    refine J_i2l (pc := 18) C dX10_surface_18 ?_
    refine J_lconst (pc := 19) (v := 1) C dX10_surface_19 (by decide) ?_
    refine J_ldc2 (pc := 20) C kjX10_223 dX10_surface_20 ?_
    refine J_callSI (pc := 23) (As := [.long xp1.toInt64, .long (1 : Int64), .long (10000 : Int64)]) (rest := []) C (fun z hz => mX10_in xp1.toInt64 (1 : Int64) (10000 : Int64) h2 z hz) mwX10_in mlX10_99 stX10_in rfl dX10_surface_23 (by decide) rfl (Nat.le_of_ble_eq_true rfl) (by decide) (fun x9 h8 => ?_)
    refine J_if_eq (pc := 26) (tgt := 59) C dX10_surface_26 (by decide) ?_ ?_
    · refine J_sub [1, 2, 3, 4] rfl ?_
      exact vfX10_surface_59 C hr  xp0 xp1 xp2 xp3 h8
    · refine J_iload_n (pc := 29) C dX10_surface_29 rfl 3 rfl ?_
      refine J_i2l (pc := 30) C dX10_surface_30 ?_
      refine J_lconst (pc := 31) (v := 1) C dX10_surface_31 (by decide) ?_
      refine J_ldc2 (pc := 32) C kjX10_233 dX10_surface_32 ?_
      refine J_callSI (pc := 35) (As := [.long xp2.toInt64, .long (1 : Int64), .long (200 : Int64)]) (rest := []) C (fun z hz => mX10_in xp2.toInt64 (1 : Int64) (200 : Int64) h8 z hz) mwX10_in mlX10_99 stX10_in rfl dX10_surface_35 (by decide) rfl (Nat.le_of_ble_eq_true rfl) (by decide) (fun x11 h10 => ?_)
      refine J_if_eq (pc := 38) (tgt := 59) C dX10_surface_38 (by decide) ?_ ?_
      · refine J_sub [1, 2, 3, 4] rfl ?_
        exact vfX10_surface_59 C hr  xp0 xp1 xp2 xp3 h10
      · refine J_iload (pc := 41) C dX10_surface_41 4 rfl ?_
        refine J_i2l (pc := 43) C dX10_surface_43 ?_
        refine J_lconst (pc := 44) (v := 0) C dX10_surface_44 (by decide) ?_
        refine J_iload_n (pc := 45) C dX10_surface_45 rfl 3 rfl ?_
        refine J_i2l (pc := 46) C dX10_surface_46 ?_
        refine J_lconst (pc := 47) (v := 1) C dX10_surface_47 (by decide) ?_
        refine J_lsub (pc := 48) C dX10_surface_48 ?_
        refine J_callSI (pc := 49) (As := [.long xp3.toInt64, .long (0 : Int64), .long (xp2.toInt64 - (1 : Int64))]) (rest := []) C (fun z hz => mX10_in xp3.toInt64 (0 : Int64) (xp2.toInt64 - (1 : Int64)) h10 z hz) mwX10_in mlX10_99 stX10_in rfl dX10_surface_49 (by decide) rfl (Nat.le_of_ble_eq_true rfl) (by decide) (fun x13 h12 => ?_)
        refine J_if_eq (pc := 52) (tgt := 59) C dX10_surface_52 (by decide) ?_ ?_
        · refine J_sub [1, 2, 3, 4] rfl ?_
          exact vfX10_surface_59 C hr  xp0 xp1 xp2 xp3 h12
        · refine J_iconst (pc := 55) (v := 1) C dX10_surface_55 (by decide) ?_
          refine J_goto (pc := 56) (tgt := 60) C dX10_surface_56 (by decide) ?_
          refine J_sub [1, 2, 3, 4] rfl ?_
          exact vfX10_surface_60 C hr  xp0 xp1 xp2 xp3 (1 : Int32) h12
theorem mX10_surface {l : Launch} {G : GX} (a0 : Nat) (xp0 : Int32) (xp1 : Int32) (xp2 : Int32) (xp3 : Int32) (h0 : PH) : ∀ z, fX10_surface a0 xp0 xp1 xp2 xp3 h0 = some z → MC l G yX10_surface cX10_surface 6 (some .long) rmX10_surface [.ref a0, .int xp0, .int xp1, .int xp2, .int xp3] h0 (rvJ z.1) z.2 :=
  Met_J (own := RX10) (by decide) rfl (Nat.le_of_ble_eq_true rfl) (fun p e s m args below meth c C hr hn => vfX10_surface C hr a0 xp0 xp1 xp2 xp3 h0)

theorem dX9_isHour_0 : decode cX9_isHour 0 = .ok (.iload_n 0, 1) := by decide +kernel
theorem dX9_isHour_1 : decode cX9_isHour 1 = .ok (.iconst 0, 1) := by decide +kernel
theorem dX9_isHour_2 : decode cX9_isHour 2 = .ok (.sipush 1000, 3) := by decide +kernel
theorem dX9_isHour_5 : decode cX9_isHour 5 = .ok (.invokestatic 97, 3) := by decide +kernel
theorem dX9_isHour_8 : decode cX9_isHour 8 = .ok (.ireturn, 1) := by decide +kernel
def rmX9_isHour : Room := { frames := 1, cells := 0, slots := 0, locals := 22 }
def fX9_isHour  (xp0 : Int32) (h0 : PH) : Option (Int32 × PH) :=
    bn2 (fX9_within xp0 (0 : Int32) (1000 : Int32) h0) fun x2 h1 =>
    if x2 = 0 ∨ x2 = 1 then some (x2, h1) else none
set_option maxHeartbeats 4000000 in
set_option maxRecDepth 100000 in
theorem vfX9_isHour {p : Program} {l : Launch} {e : Env} {s : State} {m : MethodId} {args : Array Value} {below : List Frame} {meth : Method} {c : Code} {G : GX} (C : Cx p s m args meth c G cX9_isHour 1 RX9) (hr : meth.sig.returnType = (some .boolean)) (xp0 : Int32) (h0 : PH) : J p l e rmX9_isHour s m args below meth c G 1 (qM below args s rvI G 0 0) 0 0 h0 0 [(0, .int xp0)] [] (fX9_isHour  xp0 h0) := by
  unfold fX9_isHour
  refine J_iload_n (pc := 0) C dX9_isHour_0 rfl 0 rfl ?_
  refine J_iconst (pc := 1) (v := 0) C dX9_isHour_1 (by decide) ?_
  refine J_sipush (pc := 2) (v := 1000) C dX9_isHour_2 (by decide) ?_
  refine J_callSI (pc := 5) (As := [.int xp0, .int (0 : Int32), .int (1000 : Int32)]) (rest := []) C (fun z hz => mX9_within xp0 (0 : Int32) (1000 : Int32) h0 z hz) mwX9_within mlX9_97 stX9_within rfl dX9_isHour_5 (by decide) rfl (Nat.le_of_ble_eq_true rfl) (by decide) (fun x2 h1 => ?_)
  exact J_zretC (pc := 8) C hr dX9_isHour_8
theorem mX9_isHour {l : Launch} {G : GX} (xp0 : Int32) (h0 : PH) : ∀ z, fX9_isHour xp0 h0 = some z → MC l G yX9_isHour cX9_isHour 1 (some .boolean) rmX9_isHour [.int xp0] h0 (rvI z.1) z.2 :=
  Met_J (own := RX9) (by decide) rfl (Nat.le_of_ble_eq_true rfl) (fun p e s m args below meth c C hr hn => vfX9_isHour C hr xp0 h0)

