theorem dX7_addBar_0 : decode cX7_addBar 0 = .ok (.iload_n 1, 1) := by decide +kernel
theorem dX7_addBar_1 : decode cX7_addBar 1 = .ok (.iconst 1, 1) := by decide +kernel
theorem dX7_addBar_2 : decode cX7_addBar 2 = .ok (.ldc 37, 2) := by decide +kernel
theorem dX7_addBar_4 : decode cX7_addBar 4 = .ok (.invokestatic 38, 3) := by decide +kernel
theorem dX7_addBar_7 : decode cX7_addBar 7 = .ok (.ifCond .eq 27, 3) := by decide +kernel
theorem dX7_addBar_10 : decode cX7_addBar 10 = .ok (.iload_n 2, 1) := by decide +kernel
theorem dX7_addBar_11 : decode cX7_addBar 11 = .ok (.iconst 0, 1) := by decide +kernel
theorem dX7_addBar_12 : decode cX7_addBar 12 = .ok (.sipush 1000, 3) := by decide +kernel
theorem dX7_addBar_15 : decode cX7_addBar 15 = .ok (.invokestatic 38, 3) := by decide +kernel
theorem dX7_addBar_18 : decode cX7_addBar 18 = .ok (.ifCond .eq 16, 3) := by decide +kernel
theorem dX7_addBar_21 : decode cX7_addBar 21 = .ok (.iload_n 3, 1) := by decide +kernel
theorem dX7_addBar_22 : decode cX7_addBar 22 = .ok (.iconst 0, 1) := by decide +kernel
theorem dX7_addBar_23 : decode cX7_addBar 23 = .ok (.sipush 1000, 3) := by decide +kernel
theorem dX7_addBar_26 : decode cX7_addBar 26 = .ok (.iload_n 2, 1) := by decide +kernel
theorem dX7_addBar_27 : decode cX7_addBar 27 = .ok (.isub, 1) := by decide +kernel
theorem dX7_addBar_28 : decode cX7_addBar 28 = .ok (.invokestatic 38, 3) := by decide +kernel
theorem dX7_addBar_31 : decode cX7_addBar 31 = .ok (.ifCond .ne 5, 3) := by decide +kernel
theorem dX7_addBar_34 : decode cX7_addBar 34 = .ok (.iconst (-1), 1) := by decide +kernel
theorem dX7_addBar_35 : decode cX7_addBar 35 = .ok (.ireturn, 1) := by decide +kernel
theorem dX7_addBar_36 : decode cX7_addBar 36 = .ok (.aload_n 0, 1) := by decide +kernel
theorem dX7_addBar_37 : decode cX7_addBar 37 = .ok (.getfield 26, 3) := by decide +kernel
theorem dX7_addBar_40 : decode cX7_addBar 40 = .ok (.bipush 10, 2) := by decide +kernel
theorem dX7_addBar_42 : decode cX7_addBar 42 = .ok (.if_icmp .ge 12, 3) := by decide +kernel
theorem dX7_addBar_45 : decode cX7_addBar 45 = .ok (.aload_n 0, 1) := by decide +kernel
theorem dX7_addBar_46 : decode cX7_addBar 46 = .ok (.getfield 30, 3) := by decide +kernel
theorem dX7_addBar_49 : decode cX7_addBar 49 = .ok (.bipush 120, 2) := by decide +kernel
theorem dX7_addBar_51 : decode cX7_addBar 51 = .ok (.if_icmp .lt 6, 3) := by decide +kernel
theorem dX7_addBar_54 : decode cX7_addBar 54 = .ok (.bipush (-5), 2) := by decide +kernel
theorem dX7_addBar_56 : decode cX7_addBar 56 = .ok (.ireturn, 1) := by decide +kernel
theorem dX7_addBar_57 : decode cX7_addBar 57 = .ok (.aload_n 0, 1) := by decide +kernel
theorem dX7_addBar_58 : decode cX7_addBar 58 = .ok (.getfield 19, 3) := by decide +kernel
theorem dX7_addBar_61 : decode cX7_addBar 61 = .ok (.iconst 0, 1) := by decide +kernel
theorem dX7_addBar_62 : decode cX7_addBar 62 = .ok (.aaload, 1) := by decide +kernel
theorem dX7_addBar_63 : decode cX7_addBar 63 = .ok (.aload_n 0, 1) := by decide +kernel
theorem dX7_addBar_64 : decode cX7_addBar 64 = .ok (.getfield 26, 3) := by decide +kernel
theorem dX7_addBar_67 : decode cX7_addBar 67 = .ok (.iload_n 2, 1) := by decide +kernel
theorem dX7_addBar_68 : decode cX7_addBar 68 = .ok (.iastore, 1) := by decide +kernel
theorem dX7_addBar_69 : decode cX7_addBar 69 = .ok (.aload_n 0, 1) := by decide +kernel
theorem dX7_addBar_70 : decode cX7_addBar 70 = .ok (.getfield 19, 3) := by decide +kernel
theorem dX7_addBar_73 : decode cX7_addBar 73 = .ok (.iconst 1, 1) := by decide +kernel
theorem dX7_addBar_74 : decode cX7_addBar 74 = .ok (.aaload, 1) := by decide +kernel
theorem dX7_addBar_75 : decode cX7_addBar 75 = .ok (.aload_n 0, 1) := by decide +kernel
theorem dX7_addBar_76 : decode cX7_addBar 76 = .ok (.getfield 26, 3) := by decide +kernel
theorem dX7_addBar_79 : decode cX7_addBar 79 = .ok (.iload_n 3, 1) := by decide +kernel
theorem dX7_addBar_80 : decode cX7_addBar 80 = .ok (.iastore, 1) := by decide +kernel
theorem dX7_addBar_81 : decode cX7_addBar 81 = .ok (.aload_n 0, 1) := by decide +kernel
theorem dX7_addBar_82 : decode cX7_addBar 82 = .ok (.getfield 19, 3) := by decide +kernel
theorem dX7_addBar_85 : decode cX7_addBar 85 = .ok (.iconst 2, 1) := by decide +kernel
theorem dX7_addBar_86 : decode cX7_addBar 86 = .ok (.aaload, 1) := by decide +kernel
theorem dX7_addBar_87 : decode cX7_addBar 87 = .ok (.aload_n 0, 1) := by decide +kernel
theorem dX7_addBar_88 : decode cX7_addBar 88 = .ok (.getfield 26, 3) := by decide +kernel
theorem dX7_addBar_91 : decode cX7_addBar 91 = .ok (.sipush 1000, 3) := by decide +kernel
theorem dX7_addBar_94 : decode cX7_addBar 94 = .ok (.iload_n 2, 1) := by decide +kernel
theorem dX7_addBar_95 : decode cX7_addBar 95 = .ok (.isub, 1) := by decide +kernel
theorem dX7_addBar_96 : decode cX7_addBar 96 = .ok (.iload_n 3, 1) := by decide +kernel
theorem dX7_addBar_97 : decode cX7_addBar 97 = .ok (.isub, 1) := by decide +kernel
theorem dX7_addBar_98 : decode cX7_addBar 98 = .ok (.iastore, 1) := by decide +kernel
theorem dX7_addBar_99 : decode cX7_addBar 99 = .ok (.new 9, 3) := by decide +kernel
theorem dX7_addBar_102 : decode cX7_addBar 102 = .ok (.dup, 1) := by decide +kernel
theorem dX7_addBar_103 : decode cX7_addBar 103 = .ok (.invokespecial 42, 3) := by decide +kernel
theorem dX7_addBar_106 : decode cX7_addBar 106 = .ok (.astore 4, 2) := by decide +kernel
theorem dX7_addBar_108 : decode cX7_addBar 108 = .ok (.aload 4, 2) := by decide +kernel
theorem dX7_addBar_110 : decode cX7_addBar 110 = .ok (.getfield 43, 3) := by decide +kernel
theorem dX7_addBar_113 : decode cX7_addBar 113 = .ok (.aload_n 0, 1) := by decide +kernel
theorem dX7_addBar_114 : decode cX7_addBar 114 = .ok (.getfield 26, 3) := by decide +kernel
theorem dX7_addBar_117 : decode cX7_addBar 117 = .ok (.iload_n 1, 1) := by decide +kernel
theorem dX7_addBar_118 : decode cX7_addBar 118 = .ok (.iastore, 1) := by decide +kernel
theorem dX7_addBar_119 : decode cX7_addBar 119 = .ok (.aload 4, 2) := by decide +kernel
theorem dX7_addBar_121 : decode cX7_addBar 121 = .ok (.iload_n 1, 1) := by decide +kernel
theorem dX7_addBar_122 : decode cX7_addBar 122 = .ok (.putfield 47, 3) := by decide +kernel
theorem dX7_addBar_125 : decode cX7_addBar 125 = .ok (.aload_n 0, 1) := by decide +kernel
theorem dX7_addBar_126 : decode cX7_addBar 126 = .ok (.dup, 1) := by decide +kernel
theorem dX7_addBar_127 : decode cX7_addBar 127 = .ok (.getfield 26, 3) := by decide +kernel
theorem dX7_addBar_130 : decode cX7_addBar 130 = .ok (.iconst 1, 1) := by decide +kernel
theorem dX7_addBar_131 : decode cX7_addBar 131 = .ok (.iadd, 1) := by decide +kernel
theorem dX7_addBar_132 : decode cX7_addBar 132 = .ok (.putfield 26, 3) := by decide +kernel
theorem dX7_addBar_135 : decode cX7_addBar 135 = .ok (.aload_n 0, 1) := by decide +kernel
theorem dX7_addBar_136 : decode cX7_addBar 136 = .ok (.aload 4, 2) := by decide +kernel
theorem dX7_addBar_138 : decode cX7_addBar 138 = .ok (.invokevirtual 50, 3) := by decide +kernel
theorem dX7_addBar_141 : decode cX7_addBar 141 = .ok (.ireturn, 1) := by decide +kernel
def rmX7_addBar : Room := { frames := 2, cells := 2, slots := 15, locals := 40 }
def fX7_addBar  (a0 : Nat) (xp0 : Int32) (xp1 : Int32) (xp2 : Int32) (h0 : PH) : Option (Int32 × PH) :=
    bn2 (fX9_within xp0 (1 : Int32) (1000000 : Int32) h0) fun x2 h1 =>
    if x2 = 0 then (some ((-1 : Int32), h1)) else
    bn2 (fX9_within xp1 (0 : Int32) (1000 : Int32) h1) fun x4 h3 =>
    if x4 = 0 then (some ((-1 : Int32), h3)) else
    bn2 (fX9_within xp2 (0 : Int32) ((1000 : Int32) - xp1) h3) fun x6 h5 =>
    if x6 = 0 then (some ((-1 : Int32), h5)) else
    bn (rdI 7 3 a0 h5) fun x7 =>
    if (10 : Int32) ≤ x7 then (some ((-5 : Int32), h5)) else
    bn (rdI 7 4 a0 h5) fun x8 =>
    if x8 < (120 : Int32) then (bn (rdR 7 1 a0 h5) fun a9 =>
    bn (aldR 5 a9 (0 : Int32) h5) fun o10 =>
    bn (rdI 7 3 a0 h5) fun x11 =>
    bn o10 fun a12 =>
    bn (astI a12 x11 xp1 h5) fun h13 =>
    bn (rdR 7 1 a0 h13) fun a14 =>
    bn (aldR 5 a14 (1 : Int32) h13) fun o15 =>
    bn (rdI 7 3 a0 h13) fun x16 =>
    bn o15 fun a17 =>
    bn (astI a17 x16 xp2 h13) fun h18 =>
    bn (rdR 7 1 a0 h18) fun a19 =>
    bn (aldR 5 a19 (2 : Int32) h18) fun o20 =>
    bn (rdI 7 3 a0 h18) fun x21 =>
    bn o20 fun a22 =>
    bn (astI a22 x21 (((1000 : Int32) - xp1) - xp2) h18) fun h23 =>
    nwB (.inr (5, [.null, .int 0, .int 0, .int 0, .int 0])) h23 fun a24 h25 =>
    bn2 (fX5_init a24 h25) fun _ h26 =>
    bn (rdR 5 0 a24 h26) fun a27 =>
    bn (rdI 7 3 a0 h26) fun x28 =>
    bn (astI a27 x28 xp0 h26) fun h29 =>
    bn (wr 5 1 (.int xp0) a24 h29) fun h30 =>
    bn (rdI 7 3 a0 h30) fun x31 =>
    bn (wr 7 3 (.int (x31 + (1 : Int32))) a0 h30) fun h32 =>
    bn (chk 7 a0 h32) fun _ => bn2 (fX7_addPiece a0 a24 h32) fun x34 h33 =>
    some (x34, h33)) else
    some ((-5 : Int32), h5)
set_option maxHeartbeats 4000000 in
set_option maxRecDepth 100000 in
theorem vfX7_addBar {p : Program} {l : Launch} {e : Env} {s : State} {m : MethodId} {args : Array Value} {below : List Frame} {meth : Method} {c : Code} {G : GX} (C : Cx p s m args meth c G cX7_addBar 5 RX7) (hr : meth.sig.returnType = (some .int)) (a0 : Nat) (xp0 : Int32) (xp1 : Int32) (xp2 : Int32) (h0 : PH) : J p l e rmX7_addBar s m args below meth c G 5 (qM below args s rvI G 2 15) 0 0 h0 0 [(0, .ref a0), (1, .int xp0), (2, .int xp1), (3, .int xp2)] [] (fX7_addBar  a0 xp0 xp1 xp2 h0) := by
  unfold fX7_addBar
  refine J_iload_n (pc := 0) C dX7_addBar_0 rfl 1 rfl ?_
  refine J_iconst (pc := 1) (v := 1) C dX7_addBar_1 (by decide) ?_
  refine J_ldc (pc := 2) C kkX7_37 dX7_addBar_2 ?_
  refine J_callSNI (pc := 4) (As := [.int xp0, .int (1 : Int32), .int (1000000 : Int32)]) (rest := []) C (fun z hz => mX9_within xp0 (1 : Int32) (1000000 : Int32) h0 z hz) mwX9_within "GoldLeaves" (by decide +kernel) stX9_within rfl dX7_addBar_4 (by decide) rfl (Nat.le_of_ble_eq_true rfl) (by decide) (fun x2 h1 => ?_)
  refine J_if_eq (pc := 7) (tgt := 34) C dX7_addBar_7 (by decide) ?_ ?_
  · refine J_iconst (pc := 34) (v := -1) C dX7_addBar_34 (by decide) ?_
    refine J_widen (k := 2) (n := 15) (by decide) (by decide) ?_
    exact J_iret (pc := 35) C hr dX7_addBar_35
  · refine J_iload_n (pc := 10) C dX7_addBar_10 rfl 2 rfl ?_
    refine J_iconst (pc := 11) (v := 0) C dX7_addBar_11 (by decide) ?_
    refine J_sipush (pc := 12) (v := 1000) C dX7_addBar_12 (by decide) ?_
    refine J_callSNI (pc := 15) (As := [.int xp1, .int (0 : Int32), .int (1000 : Int32)]) (rest := []) C (fun z hz => mX9_within xp1 (0 : Int32) (1000 : Int32) h1 z hz) mwX9_within "GoldLeaves" (by decide +kernel) stX9_within rfl dX7_addBar_15 (by decide) rfl (Nat.le_of_ble_eq_true rfl) (by decide) (fun x4 h3 => ?_)
    refine J_if_eq (pc := 18) (tgt := 34) C dX7_addBar_18 (by decide) ?_ ?_
    · refine J_iconst (pc := 34) (v := -1) C dX7_addBar_34 (by decide) ?_
      refine J_widen (k := 2) (n := 15) (by decide) (by decide) ?_
      exact J_iret (pc := 35) C hr dX7_addBar_35
    · refine J_iload_n (pc := 21) C dX7_addBar_21 rfl 3 rfl ?_
      refine J_iconst (pc := 22) (v := 0) C dX7_addBar_22 (by decide) ?_
      refine J_sipush (pc := 23) (v := 1000) C dX7_addBar_23 (by decide) ?_
      refine J_iload_n (pc := 26) C dX7_addBar_26 rfl 2 rfl ?_
      refine J_isub (pc := 27) C dX7_addBar_27 ?_
      refine J_callSNI (pc := 28) (As := [.int xp2, .int (0 : Int32), .int ((1000 : Int32) - xp1)]) (rest := []) C (fun z hz => mX9_within xp2 (0 : Int32) ((1000 : Int32) - xp1) h3 z hz) mwX9_within "GoldLeaves" (by decide +kernel) stX9_within rfl dX7_addBar_28 (by decide) rfl (Nat.le_of_ble_eq_true rfl) (by decide) (fun x6 h5 => ?_)
      refine J_if_ne (pc := 31) (tgt := 36) C dX7_addBar_31 (by decide) ?_ ?_
      · refine J_aload_n (pc := 36) C dX7_addBar_36 rfl 0 rfl ?_
        refine J_getI (pc := 37) C flX7_26 dX7_addBar_37 (fun x7 => ?_)
        refine J_bipush (pc := 40) (v := 10) C dX7_addBar_40 (by decide) ?_
        refine J_icmp_ge (pc := 42) (tgt := 54) C dX7_addBar_42 (by decide) ?_ ?_
        · refine J_bipush (pc := 54) (v := -5) C dX7_addBar_54 (by decide) ?_
          refine J_widen (k := 2) (n := 15) (by decide) (by decide) ?_
          exact J_iret (pc := 56) C hr dX7_addBar_56
        · refine J_aload_n (pc := 45) C dX7_addBar_45 rfl 0 rfl ?_
          refine J_getI (pc := 46) C flX7_30 dX7_addBar_46 (fun x8 => ?_)
          refine J_bipush (pc := 49) (v := 120) C dX7_addBar_49 (by decide) ?_
          refine J_icmp_lt (pc := 51) (tgt := 57) C dX7_addBar_51 (by decide) ?_ ?_
          · refine J_aload_n (pc := 57) C dX7_addBar_57 rfl 0 rfl ?_
            refine J_getR (pc := 58) C flX7_19 dX7_addBar_58 (fun a9 => ?_)
            refine J_iconst (pc := 61) (v := 0) C dX7_addBar_61 (by decide) ?_
            refine J_aald (pc := 62) C 5 (.array .int) (fun _ => rfl) rfl dX7_addBar_62 (fun o10 => ?_)
            refine J_aload_n (pc := 63) C dX7_addBar_63 rfl 0 rfl ?_
            refine J_getI (pc := 64) C flX7_26 dX7_addBar_64 (fun x11 => ?_)
            refine J_iload_n (pc := 67) C dX7_addBar_67 rfl 2 rfl ?_
            refine J_nn (fun a12 hx => ?_)
            subst hx
            refine J_iast (pc := 68) C dX7_addBar_68 (fun h13 => ?_)
            refine J_aload_n (pc := 69) C dX7_addBar_69 rfl 0 rfl ?_
            refine J_getR (pc := 70) C flX7_19 dX7_addBar_70 (fun a14 => ?_)
            refine J_iconst (pc := 73) (v := 1) C dX7_addBar_73 (by decide) ?_
            refine J_aald (pc := 74) C 5 (.array .int) (fun _ => rfl) rfl dX7_addBar_74 (fun o15 => ?_)
            refine J_aload_n (pc := 75) C dX7_addBar_75 rfl 0 rfl ?_
            refine J_getI (pc := 76) C flX7_26 dX7_addBar_76 (fun x16 => ?_)
            refine J_iload_n (pc := 79) C dX7_addBar_79 rfl 3 rfl ?_
            refine J_nn (fun a17 hx => ?_)
            subst hx
            refine J_iast (pc := 80) C dX7_addBar_80 (fun h18 => ?_)
            refine J_aload_n (pc := 81) C dX7_addBar_81 rfl 0 rfl ?_
            refine J_getR (pc := 82) C flX7_19 dX7_addBar_82 (fun a19 => ?_)
            refine J_iconst (pc := 85) (v := 2) C dX7_addBar_85 (by decide) ?_
            refine J_aald (pc := 86) C 5 (.array .int) (fun _ => rfl) rfl dX7_addBar_86 (fun o20 => ?_)
            refine J_aload_n (pc := 87) C dX7_addBar_87 rfl 0 rfl ?_
            refine J_getI (pc := 88) C flX7_26 dX7_addBar_88 (fun x21 => ?_)
            refine J_sipush (pc := 91) (v := 1000) C dX7_addBar_91 (by decide) ?_
            refine J_iload_n (pc := 94) C dX7_addBar_94 rfl 2 rfl ?_
            refine J_isub (pc := 95) C dX7_addBar_95 ?_
            refine J_iload_n (pc := 96) C dX7_addBar_96 rfl 3 rfl ?_
            refine J_isub (pc := 97) C dX7_addBar_97 ?_
            refine J_nn (fun a22 hx => ?_)
            subst hx
            refine J_iast (pc := 98) C dX7_addBar_98 (fun h23 => ?_)
            refine J_new (pc := 99) C nlX7_9 (by decide) (by decide) dX7_addBar_99 (fun a24 h25 => ?_)
            refine J_dup (pc := 102) C dX7_addBar_102 rfl ?_
            refine J_callINU (pc := 103) (As := []) (rest := [.ref a24]) C (fun z hz => mX5_init a24 h25 z hz) mwX5_init rfl "GoldLeaves" rfl (by decide +kernel) inX5_init rfl dX7_addBar_103 (by decide) rfl (Nat.le_of_ble_eq_true rfl) (by decide) (fun _ h26 => ?_)
            refine J_astore (pc := 106) (lv1 := [(4, .ref a24), (0, .ref a0), (1, .int xp0), (2, .int xp1), (3, .int xp2)]) C dX7_addBar_106 (by decide) rfl ?_
            refine J_aload (pc := 108) C dX7_addBar_108 0 rfl ?_
            refine J_getR (pc := 110) C flX7_43 dX7_addBar_110 (fun a27 => ?_)
            refine J_aload_n (pc := 113) C dX7_addBar_113 rfl 1 rfl ?_
            refine J_getI (pc := 114) C flX7_26 dX7_addBar_114 (fun x28 => ?_)
            refine J_iload_n (pc := 117) C dX7_addBar_117 rfl 2 rfl ?_
            refine J_iast (pc := 118) C dX7_addBar_118 (fun h29 => ?_)
            refine J_aload (pc := 119) C dX7_addBar_119 0 rfl ?_
            refine J_iload_n (pc := 121) C dX7_addBar_121 rfl 2 rfl ?_
            refine J_put (pc := 122) C flX7_47 cl5 ft5_1 rfl rfl dX7_addBar_122 (fun h30 => ?_)
            refine J_aload_n (pc := 125) C dX7_addBar_125 rfl 1 rfl ?_
            refine J_dup (pc := 126) C dX7_addBar_126 rfl ?_
            refine J_getI (pc := 127) C flX7_26 dX7_addBar_127 (fun x31 => ?_)
            refine J_iconst (pc := 130) (v := 1) C dX7_addBar_130 (by decide) ?_
            refine J_iadd (pc := 131) C dX7_addBar_131 ?_
            refine J_put (pc := 132) C flX7_26 cl7 ft7_3 rfl rfl dX7_addBar_132 (fun h32 => ?_)
            refine J_aload_n (pc := 135) C dX7_addBar_135 rfl 1 rfl ?_
            refine J_aload (pc := 136) C dX7_addBar_136 0 rfl ?_
            refine J_callVI (pc := 138) (As := [.ref a24]) (rest := []) C (fun z hz => mX7_addPiece a0 a24 h32 z hz) mwX7_addPiece csX7_addPiece mlX7_50 inX7_addPiece rfl dX7_addBar_138 (by decide) rfl (Nat.le_of_ble_eq_true rfl) (by decide) (fun x34 h33 => ?_)
            exact J_iret (pc := 141) C hr dX7_addBar_141
          · refine J_bipush (pc := 54) (v := -5) C dX7_addBar_54 (by decide) ?_
            refine J_widen (k := 2) (n := 15) (by decide) (by decide) ?_
            exact J_iret (pc := 56) C hr dX7_addBar_56
      · refine J_iconst (pc := 34) (v := -1) C dX7_addBar_34 (by decide) ?_
        refine J_widen (k := 2) (n := 15) (by decide) (by decide) ?_
        exact J_iret (pc := 35) C hr dX7_addBar_35
theorem mX7_addBar {l : Launch} {G : GX} (a0 : Nat) (xp0 : Int32) (xp1 : Int32) (xp2 : Int32) (h0 : PH) : ∀ z, fX7_addBar a0 xp0 xp1 xp2 h0 = some z → MC l G yX7_addBar cX7_addBar 5 (some .int) rmX7_addBar [.ref a0, .int xp0, .int xp1, .int xp2] h0 (rvI z.1) z.2 :=
  Met_J (own := RX7) (by decide) rfl (Nat.le_of_ble_eq_true rfl) (fun p e s m args below meth c C hr hn => vfX7_addBar C hr a0 xp0 xp1 xp2 h0)

theorem dX9_noted_0 : decode cX9_noted 0 = .ok (.aload_n 0, 1) := by decide +kernel
theorem dX9_noted_1 : decode cX9_noted 1 = .ok (.iload_n 1, 1) := by decide +kernel
theorem dX9_noted_2 : decode cX9_noted 2 = .ok (.ifCond .ge 7, 3) := by decide +kernel
theorem dX9_noted_5 : decode cX9_noted 5 = .ok (.iload_n 1, 1) := by decide +kernel
theorem dX9_noted_6 : decode cX9_noted 6 = .ok (.goto 4, 3) := by decide +kernel
theorem dX9_noted_9 : decode cX9_noted 9 = .ok (.iconst 0, 1) := by decide +kernel
theorem dX9_noted_10 : decode cX9_noted 10 = .ok (.putfield 63, 3) := by decide +kernel
theorem dX9_noted_13 : decode cX9_noted 13 = .ok (.iload_n 1, 1) := by decide +kernel
theorem dX9_noted_14 : decode cX9_noted 14 = .ok (.ireturn, 1) := by decide +kernel
def rmX9_noted : Room := { frames := 0, cells := 0, slots := 0, locals := 0 }
def fX9_noted  (a0 : Nat) (xp0 : Int32) (h0 : PH) : Option (Int32 × PH) :=
    if 0 ≤ xp0 then (bn (wr 9 9 (.int (0 : Int32)) a0 h0) fun h1 =>
    some (xp0, h1)) else
    bn (wr 9 9 (.int xp0) a0 h0) fun h2 =>
    some (xp0, h2)
set_option maxHeartbeats 4000000 in
set_option maxRecDepth 100000 in
theorem vfX9_noted {p : Program} {l : Launch} {e : Env} {s : State} {m : MethodId} {args : Array Value} {below : List Frame} {meth : Method} {c : Code} {G : GX} (C : Cx p s m args meth c G cX9_noted 2 RX9) (hr : meth.sig.returnType = (some .int)) (a0 : Nat) (xp0 : Int32) (h0 : PH) : J p l e rmX9_noted s m args below meth c G 2 (qM below args s rvI G 0 0) 0 0 h0 0 [(0, .ref a0), (1, .int xp0)] [] (fX9_noted  a0 xp0 h0) := by
  unfold fX9_noted
  refine J_aload_n (pc := 0) C dX9_noted_0 rfl 0 rfl ?_
  refine J_iload_n (pc := 1) C dX9_noted_1 rfl 1 rfl ?_
  refine J_if_ge (pc := 2) (tgt := 9) C dX9_noted_2 (by decide) ?_ ?_
  · refine J_iconst (pc := 9) (v := 0) C dX9_noted_9 (by decide) ?_
    refine J_put (pc := 10) C flX9_63 cl9 ft9_9 rfl rfl dX9_noted_10 (fun h1 => ?_)
    refine J_iload_n (pc := 13) C dX9_noted_13 rfl 1 rfl ?_
    exact J_iret (pc := 14) C hr dX9_noted_14
  · refine J_iload_n (pc := 5) C dX9_noted_5 rfl 1 rfl ?_
    refine J_goto (pc := 6) (tgt := 10) C dX9_noted_6 (by decide) ?_
    refine J_put (pc := 10) C flX9_63 cl9 ft9_9 rfl rfl dX9_noted_10 (fun h2 => ?_)
    refine J_iload_n (pc := 13) C dX9_noted_13 rfl 1 rfl ?_
    exact J_iret (pc := 14) C hr dX9_noted_14
theorem mX9_noted {l : Launch} {G : GX} (a0 : Nat) (xp0 : Int32) (h0 : PH) : ∀ z, fX9_noted a0 xp0 h0 = some z → MC l G yX9_noted cX9_noted 2 (some .int) rmX9_noted [.ref a0, .int xp0] h0 (rvI z.1) z.2 :=
  Met_J (own := RX9) (by decide) rfl (Nat.le_of_ble_eq_true rfl) (fun p e s m args below meth c C hr hn => vfX9_noted C hr a0 xp0 h0)

theorem dX9_bar_0 : decode cX9_bar 0 = .ok (.aload_n 0, 1) := by decide +kernel
theorem dX9_bar_1 : decode cX9_bar 1 = .ok (.aload_n 0, 1) := by decide +kernel
theorem dX9_bar_2 : decode cX9_bar 2 = .ok (.getfield 10, 3) := by decide +kernel
theorem dX9_bar_5 : decode cX9_bar 5 = .ok (.iload_n 1, 1) := by decide +kernel
theorem dX9_bar_6 : decode cX9_bar 6 = .ok (.iload_n 2, 1) := by decide +kernel
theorem dX9_bar_7 : decode cX9_bar 7 = .ok (.iload_n 3, 1) := by decide +kernel
theorem dX9_bar_8 : decode cX9_bar 8 = .ok (.invokevirtual 66, 3) := by decide +kernel
theorem dX9_bar_11 : decode cX9_bar 11 = .ok (.invokevirtual 70, 3) := by decide +kernel
theorem dX9_bar_14 : decode cX9_bar 14 = .ok (.ireturn, 1) := by decide +kernel
def rmX9_bar : Room := { frames := 3, cells := 2, slots := 15, locals := 64 }
def fX9_bar  (a0 : Nat) (xp0 : Int32) (xp1 : Int32) (xp2 : Int32) (h0 : PH) : Option (Int32 × PH) :=
    bn (rdR 9 0 a0 h0) fun a1 =>
    bn (chk 7 a1 h0) fun _ => bn2 (fX7_addBar a1 xp0 xp1 xp2 h0) fun x3 h2 =>
    bn (chk 9 a0 h2) fun _ => bn2 (fX9_noted a0 x3 h2) fun x5 h4 =>
    some (x5, h4)
set_option maxHeartbeats 4000000 in
set_option maxRecDepth 100000 in
theorem vfX9_bar {p : Program} {l : Launch} {e : Env} {s : State} {m : MethodId} {args : Array Value} {below : List Frame} {meth : Method} {c : Code} {G : GX} (C : Cx p s m args meth c G cX9_bar 4 RX9) (hr : meth.sig.returnType = (some .int)) (a0 : Nat) (xp0 : Int32) (xp1 : Int32) (xp2 : Int32) (h0 : PH) : J p l e rmX9_bar s m args below meth c G 4 (qM below args s rvI G 2 15) 0 0 h0 0 [(0, .ref a0), (1, .int xp0), (2, .int xp1), (3, .int xp2)] [] (fX9_bar  a0 xp0 xp1 xp2 h0) := by
  unfold fX9_bar
  refine J_aload_n (pc := 0) C dX9_bar_0 rfl 0 rfl ?_
  refine J_aload_n (pc := 1) C dX9_bar_1 rfl 0 rfl ?_
  refine J_getR (pc := 2) C flX9_10 dX9_bar_2 (fun a1 => ?_)
  refine J_iload_n (pc := 5) C dX9_bar_5 rfl 1 rfl ?_
  refine J_iload_n (pc := 6) C dX9_bar_6 rfl 2 rfl ?_
  refine J_iload_n (pc := 7) C dX9_bar_7 rfl 3 rfl ?_
  refine J_callVI (pc := 8) (As := [.int xp0, .int xp1, .int xp2]) (rest := [.ref a0]) C (fun z hz => mX7_addBar a1 xp0 xp1 xp2 h0 z hz) mwX7_addBar csX7_addBar mlX9_66 inX7_addBar rfl dX9_bar_8 (by decide) rfl (Nat.le_of_ble_eq_true rfl) (by decide) (fun x3 h2 => ?_)
  refine J_callVI (pc := 11) (As := [.int x3]) (rest := []) C (fun z hz => mX9_noted a0 x3 h2 z hz) mwX9_noted csX9_noted mlX9_70 inX9_noted rfl dX9_bar_11 (by decide) rfl (Nat.le_of_ble_eq_true rfl) (by decide) (fun x5 h4 => ?_)
  exact J_iret (pc := 14) C hr dX9_bar_14
theorem mX9_bar {l : Launch} {G : GX} (a0 : Nat) (xp0 : Int32) (xp1 : Int32) (xp2 : Int32) (h0 : PH) : ∀ z, fX9_bar a0 xp0 xp1 xp2 h0 = some z → MC l G yX9_bar cX9_bar 4 (some .int) rmX9_bar [.ref a0, .int xp0, .int xp1, .int xp2] h0 (rvI z.1) z.2 :=
  Met_J (own := RX9) (by decide) rfl (Nat.le_of_ble_eq_true rfl) (fun p e s m args below meth c C hr hn => vfX9_bar C hr a0 xp0 xp1 xp2 h0)

theorem dX10_in_0 : decode cX10_in 0 = .ok (.lload_n 0, 1) := by decide +kernel
theorem dX10_in_1 : decode cX10_in 1 = .ok (.lload_n 2, 1) := by decide +kernel
theorem dX10_in_2 : decode cX10_in 2 = .ok (.lcmp, 1) := by decide +kernel
theorem dX10_in_3 : decode cX10_in 3 = .ok (.ifCond .lt 14, 3) := by decide +kernel
theorem dX10_in_6 : decode cX10_in 6 = .ok (.lload_n 0, 1) := by decide +kernel
theorem dX10_in_7 : decode cX10_in 7 = .ok (.lload 4, 2) := by decide +kernel
theorem dX10_in_9 : decode cX10_in 9 = .ok (.lcmp, 1) := by decide +kernel
theorem dX10_in_10 : decode cX10_in 10 = .ok (.ifCond .gt 7, 3) := by decide +kernel
theorem dX10_in_13 : decode cX10_in 13 = .ok (.iconst 1, 1) := by decide +kernel
theorem dX10_in_14 : decode cX10_in 14 = .ok (.goto 4, 3) := by decide +kernel
theorem dX10_in_17 : decode cX10_in 17 = .ok (.iconst 0, 1) := by decide +kernel
theorem dX10_in_18 : decode cX10_in 18 = .ok (.ireturn, 1) := by decide +kernel
def rmX10_in : Room := { frames := 0, cells := 0, slots := 0, locals := 0 }
def fX10_in  (xp0 : Int64) (xp1 : Int64) (xp2 : Int64) (h0 : PH) : Option (Int32 × PH) :=
    if xp0 < xp1 then (some ((0 : Int32), h0)) else
    if xp2 < xp0 then (some ((0 : Int32), h0)) else
    some ((1 : Int32), h0)
set_option maxHeartbeats 4000000 in
set_option maxRecDepth 100000 in
theorem vfX10_in {p : Program} {l : Launch} {e : Env} {s : State} {m : MethodId} {args : Array Value} {below : List Frame} {meth : Method} {c : Code} {G : GX} (C : Cx p s m args meth c G cX10_in 6 RX10) (hr : meth.sig.returnType = (some .boolean)) (xp0 : Int64) (xp1 : Int64) (xp2 : Int64) (h0 : PH) : J p l e rmX10_in s m args below meth c G 6 (qM below args s rvI G 0 0) 0 0 h0 0 [(0, .long xp0), (2, .long xp1), (4, .long xp2)] [] (fX10_in  xp0 xp1 xp2 h0) := by
  unfold fX10_in
  refine J_lload_n (pc := 0) C dX10_in_0 rfl 0 rfl ?_
  refine J_lload_n (pc := 1) C dX10_in_1 rfl 1 rfl ?_
  refine J_lcmp_lt (pc := 2) (tgt := 17) C dX10_in_2 dX10_in_3 (by decide) ?_ ?_
  · refine J_iconst (pc := 17) (v := 0) C dX10_in_17 (by decide) ?_
    exact J_zret (pc := 18) C hr rfl dX10_in_18
  · refine J_lload_n (pc := 6) C dX10_in_6 rfl 0 rfl ?_
    refine J_lload (pc := 7) C dX10_in_7 2 rfl ?_
    refine J_lcmp_gt (pc := 9) (tgt := 17) C dX10_in_9 dX10_in_10 (by decide) ?_ ?_
    · refine J_iconst (pc := 17) (v := 0) C dX10_in_17 (by decide) ?_
      exact J_zret (pc := 18) C hr rfl dX10_in_18
    · refine J_iconst (pc := 13) (v := 1) C dX10_in_13 (by decide) ?_
      refine J_goto (pc := 14) (tgt := 18) C dX10_in_14 (by decide) ?_
      exact J_zret (pc := 18) C hr rfl dX10_in_18
theorem mX10_in {l : Launch} {G : GX} (xp0 : Int64) (xp1 : Int64) (xp2 : Int64) (h0 : PH) : ∀ z, fX10_in xp0 xp1 xp2 h0 = some z → MC l G yX10_in cX10_in 6 (some .boolean) rmX10_in [.long xp0, .long xp1, .long xp2] h0 (rvI z.1) z.2 :=
  Met_J (own := RX10) (by decide) rfl (Nat.le_of_ble_eq_true rfl) (fun p e s m args below meth c C hr hn => vfX10_in C hr xp0 xp1 xp2 h0)

theorem dX10_told_0 : decode cX10_told 0 = .ok (.aload_n 0, 1) := by decide +kernel
theorem dX10_told_1 : decode cX10_told 1 = .ok (.iload_n 1, 1) := by decide +kernel
theorem dX10_told_2 : decode cX10_told 2 = .ok (.ifCond .ge 7, 3) := by decide +kernel
theorem dX10_told_5 : decode cX10_told 5 = .ok (.iload_n 1, 1) := by decide +kernel
theorem dX10_told_6 : decode cX10_told 6 = .ok (.goto 4, 3) := by decide +kernel
theorem dX10_told_9 : decode cX10_told 9 = .ok (.iconst 0, 1) := by decide +kernel
theorem dX10_told_10 : decode cX10_told 10 = .ok (.putfield 93, 3) := by decide +kernel
theorem dX10_told_13 : decode cX10_told 13 = .ok (.iload_n 1, 1) := by decide +kernel
theorem dX10_told_14 : decode cX10_told 14 = .ok (.ireturn, 1) := by decide +kernel
def rmX10_told : Room := { frames := 0, cells := 0, slots := 0, locals := 0 }
def fX10_told  (a0 : Nat) (xp0 : Int32) (h0 : PH) : Option (Int32 × PH) :=
    if 0 ≤ xp0 then (bn (wr 10 1 (.int (0 : Int32)) a0 h0) fun h1 =>
    some (xp0, h1)) else
    bn (wr 10 1 (.int xp0) a0 h0) fun h2 =>
    some (xp0, h2)
set_option maxHeartbeats 4000000 in
set_option maxRecDepth 100000 in
theorem vfX10_told {p : Program} {l : Launch} {e : Env} {s : State} {m : MethodId} {args : Array Value} {below : List Frame} {meth : Method} {c : Code} {G : GX} (C : Cx p s m args meth c G cX10_told 2 RX10) (hr : meth.sig.returnType = (some .int)) (a0 : Nat) (xp0 : Int32) (h0 : PH) : J p l e rmX10_told s m args below meth c G 2 (qM below args s rvI G 0 0) 0 0 h0 0 [(0, .ref a0), (1, .int xp0)] [] (fX10_told  a0 xp0 h0) := by
  unfold fX10_told
  refine J_aload_n (pc := 0) C dX10_told_0 rfl 0 rfl ?_
  refine J_iload_n (pc := 1) C dX10_told_1 rfl 1 rfl ?_
  refine J_if_ge (pc := 2) (tgt := 9) C dX10_told_2 (by decide) ?_ ?_
  · refine J_iconst (pc := 9) (v := 0) C dX10_told_9 (by decide) ?_
    refine J_put (pc := 10) C flX10_93 cl10 ft10_1 rfl rfl dX10_told_10 (fun h1 => ?_)
    refine J_iload_n (pc := 13) C dX10_told_13 rfl 1 rfl ?_
    exact J_iret (pc := 14) C hr dX10_told_14
  · refine J_iload_n (pc := 5) C dX10_told_5 rfl 1 rfl ?_
    refine J_goto (pc := 6) (tgt := 10) C dX10_told_6 (by decide) ?_
    refine J_put (pc := 10) C flX10_93 cl10 ft10_1 rfl rfl dX10_told_10 (fun h2 => ?_)
    refine J_iload_n (pc := 13) C dX10_told_13 rfl 1 rfl ?_
    exact J_iret (pc := 14) C hr dX10_told_14
theorem mX10_told {l : Launch} {G : GX} (a0 : Nat) (xp0 : Int32) (h0 : PH) : ∀ z, fX10_told a0 xp0 h0 = some z → MC l G yX10_told cX10_told 2 (some .int) rmX10_told [.ref a0, .int xp0] h0 (rvI z.1) z.2 :=
  Met_J (own := RX10) (by decide) rfl (Nat.le_of_ble_eq_true rfl) (fun p e s m args below meth c C hr hn => vfX10_told C hr a0 xp0 h0)

theorem dX10_addPiece_0 : decode cX10_addPiece 0 = .ok (.iconst 0, 1) := by decide +kernel
theorem dX10_addPiece_1 : decode cX10_addPiece 1 = .ok (.istore_n 1, 1) := by decide +kernel
theorem dX10_addPiece_2 : decode cX10_addPiece 2 = .ok (.iload_n 1, 1) := by decide +kernel
theorem dX10_addPiece_3 : decode cX10_addPiece 3 = .ok (.bipush 10, 2) := by decide +kernel
theorem dX10_addPiece_5 : decode cX10_addPiece 5 = .ok (.if_icmp .ge 24, 3) := by decide +kernel
theorem dX10_addPiece_8 : decode cX10_addPiece 8 = .ok (.aload_n 0, 1) := by decide +kernel
theorem dX10_addPiece_9 : decode cX10_addPiece 9 = .ok (.getfield 17, 3) := by decide +kernel
theorem dX10_addPiece_12 : decode cX10_addPiece 12 = .ok (.bipush 10, 2) := by decide +kernel
theorem dX10_addPiece_14 : decode cX10_addPiece 14 = .ok (.aload_n 0, 1) := by decide +kernel
theorem dX10_addPiece_15 : decode cX10_addPiece 15 = .ok (.getfield 96, 3) := by decide +kernel
theorem dX10_addPiece_18 : decode cX10_addPiece 18 = .ok (.imul, 1) := by decide +kernel
theorem dX10_addPiece_19 : decode cX10_addPiece 19 = .ok (.iload_n 1, 1) := by decide +kernel
theorem dX10_addPiece_20 : decode cX10_addPiece 20 = .ok (.iadd, 1) := by decide +kernel
theorem dX10_addPiece_21 : decode cX10_addPiece 21 = .ok (.iconst 0, 1) := by decide +kernel
theorem dX10_addPiece_22 : decode cX10_addPiece 22 = .ok (.iastore, 1) := by decide +kernel
theorem dX10_addPiece_23 : decode cX10_addPiece 23 = .ok (.iinc 1 1, 3) := by decide +kernel
theorem dX10_addPiece_26 : decode cX10_addPiece 26 = .ok (.goto (-24), 3) := by decide +kernel
theorem dX10_addPiece_29 : decode cX10_addPiece 29 = .ok (.aload_n 0, 1) := by decide +kernel
theorem dX10_addPiece_30 : decode cX10_addPiece 30 = .ok (.getfield 23, 3) := by decide +kernel
theorem dX10_addPiece_33 : decode cX10_addPiece 33 = .ok (.aload_n 0, 1) := by decide +kernel
theorem dX10_addPiece_34 : decode cX10_addPiece 34 = .ok (.getfield 96, 3) := by decide +kernel
theorem dX10_addPiece_37 : decode cX10_addPiece 37 = .ok (.iconst (-1), 1) := by decide +kernel
theorem dX10_addPiece_38 : decode cX10_addPiece 38 = .ok (.iastore, 1) := by decide +kernel
theorem dX10_addPiece_39 : decode cX10_addPiece 39 = .ok (.aload_n 0, 1) := by decide +kernel
theorem dX10_addPiece_40 : decode cX10_addPiece 40 = .ok (.dup, 1) := by decide +kernel
theorem dX10_addPiece_41 : decode cX10_addPiece 41 = .ok (.getfield 96, 3) := by decide +kernel
theorem dX10_addPiece_44 : decode cX10_addPiece 44 = .ok (.iconst 1, 1) := by decide +kernel
theorem dX10_addPiece_45 : decode cX10_addPiece 45 = .ok (.iadd, 1) := by decide +kernel
theorem dX10_addPiece_46 : decode cX10_addPiece 46 = .ok (.putfield 96, 3) := by decide +kernel
theorem dX10_addPiece_49 : decode cX10_addPiece 49 = .ok (.return_, 1) := by decide +kernel
def rmX10_addPiece : Room := { frames := 0, cells := 0, slots := 0, locals := 0 }
def fX10_addPiece_2  : Nat → Nat → Int32 → PH → Option (Unit × PH)
  | 0, _, _, _ => none
  | n + 1, al0, xl1, h0 =>
    if (10 : Int32) ≤ xl1 then (bn (rdR 10 8 al0 h0) fun a1 =>
    bn (rdI 10 4 al0 h0) fun x2 =>
    bn (astI a1 x2 (-1 : Int32) h0) fun h3 =>
    bn (rdI 10 4 al0 h3) fun x4 =>
    bn (wr 10 4 (.int (x4 + (1 : Int32))) al0 h3) fun h5 =>
    some ((), h5)) else
    bn (rdR 10 6 al0 h0) fun a6 =>
    bn (rdI 10 4 al0 h0) fun x7 =>
    bn (astI a6 (((10 : Int32) * x7) + xl1) (0 : Int32) h0) fun h8 =>
    (fX10_addPiece_2 n) al0 (xl1 + 1) h8
set_option maxHeartbeats 4000000 in
set_option maxRecDepth 100000 in
theorem vfX10_addPiece_2 {p : Program} {l : Launch} {e : Env} {s : State} {m : MethodId} {args : Array Value} {below : List Frame} {meth : Method} {c : Code} {G : GX} (C : Cx p s m args meth c G cX10_addPiece 2 RX10) (hr : meth.sig.returnType = none) : ∀ (n : Nat) (al0 : Nat) (xl1 : Int32) (h0 : PH), J p l e rmX10_addPiece s m args below meth c G 2 (qM below args s rvU G 0 0) 0 0 h0 2 [(0, .ref al0), (1, .int xl1)] [] (fX10_addPiece_2  n al0 xl1 h0) := by
  intro n
  induction n with
  | zero => exact fun al0 xl1 h0 => J_none C
  | succ n ih =>
    intro al0 xl1 h0
    unfold fX10_addPiece_2
    refine J_iload_n (pc := 2) C dX10_addPiece_2 rfl 1 rfl ?_
    refine J_bipush (pc := 3) (v := 10) C dX10_addPiece_3 (by decide) ?_
    refine J_icmp_ge (pc := 5) (tgt := 29) C dX10_addPiece_5 (by decide) ?_ ?_
    · refine J_aload_n (pc := 29) C dX10_addPiece_29 rfl 0 rfl ?_
      refine J_getR (pc := 30) C flX10_23 dX10_addPiece_30 (fun a1 => ?_)
      refine J_aload_n (pc := 33) C dX10_addPiece_33 rfl 0 rfl ?_
      refine J_getI (pc := 34) C flX10_96 dX10_addPiece_34 (fun x2 => ?_)
      refine J_iconst (pc := 37) (v := -1) C dX10_addPiece_37 (by decide) ?_
      refine J_iast (pc := 38) C dX10_addPiece_38 (fun h3 => ?_)
      refine J_aload_n (pc := 39) C dX10_addPiece_39 rfl 0 rfl ?_
      refine J_dup (pc := 40) C dX10_addPiece_40 rfl ?_
      refine J_getI (pc := 41) C flX10_96 dX10_addPiece_41 (fun x4 => ?_)
      refine J_iconst (pc := 44) (v := 1) C dX10_addPiece_44 (by decide) ?_
      refine J_iadd (pc := 45) C dX10_addPiece_45 ?_
      refine J_put (pc := 46) C flX10_96 cl10 ft10_4 rfl rfl dX10_addPiece_46 (fun h5 => ?_)
      exact J_vret (pc := 49) C hr dX10_addPiece_49
    · refine J_aload_n (pc := 8) C dX10_addPiece_8 rfl 0 rfl ?_
      refine J_getR (pc := 9) C flX10_17 dX10_addPiece_9 (fun a6 => ?_)
      refine J_bipush (pc := 12) (v := 10) C dX10_addPiece_12 (by decide) ?_
      refine J_aload_n (pc := 14) C dX10_addPiece_14 rfl 0 rfl ?_
      refine J_getI (pc := 15) C flX10_96 dX10_addPiece_15 (fun x7 => ?_)
      refine J_imul (pc := 18) C dX10_addPiece_18 ?_
      refine J_iload_n (pc := 19) C dX10_addPiece_19 rfl 1 rfl ?_
      refine J_iadd (pc := 20) C dX10_addPiece_20 ?_
      refine J_iconst (pc := 21) (v := 0) C dX10_addPiece_21 (by decide) ?_
      refine J_iast (pc := 22) C dX10_addPiece_22 (fun h8 => ?_)
      refine J_iinc (pc := 23) (v := (xl1 + 1)) (lv1 := [(1, .int (xl1 + 1)), (0, .ref al0)]) C dX10_addPiece_23 1 rfl rfl (by decide) rfl ?_
      refine J_goto (pc := 26) (tgt := 2) C dX10_addPiece_26 (by decide) ?_
      refine J_sub [1, 0] rfl ?_
      exact ih al0 (xl1 + 1) h8
def fX10_addPiece  (a0 : Nat) (h0 : PH) : Option (Unit × PH) :=
    fX10_addPiece_2  FU a0 (0 : Int32) h0
set_option maxHeartbeats 4000000 in
set_option maxRecDepth 100000 in
theorem vfX10_addPiece {p : Program} {l : Launch} {e : Env} {s : State} {m : MethodId} {args : Array Value} {below : List Frame} {meth : Method} {c : Code} {G : GX} (C : Cx p s m args meth c G cX10_addPiece 2 RX10) (hr : meth.sig.returnType = none) (a0 : Nat) (h0 : PH) : J p l e rmX10_addPiece s m args below meth c G 2 (qM below args s rvU G 0 0) 0 0 h0 0 [(0, .ref a0)] [] (fX10_addPiece  a0 h0) := by
  unfold fX10_addPiece
  refine J_iconst (pc := 0) (v := 0) C dX10_addPiece_0 (by decide) ?_
  refine J_istore_n (pc := 1) (lv1 := [(1, .int (0 : Int32)), (0, .ref a0)]) C dX10_addPiece_1 rfl (by decide) rfl ?_
  refine J_sub [1, 0] rfl ?_
  exact vfX10_addPiece_2 C hr  FU a0 (0 : Int32) h0
theorem mX10_addPiece {l : Launch} {G : GX} (a0 : Nat) (h0 : PH) : ∀ z, fX10_addPiece a0 h0 = some z → MC l G yX10_addPiece cX10_addPiece 2 none rmX10_addPiece [.ref a0] h0 (rvU z.1) z.2 :=
  Met_J (own := RX10) (by decide) rfl (Nat.le_of_ble_eq_true rfl) (fun p e s m args below meth c C hr hn => vfX10_addPiece C hr a0 h0)

theorem dX10_bar_0 : decode cX10_bar 0 = .ok (.aload_n 0, 1) := by decide +kernel
theorem dX10_bar_1 : decode cX10_bar 1 = .ok (.iconst 0, 1) := by decide +kernel
theorem dX10_bar_2 : decode cX10_bar 2 = .ok (.putfield 90, 3) := by decide +kernel
theorem dX10_bar_5 : decode cX10_bar 5 = .ok (.iload_n 1, 1) := by decide +kernel
theorem dX10_bar_6 : decode cX10_bar 6 = .ok (.i2l, 1) := by decide +kernel
theorem dX10_bar_7 : decode cX10_bar 7 = .ok (.lconst 1, 1) := by decide +kernel
theorem dX10_bar_8 : decode cX10_bar 8 = .ok (.ldc2_w 103, 3) := by decide +kernel
theorem dX10_bar_11 : decode cX10_bar 11 = .ok (.invokestatic 99, 3) := by decide +kernel
theorem dX10_bar_14 : decode cX10_bar 14 = .ok (.ifCond .eq 30, 3) := by decide +kernel
theorem dX10_bar_17 : decode cX10_bar 17 = .ok (.iload_n 2, 1) := by decide +kernel
theorem dX10_bar_18 : decode cX10_bar 18 = .ok (.i2l, 1) := by decide +kernel
theorem dX10_bar_19 : decode cX10_bar 19 = .ok (.lconst 0, 1) := by decide +kernel
theorem dX10_bar_20 : decode cX10_bar 20 = .ok (.ldc2_w 105, 3) := by decide +kernel
theorem dX10_bar_23 : decode cX10_bar 23 = .ok (.invokestatic 99, 3) := by decide +kernel
theorem dX10_bar_26 : decode cX10_bar 26 = .ok (.ifCond .eq 18, 3) := by decide +kernel
theorem dX10_bar_29 : decode cX10_bar 29 = .ok (.iload_n 3, 1) := by decide +kernel
theorem dX10_bar_30 : decode cX10_bar 30 = .ok (.i2l, 1) := by decide +kernel
theorem dX10_bar_31 : decode cX10_bar 31 = .ok (.lconst 0, 1) := by decide +kernel
theorem dX10_bar_32 : decode cX10_bar 32 = .ok (.ldc2_w 105, 3) := by decide +kernel
theorem dX10_bar_35 : decode cX10_bar 35 = .ok (.iload_n 2, 1) := by decide +kernel
theorem dX10_bar_36 : decode cX10_bar 36 = .ok (.i2l, 1) := by decide +kernel
theorem dX10_bar_37 : decode cX10_bar 37 = .ok (.lsub, 1) := by decide +kernel
theorem dX10_bar_38 : decode cX10_bar 38 = .ok (.invokestatic 99, 3) := by decide +kernel
theorem dX10_bar_41 : decode cX10_bar 41 = .ok (.ifCond .ne 9, 3) := by decide +kernel
theorem dX10_bar_44 : decode cX10_bar 44 = .ok (.aload_n 0, 1) := by decide +kernel
theorem dX10_bar_45 : decode cX10_bar 45 = .ok (.iconst (-1), 1) := by decide +kernel
theorem dX10_bar_46 : decode cX10_bar 46 = .ok (.invokevirtual 107, 3) := by decide +kernel
theorem dX10_bar_49 : decode cX10_bar 49 = .ok (.ireturn, 1) := by decide +kernel
theorem dX10_bar_50 : decode cX10_bar 50 = .ok (.aload_n 0, 1) := by decide +kernel
theorem dX10_bar_51 : decode cX10_bar 51 = .ok (.getfield 111, 3) := by decide +kernel
theorem dX10_bar_54 : decode cX10_bar 54 = .ok (.bipush 10, 2) := by decide +kernel
theorem dX10_bar_56 : decode cX10_bar 56 = .ok (.if_icmp .eq 12, 3) := by decide +kernel
theorem dX10_bar_59 : decode cX10_bar 59 = .ok (.aload_n 0, 1) := by decide +kernel
theorem dX10_bar_60 : decode cX10_bar 60 = .ok (.getfield 96, 3) := by decide +kernel
theorem dX10_bar_63 : decode cX10_bar 63 = .ok (.bipush 120, 2) := by decide +kernel
theorem dX10_bar_65 : decode cX10_bar 65 = .ok (.if_icmp .ne 10, 3) := by decide +kernel
theorem dX10_bar_68 : decode cX10_bar 68 = .ok (.aload_n 0, 1) := by decide +kernel
theorem dX10_bar_69 : decode cX10_bar 69 = .ok (.bipush (-5), 2) := by decide +kernel
theorem dX10_bar_71 : decode cX10_bar 71 = .ok (.invokevirtual 107, 3) := by decide +kernel
theorem dX10_bar_74 : decode cX10_bar 74 = .ok (.ireturn, 1) := by decide +kernel
theorem dX10_bar_75 : decode cX10_bar 75 = .ok (.aload_n 0, 1) := by decide +kernel
theorem dX10_bar_76 : decode cX10_bar 76 = .ok (.getfield 7, 3) := by decide +kernel
theorem dX10_bar_79 : decode cX10_bar 79 = .ok (.iconst 3, 1) := by decide +kernel
theorem dX10_bar_80 : decode cX10_bar 80 = .ok (.aload_n 0, 1) := by decide +kernel
theorem dX10_bar_81 : decode cX10_bar 81 = .ok (.getfield 111, 3) := by decide +kernel
theorem dX10_bar_84 : decode cX10_bar 84 = .ok (.imul, 1) := by decide +kernel
theorem dX10_bar_85 : decode cX10_bar 85 = .ok (.iload_n 2, 1) := by decide +kernel
theorem dX10_bar_86 : decode cX10_bar 86 = .ok (.iastore, 1) := by decide +kernel
theorem dX10_bar_87 : decode cX10_bar 87 = .ok (.aload_n 0, 1) := by decide +kernel
theorem dX10_bar_88 : decode cX10_bar 88 = .ok (.getfield 7, 3) := by decide +kernel
theorem dX10_bar_91 : decode cX10_bar 91 = .ok (.iconst 3, 1) := by decide +kernel
theorem dX10_bar_92 : decode cX10_bar 92 = .ok (.aload_n 0, 1) := by decide +kernel
theorem dX10_bar_93 : decode cX10_bar 93 = .ok (.getfield 111, 3) := by decide +kernel
theorem dX10_bar_96 : decode cX10_bar 96 = .ok (.imul, 1) := by decide +kernel
theorem dX10_bar_97 : decode cX10_bar 97 = .ok (.iconst 1, 1) := by decide +kernel
theorem dX10_bar_98 : decode cX10_bar 98 = .ok (.iadd, 1) := by decide +kernel
theorem dX10_bar_99 : decode cX10_bar 99 = .ok (.iload_n 3, 1) := by decide +kernel
theorem dX10_bar_100 : decode cX10_bar 100 = .ok (.iastore, 1) := by decide +kernel
theorem dX10_bar_101 : decode cX10_bar 101 = .ok (.aload_n 0, 1) := by decide +kernel
theorem dX10_bar_102 : decode cX10_bar 102 = .ok (.getfield 7, 3) := by decide +kernel
theorem dX10_bar_105 : decode cX10_bar 105 = .ok (.iconst 3, 1) := by decide +kernel
theorem dX10_bar_106 : decode cX10_bar 106 = .ok (.aload_n 0, 1) := by decide +kernel
theorem dX10_bar_107 : decode cX10_bar 107 = .ok (.getfield 111, 3) := by decide +kernel
theorem dX10_bar_110 : decode cX10_bar 110 = .ok (.imul, 1) := by decide +kernel
theorem dX10_bar_111 : decode cX10_bar 111 = .ok (.iconst 2, 1) := by decide +kernel
theorem dX10_bar_112 : decode cX10_bar 112 = .ok (.iadd, 1) := by decide +kernel
theorem dX10_bar_113 : decode cX10_bar 113 = .ok (.sipush 1000, 3) := by decide +kernel
theorem dX10_bar_116 : decode cX10_bar 116 = .ok (.iload_n 2, 1) := by decide +kernel
theorem dX10_bar_117 : decode cX10_bar 117 = .ok (.isub, 1) := by decide +kernel
theorem dX10_bar_118 : decode cX10_bar 118 = .ok (.iload_n 3, 1) := by decide +kernel
theorem dX10_bar_119 : decode cX10_bar 119 = .ok (.isub, 1) := by decide +kernel
theorem dX10_bar_120 : decode cX10_bar 120 = .ok (.iastore, 1) := by decide +kernel
theorem dX10_bar_121 : decode cX10_bar 121 = .ok (.aload_n 0, 1) := by decide +kernel
theorem dX10_bar_122 : decode cX10_bar 122 = .ok (.invokevirtual 114, 3) := by decide +kernel
theorem dX10_bar_125 : decode cX10_bar 125 = .ok (.aload_n 0, 1) := by decide +kernel
theorem dX10_bar_126 : decode cX10_bar 126 = .ok (.getfield 17, 3) := by decide +kernel
theorem dX10_bar_129 : decode cX10_bar 129 = .ok (.bipush 10, 2) := by decide +kernel
theorem dX10_bar_131 : decode cX10_bar 131 = .ok (.aload_n 0, 1) := by decide +kernel
theorem dX10_bar_132 : decode cX10_bar 132 = .ok (.getfield 96, 3) := by decide +kernel
theorem dX10_bar_135 : decode cX10_bar 135 = .ok (.iconst 1, 1) := by decide +kernel
theorem dX10_bar_136 : decode cX10_bar 136 = .ok (.isub, 1) := by decide +kernel
theorem dX10_bar_137 : decode cX10_bar 137 = .ok (.imul, 1) := by decide +kernel
theorem dX10_bar_138 : decode cX10_bar 138 = .ok (.aload_n 0, 1) := by decide +kernel
theorem dX10_bar_139 : decode cX10_bar 139 = .ok (.getfield 111, 3) := by decide +kernel
theorem dX10_bar_142 : decode cX10_bar 142 = .ok (.iadd, 1) := by decide +kernel
theorem dX10_bar_143 : decode cX10_bar 143 = .ok (.iload_n 1, 1) := by decide +kernel
theorem dX10_bar_144 : decode cX10_bar 144 = .ok (.iastore, 1) := by decide +kernel
theorem dX10_bar_145 : decode cX10_bar 145 = .ok (.aload_n 0, 1) := by decide +kernel
theorem dX10_bar_146 : decode cX10_bar 146 = .ok (.dup, 1) := by decide +kernel
theorem dX10_bar_147 : decode cX10_bar 147 = .ok (.getfield 111, 3) := by decide +kernel
theorem dX10_bar_150 : decode cX10_bar 150 = .ok (.iconst 1, 1) := by decide +kernel
theorem dX10_bar_151 : decode cX10_bar 151 = .ok (.iadd, 1) := by decide +kernel
theorem dX10_bar_152 : decode cX10_bar 152 = .ok (.putfield 111, 3) := by decide +kernel
theorem dX10_bar_155 : decode cX10_bar 155 = .ok (.aload_n 0, 1) := by decide +kernel
theorem dX10_bar_156 : decode cX10_bar 156 = .ok (.aload_n 0, 1) := by decide +kernel
theorem dX10_bar_157 : decode cX10_bar 157 = .ok (.getfield 96, 3) := by decide +kernel
theorem dX10_bar_160 : decode cX10_bar 160 = .ok (.iconst 1, 1) := by decide +kernel
theorem dX10_bar_161 : decode cX10_bar 161 = .ok (.isub, 1) := by decide +kernel
theorem dX10_bar_162 : decode cX10_bar 162 = .ok (.invokevirtual 107, 3) := by decide +kernel
theorem dX10_bar_165 : decode cX10_bar 165 = .ok (.ireturn, 1) := by decide +kernel
def rmX10_bar : Room := { frames := 1, cells := 0, slots := 0, locals := 25 }
def fX10_bar  (a0 : Nat) (xp0 : Int32) (xp1 : Int32) (xp2 : Int32) (h0 : PH) : Option (Int32 × PH) :=
    bn (wr 10 0 (.int (0 : Int32)) a0 h0) fun h1 =>
    bn2 (fX10_in xp0.toInt64 (1 : Int64) (1000000 : Int64) h1) fun x3 h2 =>
    if x3 = 0 then (bn (chk 10 a0 h2) fun _ => bn2 (fX10_told a0 (-1 : Int32) h2) fun x5 h4 =>
    some (x5, h4)) else
    bn2 (fX10_in xp1.toInt64 (0 : Int64) (1000 : Int64) h2) fun x7 h6 =>
    if x7 = 0 then (bn (chk 10 a0 h6) fun _ => bn2 (fX10_told a0 (-1 : Int32) h6) fun x9 h8 =>
    some (x9, h8)) else
    bn2 (fX10_in xp2.toInt64 (0 : Int64) ((1000 : Int64) - xp1.toInt64) h6) fun x11 h10 =>
    if x11 = 0 then (bn (chk 10 a0 h10) fun _ => bn2 (fX10_told a0 (-1 : Int32) h10) fun x38 h37 =>
    some (x38, h37)) else
    bn (rdI 10 2 a0 h10) fun x12 =>
    if x12 = (10 : Int32) then (bn (chk 10 a0 h10) fun _ => bn2 (fX10_told a0 (-5 : Int32) h10) fun x14 h13 =>
    some (x14, h13)) else
    bn (rdI 10 4 a0 h10) fun x15 =>
    if x15 = (120 : Int32) then (bn (chk 10 a0 h10) fun _ => bn2 (fX10_told a0 (-5 : Int32) h10) fun x36 h35 =>
    some (x36, h35)) else
    bn (rdR 10 3 a0 h10) fun a16 =>
    bn (rdI 10 2 a0 h10) fun x17 =>
    bn (astI a16 ((3 : Int32) * x17) xp1 h10) fun h18 =>
    bn (rdR 10 3 a0 h18) fun a19 =>
    bn (rdI 10 2 a0 h18) fun x20 =>
    bn (astI a19 (((3 : Int32) * x20) + (1 : Int32)) xp2 h18) fun h21 =>
    bn (rdR 10 3 a0 h21) fun a22 =>
    bn (rdI 10 2 a0 h21) fun x23 =>
    bn (astI a22 (((3 : Int32) * x23) + (2 : Int32)) (((1000 : Int32) - xp1) - xp2) h21) fun h24 =>
    bn (chk 10 a0 h24) fun _ => bn2 (fX10_addPiece a0 h24) fun _ h25 =>
    bn (rdR 10 6 a0 h25) fun a26 =>
    bn (rdI 10 4 a0 h25) fun x27 =>
    bn (rdI 10 2 a0 h25) fun x28 =>
    bn (astI a26 (((10 : Int32) * (x27 - (1 : Int32))) + x28) xp0 h25) fun h29 =>
    bn (rdI 10 2 a0 h29) fun x30 =>
    bn (wr 10 2 (.int (x30 + (1 : Int32))) a0 h29) fun h31 =>
    bn (rdI 10 4 a0 h31) fun x32 =>
    bn (chk 10 a0 h31) fun _ => bn2 (fX10_told a0 (x32 - (1 : Int32)) h31) fun x34 h33 =>
    some (x34, h33)
set_option maxHeartbeats 4000000 in
set_option maxRecDepth 100000 in
theorem vfX10_bar {p : Program} {l : Launch} {e : Env} {s : State} {m : MethodId} {args : Array Value} {below : List Frame} {meth : Method} {c : Code} {G : GX} (C : Cx p s m args meth c G cX10_bar 4 RX10) (hr : meth.sig.returnType = (some .int)) (a0 : Nat) (xp0 : Int32) (xp1 : Int32) (xp2 : Int32) (h0 : PH) : J p l e rmX10_bar s m args below meth c G 4 (qM below args s rvI G 0 0) 0 0 h0 0 [(0, .ref a0), (1, .int xp0), (2, .int xp1), (3, .int xp2)] [] (fX10_bar  a0 xp0 xp1 xp2 h0) := by
  unfold fX10_bar
  refine J_aload_n (pc := 0) C dX10_bar_0 rfl 0 rfl ?_
  refine J_iconst (pc := 1) (v := 0) C dX10_bar_1 (by decide) ?_
  refine J_put (pc := 2) C flX10_90 cl10 ft10_0 rfl rfl dX10_bar_2 (fun h1 => ?_)
  refine J_iload_n (pc := 5) C dX10_bar_5 rfl 1 rfl ?_
  refine J_i2l (pc := 6) C dX10_bar_6 ?_
  refine J_lconst (pc := 7) (v := 1) C dX10_bar_7 (by decide) ?_
  refine J_ldc2 (pc := 8) C kjX10_103 dX10_bar_8 ?_
  refine J_callSI (pc := 11) (As := [.long xp0.toInt64, .long (1 : Int64), .long (1000000 : Int64)]) (rest := []) C (fun z hz => mX10_in xp0.toInt64 (1 : Int64) (1000000 : Int64) h1 z hz) mwX10_in mlX10_99 stX10_in rfl dX10_bar_11 (by decide) rfl (Nat.le_of_ble_eq_true rfl) (by decide) (fun x3 h2 => ?_)
  refine J_if_eq (pc := 14) (tgt := 44) C dX10_bar_14 (by decide) ?_ ?_
  · refine J_aload_n (pc := 44) C dX10_bar_44 rfl 0 rfl ?_
    refine J_iconst (pc := 45) (v := -1) C dX10_bar_45 (by decide) ?_
    refine J_callVI (pc := 46) (As := [.int (-1 : Int32)]) (rest := []) C (fun z hz => mX10_told a0 (-1 : Int32) h2 z hz) mwX10_told csX10_told mlX10_107 inX10_told rfl dX10_bar_46 (by decide) rfl (Nat.le_of_ble_eq_true rfl) (by decide) (fun x5 h4 => ?_)
    exact J_iret (pc := 49) C hr dX10_bar_49
  · refine J_iload_n (pc := 17) C dX10_bar_17 rfl 2 rfl ?_
    refine J_i2l (pc := 18) C dX10_bar_18 ?_
    refine J_lconst (pc := 19) (v := 0) C dX10_bar_19 (by decide) ?_
    refine J_ldc2 (pc := 20) C kjX10_105 dX10_bar_20 ?_
    refine J_callSI (pc := 23) (As := [.long xp1.toInt64, .long (0 : Int64), .long (1000 : Int64)]) (rest := []) C (fun z hz => mX10_in xp1.toInt64 (0 : Int64) (1000 : Int64) h2 z hz) mwX10_in mlX10_99 stX10_in rfl dX10_bar_23 (by decide) rfl (Nat.le_of_ble_eq_true rfl) (by decide) (fun x7 h6 => ?_)
    refine J_if_eq (pc := 26) (tgt := 44) C dX10_bar_26 (by decide) ?_ ?_
    · refine J_aload_n (pc := 44) C dX10_bar_44 rfl 0 rfl ?_
      refine J_iconst (pc := 45) (v := -1) C dX10_bar_45 (by decide) ?_
      refine J_callVI (pc := 46) (As := [.int (-1 : Int32)]) (rest := []) C (fun z hz => mX10_told a0 (-1 : Int32) h6 z hz) mwX10_told csX10_told mlX10_107 inX10_told rfl dX10_bar_46 (by decide) rfl (Nat.le_of_ble_eq_true rfl) (by decide) (fun x9 h8 => ?_)
      exact J_iret (pc := 49) C hr dX10_bar_49
    · refine J_iload_n (pc := 29) C dX10_bar_29 rfl 3 rfl ?_
      refine J_i2l (pc := 30) C dX10_bar_30 ?_
      refine J_lconst (pc := 31) (v := 0) C dX10_bar_31 (by decide) ?_
      refine J_ldc2 (pc := 32) C kjX10_105 dX10_bar_32 ?_
      refine J_iload_n (pc := 35) C dX10_bar_35 rfl 2 rfl ?_
      refine J_i2l (pc := 36) C dX10_bar_36 ?_
      refine J_lsub (pc := 37) C dX10_bar_37 ?_
      refine J_callSI (pc := 38) (As := [.long xp2.toInt64, .long (0 : Int64), .long ((1000 : Int64) - xp1.toInt64)]) (rest := []) C (fun z hz => mX10_in xp2.toInt64 (0 : Int64) ((1000 : Int64) - xp1.toInt64) h6 z hz) mwX10_in mlX10_99 stX10_in rfl dX10_bar_38 (by decide) rfl (Nat.le_of_ble_eq_true rfl) (by decide) (fun x11 h10 => ?_)
      refine J_if_ne (pc := 41) (tgt := 50) C dX10_bar_41 (by decide) ?_ ?_
      · refine J_aload_n (pc := 50) C dX10_bar_50 rfl 0 rfl ?_
        refine J_getI (pc := 51) C flX10_111 dX10_bar_51 (fun x12 => ?_)
        refine J_bipush (pc := 54) (v := 10) C dX10_bar_54 (by decide) ?_
        refine J_icmp_eq (pc := 56) (tgt := 68) C dX10_bar_56 (by decide) ?_ ?_
        · refine J_aload_n (pc := 68) C dX10_bar_68 rfl 0 rfl ?_
          refine J_bipush (pc := 69) (v := -5) C dX10_bar_69 (by decide) ?_
          refine J_callVI (pc := 71) (As := [.int (-5 : Int32)]) (rest := []) C (fun z hz => mX10_told a0 (-5 : Int32) h10 z hz) mwX10_told csX10_told mlX10_107 inX10_told rfl dX10_bar_71 (by decide) rfl (Nat.le_of_ble_eq_true rfl) (by decide) (fun x14 h13 => ?_)
          exact J_iret (pc := 74) C hr dX10_bar_74
        · refine J_aload_n (pc := 59) C dX10_bar_59 rfl 0 rfl ?_
          refine J_getI (pc := 60) C flX10_96 dX10_bar_60 (fun x15 => ?_)
          refine J_bipush (pc := 63) (v := 120) C dX10_bar_63 (by decide) ?_
          refine J_icmp_ne (pc := 65) (tgt := 75) C dX10_bar_65 (by decide) ?_ ?_
          · refine J_aload_n (pc := 75) C dX10_bar_75 rfl 0 rfl ?_
            refine J_getR (pc := 76) C flX10_7 dX10_bar_76 (fun a16 => ?_)
            refine J_iconst (pc := 79) (v := 3) C dX10_bar_79 (by decide) ?_
            refine J_aload_n (pc := 80) C dX10_bar_80 rfl 0 rfl ?_
            refine J_getI (pc := 81) C flX10_111 dX10_bar_81 (fun x17 => ?_)
            refine J_imul (pc := 84) C dX10_bar_84 ?_
            refine J_iload_n (pc := 85) C dX10_bar_85 rfl 2 rfl ?_
            refine J_iast (pc := 86) C dX10_bar_86 (fun h18 => ?_)
            refine J_aload_n (pc := 87) C dX10_bar_87 rfl 0 rfl ?_
            refine J_getR (pc := 88) C flX10_7 dX10_bar_88 (fun a19 => ?_)
            refine J_iconst (pc := 91) (v := 3) C dX10_bar_91 (by decide) ?_
            refine J_aload_n (pc := 92) C dX10_bar_92 rfl 0 rfl ?_
            refine J_getI (pc := 93) C flX10_111 dX10_bar_93 (fun x20 => ?_)
            refine J_imul (pc := 96) C dX10_bar_96 ?_
            refine J_iconst (pc := 97) (v := 1) C dX10_bar_97 (by decide) ?_
            refine J_iadd (pc := 98) C dX10_bar_98 ?_
            refine J_iload_n (pc := 99) C dX10_bar_99 rfl 3 rfl ?_
            refine J_iast (pc := 100) C dX10_bar_100 (fun h21 => ?_)
            refine J_aload_n (pc := 101) C dX10_bar_101 rfl 0 rfl ?_
            refine J_getR (pc := 102) C flX10_7 dX10_bar_102 (fun a22 => ?_)
            refine J_iconst (pc := 105) (v := 3) C dX10_bar_105 (by decide) ?_
            refine J_aload_n (pc := 106) C dX10_bar_106 rfl 0 rfl ?_
            refine J_getI (pc := 107) C flX10_111 dX10_bar_107 (fun x23 => ?_)
            refine J_imul (pc := 110) C dX10_bar_110 ?_
            refine J_iconst (pc := 111) (v := 2) C dX10_bar_111 (by decide) ?_
            refine J_iadd (pc := 112) C dX10_bar_112 ?_
            refine J_sipush (pc := 113) (v := 1000) C dX10_bar_113 (by decide) ?_
            refine J_iload_n (pc := 116) C dX10_bar_116 rfl 2 rfl ?_
            refine J_isub (pc := 117) C dX10_bar_117 ?_
            refine J_iload_n (pc := 118) C dX10_bar_118 rfl 3 rfl ?_
            refine J_isub (pc := 119) C dX10_bar_119 ?_
            refine J_iast (pc := 120) C dX10_bar_120 (fun h24 => ?_)
            refine J_aload_n (pc := 121) C dX10_bar_121 rfl 0 rfl ?_
            refine J_callVU (pc := 122) (As := []) (rest := []) C (fun z hz => mX10_addPiece a0 h24 z hz) mwX10_addPiece csX10_addPiece mlX10_114 inX10_addPiece rfl dX10_bar_122 (by decide) rfl (Nat.le_of_ble_eq_true rfl) (by decide) (fun _ h25 => ?_)
            refine J_aload_n (pc := 125) C dX10_bar_125 rfl 0 rfl ?_
            refine J_getR (pc := 126) C flX10_17 dX10_bar_126 (fun a26 => ?_)
            refine J_bipush (pc := 129) (v := 10) C dX10_bar_129 (by decide) ?_
            refine J_aload_n (pc := 131) C dX10_bar_131 rfl 0 rfl ?_
            refine J_getI (pc := 132) C flX10_96 dX10_bar_132 (fun x27 => ?_)
            refine J_iconst (pc := 135) (v := 1) C dX10_bar_135 (by decide) ?_
            refine J_isub (pc := 136) C dX10_bar_136 ?_
            refine J_imul (pc := 137) C dX10_bar_137 ?_
            refine J_aload_n (pc := 138) C dX10_bar_138 rfl 0 rfl ?_
            refine J_getI (pc := 139) C flX10_111 dX10_bar_139 (fun x28 => ?_)
            refine J_iadd (pc := 142) C dX10_bar_142 ?_
            refine J_iload_n (pc := 143) C dX10_bar_143 rfl 1 rfl ?_
            refine J_iast (pc := 144) C dX10_bar_144 (fun h29 => ?_)
            refine J_aload_n (pc := 145) C dX10_bar_145 rfl 0 rfl ?_
            refine J_dup (pc := 146) C dX10_bar_146 rfl ?_
            refine J_getI (pc := 147) C flX10_111 dX10_bar_147 (fun x30 => ?_)
            refine J_iconst (pc := 150) (v := 1) C dX10_bar_150 (by decide) ?_
            refine J_iadd (pc := 151) C dX10_bar_151 ?_
            refine J_put (pc := 152) C flX10_111 cl10 ft10_2 rfl rfl dX10_bar_152 (fun h31 => ?_)
            refine J_aload_n (pc := 155) C dX10_bar_155 rfl 0 rfl ?_
            refine J_aload_n (pc := 156) C dX10_bar_156 rfl 0 rfl ?_
            refine J_getI (pc := 157) C flX10_96 dX10_bar_157 (fun x32 => ?_)
            refine J_iconst (pc := 160) (v := 1) C dX10_bar_160 (by decide) ?_
            refine J_isub (pc := 161) C dX10_bar_161 ?_
            refine J_callVI (pc := 162) (As := [.int (x32 - (1 : Int32))]) (rest := []) C (fun z hz => mX10_told a0 (x32 - (1 : Int32)) h31 z hz) mwX10_told csX10_told mlX10_107 inX10_told rfl dX10_bar_162 (by decide) rfl (Nat.le_of_ble_eq_true rfl) (by decide) (fun x34 h33 => ?_)
            exact J_iret (pc := 165) C hr dX10_bar_165
          · refine J_aload_n (pc := 68) C dX10_bar_68 rfl 0 rfl ?_
            refine J_bipush (pc := 69) (v := -5) C dX10_bar_69 (by decide) ?_
            refine J_callVI (pc := 71) (As := [.int (-5 : Int32)]) (rest := []) C (fun z hz => mX10_told a0 (-5 : Int32) h10 z hz) mwX10_told csX10_told mlX10_107 inX10_told rfl dX10_bar_71 (by decide) rfl (Nat.le_of_ble_eq_true rfl) (by decide) (fun x36 h35 => ?_)
            exact J_iret (pc := 74) C hr dX10_bar_74
      · refine J_aload_n (pc := 44) C dX10_bar_44 rfl 0 rfl ?_
        refine J_iconst (pc := 45) (v := -1) C dX10_bar_45 (by decide) ?_
        refine J_callVI (pc := 46) (As := [.int (-1 : Int32)]) (rest := []) C (fun z hz => mX10_told a0 (-1 : Int32) h10 z hz) mwX10_told csX10_told mlX10_107 inX10_told rfl dX10_bar_46 (by decide) rfl (Nat.le_of_ble_eq_true rfl) (by decide) (fun x38 h37 => ?_)
        exact J_iret (pc := 49) C hr dX10_bar_49
theorem mX10_bar {l : Launch} {G : GX} (a0 : Nat) (xp0 : Int32) (xp1 : Int32) (xp2 : Int32) (h0 : PH) : ∀ z, fX10_bar a0 xp0 xp1 xp2 h0 = some z → MC l G yX10_bar cX10_bar 4 (some .int) rmX10_bar [.ref a0, .int xp0, .int xp1, .int xp2] h0 (rvI z.1) z.2 :=
  Met_J (own := RX10) (by decide) rfl (Nat.le_of_ble_eq_true rfl) (fun p e s m args below meth c C hr hn => vfX10_bar C hr a0 xp0 xp1 xp2 h0)

