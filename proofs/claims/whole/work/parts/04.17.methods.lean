theorem dX10_leaf_0 : decode cX10_leaf 0 = .ok (.aload_n 0, 1) := by decide +kernel
theorem dX10_leaf_1 : decode cX10_leaf 1 = .ok (.iconst 0, 1) := by decide +kernel
theorem dX10_leaf_2 : decode cX10_leaf 2 = .ok (.putfield 90, 3) := by decide +kernel
theorem dX10_leaf_5 : decode cX10_leaf 5 = .ok (.iload_n 2, 1) := by decide +kernel
theorem dX10_leaf_6 : decode cX10_leaf 6 = .ok (.i2l, 1) := by decide +kernel
theorem dX10_leaf_7 : decode cX10_leaf 7 = .ok (.lconst 1, 1) := by decide +kernel
theorem dX10_leaf_8 : decode cX10_leaf 8 = .ok (.ldc2_w 223, 3) := by decide +kernel
theorem dX10_leaf_11 : decode cX10_leaf 11 = .ok (.invokestatic 99, 3) := by decide +kernel
theorem dX10_leaf_14 : decode cX10_leaf 14 = .ok (.ifCond .ne 9, 3) := by decide +kernel
theorem dX10_leaf_17 : decode cX10_leaf 17 = .ok (.aload_n 0, 1) := by decide +kernel
theorem dX10_leaf_18 : decode cX10_leaf 18 = .ok (.iconst (-1), 1) := by decide +kernel
theorem dX10_leaf_19 : decode cX10_leaf 19 = .ok (.invokevirtual 107, 3) := by decide +kernel
theorem dX10_leaf_22 : decode cX10_leaf 22 = .ok (.ireturn, 1) := by decide +kernel
theorem dX10_leaf_23 : decode cX10_leaf 23 = .ok (.aload_n 0, 1) := by decide +kernel
theorem dX10_leaf_24 : decode cX10_leaf 24 = .ok (.iload_n 1, 1) := by decide +kernel
theorem dX10_leaf_25 : decode cX10_leaf 25 = .ok (.invokevirtual 117, 3) := by decide +kernel
theorem dX10_leaf_28 : decode cX10_leaf 28 = .ok (.ifCond .ne 10, 3) := by decide +kernel
theorem dX10_leaf_31 : decode cX10_leaf 31 = .ok (.aload_n 0, 1) := by decide +kernel
theorem dX10_leaf_32 : decode cX10_leaf 32 = .ok (.bipush (-2), 2) := by decide +kernel
theorem dX10_leaf_34 : decode cX10_leaf 34 = .ok (.invokevirtual 107, 3) := by decide +kernel
theorem dX10_leaf_37 : decode cX10_leaf 37 = .ok (.ireturn, 1) := by decide +kernel
theorem dX10_leaf_38 : decode cX10_leaf 38 = .ok (.aload_n 0, 1) := by decide +kernel
theorem dX10_leaf_39 : decode cX10_leaf 39 = .ok (.iload_n 1, 1) := by decide +kernel
theorem dX10_leaf_40 : decode cX10_leaf 40 = .ok (.invokevirtual 124, 3) := by decide +kernel
theorem dX10_leaf_43 : decode cX10_leaf 43 = .ok (.ifCond .eq 10, 3) := by decide +kernel
theorem dX10_leaf_46 : decode cX10_leaf 46 = .ok (.aload_n 0, 1) := by decide +kernel
theorem dX10_leaf_47 : decode cX10_leaf 47 = .ok (.bipush (-3), 2) := by decide +kernel
theorem dX10_leaf_49 : decode cX10_leaf 49 = .ok (.invokevirtual 107, 3) := by decide +kernel
theorem dX10_leaf_52 : decode cX10_leaf 52 = .ok (.ireturn, 1) := by decide +kernel
theorem dX10_leaf_53 : decode cX10_leaf 53 = .ok (.aload_n 0, 1) := by decide +kernel
theorem dX10_leaf_54 : decode cX10_leaf 54 = .ok (.getfield 20, 3) := by decide +kernel
theorem dX10_leaf_57 : decode cX10_leaf 57 = .ok (.iload_n 1, 1) := by decide +kernel
theorem dX10_leaf_58 : decode cX10_leaf 58 = .ok (.iload_n 2, 1) := by decide +kernel
theorem dX10_leaf_59 : decode cX10_leaf 59 = .ok (.iastore, 1) := by decide +kernel
theorem dX10_leaf_60 : decode cX10_leaf 60 = .ok (.aload_n 0, 1) := by decide +kernel
theorem dX10_leaf_61 : decode cX10_leaf 61 = .ok (.dup, 1) := by decide +kernel
theorem dX10_leaf_62 : decode cX10_leaf 62 = .ok (.getfield 225, 3) := by decide +kernel
theorem dX10_leaf_65 : decode cX10_leaf 65 = .ok (.iconst 1, 1) := by decide +kernel
theorem dX10_leaf_66 : decode cX10_leaf 66 = .ok (.iadd, 1) := by decide +kernel
theorem dX10_leaf_67 : decode cX10_leaf 67 = .ok (.putfield 225, 3) := by decide +kernel
theorem dX10_leaf_70 : decode cX10_leaf 70 = .ok (.aload_n 0, 1) := by decide +kernel
theorem dX10_leaf_71 : decode cX10_leaf 71 = .ok (.aload_n 0, 1) := by decide +kernel
theorem dX10_leaf_72 : decode cX10_leaf 72 = .ok (.getfield 225, 3) := by decide +kernel
theorem dX10_leaf_75 : decode cX10_leaf 75 = .ok (.invokevirtual 107, 3) := by decide +kernel
theorem dX10_leaf_78 : decode cX10_leaf 78 = .ok (.ireturn, 1) := by decide +kernel
def rmX10_leaf : Room := { frames := 2, cells := 0, slots := 0, locals := 46 }
def fX10_leaf  (a0 : Nat) (xp0 : Int32) (xp1 : Int32) (h0 : PH) : Option (Int32 × PH) :=
    bn (wr 10 0 (.int (0 : Int32)) a0 h0) fun h1 =>
    bn2 (fX10_in xp1.toInt64 (1 : Int64) (10000 : Int64) h1) fun x3 h2 =>
    if x3 = 0 then (bn (chk 10 a0 h2) fun _ => bn2 (fX10_told a0 (-1 : Int32) h2) fun x20 h19 =>
    some (x20, h19)) else
    bn (chk 10 a0 h2) fun _ => bn2 (fX10_isPiece a0 xp0 h2) fun x5 h4 =>
    if x5 = 0 then (bn (chk 10 a0 h4) fun _ => bn2 (fX10_told a0 (-2 : Int32) h4) fun x18 h17 =>
    some (x18, h17)) else
    bn (chk 10 a0 h4) fun _ => bn2 (fX10_isLeaf a0 xp0 h4) fun x7 h6 =>
    if x7 = 0 then (bn (rdR 10 7 a0 h6) fun a8 =>
    bn (astI a8 xp0 xp1 h6) fun h9 =>
    bn (rdI 10 34 a0 h9) fun x10 =>
    bn (wr 10 34 (.int (x10 + (1 : Int32))) a0 h9) fun h11 =>
    bn (rdI 10 34 a0 h11) fun x12 =>
    bn (chk 10 a0 h11) fun _ => bn2 (fX10_told a0 x12 h11) fun x14 h13 =>
    some (x14, h13)) else
    bn (chk 10 a0 h6) fun _ => bn2 (fX10_told a0 (-3 : Int32) h6) fun x16 h15 =>
    some (x16, h15)
set_option maxHeartbeats 4000000 in
set_option maxRecDepth 100000 in
theorem vfX10_leaf {p : Program} {l : Launch} {e : Env} {s : State} {m : MethodId} {args : Array Value} {below : List Frame} {meth : Method} {c : Code} {G : GX} (C : Cx p s m args meth c G cX10_leaf 3 RX10) (hr : meth.sig.returnType = (some .int)) (a0 : Nat) (xp0 : Int32) (xp1 : Int32) (h0 : PH) : J p l e rmX10_leaf s m args below meth c G 3 (qM below args s rvI G 0 0) 0 0 h0 0 [(0, .ref a0), (1, .int xp0), (2, .int xp1)] [] (fX10_leaf  a0 xp0 xp1 h0) := by
  unfold fX10_leaf
  refine J_aload_n (pc := 0) C dX10_leaf_0 rfl 0 rfl ?_
  refine J_iconst (pc := 1) (v := 0) C dX10_leaf_1 (by decide) ?_
  refine J_put (pc := 2) C flX10_90 cl10 ft10_0 rfl rfl dX10_leaf_2 (fun h1 => ?_)
  refine J_iload_n (pc := 5) C dX10_leaf_5 rfl 2 rfl ?_
  refine J_i2l (pc := 6) C dX10_leaf_6 ?_
  refine J_lconst (pc := 7) (v := 1) C dX10_leaf_7 (by decide) ?_
  refine J_ldc2 (pc := 8) C kjX10_223 dX10_leaf_8 ?_
  refine J_callSI (pc := 11) (As := [.long xp1.toInt64, .long (1 : Int64), .long (10000 : Int64)]) (rest := []) C (fun z hz => mX10_in xp1.toInt64 (1 : Int64) (10000 : Int64) h1 z hz) mwX10_in mlX10_99 stX10_in rfl dX10_leaf_11 (by decide) rfl (Nat.le_of_ble_eq_true rfl) (by decide) (fun x3 h2 => ?_)
  refine J_if_ne (pc := 14) (tgt := 23) C dX10_leaf_14 (by decide) ?_ ?_
  · refine J_aload_n (pc := 23) C dX10_leaf_23 rfl 0 rfl ?_
    refine J_iload_n (pc := 24) C dX10_leaf_24 rfl 1 rfl ?_
    refine J_callVI (pc := 25) (As := [.int xp0]) (rest := []) C (fun z hz => mX10_isPiece a0 xp0 h2 z hz) mwX10_isPiece csX10_isPiece mlX10_117 inX10_isPiece rfl dX10_leaf_25 (by decide) rfl (Nat.le_of_ble_eq_true rfl) (by decide) (fun x5 h4 => ?_)
    refine J_if_ne (pc := 28) (tgt := 38) C dX10_leaf_28 (by decide) ?_ ?_
    · refine J_aload_n (pc := 38) C dX10_leaf_38 rfl 0 rfl ?_
      refine J_iload_n (pc := 39) C dX10_leaf_39 rfl 1 rfl ?_
      refine J_callVI (pc := 40) (As := [.int xp0]) (rest := []) C (fun z hz => mX10_isLeaf a0 xp0 h4 z hz) mwX10_isLeaf csX10_isLeaf mlX10_124 inX10_isLeaf rfl dX10_leaf_40 (by decide) rfl (Nat.le_of_ble_eq_true rfl) (by decide) (fun x7 h6 => ?_)
      refine J_if_eq (pc := 43) (tgt := 53) C dX10_leaf_43 (by decide) ?_ ?_
      · refine J_aload_n (pc := 53) C dX10_leaf_53 rfl 0 rfl ?_
        refine J_getR (pc := 54) C flX10_20 dX10_leaf_54 (fun a8 => ?_)
        refine J_iload_n (pc := 57) C dX10_leaf_57 rfl 1 rfl ?_
        refine J_iload_n (pc := 58) C dX10_leaf_58 rfl 2 rfl ?_
        refine J_iast (pc := 59) C dX10_leaf_59 (fun h9 => ?_)
        refine J_aload_n (pc := 60) C dX10_leaf_60 rfl 0 rfl ?_
        refine J_dup (pc := 61) C dX10_leaf_61 rfl ?_
        refine J_getI (pc := 62) C flX10_225 dX10_leaf_62 (fun x10 => ?_)
        refine J_iconst (pc := 65) (v := 1) C dX10_leaf_65 (by decide) ?_
        refine J_iadd (pc := 66) C dX10_leaf_66 ?_
        refine J_put (pc := 67) C flX10_225 cl10 ft10_34 rfl rfl dX10_leaf_67 (fun h11 => ?_)
        refine J_aload_n (pc := 70) C dX10_leaf_70 rfl 0 rfl ?_
        refine J_aload_n (pc := 71) C dX10_leaf_71 rfl 0 rfl ?_
        refine J_getI (pc := 72) C flX10_225 dX10_leaf_72 (fun x12 => ?_)
        refine J_callVI (pc := 75) (As := [.int x12]) (rest := []) C (fun z hz => mX10_told a0 x12 h11 z hz) mwX10_told csX10_told mlX10_107 inX10_told rfl dX10_leaf_75 (by decide) rfl (Nat.le_of_ble_eq_true rfl) (by decide) (fun x14 h13 => ?_)
        exact J_iret (pc := 78) C hr dX10_leaf_78
      · refine J_aload_n (pc := 46) C dX10_leaf_46 rfl 0 rfl ?_
        refine J_bipush (pc := 47) (v := -3) C dX10_leaf_47 (by decide) ?_
        refine J_callVI (pc := 49) (As := [.int (-3 : Int32)]) (rest := []) C (fun z hz => mX10_told a0 (-3 : Int32) h6 z hz) mwX10_told csX10_told mlX10_107 inX10_told rfl dX10_leaf_49 (by decide) rfl (Nat.le_of_ble_eq_true rfl) (by decide) (fun x16 h15 => ?_)
        exact J_iret (pc := 52) C hr dX10_leaf_52
    · refine J_aload_n (pc := 31) C dX10_leaf_31 rfl 0 rfl ?_
      refine J_bipush (pc := 32) (v := -2) C dX10_leaf_32 (by decide) ?_
      refine J_callVI (pc := 34) (As := [.int (-2 : Int32)]) (rest := []) C (fun z hz => mX10_told a0 (-2 : Int32) h4 z hz) mwX10_told csX10_told mlX10_107 inX10_told rfl dX10_leaf_34 (by decide) rfl (Nat.le_of_ble_eq_true rfl) (by decide) (fun x18 h17 => ?_)
      exact J_iret (pc := 37) C hr dX10_leaf_37
  · refine J_aload_n (pc := 17) C dX10_leaf_17 rfl 0 rfl ?_
    refine J_iconst (pc := 18) (v := -1) C dX10_leaf_18 (by decide) ?_
    refine J_callVI (pc := 19) (As := [.int (-1 : Int32)]) (rest := []) C (fun z hz => mX10_told a0 (-1 : Int32) h2 z hz) mwX10_told csX10_told mlX10_107 inX10_told rfl dX10_leaf_19 (by decide) rfl (Nat.le_of_ble_eq_true rfl) (by decide) (fun x20 h19 => ?_)
    exact J_iret (pc := 22) C hr dX10_leaf_22
theorem mX10_leaf {l : Launch} {G : GX} (a0 : Nat) (xp0 : Int32) (xp1 : Int32) (h0 : PH) : ∀ z, fX10_leaf a0 xp0 xp1 h0 = some z → MC l G yX10_leaf cX10_leaf 3 (some .int) rmX10_leaf [.ref a0, .int xp0, .int xp1] h0 (rvI z.1) z.2 :=
  Met_J (own := RX10) (by decide) rfl (Nat.le_of_ble_eq_true rfl) (fun p e s m args below meth c C hr hn => vfX10_leaf C hr a0 xp0 xp1 h0)

theorem dJ13_compare_74951_0 : decode cJ13_compare_74951 0 = .ok (.lload_n 0, 1) := by decide +kernel
theorem dJ13_compare_74951_1 : decode cJ13_compare_74951 1 = .ok (.lload_n 2, 1) := by decide +kernel
theorem dJ13_compare_74951_2 : decode cJ13_compare_74951 2 = .ok (.lcmp, 1) := by decide +kernel
theorem dJ13_compare_74951_3 : decode cJ13_compare_74951 3 = .ok (.ifCond .ge 7, 3) := by decide +kernel
theorem dJ13_compare_74951_6 : decode cJ13_compare_74951 6 = .ok (.iconst (-1), 1) := by decide +kernel
theorem dJ13_compare_74951_7 : decode cJ13_compare_74951 7 = .ok (.goto 14, 3) := by decide +kernel
theorem dJ13_compare_74951_10 : decode cJ13_compare_74951 10 = .ok (.lload_n 0, 1) := by decide +kernel
theorem dJ13_compare_74951_11 : decode cJ13_compare_74951 11 = .ok (.lload_n 2, 1) := by decide +kernel
theorem dJ13_compare_74951_12 : decode cJ13_compare_74951 12 = .ok (.lcmp, 1) := by decide +kernel
theorem dJ13_compare_74951_13 : decode cJ13_compare_74951 13 = .ok (.ifCond .ne 7, 3) := by decide +kernel
theorem dJ13_compare_74951_16 : decode cJ13_compare_74951 16 = .ok (.iconst 0, 1) := by decide +kernel
theorem dJ13_compare_74951_17 : decode cJ13_compare_74951 17 = .ok (.goto 4, 3) := by decide +kernel
theorem dJ13_compare_74951_20 : decode cJ13_compare_74951 20 = .ok (.iconst 1, 1) := by decide +kernel
theorem dJ13_compare_74951_21 : decode cJ13_compare_74951 21 = .ok (.ireturn, 1) := by decide +kernel
def rmJ13_compare_74951 : Room := { frames := 0, cells := 0, slots := 0, locals := 0 }
def fJ13_compare_74951  (xp0 : Int64) (xp1 : Int64) (h0 : PH) : Option (Int32 × PH) :=
    if xp1 ≤ xp0 then (if xp0 = xp1 then (some ((0 : Int32), h0)) else
    some ((1 : Int32), h0)) else
    some ((-1 : Int32), h0)
set_option maxHeartbeats 4000000 in
set_option maxRecDepth 100000 in
theorem vfJ13_compare_74951 {p : Program} {l : Launch} {e : Env} {s : State} {m : MethodId} {args : Array Value} {below : List Frame} {meth : Method} {c : Code} {G : GX} (C : Cx p s m args meth c G cJ13_compare_74951 4 RJ13) (hr : meth.sig.returnType = (some .int)) (xp0 : Int64) (xp1 : Int64) (h0 : PH) : J p l e rmJ13_compare_74951 s m args below meth c G 4 (qM below args s rvI G 0 0) 0 0 h0 0 [(0, .long xp0), (2, .long xp1)] [] (fJ13_compare_74951  xp0 xp1 h0) := by
  unfold fJ13_compare_74951
  refine J_lload_n (pc := 0) C dJ13_compare_74951_0 rfl 0 rfl ?_
  refine J_lload_n (pc := 1) C dJ13_compare_74951_1 rfl 1 rfl ?_
  refine J_lcmp_ge (pc := 2) (tgt := 10) C dJ13_compare_74951_2 dJ13_compare_74951_3 (by decide) ?_ ?_
  · refine J_lload_n (pc := 10) C dJ13_compare_74951_10 rfl 0 rfl ?_
    refine J_lload_n (pc := 11) C dJ13_compare_74951_11 rfl 1 rfl ?_
    refine J_lcmp_ne (pc := 12) (tgt := 20) C dJ13_compare_74951_12 dJ13_compare_74951_13 (by decide) ?_ ?_
    · refine J_iconst (pc := 20) (v := 1) C dJ13_compare_74951_20 (by decide) ?_
      exact J_iret (pc := 21) C hr dJ13_compare_74951_21
    · refine J_iconst (pc := 16) (v := 0) C dJ13_compare_74951_16 (by decide) ?_
      refine J_goto (pc := 17) (tgt := 21) C dJ13_compare_74951_17 (by decide) ?_
      exact J_iret (pc := 21) C hr dJ13_compare_74951_21
  · refine J_iconst (pc := 6) (v := -1) C dJ13_compare_74951_6 (by decide) ?_
    refine J_goto (pc := 7) (tgt := 21) C dJ13_compare_74951_7 (by decide) ?_
    exact J_iret (pc := 21) C hr dJ13_compare_74951_21
theorem mJ13_compare_74951 {l : Launch} {G : GX} (xp0 : Int64) (xp1 : Int64) (h0 : PH) : ∀ z, fJ13_compare_74951 xp0 xp1 h0 = some z → MC l G yJ13_compare_74951 cJ13_compare_74951 4 (some .int) rmJ13_compare_74951 [.long xp0, .long xp1] h0 (rvI z.1) z.2 :=
  Met_J (own := RJ13) (by decide) rfl (Nat.le_of_ble_eq_true rfl) (fun p e s m args below meth c C hr hn => vfJ13_compare_74951 C hr xp0 xp1 h0)

theorem dX9_flatter_0 : decode cX9_flatter 0 = .ok (.aload_n 0, 1) := by decide +kernel
theorem dX9_flatter_1 : decode cX9_flatter 1 = .ok (.getfield 10, 3) := by decide +kernel
theorem dX9_flatter_4 : decode cX9_flatter 4 = .ok (.iload_n 1, 1) := by decide +kernel
theorem dX9_flatter_5 : decode cX9_flatter 5 = .ok (.invokevirtual 81, 3) := by decide +kernel
theorem dX9_flatter_8 : decode cX9_flatter 8 = .ok (.astore_n 3, 1) := by decide +kernel
theorem dX9_flatter_9 : decode cX9_flatter 9 = .ok (.aload_n 0, 1) := by decide +kernel
theorem dX9_flatter_10 : decode cX9_flatter 10 = .ok (.getfield 10, 3) := by decide +kernel
theorem dX9_flatter_13 : decode cX9_flatter 13 = .ok (.iload_n 2, 1) := by decide +kernel
theorem dX9_flatter_14 : decode cX9_flatter 14 = .ok (.invokevirtual 81, 3) := by decide +kernel
theorem dX9_flatter_17 : decode cX9_flatter 17 = .ok (.astore 4, 2) := by decide +kernel
theorem dX9_flatter_19 : decode cX9_flatter 19 = .ok (.aload_n 3, 1) := by decide +kernel
theorem dX9_flatter_20 : decode cX9_flatter 20 = .ok (.ifnull 23, 3) := by decide +kernel
theorem dX9_flatter_23 : decode cX9_flatter 23 = .ok (.aload 4, 2) := by decide +kernel
theorem dX9_flatter_25 : decode cX9_flatter 25 = .ok (.ifnull 18, 3) := by decide +kernel
theorem dX9_flatter_28 : decode cX9_flatter 28 = .ok (.aload_n 3, 1) := by decide +kernel
theorem dX9_flatter_29 : decode cX9_flatter 29 = .ok (.invokevirtual 174, 3) := by decide +kernel
theorem dX9_flatter_32 : decode cX9_flatter 32 = .ok (.ifCond .eq 11, 3) := by decide +kernel
theorem dX9_flatter_35 : decode cX9_flatter 35 = .ok (.aload 4, 2) := by decide +kernel
theorem dX9_flatter_37 : decode cX9_flatter 37 = .ok (.invokevirtual 174, 3) := by decide +kernel
theorem dX9_flatter_40 : decode cX9_flatter 40 = .ok (.ifCond .ne 6, 3) := by decide +kernel
theorem dX9_flatter_43 : decode cX9_flatter 43 = .ok (.bipush (-2), 2) := by decide +kernel
theorem dX9_flatter_45 : decode cX9_flatter 45 = .ok (.ireturn, 1) := by decide +kernel
theorem dX9_flatter_46 : decode cX9_flatter 46 = .ok (.aload_n 3, 1) := by decide +kernel
theorem dX9_flatter_47 : decode cX9_flatter 47 = .ok (.getfield 178, 3) := by decide +kernel
theorem dX9_flatter_50 : decode cX9_flatter 50 = .ok (.i2l, 1) := by decide +kernel
theorem dX9_flatter_51 : decode cX9_flatter 51 = .ok (.aload 4, 2) := by decide +kernel
theorem dX9_flatter_53 : decode cX9_flatter 53 = .ok (.getfield 85, 3) := by decide +kernel
theorem dX9_flatter_56 : decode cX9_flatter 56 = .ok (.i2l, 1) := by decide +kernel
theorem dX9_flatter_57 : decode cX9_flatter 57 = .ok (.lmul, 1) := by decide +kernel
theorem dX9_flatter_58 : decode cX9_flatter 58 = .ok (.aload 4, 2) := by decide +kernel
theorem dX9_flatter_60 : decode cX9_flatter 60 = .ok (.getfield 178, 3) := by decide +kernel
theorem dX9_flatter_63 : decode cX9_flatter 63 = .ok (.i2l, 1) := by decide +kernel
theorem dX9_flatter_64 : decode cX9_flatter 64 = .ok (.aload_n 3, 1) := by decide +kernel
theorem dX9_flatter_65 : decode cX9_flatter 65 = .ok (.getfield 85, 3) := by decide +kernel
theorem dX9_flatter_68 : decode cX9_flatter 68 = .ok (.i2l, 1) := by decide +kernel
theorem dX9_flatter_69 : decode cX9_flatter 69 = .ok (.lmul, 1) := by decide +kernel
theorem dX9_flatter_70 : decode cX9_flatter 70 = .ok (.invokestatic 181, 3) := by decide +kernel
theorem dX9_flatter_73 : decode cX9_flatter 73 = .ok (.ireturn, 1) := by decide +kernel
def rmX9_flatter : Room := { frames := 1, cells := 0, slots := 0, locals := 23 }
def fX9_flatter  (a0 : Nat) (xp0 : Int32) (xp1 : Int32) (h0 : PH) : Option (Int32 × PH) :=
    bn (rdR 9 0 a0 h0) fun a1 =>
    bn (chk 7 a1 h0) fun _ => bn2 (fX7_living a1 xp0 h0) fun o3 h2 =>
    bn (rdR 9 0 a0 h2) fun a4 =>
    bn (chk 7 a4 h2) fun _ => bn2 (fX7_living a4 xp1 h2) fun o6 h5 =>
    onul o3 (some ((-2 : Int32), h5)) fun a7 =>
    onul o6 (some ((-2 : Int32), h5)) fun a8 =>
    bn (chk 5 a7 h5) fun _ => bn2 (fX5_isLeaf a7 h5) fun x10 h9 =>
    if x10 = 0 then (some ((-2 : Int32), h9)) else
    bn (chk 5 a8 h9) fun _ => bn2 (fX5_isLeaf a8 h9) fun x12 h11 =>
    if x12 = 0 then (some ((-2 : Int32), h11)) else
    bn (rdI 5 2 a7 h11) fun x13 =>
    bn (rdI 5 1 a8 h11) fun x14 =>
    bn (rdI 5 2 a8 h11) fun x15 =>
    bn (rdI 5 1 a7 h11) fun x16 =>
    bn2 (fJ13_compare_74951 (x13.toInt64 * x14.toInt64) (x15.toInt64 * x16.toInt64) h11) fun x18 h17 =>
    some (x18, h17)
set_option maxHeartbeats 4000000 in
set_option maxRecDepth 100000 in
theorem vfX9_flatter {p : Program} {l : Launch} {e : Env} {s : State} {m : MethodId} {args : Array Value} {below : List Frame} {meth : Method} {c : Code} {G : GX} (C : Cx p s m args meth c G cX9_flatter 5 RX9) (hr : meth.sig.returnType = (some .int)) (a0 : Nat) (xp0 : Int32) (xp1 : Int32) (h0 : PH) : J p l e rmX9_flatter s m args below meth c G 5 (qM below args s rvI G 0 0) 0 0 h0 0 [(0, .ref a0), (1, .int xp0), (2, .int xp1)] [] (fX9_flatter  a0 xp0 xp1 h0) := by
  unfold fX9_flatter
  refine J_aload_n (pc := 0) C dX9_flatter_0 rfl 0 rfl ?_
  refine J_getR (pc := 1) C flX9_10 dX9_flatter_1 (fun a1 => ?_)
  refine J_iload_n (pc := 4) C dX9_flatter_4 rfl 1 rfl ?_
  refine J_callVR (pc := 5) (As := [.int xp0]) (rest := []) C (fun z hz => mX7_living a1 xp0 h0 z hz) mwX7_living csX7_living mlX9_81 inX7_living rfl dX9_flatter_5 (by decide) rfl (Nat.le_of_ble_eq_true rfl) (by decide) (fun o3 h2 => ?_)
  refine J_astore_nQ (pc := 8) (x := o3) (lv1 := [(3, va_rf o3), (0, .ref a0), (1, .int xp0), (2, .int xp1)]) C dX9_flatter_8 rfl (by decide) rfl ?_
  refine J_aload_n (pc := 9) C dX9_flatter_9 rfl 1 rfl ?_
  refine J_getR (pc := 10) C flX9_10 dX9_flatter_10 (fun a4 => ?_)
  refine J_iload_n (pc := 13) C dX9_flatter_13 rfl 3 rfl ?_
  refine J_callVR (pc := 14) (As := [.int xp1]) (rest := []) C (fun z hz => mX7_living a4 xp1 h2 z hz) mwX7_living csX7_living mlX9_81 inX7_living rfl dX9_flatter_14 (by decide) rfl (Nat.le_of_ble_eq_true rfl) (by decide) (fun o6 h5 => ?_)
  refine J_astoreQ (pc := 17) (x := o6) (lv1 := [(4, va_rf o6), (3, va_rf o3), (0, .ref a0), (1, .int xp0), (2, .int xp1)]) C dX9_flatter_17 (by decide) (by cases o3 <;> rfl) ?_
  refine J_aload_nQ (pc := 19) (x := o3) C dX9_flatter_19 rfl 1 rfl ?_
  refine J_onul (fun hx => ?_) (fun a7 hx => ?_)
  · subst hx
    refine J_ifnullN (pc := 20) (tgt := 43) C dX9_flatter_20 (by decide) ?_
    refine J_bipush (pc := 43) (v := -2) C dX9_flatter_43 (by decide) ?_
    exact J_iret (pc := 45) C hr dX9_flatter_45
  · subst hx
    refine J_ifnull (pc := 20) C dX9_flatter_20 ?_
    refine J_aloadQ (pc := 23) (x := o6) C dX9_flatter_23 0 rfl ?_
    refine J_onul (fun hx => ?_) (fun a8 hx => ?_)
    · subst hx
      refine J_ifnullN (pc := 25) (tgt := 43) C dX9_flatter_25 (by decide) ?_
      refine J_bipush (pc := 43) (v := -2) C dX9_flatter_43 (by decide) ?_
      exact J_iret (pc := 45) C hr dX9_flatter_45
    · subst hx
      refine J_ifnull (pc := 25) C dX9_flatter_25 ?_
      refine J_aload_n (pc := 28) C dX9_flatter_28 rfl 1 rfl ?_
      refine J_callVI (pc := 29) (As := []) (rest := []) C (fun z hz => mX5_isLeaf a7 h5 z hz) mwX5_isLeaf csX5_isLeaf mlX9_174 inX5_isLeaf rfl dX9_flatter_29 (by decide) rfl (Nat.le_of_ble_eq_true rfl) (by decide) (fun x10 h9 => ?_)
      refine J_if_eq (pc := 32) (tgt := 43) C dX9_flatter_32 (by decide) ?_ ?_
      · refine J_bipush (pc := 43) (v := -2) C dX9_flatter_43 (by decide) ?_
        exact J_iret (pc := 45) C hr dX9_flatter_45
      · refine J_aload (pc := 35) C dX9_flatter_35 0 rfl ?_
        refine J_callVI (pc := 37) (As := []) (rest := []) C (fun z hz => mX5_isLeaf a8 h9 z hz) mwX5_isLeaf csX5_isLeaf mlX9_174 inX5_isLeaf rfl dX9_flatter_37 (by decide) rfl (Nat.le_of_ble_eq_true rfl) (by decide) (fun x12 h11 => ?_)
        refine J_if_ne (pc := 40) (tgt := 46) C dX9_flatter_40 (by decide) ?_ ?_
        · refine J_aload_n (pc := 46) C dX9_flatter_46 rfl 1 rfl ?_
          refine J_getI (pc := 47) C flX9_178 dX9_flatter_47 (fun x13 => ?_)
          refine J_i2l (pc := 50) C dX9_flatter_50 ?_
          refine J_aload (pc := 51) C dX9_flatter_51 0 rfl ?_
          refine J_getI (pc := 53) C flX9_85 dX9_flatter_53 (fun x14 => ?_)
          refine J_i2l (pc := 56) C dX9_flatter_56 ?_
          refine J_lmul (pc := 57) C dX9_flatter_57 ?_
          refine J_aload (pc := 58) C dX9_flatter_58 0 rfl ?_
          refine J_getI (pc := 60) C flX9_178 dX9_flatter_60 (fun x15 => ?_)
          refine J_i2l (pc := 63) C dX9_flatter_63 ?_
          refine J_aload_n (pc := 64) C dX9_flatter_64 rfl 1 rfl ?_
          refine J_getI (pc := 65) C flX9_85 dX9_flatter_65 (fun x16 => ?_)
          refine J_i2l (pc := 68) C dX9_flatter_68 ?_
          refine J_lmul (pc := 69) C dX9_flatter_69 ?_
          refine J_callSI (pc := 70) (As := [.long (x13.toInt64 * x14.toInt64), .long (x15.toInt64 * x16.toInt64)]) (rest := []) C (fun z hz => mJ13_compare_74951 (x13.toInt64 * x14.toInt64) (x15.toInt64 * x16.toInt64) h11 z hz) mwJ13_compare_74951 mlX9_181 stJ13_compare_74951 rfl dX9_flatter_70 (by decide) rfl (Nat.le_of_ble_eq_true rfl) (by decide) (fun x18 h17 => ?_)
          exact J_iret (pc := 73) C hr dX9_flatter_73
        · refine J_bipush (pc := 43) (v := -2) C dX9_flatter_43 (by decide) ?_
          exact J_iret (pc := 45) C hr dX9_flatter_45
theorem mX9_flatter {l : Launch} {G : GX} (a0 : Nat) (xp0 : Int32) (xp1 : Int32) (h0 : PH) : ∀ z, fX9_flatter a0 xp0 xp1 h0 = some z → MC l G yX9_flatter cX9_flatter 5 (some .int) rmX9_flatter [.ref a0, .int xp0, .int xp1] h0 (rvI z.1) z.2 :=
  Met_J (own := RX9) (by decide) rfl (Nat.le_of_ble_eq_true rfl) (fun p e s m args below meth c C hr hn => vfX9_flatter C hr a0 xp0 xp1 h0)

theorem dX10_flatter_0 : decode cX10_flatter 0 = .ok (.aload_n 0, 1) := by decide +kernel
theorem dX10_flatter_1 : decode cX10_flatter 1 = .ok (.iconst 0, 1) := by decide +kernel
theorem dX10_flatter_2 : decode cX10_flatter 2 = .ok (.putfield 90, 3) := by decide +kernel
theorem dX10_flatter_5 : decode cX10_flatter 5 = .ok (.aload_n 0, 1) := by decide +kernel
theorem dX10_flatter_6 : decode cX10_flatter 6 = .ok (.iload_n 1, 1) := by decide +kernel
theorem dX10_flatter_7 : decode cX10_flatter 7 = .ok (.invokevirtual 117, 3) := by decide +kernel
theorem dX10_flatter_10 : decode cX10_flatter 10 = .ok (.ifCond .eq 27, 3) := by decide +kernel
theorem dX10_flatter_13 : decode cX10_flatter 13 = .ok (.aload_n 0, 1) := by decide +kernel
theorem dX10_flatter_14 : decode cX10_flatter 14 = .ok (.iload_n 2, 1) := by decide +kernel
theorem dX10_flatter_15 : decode cX10_flatter 15 = .ok (.invokevirtual 117, 3) := by decide +kernel
theorem dX10_flatter_18 : decode cX10_flatter 18 = .ok (.ifCond .eq 19, 3) := by decide +kernel
theorem dX10_flatter_21 : decode cX10_flatter 21 = .ok (.aload_n 0, 1) := by decide +kernel
theorem dX10_flatter_22 : decode cX10_flatter 22 = .ok (.iload_n 1, 1) := by decide +kernel
theorem dX10_flatter_23 : decode cX10_flatter 23 = .ok (.invokevirtual 124, 3) := by decide +kernel
theorem dX10_flatter_26 : decode cX10_flatter 26 = .ok (.ifCond .eq 11, 3) := by decide +kernel
theorem dX10_flatter_29 : decode cX10_flatter 29 = .ok (.aload_n 0, 1) := by decide +kernel
theorem dX10_flatter_30 : decode cX10_flatter 30 = .ok (.iload_n 2, 1) := by decide +kernel
theorem dX10_flatter_31 : decode cX10_flatter 31 = .ok (.invokevirtual 124, 3) := by decide +kernel
theorem dX10_flatter_34 : decode cX10_flatter 34 = .ok (.ifCond .ne 6, 3) := by decide +kernel
theorem dX10_flatter_37 : decode cX10_flatter 37 = .ok (.bipush (-2), 2) := by decide +kernel
theorem dX10_flatter_39 : decode cX10_flatter 39 = .ok (.ireturn, 1) := by decide +kernel
theorem dX10_flatter_40 : decode cX10_flatter 40 = .ok (.aload_n 0, 1) := by decide +kernel
theorem dX10_flatter_41 : decode cX10_flatter 41 = .ok (.getfield 20, 3) := by decide +kernel
theorem dX10_flatter_44 : decode cX10_flatter 44 = .ok (.iload_n 1, 1) := by decide +kernel
theorem dX10_flatter_45 : decode cX10_flatter 45 = .ok (.iaload, 1) := by decide +kernel
theorem dX10_flatter_46 : decode cX10_flatter 46 = .ok (.i2l, 1) := by decide +kernel
theorem dX10_flatter_47 : decode cX10_flatter 47 = .ok (.aload_n 0, 1) := by decide +kernel
theorem dX10_flatter_48 : decode cX10_flatter 48 = .ok (.iload_n 2, 1) := by decide +kernel
theorem dX10_flatter_49 : decode cX10_flatter 49 = .ok (.invokevirtual 121, 3) := by decide +kernel
theorem dX10_flatter_52 : decode cX10_flatter 52 = .ok (.i2l, 1) := by decide +kernel
theorem dX10_flatter_53 : decode cX10_flatter 53 = .ok (.lmul, 1) := by decide +kernel
theorem dX10_flatter_54 : decode cX10_flatter 54 = .ok (.lstore_n 3, 1) := by decide +kernel
theorem dX10_flatter_55 : decode cX10_flatter 55 = .ok (.aload_n 0, 1) := by decide +kernel
theorem dX10_flatter_56 : decode cX10_flatter 56 = .ok (.getfield 20, 3) := by decide +kernel
theorem dX10_flatter_59 : decode cX10_flatter 59 = .ok (.iload_n 2, 1) := by decide +kernel
theorem dX10_flatter_60 : decode cX10_flatter 60 = .ok (.iaload, 1) := by decide +kernel
theorem dX10_flatter_61 : decode cX10_flatter 61 = .ok (.i2l, 1) := by decide +kernel
theorem dX10_flatter_62 : decode cX10_flatter 62 = .ok (.aload_n 0, 1) := by decide +kernel
theorem dX10_flatter_63 : decode cX10_flatter 63 = .ok (.iload_n 1, 1) := by decide +kernel
theorem dX10_flatter_64 : decode cX10_flatter 64 = .ok (.invokevirtual 121, 3) := by decide +kernel
theorem dX10_flatter_67 : decode cX10_flatter 67 = .ok (.i2l, 1) := by decide +kernel
theorem dX10_flatter_68 : decode cX10_flatter 68 = .ok (.lmul, 1) := by decide +kernel
theorem dX10_flatter_69 : decode cX10_flatter 69 = .ok (.lstore 5, 2) := by decide +kernel
theorem dX10_flatter_71 : decode cX10_flatter 71 = .ok (.lload_n 3, 1) := by decide +kernel
theorem dX10_flatter_72 : decode cX10_flatter 72 = .ok (.lload 5, 2) := by decide +kernel
theorem dX10_flatter_74 : decode cX10_flatter 74 = .ok (.lcmp, 1) := by decide +kernel
theorem dX10_flatter_75 : decode cX10_flatter 75 = .ok (.ifCond .le 7, 3) := by decide +kernel
theorem dX10_flatter_78 : decode cX10_flatter 78 = .ok (.iconst 1, 1) := by decide +kernel
theorem dX10_flatter_79 : decode cX10_flatter 79 = .ok (.goto 15, 3) := by decide +kernel
theorem dX10_flatter_82 : decode cX10_flatter 82 = .ok (.lload_n 3, 1) := by decide +kernel
theorem dX10_flatter_83 : decode cX10_flatter 83 = .ok (.lload 5, 2) := by decide +kernel
theorem dX10_flatter_85 : decode cX10_flatter 85 = .ok (.lcmp, 1) := by decide +kernel
theorem dX10_flatter_86 : decode cX10_flatter 86 = .ok (.ifCond .ne 7, 3) := by decide +kernel
theorem dX10_flatter_89 : decode cX10_flatter 89 = .ok (.iconst 0, 1) := by decide +kernel
theorem dX10_flatter_90 : decode cX10_flatter 90 = .ok (.goto 4, 3) := by decide +kernel
theorem dX10_flatter_93 : decode cX10_flatter 93 = .ok (.iconst (-1), 1) := by decide +kernel
theorem dX10_flatter_94 : decode cX10_flatter 94 = .ok (.ireturn, 1) := by decide +kernel
def rmX10_flatter : Room := { frames := 2, cells := 0, slots := 0, locals := 46 }
def fX10_flatter  (a0 : Nat) (xp0 : Int32) (xp1 : Int32) (h0 : PH) : Option (Int32 × PH) :=
    bn (wr 10 0 (.int (0 : Int32)) a0 h0) fun h1 =>
    bn (chk 10 a0 h1) fun _ => bn2 (fX10_isPiece a0 xp0 h1) fun x3 h2 =>
    if x3 = 0 then (some ((-2 : Int32), h2)) else
    bn (chk 10 a0 h2) fun _ => bn2 (fX10_isPiece a0 xp1 h2) fun x5 h4 =>
    if x5 = 0 then (some ((-2 : Int32), h4)) else
    bn (chk 10 a0 h4) fun _ => bn2 (fX10_isLeaf a0 xp0 h4) fun x7 h6 =>
    if x7 = 0 then (some ((-2 : Int32), h6)) else
    bn (chk 10 a0 h6) fun _ => bn2 (fX10_isLeaf a0 xp1 h6) fun x9 h8 =>
    if x9 = 0 then (some ((-2 : Int32), h8)) else
    bn (rdR 10 7 a0 h8) fun a10 =>
    bn (aldI 0 a10 xp0 h8) fun x11 =>
    bn (chk 10 a0 h8) fun _ => bn2 (fX10_weightOf a0 xp1 h8) fun x13 h12 =>
    nm (x11.toInt64 * x13.toInt64) fun x14 =>
    bn (rdR 10 7 a0 h12) fun a15 =>
    bn (aldI 0 a15 xp1 h12) fun x16 =>
    bn (chk 10 a0 h12) fun _ => bn2 (fX10_weightOf a0 xp0 h12) fun x18 h17 =>
    nm (x16.toInt64 * x18.toInt64) fun x19 =>
    if x14 ≤ x19 then (if x14 = x19 then (some ((0 : Int32), h17)) else
    some ((-1 : Int32), h17)) else
    some ((1 : Int32), h17)
set_option maxHeartbeats 4000000 in
set_option maxRecDepth 100000 in
theorem vfX10_flatter {p : Program} {l : Launch} {e : Env} {s : State} {m : MethodId} {args : Array Value} {below : List Frame} {meth : Method} {c : Code} {G : GX} (C : Cx p s m args meth c G cX10_flatter 7 RX10) (hr : meth.sig.returnType = (some .int)) (a0 : Nat) (xp0 : Int32) (xp1 : Int32) (h0 : PH) : J p l e rmX10_flatter s m args below meth c G 7 (qM below args s rvI G 0 0) 0 0 h0 0 [(0, .ref a0), (1, .int xp0), (2, .int xp1)] [] (fX10_flatter  a0 xp0 xp1 h0) := by
  unfold fX10_flatter
  refine J_aload_n (pc := 0) C dX10_flatter_0 rfl 0 rfl ?_
  refine J_iconst (pc := 1) (v := 0) C dX10_flatter_1 (by decide) ?_
  refine J_put (pc := 2) C flX10_90 cl10 ft10_0 rfl rfl dX10_flatter_2 (fun h1 => ?_)
  refine J_aload_n (pc := 5) C dX10_flatter_5 rfl 0 rfl ?_
  refine J_iload_n (pc := 6) C dX10_flatter_6 rfl 1 rfl ?_
  refine J_callVI (pc := 7) (As := [.int xp0]) (rest := []) C (fun z hz => mX10_isPiece a0 xp0 h1 z hz) mwX10_isPiece csX10_isPiece mlX10_117 inX10_isPiece rfl dX10_flatter_7 (by decide) rfl (Nat.le_of_ble_eq_true rfl) (by decide) (fun x3 h2 => ?_)
  refine J_if_eq (pc := 10) (tgt := 37) C dX10_flatter_10 (by decide) ?_ ?_
  · refine J_bipush (pc := 37) (v := -2) C dX10_flatter_37 (by decide) ?_
    exact J_iret (pc := 39) C hr dX10_flatter_39
  · refine J_aload_n (pc := 13) C dX10_flatter_13 rfl 0 rfl ?_
    refine J_iload_n (pc := 14) C dX10_flatter_14 rfl 2 rfl ?_
    refine J_callVI (pc := 15) (As := [.int xp1]) (rest := []) C (fun z hz => mX10_isPiece a0 xp1 h2 z hz) mwX10_isPiece csX10_isPiece mlX10_117 inX10_isPiece rfl dX10_flatter_15 (by decide) rfl (Nat.le_of_ble_eq_true rfl) (by decide) (fun x5 h4 => ?_)
    refine J_if_eq (pc := 18) (tgt := 37) C dX10_flatter_18 (by decide) ?_ ?_
    · refine J_bipush (pc := 37) (v := -2) C dX10_flatter_37 (by decide) ?_
      exact J_iret (pc := 39) C hr dX10_flatter_39
    · refine J_aload_n (pc := 21) C dX10_flatter_21 rfl 0 rfl ?_
      refine J_iload_n (pc := 22) C dX10_flatter_22 rfl 1 rfl ?_
      refine J_callVI (pc := 23) (As := [.int xp0]) (rest := []) C (fun z hz => mX10_isLeaf a0 xp0 h4 z hz) mwX10_isLeaf csX10_isLeaf mlX10_124 inX10_isLeaf rfl dX10_flatter_23 (by decide) rfl (Nat.le_of_ble_eq_true rfl) (by decide) (fun x7 h6 => ?_)
      refine J_if_eq (pc := 26) (tgt := 37) C dX10_flatter_26 (by decide) ?_ ?_
      · refine J_bipush (pc := 37) (v := -2) C dX10_flatter_37 (by decide) ?_
        exact J_iret (pc := 39) C hr dX10_flatter_39
      · refine J_aload_n (pc := 29) C dX10_flatter_29 rfl 0 rfl ?_
        refine J_iload_n (pc := 30) C dX10_flatter_30 rfl 2 rfl ?_
        refine J_callVI (pc := 31) (As := [.int xp1]) (rest := []) C (fun z hz => mX10_isLeaf a0 xp1 h6 z hz) mwX10_isLeaf csX10_isLeaf mlX10_124 inX10_isLeaf rfl dX10_flatter_31 (by decide) rfl (Nat.le_of_ble_eq_true rfl) (by decide) (fun x9 h8 => ?_)
        refine J_if_ne (pc := 34) (tgt := 40) C dX10_flatter_34 (by decide) ?_ ?_
        · refine J_aload_n (pc := 40) C dX10_flatter_40 rfl 0 rfl ?_
          refine J_getR (pc := 41) C flX10_20 dX10_flatter_41 (fun a10 => ?_)
          refine J_iload_n (pc := 44) C dX10_flatter_44 rfl 1 rfl ?_
          refine J_iald (pc := 45) C dX10_flatter_45 (fun x11 => ?_)
          refine J_i2l (pc := 46) C dX10_flatter_46 ?_
          refine J_aload_n (pc := 47) C dX10_flatter_47 rfl 0 rfl ?_
          refine J_iload_n (pc := 48) C dX10_flatter_48 rfl 2 rfl ?_
          refine J_callVI (pc := 49) (As := [.int xp1]) (rest := [.long x11.toInt64]) C (fun z hz => mX10_weightOf a0 xp1 h8 z hz) mwX10_weightOf csX10_weightOf mlX10_121 inX10_weightOf rfl dX10_flatter_49 (by decide) rfl (Nat.le_of_ble_eq_true rfl) (by decide) (fun x13 h12 => ?_)
          refine J_i2l (pc := 52) C dX10_flatter_52 ?_
          refine J_lmul (pc := 53) C dX10_flatter_53 ?_
          refine J_nm (fv := .long) (fun x14 => ?_)
          refine J_lstore_n (pc := 54) (lv1 := [(3, .long x14), (0, .ref a0), (1, .int xp0), (2, .int xp1)]) C dX10_flatter_54 rfl (by decide) rfl ?_
          refine J_aload_n (pc := 55) C dX10_flatter_55 rfl 1 rfl ?_
          refine J_getR (pc := 56) C flX10_20 dX10_flatter_56 (fun a15 => ?_)
          refine J_iload_n (pc := 59) C dX10_flatter_59 rfl 3 rfl ?_
          refine J_iald (pc := 60) C dX10_flatter_60 (fun x16 => ?_)
          refine J_i2l (pc := 61) C dX10_flatter_61 ?_
          refine J_aload_n (pc := 62) C dX10_flatter_62 rfl 1 rfl ?_
          refine J_iload_n (pc := 63) C dX10_flatter_63 rfl 2 rfl ?_
          refine J_callVI (pc := 64) (As := [.int xp0]) (rest := [.long x16.toInt64]) C (fun z hz => mX10_weightOf a0 xp0 h12 z hz) mwX10_weightOf csX10_weightOf mlX10_121 inX10_weightOf rfl dX10_flatter_64 (by decide) rfl (Nat.le_of_ble_eq_true rfl) (by decide) (fun x18 h17 => ?_)
          refine J_i2l (pc := 67) C dX10_flatter_67 ?_
          refine J_lmul (pc := 68) C dX10_flatter_68 ?_
          refine J_nm (fv := .long) (fun x19 => ?_)
          refine J_lstore (pc := 69) (lv1 := [(5, .long x19), (3, .long x14), (0, .ref a0), (1, .int xp0), (2, .int xp1)]) C dX10_flatter_69 (by decide) rfl ?_
          refine J_lload_n (pc := 71) C dX10_flatter_71 rfl 1 rfl ?_
          refine J_lload (pc := 72) C dX10_flatter_72 0 rfl ?_
          refine J_lcmp_le (pc := 74) (tgt := 82) C dX10_flatter_74 dX10_flatter_75 (by decide) ?_ ?_
          · refine J_lload_n (pc := 82) C dX10_flatter_82 rfl 1 rfl ?_
            refine J_lload (pc := 83) C dX10_flatter_83 0 rfl ?_
            refine J_lcmp_ne (pc := 85) (tgt := 93) C dX10_flatter_85 dX10_flatter_86 (by decide) ?_ ?_
            · refine J_iconst (pc := 93) (v := -1) C dX10_flatter_93 (by decide) ?_
              exact J_iret (pc := 94) C hr dX10_flatter_94
            · refine J_iconst (pc := 89) (v := 0) C dX10_flatter_89 (by decide) ?_
              refine J_goto (pc := 90) (tgt := 94) C dX10_flatter_90 (by decide) ?_
              exact J_iret (pc := 94) C hr dX10_flatter_94
          · refine J_iconst (pc := 78) (v := 1) C dX10_flatter_78 (by decide) ?_
            refine J_goto (pc := 79) (tgt := 94) C dX10_flatter_79 (by decide) ?_
            exact J_iret (pc := 94) C hr dX10_flatter_94
        · refine J_bipush (pc := 37) (v := -2) C dX10_flatter_37 (by decide) ?_
          exact J_iret (pc := 39) C hr dX10_flatter_39
theorem mX10_flatter {l : Launch} {G : GX} (a0 : Nat) (xp0 : Int32) (xp1 : Int32) (h0 : PH) : ∀ z, fX10_flatter a0 xp0 xp1 h0 = some z → MC l G yX10_flatter cX10_flatter 7 (some .int) rmX10_flatter [.ref a0, .int xp0, .int xp1] h0 (rvI z.1) z.2 :=
  Met_J (own := RX10) (by decide) rfl (Nat.le_of_ble_eq_true rfl) (fun p e s m args below meth c C hr hn => vfX10_flatter C hr a0 xp0 xp1 h0)

theorem dX0_bindBooks_0 : decode cX0_bindBooks 0 = .ok (.iload_n 2, 1) := by decide +kernel
theorem dX0_bindBooks_1 : decode cX0_bindBooks 1 = .ok (.iconst 1, 1) := by decide +kernel
theorem dX0_bindBooks_2 : decode cX0_bindBooks 2 = .ok (.bipush 50, 2) := by decide +kernel
theorem dX0_bindBooks_4 : decode cX0_bindBooks 4 = .ok (.invokestatic 21, 3) := by decide +kernel
theorem dX0_bindBooks_7 : decode cX0_bindBooks 7 = .ok (.ifCond .ne 5, 3) := by decide +kernel
theorem dX0_bindBooks_10 : decode cX0_bindBooks 10 = .ok (.iconst (-1), 1) := by decide +kernel
theorem dX0_bindBooks_11 : decode cX0_bindBooks 11 = .ok (.ireturn, 1) := by decide +kernel
theorem dX0_bindBooks_12 : decode cX0_bindBooks 12 = .ok (.aload_n 0, 1) := by decide +kernel
theorem dX0_bindBooks_13 : decode cX0_bindBooks 13 = .ok (.getfield 9, 3) := by decide +kernel
theorem dX0_bindBooks_16 : decode cX0_bindBooks 16 = .ok (.aload_n 0, 1) := by decide +kernel
theorem dX0_bindBooks_17 : decode cX0_bindBooks 17 = .ok (.getfield 18, 3) := by decide +kernel
theorem dX0_bindBooks_20 : decode cX0_bindBooks 20 = .ok (.isub, 1) := by decide +kernel
theorem dX0_bindBooks_21 : decode cX0_bindBooks 21 = .ok (.iload_n 2, 1) := by decide +kernel
theorem dX0_bindBooks_22 : decode cX0_bindBooks 22 = .ok (.idiv, 1) := by decide +kernel
theorem dX0_bindBooks_23 : decode cX0_bindBooks 23 = .ok (.istore_n 3, 1) := by decide +kernel
theorem dX0_bindBooks_24 : decode cX0_bindBooks 24 = .ok (.iconst 0, 1) := by decide +kernel
theorem dX0_bindBooks_25 : decode cX0_bindBooks 25 = .ok (.istore 4, 2) := by decide +kernel
theorem dX0_bindBooks_27 : decode cX0_bindBooks 27 = .ok (.iconst 0, 1) := by decide +kernel
theorem dX0_bindBooks_28 : decode cX0_bindBooks 28 = .ok (.istore 5, 2) := by decide +kernel
theorem dX0_bindBooks_30 : decode cX0_bindBooks 30 = .ok (.iload 5, 2) := by decide +kernel
theorem dX0_bindBooks_32 : decode cX0_bindBooks 32 = .ok (.aload_n 1, 1) := by decide +kernel
theorem dX0_bindBooks_33 : decode cX0_bindBooks 33 = .ok (.getfield 34, 3) := by decide +kernel
theorem dX0_bindBooks_36 : decode cX0_bindBooks 36 = .ok (.if_icmp .ge 64, 3) := by decide +kernel
theorem dX0_bindBooks_39 : decode cX0_bindBooks 39 = .ok (.iload 4, 2) := by decide +kernel
theorem dX0_bindBooks_41 : decode cX0_bindBooks 41 = .ok (.iload_n 3, 1) := by decide +kernel
theorem dX0_bindBooks_42 : decode cX0_bindBooks 42 = .ok (.iload_n 2, 1) := by decide +kernel
theorem dX0_bindBooks_43 : decode cX0_bindBooks 43 = .ok (.imul, 1) := by decide +kernel
theorem dX0_bindBooks_44 : decode cX0_bindBooks 44 = .ok (.if_icmp .ge 56, 3) := by decide +kernel
theorem dX0_bindBooks_47 : decode cX0_bindBooks 47 = .ok (.aload_n 1, 1) := by decide +kernel
theorem dX0_bindBooks_48 : decode cX0_bindBooks 48 = .ok (.iload 5, 2) := by decide +kernel
theorem dX0_bindBooks_50 : decode cX0_bindBooks 50 = .ok (.invokevirtual 39, 3) := by decide +kernel
theorem dX0_bindBooks_53 : decode cX0_bindBooks 53 = .ok (.astore 6, 2) := by decide +kernel
theorem dX0_bindBooks_55 : decode cX0_bindBooks 55 = .ok (.aload 6, 2) := by decide +kernel
theorem dX0_bindBooks_57 : decode cX0_bindBooks 57 = .ok (.ifnull 37, 3) := by decide +kernel
theorem dX0_bindBooks_60 : decode cX0_bindBooks 60 = .ok (.aload 6, 2) := by decide +kernel
theorem dX0_bindBooks_62 : decode cX0_bindBooks 62 = .ok (.invokevirtual 25, 3) := by decide +kernel
theorem dX0_bindBooks_65 : decode cX0_bindBooks 65 = .ok (.ifCond .eq 29, 3) := by decide +kernel
theorem dX0_bindBooks_68 : decode cX0_bindBooks 68 = .ok (.aload 6, 2) := by decide +kernel
theorem dX0_bindBooks_70 : decode cX0_bindBooks 70 = .ok (.getfield 43, 3) := by decide +kernel
theorem dX0_bindBooks_73 : decode cX0_bindBooks 73 = .ok (.iconst (-1), 1) := by decide +kernel
theorem dX0_bindBooks_74 : decode cX0_bindBooks 74 = .ok (.if_icmp .ne 20, 3) := by decide +kernel
theorem dX0_bindBooks_77 : decode cX0_bindBooks 77 = .ok (.aload 6, 2) := by decide +kernel
theorem dX0_bindBooks_79 : decode cX0_bindBooks 79 = .ok (.aload_n 0, 1) := by decide +kernel
theorem dX0_bindBooks_80 : decode cX0_bindBooks 80 = .ok (.getfield 15, 3) := by decide +kernel
theorem dX0_bindBooks_83 : decode cX0_bindBooks 83 = .ok (.iload 4, 2) := by decide +kernel
theorem dX0_bindBooks_85 : decode cX0_bindBooks 85 = .ok (.iload_n 2, 1) := by decide +kernel
theorem dX0_bindBooks_86 : decode cX0_bindBooks 86 = .ok (.idiv, 1) := by decide +kernel
theorem dX0_bindBooks_87 : decode cX0_bindBooks 87 = .ok (.iadd, 1) := by decide +kernel
theorem dX0_bindBooks_88 : decode cX0_bindBooks 88 = .ok (.putfield 43, 3) := by decide +kernel
theorem dX0_bindBooks_91 : decode cX0_bindBooks 91 = .ok (.iinc 4 1, 3) := by decide +kernel
theorem dX0_bindBooks_94 : decode cX0_bindBooks 94 = .ok (.iinc 5 1, 3) := by decide +kernel
theorem dX0_bindBooks_97 : decode cX0_bindBooks 97 = .ok (.goto (-67), 3) := by decide +kernel
theorem dX0_bindBooks_100 : decode cX0_bindBooks 100 = .ok (.aload_n 0, 1) := by decide +kernel
theorem dX0_bindBooks_101 : decode cX0_bindBooks 101 = .ok (.dup, 1) := by decide +kernel
theorem dX0_bindBooks_102 : decode cX0_bindBooks 102 = .ok (.getfield 18, 3) := by decide +kernel
theorem dX0_bindBooks_105 : decode cX0_bindBooks 105 = .ok (.iload 4, 2) := by decide +kernel
theorem dX0_bindBooks_107 : decode cX0_bindBooks 107 = .ok (.iadd, 1) := by decide +kernel
theorem dX0_bindBooks_108 : decode cX0_bindBooks 108 = .ok (.putfield 18, 3) := by decide +kernel
theorem dX0_bindBooks_111 : decode cX0_bindBooks 111 = .ok (.aload_n 0, 1) := by decide +kernel
theorem dX0_bindBooks_112 : decode cX0_bindBooks 112 = .ok (.dup, 1) := by decide +kernel
theorem dX0_bindBooks_113 : decode cX0_bindBooks 113 = .ok (.getfield 15, 3) := by decide +kernel
theorem dX0_bindBooks_116 : decode cX0_bindBooks 116 = .ok (.iload_n 3, 1) := by decide +kernel
theorem dX0_bindBooks_117 : decode cX0_bindBooks 117 = .ok (.iadd, 1) := by decide +kernel
theorem dX0_bindBooks_118 : decode cX0_bindBooks 118 = .ok (.putfield 15, 3) := by decide +kernel
theorem dX0_bindBooks_121 : decode cX0_bindBooks 121 = .ok (.iload_n 3, 1) := by decide +kernel
theorem dX0_bindBooks_122 : decode cX0_bindBooks 122 = .ok (.ireturn, 1) := by decide +kernel
def rmX0_bindBooks : Room := { frames := 1, cells := 0, slots := 0, locals := 22 }
def fX0_bindBooks_100  (al0 : Nat) (xl3 : Int32) (xl4 : Int32) (h0 : PH) : Option (Int32 × PH) :=
    bn (rdI 0 2 al0 h0) fun x7 =>
    bn (wr 0 2 (.int (x7 + xl4)) al0 h0) fun h8 =>
    bn (rdI 0 1 al0 h8) fun x9 =>
    bn (wr 0 1 (.int (x9 + xl3)) al0 h8) fun h10 =>
    some (xl3, h10)
set_option maxHeartbeats 4000000 in
set_option maxRecDepth 100000 in
theorem vfX0_bindBooks_100 {p : Program} {l : Launch} {e : Env} {s : State} {m : MethodId} {args : Array Value} {below : List Frame} {meth : Method} {c : Code} {G : GX} (C : Cx p s m args meth c G cX0_bindBooks 7 RX0) (hr : meth.sig.returnType = (some .int)) (al0 : Nat) (xl3 : Int32) (xl4 : Int32) (h0 : PH) : J p l e rmX0_bindBooks s m args below meth c G 7 (qM below args s rvI G 0 0) 0 0 h0 100 [(0, .ref al0), (3, .int xl3), (4, .int xl4)] [] (fX0_bindBooks_100  al0 xl3 xl4 h0) := by
  unfold fX0_bindBooks_100
  refine J_aload_n (pc := 100) C dX0_bindBooks_100 rfl 0 rfl ?_
  refine J_dup (pc := 101) C dX0_bindBooks_101 rfl ?_
  refine J_getI (pc := 102) C flX0_18 dX0_bindBooks_102 (fun x7 => ?_)
  refine J_iload (pc := 105) C dX0_bindBooks_105 2 rfl ?_
  refine J_iadd (pc := 107) C dX0_bindBooks_107 ?_
  refine J_put (pc := 108) C flX0_18 cl0 ft0_2 rfl rfl dX0_bindBooks_108 (fun h8 => ?_)
  refine J_aload_n (pc := 111) C dX0_bindBooks_111 rfl 0 rfl ?_
  refine J_dup (pc := 112) C dX0_bindBooks_112 rfl ?_
  refine J_getI (pc := 113) C flX0_15 dX0_bindBooks_113 (fun x9 => ?_)
  refine J_iload_n (pc := 116) C dX0_bindBooks_116 rfl 1 rfl ?_
  refine J_iadd (pc := 117) C dX0_bindBooks_117 ?_
  refine J_put (pc := 118) C flX0_15 cl0 ft0_1 rfl rfl dX0_bindBooks_118 (fun h10 => ?_)
  refine J_iload_n (pc := 121) C dX0_bindBooks_121 rfl 1 rfl ?_
  exact J_iret (pc := 122) C hr dX0_bindBooks_122
def fX0_bindBooks_94 (r30 : Nat → Nat → Int32 → Int32 → Int32 → Int32 → PH → Option (Int32 × PH)) (al0 : Nat) (al1 : Nat) (xl2 : Int32) (xl3 : Int32) (xl4 : Int32) (xl5 : Int32) (h0 : PH) : Option (Int32 × PH) :=
    r30 al0 al1 xl2 xl3 xl4 (xl5 + 1) h0
set_option maxHeartbeats 4000000 in
set_option maxRecDepth 100000 in
theorem vfX0_bindBooks_94 {p : Program} {l : Launch} {e : Env} {s : State} {m : MethodId} {args : Array Value} {below : List Frame} {meth : Method} {c : Code} {G : GX} (C : Cx p s m args meth c G cX0_bindBooks 7 RX0) (hr : meth.sig.returnType = (some .int)) {r30 : Nat → Nat → Int32 → Int32 → Int32 → Int32 → PH → Option (Int32 × PH)} (k30 : ∀ (al0 : Nat) (al1 : Nat) (xl2 : Int32) (xl3 : Int32) (xl4 : Int32) (xl5 : Int32) (h0 : PH), J p l e rmX0_bindBooks s m args below meth c G 7 (qM below args s rvI G 0 0) 0 0 h0 30 [(0, .ref al0), (1, .ref al1), (2, .int xl2), (3, .int xl3), (4, .int xl4), (5, .int xl5)] [] (r30 al0 al1 xl2 xl3 xl4 xl5 h0)) (al0 : Nat) (al1 : Nat) (xl2 : Int32) (xl3 : Int32) (xl4 : Int32) (xl5 : Int32) (h0 : PH) : J p l e rmX0_bindBooks s m args below meth c G 7 (qM below args s rvI G 0 0) 0 0 h0 94 [(0, .ref al0), (1, .ref al1), (2, .int xl2), (3, .int xl3), (4, .int xl4), (5, .int xl5)] [] (fX0_bindBooks_94 r30 al0 al1 xl2 xl3 xl4 xl5 h0) := by
  unfold fX0_bindBooks_94
  refine J_iinc (pc := 94) (v := (xl5 + 1)) (lv1 := [(5, .int (xl5 + 1)), (0, .ref al0), (1, .ref al1), (2, .int xl2), (3, .int xl3), (4, .int xl4)]) C dX0_bindBooks_94 5 rfl rfl (by decide) rfl ?_
  refine J_goto (pc := 97) (tgt := 30) C dX0_bindBooks_97 (by decide) ?_
  refine J_sub [1, 2, 3, 4, 5, 0] rfl ?_
  exact k30 al0 al1 xl2 xl3 xl4 (xl5 + 1) h0
def fX0_bindBooks_30  : Nat → Nat → Nat → Int32 → Int32 → Int32 → Int32 → PH → Option (Int32 × PH)
  | 0, _, _, _, _, _, _, _ => none
  | n + 1, al0, al1, xl2, xl3, xl4, xl5, h0 =>
    bn (rdI 7 4 al1 h0) fun x6 =>
    if x6 ≤ xl5 then (fX0_bindBooks_100  al0 xl3 xl4 h0) else
    if (xl3 * xl2) ≤ xl4 then (fX0_bindBooks_100  al0 xl3 xl4 h0) else
    bn (chk 7 al1 h0) fun _ => bn2 (fX7_living al1 xl5 h0) fun o12 h11 =>
    onul o12 (fX0_bindBooks_94 (fX0_bindBooks_30 n) al0 al1 xl2 xl3 xl4 xl5 h11) fun a13 =>
    bn (chk 5 a13 h11) fun _ => bn2 (fX5_isLeaf a13 h11) fun x15 h14 =>
    if x15 = 0 then (fX0_bindBooks_94 (fX0_bindBooks_30 n) al0 al1 xl2 xl3 xl4 xl5 h14) else
    bn (rdI 5 3 a13 h14) fun x16 =>
    if x16 = (-1 : Int32) then (bn (rdI 0 1 al0 h14) fun x17 =>
    if xl2 = 0 then none else
    bn (wr 5 3 (.int (x17 + (xl4 / xl2))) a13 h14) fun h18 =>
    fX0_bindBooks_94 (fX0_bindBooks_30 n) al0 al1 xl2 xl3 (xl4 + 1) xl5 h18) else
    fX0_bindBooks_94 (fX0_bindBooks_30 n) al0 al1 xl2 xl3 xl4 xl5 h14
set_option maxHeartbeats 4000000 in
set_option maxRecDepth 100000 in
theorem vfX0_bindBooks_30 {p : Program} {l : Launch} {e : Env} {s : State} {m : MethodId} {args : Array Value} {below : List Frame} {meth : Method} {c : Code} {G : GX} (C : Cx p s m args meth c G cX0_bindBooks 7 RX0) (hr : meth.sig.returnType = (some .int)) : ∀ (n : Nat) (al0 : Nat) (al1 : Nat) (xl2 : Int32) (xl3 : Int32) (xl4 : Int32) (xl5 : Int32) (h0 : PH), J p l e rmX0_bindBooks s m args below meth c G 7 (qM below args s rvI G 0 0) 0 0 h0 30 [(0, .ref al0), (1, .ref al1), (2, .int xl2), (3, .int xl3), (4, .int xl4), (5, .int xl5)] [] (fX0_bindBooks_30  n al0 al1 xl2 xl3 xl4 xl5 h0) := by
  intro n
  induction n with
  | zero => exact fun al0 al1 xl2 xl3 xl4 xl5 h0 => J_none C
  | succ n ih =>
    intro al0 al1 xl2 xl3 xl4 xl5 h0
    unfold fX0_bindBooks_30
    refine J_iload (pc := 30) C dX0_bindBooks_30 5 rfl ?_
    refine J_aload_n (pc := 32) C dX0_bindBooks_32 rfl 1 rfl ?_
    refine J_getI (pc := 33) C flX0_34 dX0_bindBooks_33 (fun x6 => ?_)
    refine J_icmp_ge (pc := 36) (tgt := 100) C dX0_bindBooks_36 (by decide) ?_ ?_
    · refine J_sub [0, 3, 4] rfl ?_
      exact vfX0_bindBooks_100 C hr  al0 xl3 xl4 h0
    · refine J_iload (pc := 39) C dX0_bindBooks_39 4 rfl ?_
      refine J_iload_n (pc := 41) C dX0_bindBooks_41 rfl 3 rfl ?_
      refine J_iload_n (pc := 42) C dX0_bindBooks_42 rfl 2 rfl ?_
      refine J_imul (pc := 43) C dX0_bindBooks_43 ?_
      refine J_icmp_ge (pc := 44) (tgt := 100) C dX0_bindBooks_44 (by decide) ?_ ?_
      · refine J_sub [0, 3, 4] rfl ?_
        exact vfX0_bindBooks_100 C hr  al0 xl3 xl4 h0
      · refine J_aload_n (pc := 47) C dX0_bindBooks_47 rfl 1 rfl ?_
        refine J_iload (pc := 48) C dX0_bindBooks_48 5 rfl ?_
        refine J_callVR (pc := 50) (As := [.int xl5]) (rest := []) C (fun z hz => mX7_living al1 xl5 h0 z hz) mwX7_living csX7_living mlX0_39 inX7_living rfl dX0_bindBooks_50 (by decide) rfl (Nat.le_of_ble_eq_true rfl) (by decide) (fun o12 h11 => ?_)
        refine J_astoreQ (pc := 53) (x := o12) (lv1 := [(6, va_rf o12), (0, .ref al0), (1, .ref al1), (2, .int xl2), (3, .int xl3), (4, .int xl4), (5, .int xl5)]) C dX0_bindBooks_53 (by decide) rfl ?_
        refine J_aloadQ (pc := 55) (x := o12) C dX0_bindBooks_55 0 rfl ?_
        refine J_onul (fun hx => ?_) (fun a13 hx => ?_)
        · subst hx
          refine J_ifnullN (pc := 57) (tgt := 94) C dX0_bindBooks_57 (by decide) ?_
          refine J_sub [1, 2, 3, 4, 5, 6] rfl ?_
          exact vfX0_bindBooks_94 C hr ih al0 al1 xl2 xl3 xl4 xl5 h11
        · subst hx
          refine J_ifnull (pc := 57) C dX0_bindBooks_57 ?_
          refine J_aload (pc := 60) C dX0_bindBooks_60 0 rfl ?_
          refine J_callVI (pc := 62) (As := []) (rest := []) C (fun z hz => mX5_isLeaf a13 h11 z hz) mwX5_isLeaf csX5_isLeaf mlX0_25 inX5_isLeaf rfl dX0_bindBooks_62 (by decide) rfl (Nat.le_of_ble_eq_true rfl) (by decide) (fun x15 h14 => ?_)
          refine J_if_eq (pc := 65) (tgt := 94) C dX0_bindBooks_65 (by decide) ?_ ?_
          · refine J_sub [1, 2, 3, 4, 5, 6] rfl ?_
            exact vfX0_bindBooks_94 C hr ih al0 al1 xl2 xl3 xl4 xl5 h14
          · refine J_aload (pc := 68) C dX0_bindBooks_68 0 rfl ?_
            refine J_getI (pc := 70) C flX0_43 dX0_bindBooks_70 (fun x16 => ?_)
            refine J_iconst (pc := 73) (v := -1) C dX0_bindBooks_73 (by decide) ?_
            refine J_icmp_ne (pc := 74) (tgt := 94) C dX0_bindBooks_74 (by decide) ?_ ?_
            · refine J_sub [1, 2, 3, 4, 5, 6] rfl ?_
              exact vfX0_bindBooks_94 C hr ih al0 al1 xl2 xl3 xl4 xl5 h14
            · refine J_aload (pc := 77) C dX0_bindBooks_77 0 rfl ?_
              refine J_aload_n (pc := 79) C dX0_bindBooks_79 rfl 1 rfl ?_
              refine J_getI (pc := 80) C flX0_15 dX0_bindBooks_80 (fun x17 => ?_)
              refine J_iload (pc := 83) C dX0_bindBooks_83 5 rfl ?_
              refine J_iload_n (pc := 85) C dX0_bindBooks_85 rfl 3 rfl ?_
              refine J_idiv (pc := 86) C dX0_bindBooks_86 ?_
              refine J_iadd (pc := 87) C dX0_bindBooks_87 ?_
              refine J_put (pc := 88) C flX0_43 cl5 ft5_3 rfl rfl dX0_bindBooks_88 (fun h18 => ?_)
              refine J_iinc (pc := 91) (v := (xl4 + 1)) (lv1 := [(4, .int (xl4 + 1)), (6, .ref a13), (0, .ref al0), (1, .ref al1), (2, .int xl2), (3, .int xl3), (5, .int xl5)]) C dX0_bindBooks_91 5 rfl rfl (by decide) rfl ?_
              refine J_sub [2, 3, 4, 5, 0, 6] rfl ?_
              exact vfX0_bindBooks_94 C hr ih al0 al1 xl2 xl3 (xl4 + 1) xl5 h18
def fX0_bindBooks  (a0 : Nat) (ap0 : Nat) (xp1 : Int32) (h0 : PH) : Option (Int32 × PH) :=
    bn2 (fX9_within xp1 (1 : Int32) (50 : Int32) h0) fun x2 h1 =>
    if x2 = 0 then (some ((-1 : Int32), h1)) else
    bn (rdI 0 0 a0 h1) fun x3 =>
    bn (rdI 0 2 a0 h1) fun x4 =>
    if xp1 = 0 then none else
    nm ((x3 - x4) / xp1) fun x5 =>
    fX0_bindBooks_30  FU a0 ap0 xp1 x5 (0 : Int32) (0 : Int32) h1
set_option maxHeartbeats 4000000 in
set_option maxRecDepth 100000 in
theorem vfX0_bindBooks {p : Program} {l : Launch} {e : Env} {s : State} {m : MethodId} {args : Array Value} {below : List Frame} {meth : Method} {c : Code} {G : GX} (C : Cx p s m args meth c G cX0_bindBooks 7 RX0) (hr : meth.sig.returnType = (some .int)) (a0 : Nat) (ap0 : Nat) (xp1 : Int32) (h0 : PH) : J p l e rmX0_bindBooks s m args below meth c G 7 (qM below args s rvI G 0 0) 0 0 h0 0 [(0, .ref a0), (1, .ref ap0), (2, .int xp1)] [] (fX0_bindBooks  a0 ap0 xp1 h0) := by
  unfold fX0_bindBooks
  refine J_iload_n (pc := 0) C dX0_bindBooks_0 rfl 2 rfl ?_
  refine J_iconst (pc := 1) (v := 1) C dX0_bindBooks_1 (by decide) ?_
  refine J_bipush (pc := 2) (v := 50) C dX0_bindBooks_2 (by decide) ?_
  refine J_callSNI (pc := 4) (As := [.int xp1, .int (1 : Int32), .int (50 : Int32)]) (rest := []) C (fun z hz => mX9_within xp1 (1 : Int32) (50 : Int32) h0 z hz) mwX9_within "GoldLeaves" (by decide +kernel) stX9_within rfl dX0_bindBooks_4 (by decide) rfl (Nat.le_of_ble_eq_true rfl) (by decide) (fun x2 h1 => ?_)
  refine J_if_ne (pc := 7) (tgt := 12) C dX0_bindBooks_7 (by decide) ?_ ?_
  · refine J_aload_n (pc := 12) C dX0_bindBooks_12 rfl 0 rfl ?_
    refine J_getI (pc := 13) C flX0_9 dX0_bindBooks_13 (fun x3 => ?_)
    refine J_aload_n (pc := 16) C dX0_bindBooks_16 rfl 0 rfl ?_
    refine J_getI (pc := 17) C flX0_18 dX0_bindBooks_17 (fun x4 => ?_)
    refine J_isub (pc := 20) C dX0_bindBooks_20 ?_
    refine J_iload_n (pc := 21) C dX0_bindBooks_21 rfl 2 rfl ?_
    refine J_idiv (pc := 22) C dX0_bindBooks_22 ?_
    refine J_nm (fv := .int) (fun x5 => ?_)
    refine J_istore_n (pc := 23) (lv1 := [(3, .int x5), (0, .ref a0), (1, .ref ap0), (2, .int xp1)]) C dX0_bindBooks_23 rfl (by decide) rfl ?_
    refine J_iconst (pc := 24) (v := 0) C dX0_bindBooks_24 (by decide) ?_
    refine J_istore (pc := 25) (lv1 := [(4, .int (0 : Int32)), (3, .int x5), (0, .ref a0), (1, .ref ap0), (2, .int xp1)]) C dX0_bindBooks_25 (by decide) rfl ?_
    refine J_iconst (pc := 27) (v := 0) C dX0_bindBooks_27 (by decide) ?_
    refine J_istore (pc := 28) (lv1 := [(5, .int (0 : Int32)), (4, .int (0 : Int32)), (3, .int x5), (0, .ref a0), (1, .ref ap0), (2, .int xp1)]) C dX0_bindBooks_28 (by decide) rfl ?_
    refine J_sub [3, 4, 5, 2, 1, 0] rfl ?_
    exact vfX0_bindBooks_30 C hr  FU a0 ap0 xp1 x5 (0 : Int32) (0 : Int32) h1
  · refine J_iconst (pc := 10) (v := -1) C dX0_bindBooks_10 (by decide) ?_
    exact J_iret (pc := 11) C hr dX0_bindBooks_11
theorem mX0_bindBooks {l : Launch} {G : GX} (a0 : Nat) (ap0 : Nat) (xp1 : Int32) (h0 : PH) : ∀ z, fX0_bindBooks a0 ap0 xp1 h0 = some z → MC l G yX0_bindBooks cX0_bindBooks 7 (some .int) rmX0_bindBooks [.ref a0, .ref ap0, .int xp1] h0 (rvI z.1) z.2 :=
  Met_J (own := RX0) (by decide) rfl (Nat.le_of_ble_eq_true rfl) (fun p e s m args below meth c C hr hn => vfX0_bindBooks C hr a0 ap0 xp1 h0)

theorem dX9_bind_0 : decode cX9_bind 0 = .ok (.aload_n 0, 1) := by decide +kernel
theorem dX9_bind_1 : decode cX9_bind 1 = .ok (.aload_n 0, 1) := by decide +kernel
theorem dX9_bind_2 : decode cX9_bind 2 = .ok (.getfield 19, 3) := by decide +kernel
theorem dX9_bind_5 : decode cX9_bind 5 = .ok (.aload_n 0, 1) := by decide +kernel
theorem dX9_bind_6 : decode cX9_bind 6 = .ok (.getfield 10, 3) := by decide +kernel
theorem dX9_bind_9 : decode cX9_bind 9 = .ok (.iload_n 1, 1) := by decide +kernel
theorem dX9_bind_10 : decode cX9_bind 10 = .ok (.invokevirtual 187, 3) := by decide +kernel
theorem dX9_bind_13 : decode cX9_bind 13 = .ok (.invokevirtual 70, 3) := by decide +kernel
theorem dX9_bind_16 : decode cX9_bind 16 = .ok (.ireturn, 1) := by decide +kernel
def rmX9_bind : Room := { frames := 2, cells := 0, slots := 0, locals := 48 }
def fX9_bind  (a0 : Nat) (xp0 : Int32) (h0 : PH) : Option (Int32 × PH) :=
    bn (rdR 9 1 a0 h0) fun a1 =>
    bn (rdR 9 0 a0 h0) fun a2 =>
    bn (chk 0 a1 h0) fun _ => bn2 (fX0_bindBooks a1 a2 xp0 h0) fun x4 h3 =>
    bn (chk 9 a0 h3) fun _ => bn2 (fX9_noted a0 x4 h3) fun x6 h5 =>
    some (x6, h5)
set_option maxHeartbeats 4000000 in
set_option maxRecDepth 100000 in
theorem vfX9_bind {p : Program} {l : Launch} {e : Env} {s : State} {m : MethodId} {args : Array Value} {below : List Frame} {meth : Method} {c : Code} {G : GX} (C : Cx p s m args meth c G cX9_bind 2 RX9) (hr : meth.sig.returnType = (some .int)) (a0 : Nat) (xp0 : Int32) (h0 : PH) : J p l e rmX9_bind s m args below meth c G 2 (qM below args s rvI G 0 0) 0 0 h0 0 [(0, .ref a0), (1, .int xp0)] [] (fX9_bind  a0 xp0 h0) := by
  unfold fX9_bind
  refine J_aload_n (pc := 0) C dX9_bind_0 rfl 0 rfl ?_
  refine J_aload_n (pc := 1) C dX9_bind_1 rfl 0 rfl ?_
  refine J_getR (pc := 2) C flX9_19 dX9_bind_2 (fun a1 => ?_)
  refine J_aload_n (pc := 5) C dX9_bind_5 rfl 0 rfl ?_
  refine J_getR (pc := 6) C flX9_10 dX9_bind_6 (fun a2 => ?_)
  refine J_iload_n (pc := 9) C dX9_bind_9 rfl 1 rfl ?_
  refine J_callVI (pc := 10) (As := [.ref a2, .int xp0]) (rest := [.ref a0]) C (fun z hz => mX0_bindBooks a1 a2 xp0 h0 z hz) mwX0_bindBooks csX0_bindBooks mlX9_187 inX0_bindBooks rfl dX9_bind_10 (by decide) rfl (Nat.le_of_ble_eq_true rfl) (by decide) (fun x4 h3 => ?_)
  refine J_callVI (pc := 13) (As := [.int x4]) (rest := []) C (fun z hz => mX9_noted a0 x4 h3 z hz) mwX9_noted csX9_noted mlX9_70 inX9_noted rfl dX9_bind_13 (by decide) rfl (Nat.le_of_ble_eq_true rfl) (by decide) (fun x6 h5 => ?_)
  exact J_iret (pc := 16) C hr dX9_bind_16
theorem mX9_bind {l : Launch} {G : GX} (a0 : Nat) (xp0 : Int32) (h0 : PH) : ∀ z, fX9_bind a0 xp0 h0 = some z → MC l G yX9_bind cX9_bind 2 (some .int) rmX9_bind [.ref a0, .int xp0] h0 (rvI z.1) z.2 :=
  Met_J (own := RX9) (by decide) rfl (Nat.le_of_ble_eq_true rfl) (fun p e s m args below meth c C hr hn => vfX9_bind C hr a0 xp0 h0)

