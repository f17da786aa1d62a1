theorem dX9_part_0 : decode cX9_part 0 = .ok (.aload_n 0, 1) := by decide +kernel
theorem dX9_part_1 : decode cX9_part 1 = .ok (.getfield 10, 3) := by decide +kernel
theorem dX9_part_4 : decode cX9_part 4 = .ok (.iload_n 1, 1) := by decide +kernel
theorem dX9_part_5 : decode cX9_part 5 = .ok (.invokevirtual 81, 3) := by decide +kernel
theorem dX9_part_8 : decode cX9_part 8 = .ok (.astore_n 3, 1) := by decide +kernel
theorem dX9_part_9 : decode cX9_part 9 = .ok (.aload_n 3, 1) := by decide +kernel
theorem dX9_part_10 : decode cX9_part 10 = .ok (.ifnull 12, 3) := by decide +kernel
theorem dX9_part_13 : decode cX9_part 13 = .ok (.iload_n 2, 1) := by decide +kernel
theorem dX9_part_14 : decode cX9_part 14 = .ok (.iconst 0, 1) := by decide +kernel
theorem dX9_part_15 : decode cX9_part 15 = .ok (.iconst 2, 1) := by decide +kernel
theorem dX9_part_16 : decode cX9_part 16 = .ok (.invokestatic 97, 3) := by decide +kernel
theorem dX9_part_19 : decode cX9_part 19 = .ok (.ifCond .ne 7, 3) := by decide +kernel
theorem dX9_part_22 : decode cX9_part 22 = .ok (.ldc2_w 101, 3) := by decide +kernel
theorem dX9_part_25 : decode cX9_part 25 = .ok (.lreturn, 1) := by decide +kernel
theorem dX9_part_26 : decode cX9_part 26 = .ok (.aload_n 0, 1) := by decide +kernel
theorem dX9_part_27 : decode cX9_part 27 = .ok (.getfield 10, 3) := by decide +kernel
theorem dX9_part_30 : decode cX9_part 30 = .ok (.aload_n 3, 1) := by decide +kernel
theorem dX9_part_31 : decode cX9_part 31 = .ok (.iload_n 2, 1) := by decide +kernel
theorem dX9_part_32 : decode cX9_part 32 = .ok (.invokevirtual 103, 3) := by decide +kernel
theorem dX9_part_35 : decode cX9_part 35 = .ok (.lreturn, 1) := by decide +kernel
def rmX9_part : Room := { frames := 2, cells := 0, slots := 0, locals := 47 }
def fX9_part  (a0 : Nat) (xp0 : Int32) (xp1 : Int32) (h0 : PH) : Option (Int64 × PH) :=
    bn (rdR 9 0 a0 h0) fun a1 =>
    bn (chk 7 a1 h0) fun _ => bn2 (fX7_living a1 xp0 h0) fun o3 h2 =>
    onul o3 (some ((-1 : Int64), h2)) fun a4 =>
    bn2 (fX9_within xp1 (0 : Int32) (2 : Int32) h2) fun x6 h5 =>
    if x6 = 0 then (some ((-1 : Int64), h5)) else
    bn (rdR 9 0 a0 h5) fun a7 =>
    bn (chk 7 a7 h5) fun _ => bn2 (fX7_metalIn a7 a4 xp1 h5) fun x9 h8 =>
    some (x9, h8)
set_option maxHeartbeats 4000000 in
set_option maxRecDepth 100000 in
theorem vfX9_part {p : Program} {l : Launch} {e : Env} {s : State} {m : MethodId} {args : Array Value} {below : List Frame} {meth : Method} {c : Code} {G : GX} (C : Cx p s m args meth c G cX9_part 4 RX9) (hr : meth.sig.returnType = (some .long)) (a0 : Nat) (xp0 : Int32) (xp1 : Int32) (h0 : PH) : J p l e rmX9_part s m args below meth c G 4 (qM below args s rvJ G 0 0) 0 0 h0 0 [(0, .ref a0), (1, .int xp0), (2, .int xp1)] [] (fX9_part  a0 xp0 xp1 h0) := by
  unfold fX9_part
  refine J_aload_n (pc := 0) C dX9_part_0 rfl 0 rfl ?_
  refine J_getR (pc := 1) C flX9_10 dX9_part_1 (fun a1 => ?_)
  refine J_iload_n (pc := 4) C dX9_part_4 rfl 1 rfl ?_
  refine J_callVR (pc := 5) (As := [.int xp0]) (rest := []) C (fun z hz => mX7_living a1 xp0 h0 z hz) mwX7_living csX7_living mlX9_81 inX7_living rfl dX9_part_5 (by decide) rfl (Nat.le_of_ble_eq_true rfl) (by decide) (fun o3 h2 => ?_)
  refine J_astore_nQ (pc := 8) (x := o3) (lv1 := [(3, va_rf o3), (0, .ref a0), (1, .int xp0), (2, .int xp1)]) C dX9_part_8 rfl (by decide) rfl ?_
  refine J_aload_nQ (pc := 9) (x := o3) C dX9_part_9 rfl 0 rfl ?_
  refine J_onul (fun hx => ?_) (fun a4 hx => ?_)
  · subst hx
    refine J_ifnullN (pc := 10) (tgt := 22) C dX9_part_10 (by decide) ?_
    refine J_ldc2 (pc := 22) C kjX9_101 dX9_part_22 ?_
    exact J_lret (pc := 25) C hr dX9_part_25
  · subst hx
    refine J_ifnull (pc := 10) C dX9_part_10 ?_
    refine J_iload_n (pc := 13) C dX9_part_13 rfl 3 rfl ?_
    refine J_iconst (pc := 14) (v := 0) C dX9_part_14 (by decide) ?_
    refine J_iconst (pc := 15) (v := 2) C dX9_part_15 (by decide) ?_
    refine J_callSI (pc := 16) (As := [.int xp1, .int (0 : Int32), .int (2 : Int32)]) (rest := []) C (fun z hz => mX9_within xp1 (0 : Int32) (2 : Int32) h2 z hz) mwX9_within mlX9_97 stX9_within rfl dX9_part_16 (by decide) rfl (Nat.le_of_ble_eq_true rfl) (by decide) (fun x6 h5 => ?_)
    refine J_if_ne (pc := 19) (tgt := 26) C dX9_part_19 (by decide) ?_ ?_
    · refine J_aload_n (pc := 26) C dX9_part_26 rfl 1 rfl ?_
      refine J_getR (pc := 27) C flX9_10 dX9_part_27 (fun a7 => ?_)
      refine J_aload_n (pc := 30) C dX9_part_30 rfl 0 rfl ?_
      refine J_iload_n (pc := 31) C dX9_part_31 rfl 3 rfl ?_
      refine J_callVJ (pc := 32) (As := [.ref a4, .int xp1]) (rest := []) C (fun z hz => mX7_metalIn a7 a4 xp1 h5 z hz) mwX7_metalIn csX7_metalIn mlX9_103 inX7_metalIn rfl dX9_part_32 (by decide) rfl (Nat.le_of_ble_eq_true rfl) (by decide) (fun x9 h8 => ?_)
      exact J_lret (pc := 35) C hr dX9_part_35
    · refine J_ldc2 (pc := 22) C kjX9_101 dX9_part_22 ?_
      exact J_lret (pc := 25) C hr dX9_part_25
theorem mX9_part {l : Launch} {G : GX} (a0 : Nat) (xp0 : Int32) (xp1 : Int32) (h0 : PH) : ∀ z, fX9_part a0 xp0 xp1 h0 = some z → MC l G yX9_part cX9_part 4 (some .long) rmX9_part [.ref a0, .int xp0, .int xp1] h0 (rvJ z.1) z.2 :=
  Met_J (own := RX9) (by decide) rfl (Nat.le_of_ble_eq_true rfl) (fun p e s m args below meth c C hr hn => vfX9_part C hr a0 xp0 xp1 h0)

theorem dX10_partOf_0 : decode cX10_partOf 0 = .ok (.lconst 0, 1) := by decide +kernel
theorem dX10_partOf_1 : decode cX10_partOf 1 = .ok (.lstore_n 3, 1) := by decide +kernel
theorem dX10_partOf_2 : decode cX10_partOf 2 = .ok (.iconst 0, 1) := by decide +kernel
theorem dX10_partOf_3 : decode cX10_partOf 3 = .ok (.istore 5, 2) := by decide +kernel
theorem dX10_partOf_5 : decode cX10_partOf 5 = .ok (.iload 5, 2) := by decide +kernel
theorem dX10_partOf_7 : decode cX10_partOf 7 = .ok (.aload_n 0, 1) := by decide +kernel
theorem dX10_partOf_8 : decode cX10_partOf 8 = .ok (.getfield 111, 3) := by decide +kernel
theorem dX10_partOf_11 : decode cX10_partOf 11 = .ok (.if_icmp .ge 38, 3) := by decide +kernel
theorem dX10_partOf_14 : decode cX10_partOf 14 = .ok (.lload_n 3, 1) := by decide +kernel
theorem dX10_partOf_15 : decode cX10_partOf 15 = .ok (.aload_n 0, 1) := by decide +kernel
theorem dX10_partOf_16 : decode cX10_partOf 16 = .ok (.getfield 17, 3) := by decide +kernel
theorem dX10_partOf_19 : decode cX10_partOf 19 = .ok (.bipush 10, 2) := by decide +kernel
theorem dX10_partOf_21 : decode cX10_partOf 21 = .ok (.iload_n 1, 1) := by decide +kernel
theorem dX10_partOf_22 : decode cX10_partOf 22 = .ok (.imul, 1) := by decide +kernel
theorem dX10_partOf_23 : decode cX10_partOf 23 = .ok (.iload 5, 2) := by decide +kernel
theorem dX10_partOf_25 : decode cX10_partOf 25 = .ok (.iadd, 1) := by decide +kernel
theorem dX10_partOf_26 : decode cX10_partOf 26 = .ok (.iaload, 1) := by decide +kernel
theorem dX10_partOf_27 : decode cX10_partOf 27 = .ok (.i2l, 1) := by decide +kernel
theorem dX10_partOf_28 : decode cX10_partOf 28 = .ok (.aload_n 0, 1) := by decide +kernel
theorem dX10_partOf_29 : decode cX10_partOf 29 = .ok (.getfield 7, 3) := by decide +kernel
theorem dX10_partOf_32 : decode cX10_partOf 32 = .ok (.iconst 3, 1) := by decide +kernel
theorem dX10_partOf_33 : decode cX10_partOf 33 = .ok (.iload 5, 2) := by decide +kernel
theorem dX10_partOf_35 : decode cX10_partOf 35 = .ok (.imul, 1) := by decide +kernel
theorem dX10_partOf_36 : decode cX10_partOf 36 = .ok (.iload_n 2, 1) := by decide +kernel
theorem dX10_partOf_37 : decode cX10_partOf 37 = .ok (.iadd, 1) := by decide +kernel
theorem dX10_partOf_38 : decode cX10_partOf 38 = .ok (.iaload, 1) := by decide +kernel
theorem dX10_partOf_39 : decode cX10_partOf 39 = .ok (.i2l, 1) := by decide +kernel
theorem dX10_partOf_40 : decode cX10_partOf 40 = .ok (.lmul, 1) := by decide +kernel
theorem dX10_partOf_41 : decode cX10_partOf 41 = .ok (.ladd, 1) := by decide +kernel
theorem dX10_partOf_42 : decode cX10_partOf 42 = .ok (.lstore_n 3, 1) := by decide +kernel
theorem dX10_partOf_43 : decode cX10_partOf 43 = .ok (.iinc 5 1, 3) := by decide +kernel
theorem dX10_partOf_46 : decode cX10_partOf 46 = .ok (.goto (-41), 3) := by decide +kernel
theorem dX10_partOf_49 : decode cX10_partOf 49 = .ok (.lload_n 3, 1) := by decide +kernel
theorem dX10_partOf_50 : decode cX10_partOf 50 = .ok (.lreturn, 1) := by decide +kernel
def rmX10_partOf : Room := { frames := 0, cells := 0, slots := 0, locals := 0 }
def fX10_partOf_5  : Nat → Nat → Int32 → Int32 → Int64 → Int32 → PH → Option (Int64 × PH)
  | 0, _, _, _, _, _, _ => none
  | n + 1, al0, xl1, xl2, xl3, xl5, h0 =>
    bn (rdI 10 2 al0 h0) fun x1 =>
    if x1 ≤ xl5 then (some (xl3, h0)) else
    bn (rdR 10 6 al0 h0) fun a2 =>
    bn (aldI 0 a2 (((10 : Int32) * xl1) + xl5) h0) fun x3 =>
    bn (rdR 10 3 al0 h0) fun a4 =>
    bn (aldI 0 a4 (((3 : Int32) * xl5) + xl2) h0) fun x5 =>
    nm (xl3 + (x3.toInt64 * x5.toInt64)) fun x6 =>
    (fX10_partOf_5 n) al0 xl1 xl2 x6 (xl5 + 1) h0
set_option maxHeartbeats 4000000 in
set_option maxRecDepth 100000 in
theorem vfX10_partOf_5 {p : Program} {l : Launch} {e : Env} {s : State} {m : MethodId} {args : Array Value} {below : List Frame} {meth : Method} {c : Code} {G : GX} (C : Cx p s m args meth c G cX10_partOf 6 RX10) (hr : meth.sig.returnType = (some .long)) : ∀ (n : Nat) (al0 : Nat) (xl1 : Int32) (xl2 : Int32) (xl3 : Int64) (xl5 : Int32) (h0 : PH), J p l e rmX10_partOf s m args below meth c G 6 (qM below args s rvJ G 0 0) 0 0 h0 5 [(0, .ref al0), (1, .int xl1), (2, .int xl2), (3, .long xl3), (5, .int xl5)] [] (fX10_partOf_5  n al0 xl1 xl2 xl3 xl5 h0) := by
  intro n
  induction n with
  | zero => exact fun al0 xl1 xl2 xl3 xl5 h0 => J_none C
  | succ n ih =>
    intro al0 xl1 xl2 xl3 xl5 h0
    unfold fX10_partOf_5
    refine J_iload (pc := 5) C dX10_partOf_5 4 rfl ?_
    refine J_aload_n (pc := 7) C dX10_partOf_7 rfl 0 rfl ?_
    refine J_getI (pc := 8) C flX10_111 dX10_partOf_8 (fun x1 => ?_)
    refine J_icmp_ge (pc := 11) (tgt := 49) C dX10_partOf_11 (by decide) ?_ ?_
    · refine J_lload_n (pc := 49) C dX10_partOf_49 rfl 3 rfl ?_
      exact J_lret (pc := 50) C hr dX10_partOf_50
    · refine J_lload_n (pc := 14) C dX10_partOf_14 rfl 3 rfl ?_
      refine J_aload_n (pc := 15) C dX10_partOf_15 rfl 0 rfl ?_
      refine J_getR (pc := 16) C flX10_17 dX10_partOf_16 (fun a2 => ?_)
      refine J_bipush (pc := 19) (v := 10) C dX10_partOf_19 (by decide) ?_
      refine J_iload_n (pc := 21) C dX10_partOf_21 rfl 1 rfl ?_
      refine J_imul (pc := 22) C dX10_partOf_22 ?_
      refine J_iload (pc := 23) C dX10_partOf_23 4 rfl ?_
      refine J_iadd (pc := 25) C dX10_partOf_25 ?_
      refine J_iald (pc := 26) C dX10_partOf_26 (fun x3 => ?_)
      refine J_i2l (pc := 27) C dX10_partOf_27 ?_
      refine J_aload_n (pc := 28) C dX10_partOf_28 rfl 0 rfl ?_
      refine J_getR (pc := 29) C flX10_7 dX10_partOf_29 (fun a4 => ?_)
      refine J_iconst (pc := 32) (v := 3) C dX10_partOf_32 (by decide) ?_
      refine J_iload (pc := 33) C dX10_partOf_33 4 rfl ?_
      refine J_imul (pc := 35) C dX10_partOf_35 ?_
      refine J_iload_n (pc := 36) C dX10_partOf_36 rfl 2 rfl ?_
      refine J_iadd (pc := 37) C dX10_partOf_37 ?_
      refine J_iald (pc := 38) C dX10_partOf_38 (fun x5 => ?_)
      refine J_i2l (pc := 39) C dX10_partOf_39 ?_
      refine J_lmul (pc := 40) C dX10_partOf_40 ?_
      refine J_ladd (pc := 41) C dX10_partOf_41 ?_
      refine J_nm (fv := .long) (fun x6 => ?_)
      refine J_lstore_n (pc := 42) (lv1 := [(3, .long x6), (0, .ref al0), (1, .int xl1), (2, .int xl2), (5, .int xl5)]) C dX10_partOf_42 rfl (by decide) rfl ?_
      refine J_iinc (pc := 43) (v := (xl5 + 1)) (lv1 := [(5, .int (xl5 + 1)), (3, .long x6), (0, .ref al0), (1, .int xl1), (2, .int xl2)]) C dX10_partOf_43 4 rfl rfl (by decide) rfl ?_
      refine J_goto (pc := 46) (tgt := 5) C dX10_partOf_46 (by decide) ?_
      refine J_sub [2, 3, 4, 1, 0] rfl ?_
      exact ih al0 xl1 xl2 x6 (xl5 + 1) h0
def fX10_partOf  (a0 : Nat) (xp0 : Int32) (xp1 : Int32) (h0 : PH) : Option (Int64 × PH) :=
    fX10_partOf_5  FU a0 xp0 xp1 (0 : Int64) (0 : Int32) h0
set_option maxHeartbeats 4000000 in
set_option maxRecDepth 100000 in
theorem vfX10_partOf {p : Program} {l : Launch} {e : Env} {s : State} {m : MethodId} {args : Array Value} {below : List Frame} {meth : Method} {c : Code} {G : GX} (C : Cx p s m args meth c G cX10_partOf 6 RX10) (hr : meth.sig.returnType = (some .long)) (a0 : Nat) (xp0 : Int32) (xp1 : Int32) (h0 : PH) : J p l e rmX10_partOf s m args below meth c G 6 (qM below args s rvJ G 0 0) 0 0 h0 0 [(0, .ref a0), (1, .int xp0), (2, .int xp1)] [] (fX10_partOf  a0 xp0 xp1 h0) := by
  unfold fX10_partOf
  refine J_lconst (pc := 0) (v := 0) C dX10_partOf_0 (by decide) ?_
  refine J_lstore_n (pc := 1) (lv1 := [(3, .long (0 : Int64)), (0, .ref a0), (1, .int xp0), (2, .int xp1)]) C dX10_partOf_1 rfl (by decide) rfl ?_
  refine J_iconst (pc := 2) (v := 0) C dX10_partOf_2 (by decide) ?_
  refine J_istore (pc := 3) (lv1 := [(5, .int (0 : Int32)), (3, .long (0 : Int64)), (0, .ref a0), (1, .int xp0), (2, .int xp1)]) C dX10_partOf_3 (by decide) rfl ?_
  refine J_sub [2, 3, 4, 1, 0] rfl ?_
  exact vfX10_partOf_5 C hr  FU a0 xp0 xp1 (0 : Int64) (0 : Int32) h0
theorem mX10_partOf {l : Launch} {G : GX} (a0 : Nat) (xp0 : Int32) (xp1 : Int32) (h0 : PH) : ∀ z, fX10_partOf a0 xp0 xp1 h0 = some z → MC l G yX10_partOf cX10_partOf 6 (some .long) rmX10_partOf [.ref a0, .int xp0, .int xp1] h0 (rvJ z.1) z.2 :=
  Met_J (own := RX10) (by decide) rfl (Nat.le_of_ble_eq_true rfl) (fun p e s m args below meth c C hr hn => vfX10_partOf C hr a0 xp0 xp1 h0)

theorem dX10_part_0 : decode cX10_part 0 = .ok (.aload_n 0, 1) := by decide +kernel
theorem dX10_part_1 : decode cX10_part 1 = .ok (.iconst 0, 1) := by decide +kernel
theorem dX10_part_2 : decode cX10_part 2 = .ok (.putfield 90, 3) := by decide +kernel
theorem dX10_part_5 : decode cX10_part 5 = .ok (.aload_n 0, 1) := by decide +kernel
theorem dX10_part_6 : decode cX10_part 6 = .ok (.iload_n 1, 1) := by decide +kernel
theorem dX10_part_7 : decode cX10_part 7 = .ok (.invokevirtual 117, 3) := by decide +kernel
theorem dX10_part_10 : decode cX10_part 10 = .ok (.ifCond .eq 24, 3) := by decide +kernel
theorem dX10_part_13 : decode cX10_part 13 = .ok (.iload_n 2, 1) := by decide +kernel
theorem dX10_part_14 : decode cX10_part 14 = .ok (.i2l, 1) := by decide +kernel
theorem dX10_part_15 : decode cX10_part 15 = .ok (.lconst 0, 1) := by decide +kernel
theorem dX10_part_16 : decode cX10_part 16 = .ok (.ldc2_w 127, 3) := by decide +kernel
theorem dX10_part_19 : decode cX10_part 19 = .ok (.invokestatic 99, 3) := by decide +kernel
theorem dX10_part_22 : decode cX10_part 22 = .ok (.ifCond .eq 12, 3) := by decide +kernel
theorem dX10_part_25 : decode cX10_part 25 = .ok (.aload_n 0, 1) := by decide +kernel
theorem dX10_part_26 : decode cX10_part 26 = .ok (.iload_n 1, 1) := by decide +kernel
theorem dX10_part_27 : decode cX10_part 27 = .ok (.iload_n 2, 1) := by decide +kernel
theorem dX10_part_28 : decode cX10_part 28 = .ok (.invokevirtual 129, 3) := by decide +kernel
theorem dX10_part_31 : decode cX10_part 31 = .ok (.goto 6, 3) := by decide +kernel
theorem dX10_part_34 : decode cX10_part 34 = .ok (.ldc2_w 133, 3) := by decide +kernel
theorem dX10_part_37 : decode cX10_part 37 = .ok (.lreturn, 1) := by decide +kernel
def rmX10_part : Room := { frames := 2, cells := 0, slots := 0, locals := 46 }
def fX10_part  (a0 : Nat) (xp0 : Int32) (xp1 : Int32) (h0 : PH) : Option (Int64 × PH) :=
    bn (wr 10 0 (.int (0 : Int32)) a0 h0) fun h1 =>
    bn (chk 10 a0 h1) fun _ => bn2 (fX10_isPiece a0 xp0 h1) fun x3 h2 =>
    if x3 = 0 then (some ((-1 : Int64), h2)) else
    bn2 (fX10_in xp1.toInt64 (0 : Int64) (2 : Int64) h2) fun x5 h4 =>
    if x5 = 0 then (some ((-1 : Int64), h4)) else
    bn (chk 10 a0 h4) fun _ => bn2 (fX10_partOf a0 xp0 xp1 h4) fun x7 h6 =>
    some (x7, h6)
set_option maxHeartbeats 4000000 in
set_option maxRecDepth 100000 in
theorem vfX10_part {p : Program} {l : Launch} {e : Env} {s : State} {m : MethodId} {args : Array Value} {below : List Frame} {meth : Method} {c : Code} {G : GX} (C : Cx p s m args meth c G cX10_part 3 RX10) (hr : meth.sig.returnType = (some .long)) (a0 : Nat) (xp0 : Int32) (xp1 : Int32) (h0 : PH) : J p l e rmX10_part s m args below meth c G 3 (qM below args s rvJ G 0 0) 0 0 h0 0 [(0, .ref a0), (1, .int xp0), (2, .int xp1)] [] (fX10_part  a0 xp0 xp1 h0) := by
  unfold fX10_part
  refine J_aload_n (pc := 0) C dX10_part_0 rfl 0 rfl ?_
  refine J_iconst (pc := 1) (v := 0) C dX10_part_1 (by decide) ?_
  refine J_put (pc := 2) C flX10_90 cl10 ft10_0 rfl rfl dX10_part_2 (fun h1 => ?_)
  refine J_aload_n (pc := 5) C dX10_part_5 rfl 0 rfl ?_
  refine J_iload_n (pc := 6) C dX10_part_6 rfl 1 rfl ?_
  refine J_callVI (pc := 7) (As := [.int xp0]) (rest := []) C (fun z hz => mX10_isPiece a0 xp0 h1 z hz) mwX10_isPiece csX10_isPiece mlX10_117 inX10_isPiece rfl dX10_part_7 (by decide) rfl (Nat.le_of_ble_eq_true rfl) (by decide) (fun x3 h2 => ?_)
  refine J_if_eq (pc := 10) (tgt := 34) C dX10_part_10 (by decide) ?_ ?_
  · refine J_ldc2 (pc := 34) C kjX10_133 dX10_part_34 ?_
    exact J_lret (pc := 37) C hr dX10_part_37
  · refine J_iload_n (pc := 13) C dX10_part_13 rfl 2 rfl ?_
    refine J_i2l (pc := 14) C dX10_part_14 ?_
    refine J_lconst (pc := 15) (v := 0) C dX10_part_15 (by decide) ?_
    refine J_ldc2 (pc := 16) C kjX10_127 dX10_part_16 ?_
    refine J_callSI (pc := 19) (As := [.long xp1.toInt64, .long (0 : Int64), .long (2 : Int64)]) (rest := []) C (fun z hz => mX10_in xp1.toInt64 (0 : Int64) (2 : Int64) h2 z hz) mwX10_in mlX10_99 stX10_in rfl dX10_part_19 (by decide) rfl (Nat.le_of_ble_eq_true rfl) (by decide) (fun x5 h4 => ?_)
    refine J_if_eq (pc := 22) (tgt := 34) C dX10_part_22 (by decide) ?_ ?_
    · refine J_ldc2 (pc := 34) C kjX10_133 dX10_part_34 ?_
      exact J_lret (pc := 37) C hr dX10_part_37
    · refine J_aload_n (pc := 25) C dX10_part_25 rfl 0 rfl ?_
      refine J_iload_n (pc := 26) C dX10_part_26 rfl 1 rfl ?_
      refine J_iload_n (pc := 27) C dX10_part_27 rfl 2 rfl ?_
      refine J_callVJ (pc := 28) (As := [.int xp0, .int xp1]) (rest := []) C (fun z hz => mX10_partOf a0 xp0 xp1 h4 z hz) mwX10_partOf csX10_partOf mlX10_129 inX10_partOf rfl dX10_part_28 (by decide) rfl (Nat.le_of_ble_eq_true rfl) (by decide) (fun x7 h6 => ?_)
      refine J_goto (pc := 31) (tgt := 37) C dX10_part_31 (by decide) ?_
      exact J_lret (pc := 37) C hr dX10_part_37
theorem mX10_part {l : Launch} {G : GX} (a0 : Nat) (xp0 : Int32) (xp1 : Int32) (h0 : PH) : ∀ z, fX10_part a0 xp0 xp1 h0 = some z → MC l G yX10_part cX10_part 3 (some .long) rmX10_part [.ref a0, .int xp0, .int xp1] h0 (rvJ z.1) z.2 :=
  Met_J (own := RX10) (by decide) rfl (Nat.le_of_ble_eq_true rfl) (fun p e s m args below meth c C hr hn => vfX10_part C hr a0 xp0 xp1 h0)

theorem dX8_appendFour_0 : decode cX8_appendFour 0 = .ok (.bipush 24, 2) := by decide +kernel
theorem dX8_appendFour_2 : decode cX8_appendFour 2 = .ok (.istore_n 2, 1) := by decide +kernel
theorem dX8_appendFour_3 : decode cX8_appendFour 3 = .ok (.iload_n 2, 1) := by decide +kernel
theorem dX8_appendFour_4 : decode cX8_appendFour 4 = .ok (.ifCond .lt 45, 3) := by decide +kernel
theorem dX8_appendFour_7 : decode cX8_appendFour 7 = .ok (.aload_n 0, 1) := by decide +kernel
theorem dX8_appendFour_8 : decode cX8_appendFour 8 = .ok (.getfield 15, 3) := by decide +kernel
theorem dX8_appendFour_11 : decode cX8_appendFour 11 = .ok (.sipush 300, 3) := by decide +kernel
theorem dX8_appendFour_14 : decode cX8_appendFour 14 = .ok (.if_icmp .ge 29, 3) := by decide +kernel
theorem dX8_appendFour_17 : decode cX8_appendFour 17 = .ok (.aload_n 0, 1) := by decide +kernel
theorem dX8_appendFour_18 : decode cX8_appendFour 18 = .ok (.getfield 9, 3) := by decide +kernel
theorem dX8_appendFour_21 : decode cX8_appendFour 21 = .ok (.aload_n 0, 1) := by decide +kernel
theorem dX8_appendFour_22 : decode cX8_appendFour 22 = .ok (.getfield 15, 3) := by decide +kernel
theorem dX8_appendFour_25 : decode cX8_appendFour 25 = .ok (.iload_n 1, 1) := by decide +kernel
theorem dX8_appendFour_26 : decode cX8_appendFour 26 = .ok (.iload_n 2, 1) := by decide +kernel
theorem dX8_appendFour_27 : decode cX8_appendFour 27 = .ok (.iushr, 1) := by decide +kernel
theorem dX8_appendFour_28 : decode cX8_appendFour 28 = .ok (.sipush 255, 3) := by decide +kernel
theorem dX8_appendFour_31 : decode cX8_appendFour 31 = .ok (.iand, 1) := by decide +kernel
theorem dX8_appendFour_32 : decode cX8_appendFour 32 = .ok (.iastore, 1) := by decide +kernel
theorem dX8_appendFour_33 : decode cX8_appendFour 33 = .ok (.aload_n 0, 1) := by decide +kernel
theorem dX8_appendFour_34 : decode cX8_appendFour 34 = .ok (.dup, 1) := by decide +kernel
theorem dX8_appendFour_35 : decode cX8_appendFour 35 = .ok (.getfield 15, 3) := by decide +kernel
theorem dX8_appendFour_38 : decode cX8_appendFour 38 = .ok (.iconst 1, 1) := by decide +kernel
theorem dX8_appendFour_39 : decode cX8_appendFour 39 = .ok (.iadd, 1) := by decide +kernel
theorem dX8_appendFour_40 : decode cX8_appendFour 40 = .ok (.putfield 15, 3) := by decide +kernel
theorem dX8_appendFour_43 : decode cX8_appendFour 43 = .ok (.iinc 2 (-8), 3) := by decide +kernel
theorem dX8_appendFour_46 : decode cX8_appendFour 46 = .ok (.goto (-43), 3) := by decide +kernel
theorem dX8_appendFour_49 : decode cX8_appendFour 49 = .ok (.return_, 1) := by decide +kernel
def rmX8_appendFour : Room := { frames := 0, cells := 0, slots := 0, locals := 0 }
def fX8_appendFour_43 (r3 : Nat → Int32 → Int32 → PH → Option (Unit × PH)) (al0 : Nat) (xl1 : Int32) (xl2 : Int32) (h0 : PH) : Option (Unit × PH) :=
    r3 al0 xl1 (xl2 + (-8)) h0
set_option maxHeartbeats 4000000 in
set_option maxRecDepth 100000 in
theorem vfX8_appendFour_43 {p : Program} {l : Launch} {e : Env} {s : State} {m : MethodId} {args : Array Value} {below : List Frame} {meth : Method} {c : Code} {G : GX} (C : Cx p s m args meth c G cX8_appendFour 3 RX8) (hr : meth.sig.returnType = none) {r3 : Nat → Int32 → Int32 → PH → Option (Unit × PH)} (k3 : ∀ (al0 : Nat) (xl1 : Int32) (xl2 : Int32) (h0 : PH), J p l e rmX8_appendFour s m args below meth c G 3 (qM below args s rvU G 0 0) 0 0 h0 3 [(0, .ref al0), (1, .int xl1), (2, .int xl2)] [] (r3 al0 xl1 xl2 h0)) (al0 : Nat) (xl1 : Int32) (xl2 : Int32) (h0 : PH) : J p l e rmX8_appendFour s m args below meth c G 3 (qM below args s rvU G 0 0) 0 0 h0 43 [(0, .ref al0), (1, .int xl1), (2, .int xl2)] [] (fX8_appendFour_43 r3 al0 xl1 xl2 h0) := by
  unfold fX8_appendFour_43
  refine J_iinc (pc := 43) (v := (xl2 + (-8))) (lv1 := [(2, .int (xl2 + (-8))), (0, .ref al0), (1, .int xl1)]) C dX8_appendFour_43 2 rfl rfl (by decide) rfl ?_
  refine J_goto (pc := 46) (tgt := 3) C dX8_appendFour_46 (by decide) ?_
  refine J_sub [1, 2, 0] rfl ?_
  exact k3 al0 xl1 (xl2 + (-8)) h0
def fX8_appendFour_3  : Nat → Nat → Int32 → Int32 → PH → Option (Unit × PH)
  | 0, _, _, _, _ => none
  | n + 1, al0, xl1, xl2, h0 =>
    if xl2 < 0 then (some ((), h0)) else
    bn (rdI 8 1 al0 h0) fun x1 =>
    if (300 : Int32) ≤ x1 then (fX8_appendFour_43 (fX8_appendFour_3 n) al0 xl1 xl2 h0) else
    bn (rdR 8 0 al0 h0) fun a2 =>
    bn (rdI 8 1 al0 h0) fun x3 =>
    bn (astI a2 x3 (((xl1).toUInt32 >>> ((xl2).toUInt32 &&& Int32.toUInt32 31)).toInt32 &&& (255 : Int32)) h0) fun h4 =>
    bn (rdI 8 1 al0 h4) fun x5 =>
    bn (wr 8 1 (.int (x5 + (1 : Int32))) al0 h4) fun h6 =>
    fX8_appendFour_43 (fX8_appendFour_3 n) al0 xl1 xl2 h6
set_option maxHeartbeats 4000000 in
set_option maxRecDepth 100000 in
theorem vfX8_appendFour_3 {p : Program} {l : Launch} {e : Env} {s : State} {m : MethodId} {args : Array Value} {below : List Frame} {meth : Method} {c : Code} {G : GX} (C : Cx p s m args meth c G cX8_appendFour 3 RX8) (hr : meth.sig.returnType = none) : ∀ (n : Nat) (al0 : Nat) (xl1 : Int32) (xl2 : Int32) (h0 : PH), J p l e rmX8_appendFour s m args below meth c G 3 (qM below args s rvU G 0 0) 0 0 h0 3 [(0, .ref al0), (1, .int xl1), (2, .int xl2)] [] (fX8_appendFour_3  n al0 xl1 xl2 h0) := by
  intro n
  induction n with
  | zero => exact fun al0 xl1 xl2 h0 => J_none C
  | succ n ih =>
    intro al0 xl1 xl2 h0
    unfold fX8_appendFour_3
    refine J_iload_n (pc := 3) C dX8_appendFour_3 rfl 2 rfl ?_
    refine J_if_lt (pc := 4) (tgt := 49) C dX8_appendFour_4 (by decide) ?_ ?_
    · exact J_vret (pc := 49) C hr dX8_appendFour_49
    · refine J_aload_n (pc := 7) C dX8_appendFour_7 rfl 0 rfl ?_
      refine J_getI (pc := 8) C flX8_15 dX8_appendFour_8 (fun x1 => ?_)
      refine J_sipush (pc := 11) (v := 300) C dX8_appendFour_11 (by decide) ?_
      refine J_icmp_ge (pc := 14) (tgt := 43) C dX8_appendFour_14 (by decide) ?_ ?_
      · exact vfX8_appendFour_43 C hr ih al0 xl1 xl2 h0
      · refine J_aload_n (pc := 17) C dX8_appendFour_17 rfl 0 rfl ?_
        refine J_getR (pc := 18) C flX8_9 dX8_appendFour_18 (fun a2 => ?_)
        refine J_aload_n (pc := 21) C dX8_appendFour_21 rfl 0 rfl ?_
        refine J_getI (pc := 22) C flX8_15 dX8_appendFour_22 (fun x3 => ?_)
        refine J_iload_n (pc := 25) C dX8_appendFour_25 rfl 1 rfl ?_
        refine J_iload_n (pc := 26) C dX8_appendFour_26 rfl 2 rfl ?_
        refine J_iushr (pc := 27) C dX8_appendFour_27 ?_
        refine J_sipush (pc := 28) (v := 255) C dX8_appendFour_28 (by decide) ?_
        refine J_iand (pc := 31) C dX8_appendFour_31 ?_
        refine J_iast (pc := 32) C dX8_appendFour_32 (fun h4 => ?_)
        refine J_aload_n (pc := 33) C dX8_appendFour_33 rfl 0 rfl ?_
        refine J_dup (pc := 34) C dX8_appendFour_34 rfl ?_
        refine J_getI (pc := 35) C flX8_15 dX8_appendFour_35 (fun x5 => ?_)
        refine J_iconst (pc := 38) (v := 1) C dX8_appendFour_38 (by decide) ?_
        refine J_iadd (pc := 39) C dX8_appendFour_39 ?_
        refine J_put (pc := 40) C flX8_15 cl8 ft8_1 rfl rfl dX8_appendFour_40 (fun h6 => ?_)
        exact vfX8_appendFour_43 C hr ih al0 xl1 xl2 h6
def fX8_appendFour  (a0 : Nat) (xp0 : Int32) (h0 : PH) : Option (Unit × PH) :=
    fX8_appendFour_3  FU a0 xp0 (24 : Int32) h0
set_option maxHeartbeats 4000000 in
set_option maxRecDepth 100000 in
theorem vfX8_appendFour {p : Program} {l : Launch} {e : Env} {s : State} {m : MethodId} {args : Array Value} {below : List Frame} {meth : Method} {c : Code} {G : GX} (C : Cx p s m args meth c G cX8_appendFour 3 RX8) (hr : meth.sig.returnType = none) (a0 : Nat) (xp0 : Int32) (h0 : PH) : J p l e rmX8_appendFour s m args below meth c G 3 (qM below args s rvU G 0 0) 0 0 h0 0 [(0, .ref a0), (1, .int xp0)] [] (fX8_appendFour  a0 xp0 h0) := by
  unfold fX8_appendFour
  refine J_bipush (pc := 0) (v := 24) C dX8_appendFour_0 (by decide) ?_
  refine J_istore_n (pc := 2) (lv1 := [(2, .int (24 : Int32)), (0, .ref a0), (1, .int xp0)]) C dX8_appendFour_2 rfl (by decide) rfl ?_
  refine J_sub [1, 2, 0] rfl ?_
  exact vfX8_appendFour_3 C hr  FU a0 xp0 (24 : Int32) h0
theorem mX8_appendFour {l : Launch} {G : GX} (a0 : Nat) (xp0 : Int32) (h0 : PH) : ∀ z, fX8_appendFour a0 xp0 h0 = some z → MC l G yX8_appendFour cX8_appendFour 3 none rmX8_appendFour [.ref a0, .int xp0] h0 (rvU z.1) z.2 :=
  Met_J (own := RX8) (by decide) rfl (Nat.le_of_ble_eq_true rfl) (fun p e s m args below meth c C hr hn => vfX8_appendFour C hr a0 xp0 h0)

theorem dX9_feed_0 : decode cX9_feed 0 = .ok (.aload_n 0, 1) := by decide +kernel
theorem dX9_feed_1 : decode cX9_feed 1 = .ok (.getfield 34, 3) := by decide +kernel
theorem dX9_feed_4 : decode cX9_feed 4 = .ok (.getfield 107, 3) := by decide +kernel
theorem dX9_feed_7 : decode cX9_feed 7 = .ok (.sipush 280, 3) := by decide +kernel
theorem dX9_feed_10 : decode cX9_feed 10 = .ok (.if_icmp .le 5, 3) := by decide +kernel
theorem dX9_feed_13 : decode cX9_feed 13 = .ok (.iconst (-1), 1) := by decide +kernel
theorem dX9_feed_14 : decode cX9_feed 14 = .ok (.ireturn, 1) := by decide +kernel
theorem dX9_feed_15 : decode cX9_feed 15 = .ok (.aload_n 0, 1) := by decide +kernel
theorem dX9_feed_16 : decode cX9_feed 16 = .ok (.getfield 34, 3) := by decide +kernel
theorem dX9_feed_19 : decode cX9_feed 19 = .ok (.iload_n 1, 1) := by decide +kernel
theorem dX9_feed_20 : decode cX9_feed 20 = .ok (.invokevirtual 112, 3) := by decide +kernel
theorem dX9_feed_23 : decode cX9_feed 23 = .ok (.aload_n 0, 1) := by decide +kernel
theorem dX9_feed_24 : decode cX9_feed 24 = .ok (.getfield 34, 3) := by decide +kernel
theorem dX9_feed_27 : decode cX9_feed 27 = .ok (.iload_n 2, 1) := by decide +kernel
theorem dX9_feed_28 : decode cX9_feed 28 = .ok (.invokevirtual 112, 3) := by decide +kernel
theorem dX9_feed_31 : decode cX9_feed 31 = .ok (.aload_n 0, 1) := by decide +kernel
theorem dX9_feed_32 : decode cX9_feed 32 = .ok (.getfield 34, 3) := by decide +kernel
theorem dX9_feed_35 : decode cX9_feed 35 = .ok (.iload_n 3, 1) := by decide +kernel
theorem dX9_feed_36 : decode cX9_feed 36 = .ok (.invokevirtual 112, 3) := by decide +kernel
theorem dX9_feed_39 : decode cX9_feed 39 = .ok (.aload_n 0, 1) := by decide +kernel
theorem dX9_feed_40 : decode cX9_feed 40 = .ok (.getfield 34, 3) := by decide +kernel
theorem dX9_feed_43 : decode cX9_feed 43 = .ok (.iload 4, 2) := by decide +kernel
theorem dX9_feed_45 : decode cX9_feed 45 = .ok (.invokevirtual 112, 3) := by decide +kernel
theorem dX9_feed_48 : decode cX9_feed 48 = .ok (.aload_n 0, 1) := by decide +kernel
theorem dX9_feed_49 : decode cX9_feed 49 = .ok (.getfield 34, 3) := by decide +kernel
theorem dX9_feed_52 : decode cX9_feed 52 = .ok (.iload 5, 2) := by decide +kernel
theorem dX9_feed_54 : decode cX9_feed 54 = .ok (.invokevirtual 112, 3) := by decide +kernel
theorem dX9_feed_57 : decode cX9_feed 57 = .ok (.aload_n 0, 1) := by decide +kernel
theorem dX9_feed_58 : decode cX9_feed 58 = .ok (.getfield 34, 3) := by decide +kernel
theorem dX9_feed_61 : decode cX9_feed 61 = .ok (.getfield 107, 3) := by decide +kernel
theorem dX9_feed_64 : decode cX9_feed 64 = .ok (.ireturn, 1) := by decide +kernel
def rmX9_feed : Room := { frames := 1, cells := 0, slots := 0, locals := 22 }
def fX9_feed  (a0 : Nat) (xp0 : Int32) (xp1 : Int32) (xp2 : Int32) (xp3 : Int32) (xp4 : Int32) (h0 : PH) : Option (Int32 × PH) :=
    bn (rdR 9 3 a0 h0) fun a1 =>
    bn (rdI 8 1 a1 h0) fun x2 =>
    if x2 ≤ (280 : Int32) then (bn (rdR 9 3 a0 h0) fun a3 =>
    bn (chk 8 a3 h0) fun _ => bn2 (fX8_appendFour a3 xp0 h0) fun _ h4 =>
    bn (rdR 9 3 a0 h4) fun a5 =>
    bn (chk 8 a5 h4) fun _ => bn2 (fX8_appendFour a5 xp1 h4) fun _ h6 =>
    bn (rdR 9 3 a0 h6) fun a7 =>
    bn (chk 8 a7 h6) fun _ => bn2 (fX8_appendFour a7 xp2 h6) fun _ h8 =>
    bn (rdR 9 3 a0 h8) fun a9 =>
    bn (chk 8 a9 h8) fun _ => bn2 (fX8_appendFour a9 xp3 h8) fun _ h10 =>
    bn (rdR 9 3 a0 h10) fun a11 =>
    bn (chk 8 a11 h10) fun _ => bn2 (fX8_appendFour a11 xp4 h10) fun _ h12 =>
    bn (rdR 9 3 a0 h12) fun a13 =>
    bn (rdI 8 1 a13 h12) fun x14 =>
    some (x14, h12)) else
    some ((-1 : Int32), h0)
set_option maxHeartbeats 4000000 in
set_option maxRecDepth 100000 in
theorem vfX9_feed {p : Program} {l : Launch} {e : Env} {s : State} {m : MethodId} {args : Array Value} {below : List Frame} {meth : Method} {c : Code} {G : GX} (C : Cx p s m args meth c G cX9_feed 6 RX9) (hr : meth.sig.returnType = (some .int)) (a0 : Nat) (xp0 : Int32) (xp1 : Int32) (xp2 : Int32) (xp3 : Int32) (xp4 : Int32) (h0 : PH) : J p l e rmX9_feed s m args below meth c G 6 (qM below args s rvI G 0 0) 0 0 h0 0 [(0, .ref a0), (1, .int xp0), (2, .int xp1), (3, .int xp2), (4, .int xp3), (5, .int xp4)] [] (fX9_feed  a0 xp0 xp1 xp2 xp3 xp4 h0) := by
  unfold fX9_feed
  refine J_aload_n (pc := 0) C dX9_feed_0 rfl 0 rfl ?_
  refine J_getR (pc := 1) C flX9_34 dX9_feed_1 (fun a1 => ?_)
  refine J_getI (pc := 4) C flX9_107 dX9_feed_4 (fun x2 => ?_)
  refine J_sipush (pc := 7) (v := 280) C dX9_feed_7 (by decide) ?_
  refine J_icmp_le (pc := 10) (tgt := 15) C dX9_feed_10 (by decide) ?_ ?_
  · refine J_aload_n (pc := 15) C dX9_feed_15 rfl 0 rfl ?_
    refine J_getR (pc := 16) C flX9_34 dX9_feed_16 (fun a3 => ?_)
    refine J_iload_n (pc := 19) C dX9_feed_19 rfl 1 rfl ?_
    refine J_callVU (pc := 20) (As := [.int xp0]) (rest := []) C (fun z hz => mX8_appendFour a3 xp0 h0 z hz) mwX8_appendFour csX8_appendFour mlX9_112 inX8_appendFour rfl dX9_feed_20 (by decide) rfl (Nat.le_of_ble_eq_true rfl) (by decide) (fun _ h4 => ?_)
    refine J_aload_n (pc := 23) C dX9_feed_23 rfl 0 rfl ?_
    refine J_getR (pc := 24) C flX9_34 dX9_feed_24 (fun a5 => ?_)
    refine J_iload_n (pc := 27) C dX9_feed_27 rfl 2 rfl ?_
    refine J_callVU (pc := 28) (As := [.int xp1]) (rest := []) C (fun z hz => mX8_appendFour a5 xp1 h4 z hz) mwX8_appendFour csX8_appendFour mlX9_112 inX8_appendFour rfl dX9_feed_28 (by decide) rfl (Nat.le_of_ble_eq_true rfl) (by decide) (fun _ h6 => ?_)
    refine J_aload_n (pc := 31) C dX9_feed_31 rfl 0 rfl ?_
    refine J_getR (pc := 32) C flX9_34 dX9_feed_32 (fun a7 => ?_)
    refine J_iload_n (pc := 35) C dX9_feed_35 rfl 3 rfl ?_
    refine J_callVU (pc := 36) (As := [.int xp2]) (rest := []) C (fun z hz => mX8_appendFour a7 xp2 h6 z hz) mwX8_appendFour csX8_appendFour mlX9_112 inX8_appendFour rfl dX9_feed_36 (by decide) rfl (Nat.le_of_ble_eq_true rfl) (by decide) (fun _ h8 => ?_)
    refine J_aload_n (pc := 39) C dX9_feed_39 rfl 0 rfl ?_
    refine J_getR (pc := 40) C flX9_34 dX9_feed_40 (fun a9 => ?_)
    refine J_iload (pc := 43) C dX9_feed_43 4 rfl ?_
    refine J_callVU (pc := 45) (As := [.int xp3]) (rest := []) C (fun z hz => mX8_appendFour a9 xp3 h8 z hz) mwX8_appendFour csX8_appendFour mlX9_112 inX8_appendFour rfl dX9_feed_45 (by decide) rfl (Nat.le_of_ble_eq_true rfl) (by decide) (fun _ h10 => ?_)
    refine J_aload_n (pc := 48) C dX9_feed_48 rfl 0 rfl ?_
    refine J_getR (pc := 49) C flX9_34 dX9_feed_49 (fun a11 => ?_)
    refine J_iload (pc := 52) C dX9_feed_52 5 rfl ?_
    refine J_callVU (pc := 54) (As := [.int xp4]) (rest := []) C (fun z hz => mX8_appendFour a11 xp4 h10 z hz) mwX8_appendFour csX8_appendFour mlX9_112 inX8_appendFour rfl dX9_feed_54 (by decide) rfl (Nat.le_of_ble_eq_true rfl) (by decide) (fun _ h12 => ?_)
    refine J_aload_n (pc := 57) C dX9_feed_57 rfl 0 rfl ?_
    refine J_getR (pc := 58) C flX9_34 dX9_feed_58 (fun a13 => ?_)
    refine J_getI (pc := 61) C flX9_107 dX9_feed_61 (fun x14 => ?_)
    exact J_iret (pc := 64) C hr dX9_feed_64
  · refine J_iconst (pc := 13) (v := -1) C dX9_feed_13 (by decide) ?_
    exact J_iret (pc := 14) C hr dX9_feed_14
theorem mX9_feed {l : Launch} {G : GX} (a0 : Nat) (xp0 : Int32) (xp1 : Int32) (xp2 : Int32) (xp3 : Int32) (xp4 : Int32) (h0 : PH) : ∀ z, fX9_feed a0 xp0 xp1 xp2 xp3 xp4 h0 = some z → MC l G yX9_feed cX9_feed 6 (some .int) rmX9_feed [.ref a0, .int xp0, .int xp1, .int xp2, .int xp3, .int xp4] h0 (rvI z.1) z.2 :=
  Met_J (own := RX9) (by decide) rfl (Nat.le_of_ble_eq_true rfl) (fun p e s m args below meth c C hr hn => vfX9_feed C hr a0 xp0 xp1 xp2 xp3 xp4 h0)

theorem dX10_four_0 : decode cX10_four 0 = .ok (.bipush 24, 2) := by decide +kernel
theorem dX10_four_2 : decode cX10_four 2 = .ok (.istore_n 2, 1) := by decide +kernel
theorem dX10_four_3 : decode cX10_four 3 = .ok (.iload_n 2, 1) := by decide +kernel
theorem dX10_four_4 : decode cX10_four 4 = .ok (.ifCond .lt 35, 3) := by decide +kernel
theorem dX10_four_7 : decode cX10_four 7 = .ok (.aload_n 0, 1) := by decide +kernel
theorem dX10_four_8 : decode cX10_four 8 = .ok (.getfield 44, 3) := by decide +kernel
theorem dX10_four_11 : decode cX10_four 11 = .ok (.aload_n 0, 1) := by decide +kernel
theorem dX10_four_12 : decode cX10_four 12 = .ok (.getfield 135, 3) := by decide +kernel
theorem dX10_four_15 : decode cX10_four 15 = .ok (.iload_n 1, 1) := by decide +kernel
theorem dX10_four_16 : decode cX10_four 16 = .ok (.iload_n 2, 1) := by decide +kernel
theorem dX10_four_17 : decode cX10_four 17 = .ok (.ishr, 1) := by decide +kernel
theorem dX10_four_18 : decode cX10_four 18 = .ok (.sipush 255, 3) := by decide +kernel
theorem dX10_four_21 : decode cX10_four 21 = .ok (.iand, 1) := by decide +kernel
theorem dX10_four_22 : decode cX10_four 22 = .ok (.iastore, 1) := by decide +kernel
theorem dX10_four_23 : decode cX10_four 23 = .ok (.aload_n 0, 1) := by decide +kernel
theorem dX10_four_24 : decode cX10_four 24 = .ok (.dup, 1) := by decide +kernel
theorem dX10_four_25 : decode cX10_four 25 = .ok (.getfield 135, 3) := by decide +kernel
theorem dX10_four_28 : decode cX10_four 28 = .ok (.iconst 1, 1) := by decide +kernel
theorem dX10_four_29 : decode cX10_four 29 = .ok (.iadd, 1) := by decide +kernel
theorem dX10_four_30 : decode cX10_four 30 = .ok (.putfield 135, 3) := by decide +kernel
theorem dX10_four_33 : decode cX10_four 33 = .ok (.iinc 2 (-8), 3) := by decide +kernel
theorem dX10_four_36 : decode cX10_four 36 = .ok (.goto (-33), 3) := by decide +kernel
theorem dX10_four_39 : decode cX10_four 39 = .ok (.return_, 1) := by decide +kernel
def rmX10_four : Room := { frames := 0, cells := 0, slots := 0, locals := 0 }
def fX10_four_3  : Nat → Nat → Int32 → Int32 → PH → Option (Unit × PH)
  | 0, _, _, _, _ => none
  | n + 1, al0, xl1, xl2, h0 =>
    if xl2 < 0 then (some ((), h0)) else
    bn (rdR 10 19 al0 h0) fun a1 =>
    bn (rdI 10 20 al0 h0) fun x2 =>
    bn (astI a1 x2 ((xl1 >>> (xl2 &&& 31)) &&& (255 : Int32)) h0) fun h3 =>
    bn (rdI 10 20 al0 h3) fun x4 =>
    bn (wr 10 20 (.int (x4 + (1 : Int32))) al0 h3) fun h5 =>
    (fX10_four_3 n) al0 xl1 (xl2 + (-8)) h5
set_option maxHeartbeats 4000000 in
set_option maxRecDepth 100000 in
theorem vfX10_four_3 {p : Program} {l : Launch} {e : Env} {s : State} {m : MethodId} {args : Array Value} {below : List Frame} {meth : Method} {c : Code} {G : GX} (C : Cx p s m args meth c G cX10_four 3 RX10) (hr : meth.sig.returnType = none) : ∀ (n : Nat) (al0 : Nat) (xl1 : Int32) (xl2 : Int32) (h0 : PH), J p l e rmX10_four s m args below meth c G 3 (qM below args s rvU G 0 0) 0 0 h0 3 [(0, .ref al0), (1, .int xl1), (2, .int xl2)] [] (fX10_four_3  n al0 xl1 xl2 h0) := by
  intro n
  induction n with
  | zero => exact fun al0 xl1 xl2 h0 => J_none C
  | succ n ih =>
    intro al0 xl1 xl2 h0
    unfold fX10_four_3
    refine J_iload_n (pc := 3) C dX10_four_3 rfl 2 rfl ?_
    refine J_if_lt (pc := 4) (tgt := 39) C dX10_four_4 (by decide) ?_ ?_
    · exact J_vret (pc := 39) C hr dX10_four_39
    · refine J_aload_n (pc := 7) C dX10_four_7 rfl 0 rfl ?_
      refine J_getR (pc := 8) C flX10_44 dX10_four_8 (fun a1 => ?_)
      refine J_aload_n (pc := 11) C dX10_four_11 rfl 0 rfl ?_
      refine J_getI (pc := 12) C flX10_135 dX10_four_12 (fun x2 => ?_)
      refine J_iload_n (pc := 15) C dX10_four_15 rfl 1 rfl ?_
      refine J_iload_n (pc := 16) C dX10_four_16 rfl 2 rfl ?_
      refine J_ishr (pc := 17) C dX10_four_17 ?_
      refine J_sipush (pc := 18) (v := 255) C dX10_four_18 (by decide) ?_
      refine J_iand (pc := 21) C dX10_four_21 ?_
      refine J_iast (pc := 22) C dX10_four_22 (fun h3 => ?_)
      refine J_aload_n (pc := 23) C dX10_four_23 rfl 0 rfl ?_
      refine J_dup (pc := 24) C dX10_four_24 rfl ?_
      refine J_getI (pc := 25) C flX10_135 dX10_four_25 (fun x4 => ?_)
      refine J_iconst (pc := 28) (v := 1) C dX10_four_28 (by decide) ?_
      refine J_iadd (pc := 29) C dX10_four_29 ?_
      refine J_put (pc := 30) C flX10_135 cl10 ft10_20 rfl rfl dX10_four_30 (fun h5 => ?_)
      refine J_iinc (pc := 33) (v := (xl2 + (-8))) (lv1 := [(2, .int (xl2 + (-8))), (0, .ref al0), (1, .int xl1)]) C dX10_four_33 2 rfl rfl (by decide) rfl ?_
      refine J_goto (pc := 36) (tgt := 3) C dX10_four_36 (by decide) ?_
      refine J_sub [1, 2, 0] rfl ?_
      exact ih al0 xl1 (xl2 + (-8)) h5
def fX10_four  (a0 : Nat) (xp0 : Int32) (h0 : PH) : Option (Unit × PH) :=
    fX10_four_3  FU a0 xp0 (24 : Int32) h0
set_option maxHeartbeats 4000000 in
set_option maxRecDepth 100000 in
theorem vfX10_four {p : Program} {l : Launch} {e : Env} {s : State} {m : MethodId} {args : Array Value} {below : List Frame} {meth : Method} {c : Code} {G : GX} (C : Cx p s m args meth c G cX10_four 3 RX10) (hr : meth.sig.returnType = none) (a0 : Nat) (xp0 : Int32) (h0 : PH) : J p l e rmX10_four s m args below meth c G 3 (qM below args s rvU G 0 0) 0 0 h0 0 [(0, .ref a0), (1, .int xp0)] [] (fX10_four  a0 xp0 h0) := by
  unfold fX10_four
  refine J_bipush (pc := 0) (v := 24) C dX10_four_0 (by decide) ?_
  refine J_istore_n (pc := 2) (lv1 := [(2, .int (24 : Int32)), (0, .ref a0), (1, .int xp0)]) C dX10_four_2 rfl (by decide) rfl ?_
  refine J_sub [1, 2, 0] rfl ?_
  exact vfX10_four_3 C hr  FU a0 xp0 (24 : Int32) h0
theorem mX10_four {l : Launch} {G : GX} (a0 : Nat) (xp0 : Int32) (h0 : PH) : ∀ z, fX10_four a0 xp0 h0 = some z → MC l G yX10_four cX10_four 3 none rmX10_four [.ref a0, .int xp0] h0 (rvU z.1) z.2 :=
  Met_J (own := RX10) (by decide) rfl (Nat.le_of_ble_eq_true rfl) (fun p e s m args below meth c C hr hn => vfX10_four C hr a0 xp0 h0)

theorem dX10_feed_0 : decode cX10_feed 0 = .ok (.aload_n 0, 1) := by decide +kernel
theorem dX10_feed_1 : decode cX10_feed 1 = .ok (.iconst 0, 1) := by decide +kernel
theorem dX10_feed_2 : decode cX10_feed 2 = .ok (.putfield 90, 3) := by decide +kernel
theorem dX10_feed_5 : decode cX10_feed 5 = .ok (.aload_n 0, 1) := by decide +kernel
theorem dX10_feed_6 : decode cX10_feed 6 = .ok (.getfield 135, 3) := by decide +kernel
theorem dX10_feed_9 : decode cX10_feed 9 = .ok (.bipush 20, 2) := by decide +kernel
theorem dX10_feed_11 : decode cX10_feed 11 = .ok (.iadd, 1) := by decide +kernel
theorem dX10_feed_12 : decode cX10_feed 12 = .ok (.sipush 300, 3) := by decide +kernel
theorem dX10_feed_15 : decode cX10_feed 15 = .ok (.if_icmp .le 5, 3) := by decide +kernel
theorem dX10_feed_18 : decode cX10_feed 18 = .ok (.iconst (-1), 1) := by decide +kernel
theorem dX10_feed_19 : decode cX10_feed 19 = .ok (.ireturn, 1) := by decide +kernel
theorem dX10_feed_20 : decode cX10_feed 20 = .ok (.aload_n 0, 1) := by decide +kernel
theorem dX10_feed_21 : decode cX10_feed 21 = .ok (.iload_n 1, 1) := by decide +kernel
theorem dX10_feed_22 : decode cX10_feed 22 = .ok (.invokevirtual 138, 3) := by decide +kernel
theorem dX10_feed_25 : decode cX10_feed 25 = .ok (.aload_n 0, 1) := by decide +kernel
theorem dX10_feed_26 : decode cX10_feed 26 = .ok (.iload_n 2, 1) := by decide +kernel
theorem dX10_feed_27 : decode cX10_feed 27 = .ok (.invokevirtual 138, 3) := by decide +kernel
theorem dX10_feed_30 : decode cX10_feed 30 = .ok (.aload_n 0, 1) := by decide +kernel
theorem dX10_feed_31 : decode cX10_feed 31 = .ok (.iload_n 3, 1) := by decide +kernel
theorem dX10_feed_32 : decode cX10_feed 32 = .ok (.invokevirtual 138, 3) := by decide +kernel
theorem dX10_feed_35 : decode cX10_feed 35 = .ok (.aload_n 0, 1) := by decide +kernel
theorem dX10_feed_36 : decode cX10_feed 36 = .ok (.iload 4, 2) := by decide +kernel
theorem dX10_feed_38 : decode cX10_feed 38 = .ok (.invokevirtual 138, 3) := by decide +kernel
theorem dX10_feed_41 : decode cX10_feed 41 = .ok (.aload_n 0, 1) := by decide +kernel
theorem dX10_feed_42 : decode cX10_feed 42 = .ok (.iload 5, 2) := by decide +kernel
theorem dX10_feed_44 : decode cX10_feed 44 = .ok (.invokevirtual 138, 3) := by decide +kernel
theorem dX10_feed_47 : decode cX10_feed 47 = .ok (.aload_n 0, 1) := by decide +kernel
theorem dX10_feed_48 : decode cX10_feed 48 = .ok (.getfield 135, 3) := by decide +kernel
theorem dX10_feed_51 : decode cX10_feed 51 = .ok (.ireturn, 1) := by decide +kernel
def rmX10_feed : Room := { frames := 1, cells := 0, slots := 0, locals := 22 }
def fX10_feed  (a0 : Nat) (xp0 : Int32) (xp1 : Int32) (xp2 : Int32) (xp3 : Int32) (xp4 : Int32) (h0 : PH) : Option (Int32 × PH) :=
    bn (wr 10 0 (.int (0 : Int32)) a0 h0) fun h1 =>
    bn (rdI 10 20 a0 h1) fun x2 =>
    if (x2 + (20 : Int32)) ≤ (300 : Int32) then (bn (chk 10 a0 h1) fun _ => bn2 (fX10_four a0 xp0 h1) fun _ h3 =>
    bn (chk 10 a0 h3) fun _ => bn2 (fX10_four a0 xp1 h3) fun _ h4 =>
    bn (chk 10 a0 h4) fun _ => bn2 (fX10_four a0 xp2 h4) fun _ h5 =>
    bn (chk 10 a0 h5) fun _ => bn2 (fX10_four a0 xp3 h5) fun _ h6 =>
    bn (chk 10 a0 h6) fun _ => bn2 (fX10_four a0 xp4 h6) fun _ h7 =>
    bn (rdI 10 20 a0 h7) fun x8 =>
    some (x8, h7)) else
    some ((-1 : Int32), h1)
set_option maxHeartbeats 4000000 in
set_option maxRecDepth 100000 in
theorem vfX10_feed {p : Program} {l : Launch} {e : Env} {s : State} {m : MethodId} {args : Array Value} {below : List Frame} {meth : Method} {c : Code} {G : GX} (C : Cx p s m args meth c G cX10_feed 6 RX10) (hr : meth.sig.returnType = (some .int)) (a0 : Nat) (xp0 : Int32) (xp1 : Int32) (xp2 : Int32) (xp3 : Int32) (xp4 : Int32) (h0 : PH) : J p l e rmX10_feed s m args below meth c G 6 (qM below args s rvI G 0 0) 0 0 h0 0 [(0, .ref a0), (1, .int xp0), (2, .int xp1), (3, .int xp2), (4, .int xp3), (5, .int xp4)] [] (fX10_feed  a0 xp0 xp1 xp2 xp3 xp4 h0) := by
  unfold fX10_feed
  refine J_aload_n (pc := 0) C dX10_feed_0 rfl 0 rfl ?_
  refine J_iconst (pc := 1) (v := 0) C dX10_feed_1 (by decide) ?_
  refine J_put (pc := 2) C flX10_90 cl10 ft10_0 rfl rfl dX10_feed_2 (fun h1 => ?_)
  refine J_aload_n (pc := 5) C dX10_feed_5 rfl 0 rfl ?_
  refine J_getI (pc := 6) C flX10_135 dX10_feed_6 (fun x2 => ?_)
  refine J_bipush (pc := 9) (v := 20) C dX10_feed_9 (by decide) ?_
  refine J_iadd (pc := 11) C dX10_feed_11 ?_
  refine J_sipush (pc := 12) (v := 300) C dX10_feed_12 (by decide) ?_
  refine J_icmp_le (pc := 15) (tgt := 20) C dX10_feed_15 (by decide) ?_ ?_
  · refine J_aload_n (pc := 20) C dX10_feed_20 rfl 0 rfl ?_
    refine J_iload_n (pc := 21) C dX10_feed_21 rfl 1 rfl ?_
    refine J_callVU (pc := 22) (As := [.int xp0]) (rest := []) C (fun z hz => mX10_four a0 xp0 h1 z hz) mwX10_four csX10_four mlX10_138 inX10_four rfl dX10_feed_22 (by decide) rfl (Nat.le_of_ble_eq_true rfl) (by decide) (fun _ h3 => ?_)
    refine J_aload_n (pc := 25) C dX10_feed_25 rfl 0 rfl ?_
    refine J_iload_n (pc := 26) C dX10_feed_26 rfl 2 rfl ?_
    refine J_callVU (pc := 27) (As := [.int xp1]) (rest := []) C (fun z hz => mX10_four a0 xp1 h3 z hz) mwX10_four csX10_four mlX10_138 inX10_four rfl dX10_feed_27 (by decide) rfl (Nat.le_of_ble_eq_true rfl) (by decide) (fun _ h4 => ?_)
    refine J_aload_n (pc := 30) C dX10_feed_30 rfl 0 rfl ?_
    refine J_iload_n (pc := 31) C dX10_feed_31 rfl 3 rfl ?_
    refine J_callVU (pc := 32) (As := [.int xp2]) (rest := []) C (fun z hz => mX10_four a0 xp2 h4 z hz) mwX10_four csX10_four mlX10_138 inX10_four rfl dX10_feed_32 (by decide) rfl (Nat.le_of_ble_eq_true rfl) (by decide) (fun _ h5 => ?_)
    refine J_aload_n (pc := 35) C dX10_feed_35 rfl 0 rfl ?_
    refine J_iload (pc := 36) C dX10_feed_36 4 rfl ?_
    refine J_callVU (pc := 38) (As := [.int xp3]) (rest := []) C (fun z hz => mX10_four a0 xp3 h5 z hz) mwX10_four csX10_four mlX10_138 inX10_four rfl dX10_feed_38 (by decide) rfl (Nat.le_of_ble_eq_true rfl) (by decide) (fun _ h6 => ?_)
    refine J_aload_n (pc := 41) C dX10_feed_41 rfl 0 rfl ?_
    refine J_iload (pc := 42) C dX10_feed_42 5 rfl ?_
    refine J_callVU (pc := 44) (As := [.int xp4]) (rest := []) C (fun z hz => mX10_four a0 xp4 h6 z hz) mwX10_four csX10_four mlX10_138 inX10_four rfl dX10_feed_44 (by decide) rfl (Nat.le_of_ble_eq_true rfl) (by decide) (fun _ h7 => ?_)
    refine J_aload_n (pc := 47) C dX10_feed_47 rfl 0 rfl ?_
    refine J_getI (pc := 48) C flX10_135 dX10_feed_48 (fun x8 => ?_)
    exact J_iret (pc := 51) C hr dX10_feed_51
  · refine J_iconst (pc := 18) (v := -1) C dX10_feed_18 (by decide) ?_
    exact J_iret (pc := 19) C hr dX10_feed_19
theorem mX10_feed {l : Launch} {G : GX} (a0 : Nat) (xp0 : Int32) (xp1 : Int32) (xp2 : Int32) (xp3 : Int32) (xp4 : Int32) (h0 : PH) : ∀ z, fX10_feed a0 xp0 xp1 xp2 xp3 xp4 h0 = some z → MC l G yX10_feed cX10_feed 6 (some .int) rmX10_feed [.ref a0, .int xp0, .int xp1, .int xp2, .int xp3, .int xp4] h0 (rvI z.1) z.2 :=
  Met_J (own := RX10) (by decide) rfl (Nat.le_of_ble_eq_true rfl) (fun p e s m args below meth c C hr hn => vfX10_feed C hr a0 xp0 xp1 xp2 xp3 xp4 h0)

theorem dX9_end_0 : decode cX9_end 0 = .ok (.iload_n 1, 1) := by decide +kernel
theorem dX9_end_1 : decode cX9_end 1 = .ok (.ifCond .lt 14, 3) := by decide +kernel
theorem dX9_end_4 : decode cX9_end 4 = .ok (.iload_n 1, 1) := by decide +kernel
theorem dX9_end_5 : decode cX9_end 5 = .ok (.aload_n 0, 1) := by decide +kernel
theorem dX9_end_6 : decode cX9_end 6 = .ok (.getfield 34, 3) := by decide +kernel
theorem dX9_end_9 : decode cX9_end 9 = .ok (.getfield 107, 3) := by decide +kernel
theorem dX9_end_12 : decode cX9_end 12 = .ok (.if_icmp .le 5, 3) := by decide +kernel
theorem dX9_end_15 : decode cX9_end 15 = .ok (.iconst (-1), 1) := by decide +kernel
theorem dX9_end_16 : decode cX9_end 16 = .ok (.ireturn, 1) := by decide +kernel
theorem dX9_end_17 : decode cX9_end 17 = .ok (.aload_n 0, 1) := by decide +kernel
theorem dX9_end_18 : decode cX9_end 18 = .ok (.getfield 34, 3) := by decide +kernel
theorem dX9_end_21 : decode cX9_end 21 = .ok (.iload_n 1, 1) := by decide +kernel
theorem dX9_end_22 : decode cX9_end 22 = .ok (.putfield 107, 3) := by decide +kernel
theorem dX9_end_25 : decode cX9_end 25 = .ok (.iload_n 1, 1) := by decide +kernel
theorem dX9_end_26 : decode cX9_end 26 = .ok (.ireturn, 1) := by decide +kernel
def rmX9_end : Room := { frames := 0, cells := 0, slots := 0, locals := 0 }
def fX9_end  (a0 : Nat) (xp0 : Int32) (h0 : PH) : Option (Int32 × PH) :=
    if xp0 < 0 then (some ((-1 : Int32), h0)) else
    bn (rdR 9 3 a0 h0) fun a1 =>
    bn (rdI 8 1 a1 h0) fun x2 =>
    if xp0 ≤ x2 then (bn (rdR 9 3 a0 h0) fun a3 =>
    bn (wr 8 1 (.int xp0) a3 h0) fun h4 =>
    some (xp0, h4)) else
    some ((-1 : Int32), h0)
set_option maxHeartbeats 4000000 in
set_option maxRecDepth 100000 in
theorem vfX9_end {p : Program} {l : Launch} {e : Env} {s : State} {m : MethodId} {args : Array Value} {below : List Frame} {meth : Method} {c : Code} {G : GX} (C : Cx p s m args meth c G cX9_end 2 RX9) (hr : meth.sig.returnType = (some .int)) (a0 : Nat) (xp0 : Int32) (h0 : PH) : J p l e rmX9_end s m args below meth c G 2 (qM below args s rvI G 0 0) 0 0 h0 0 [(0, .ref a0), (1, .int xp0)] [] (fX9_end  a0 xp0 h0) := by
  unfold fX9_end
  refine J_iload_n (pc := 0) C dX9_end_0 rfl 1 rfl ?_
  refine J_if_lt (pc := 1) (tgt := 15) C dX9_end_1 (by decide) ?_ ?_
  · refine J_iconst (pc := 15) (v := -1) C dX9_end_15 (by decide) ?_
    exact J_iret (pc := 16) C hr dX9_end_16
  · refine J_iload_n (pc := 4) C dX9_end_4 rfl 1 rfl ?_
    refine J_aload_n (pc := 5) C dX9_end_5 rfl 0 rfl ?_
    refine J_getR (pc := 6) C flX9_34 dX9_end_6 (fun a1 => ?_)
    refine J_getI (pc := 9) C flX9_107 dX9_end_9 (fun x2 => ?_)
    refine J_icmp_le (pc := 12) (tgt := 17) C dX9_end_12 (by decide) ?_ ?_
    · refine J_aload_n (pc := 17) C dX9_end_17 rfl 0 rfl ?_
      refine J_getR (pc := 18) C flX9_34 dX9_end_18 (fun a3 => ?_)
      refine J_iload_n (pc := 21) C dX9_end_21 rfl 1 rfl ?_
      refine J_put (pc := 22) C flX9_107 cl8 ft8_1 rfl rfl dX9_end_22 (fun h4 => ?_)
      refine J_iload_n (pc := 25) C dX9_end_25 rfl 1 rfl ?_
      exact J_iret (pc := 26) C hr dX9_end_26
    · refine J_iconst (pc := 15) (v := -1) C dX9_end_15 (by decide) ?_
      exact J_iret (pc := 16) C hr dX9_end_16
theorem mX9_end {l : Launch} {G : GX} (a0 : Nat) (xp0 : Int32) (h0 : PH) : ∀ z, fX9_end a0 xp0 h0 = some z → MC l G yX9_end cX9_end 2 (some .int) rmX9_end [.ref a0, .int xp0] h0 (rvI z.1) z.2 :=
  Met_J (own := RX9) (by decide) rfl (Nat.le_of_ble_eq_true rfl) (fun p e s m args below meth c C hr hn => vfX9_end C hr a0 xp0 h0)

theorem dX10_end_0 : decode cX10_end 0 = .ok (.aload_n 0, 1) := by decide +kernel
theorem dX10_end_1 : decode cX10_end 1 = .ok (.iconst 0, 1) := by decide +kernel
theorem dX10_end_2 : decode cX10_end 2 = .ok (.putfield 90, 3) := by decide +kernel
theorem dX10_end_5 : decode cX10_end 5 = .ok (.iload_n 1, 1) := by decide +kernel
theorem dX10_end_6 : decode cX10_end 6 = .ok (.ifCond .lt 11, 3) := by decide +kernel
theorem dX10_end_9 : decode cX10_end 9 = .ok (.iload_n 1, 1) := by decide +kernel
theorem dX10_end_10 : decode cX10_end 10 = .ok (.aload_n 0, 1) := by decide +kernel
theorem dX10_end_11 : decode cX10_end 11 = .ok (.getfield 135, 3) := by decide +kernel
theorem dX10_end_14 : decode cX10_end 14 = .ok (.if_icmp .le 5, 3) := by decide +kernel
theorem dX10_end_17 : decode cX10_end 17 = .ok (.iconst (-1), 1) := by decide +kernel
theorem dX10_end_18 : decode cX10_end 18 = .ok (.ireturn, 1) := by decide +kernel
theorem dX10_end_19 : decode cX10_end 19 = .ok (.aload_n 0, 1) := by decide +kernel
theorem dX10_end_20 : decode cX10_end 20 = .ok (.iload_n 1, 1) := by decide +kernel
theorem dX10_end_21 : decode cX10_end 21 = .ok (.putfield 135, 3) := by decide +kernel
theorem dX10_end_24 : decode cX10_end 24 = .ok (.iload_n 1, 1) := by decide +kernel
theorem dX10_end_25 : decode cX10_end 25 = .ok (.ireturn, 1) := by decide +kernel
def rmX10_end : Room := { frames := 0, cells := 0, slots := 0, locals := 0 }
def fX10_end  (a0 : Nat) (xp0 : Int32) (h0 : PH) : Option (Int32 × PH) :=
    bn (wr 10 0 (.int (0 : Int32)) a0 h0) fun h1 =>
    if xp0 < 0 then (some ((-1 : Int32), h1)) else
    bn (rdI 10 20 a0 h1) fun x2 =>
    if xp0 ≤ x2 then (bn (wr 10 20 (.int xp0) a0 h1) fun h3 =>
    some (xp0, h3)) else
    some ((-1 : Int32), h1)
set_option maxHeartbeats 4000000 in
set_option maxRecDepth 100000 in
theorem vfX10_end {p : Program} {l : Launch} {e : Env} {s : State} {m : MethodId} {args : Array Value} {below : List Frame} {meth : Method} {c : Code} {G : GX} (C : Cx p s m args meth c G cX10_end 2 RX10) (hr : meth.sig.returnType = (some .int)) (a0 : Nat) (xp0 : Int32) (h0 : PH) : J p l e rmX10_end s m args below meth c G 2 (qM below args s rvI G 0 0) 0 0 h0 0 [(0, .ref a0), (1, .int xp0)] [] (fX10_end  a0 xp0 h0) := by
  unfold fX10_end
  refine J_aload_n (pc := 0) C dX10_end_0 rfl 0 rfl ?_
  refine J_iconst (pc := 1) (v := 0) C dX10_end_1 (by decide) ?_
  refine J_put (pc := 2) C flX10_90 cl10 ft10_0 rfl rfl dX10_end_2 (fun h1 => ?_)
  refine J_iload_n (pc := 5) C dX10_end_5 rfl 1 rfl ?_
  refine J_if_lt (pc := 6) (tgt := 17) C dX10_end_6 (by decide) ?_ ?_
  · refine J_iconst (pc := 17) (v := -1) C dX10_end_17 (by decide) ?_
    exact J_iret (pc := 18) C hr dX10_end_18
  · refine J_iload_n (pc := 9) C dX10_end_9 rfl 1 rfl ?_
    refine J_aload_n (pc := 10) C dX10_end_10 rfl 0 rfl ?_
    refine J_getI (pc := 11) C flX10_135 dX10_end_11 (fun x2 => ?_)
    refine J_icmp_le (pc := 14) (tgt := 19) C dX10_end_14 (by decide) ?_ ?_
    · refine J_aload_n (pc := 19) C dX10_end_19 rfl 0 rfl ?_
      refine J_iload_n (pc := 20) C dX10_end_20 rfl 1 rfl ?_
      refine J_put (pc := 21) C flX10_135 cl10 ft10_20 rfl rfl dX10_end_21 (fun h3 => ?_)
      refine J_iload_n (pc := 24) C dX10_end_24 rfl 1 rfl ?_
      exact J_iret (pc := 25) C hr dX10_end_25
    · refine J_iconst (pc := 17) (v := -1) C dX10_end_17 (by decide) ?_
      exact J_iret (pc := 18) C hr dX10_end_18
theorem mX10_end {l : Launch} {G : GX} (a0 : Nat) (xp0 : Int32) (h0 : PH) : ∀ z, fX10_end a0 xp0 h0 = some z → MC l G yX10_end cX10_end 2 (some .int) rmX10_end [.ref a0, .int xp0] h0 (rvI z.1) z.2 :=
  Met_J (own := RX10) (by decide) rfl (Nat.le_of_ble_eq_true rfl) (fun p e s m args below meth c C hr hn => vfX10_end C hr a0 xp0 h0)

theorem dX4_empty_0 : decode cX4_empty 0 = .ok (.aload_n 0, 1) := by decide +kernel
theorem dX4_empty_1 : decode cX4_empty 1 = .ok (.iconst 0, 1) := by decide +kernel
theorem dX4_empty_2 : decode cX4_empty 2 = .ok (.putfield 9, 3) := by decide +kernel
theorem dX4_empty_5 : decode cX4_empty 5 = .ok (.aload_n 0, 1) := by decide +kernel
theorem dX4_empty_6 : decode cX4_empty 6 = .ok (.iconst 0, 1) := by decide +kernel
theorem dX4_empty_7 : decode cX4_empty 7 = .ok (.putfield 15, 3) := by decide +kernel
theorem dX4_empty_10 : decode cX4_empty 10 = .ok (.return_, 1) := by decide +kernel
def rmX4_empty : Room := { frames := 0, cells := 0, slots := 0, locals := 0 }
def fX4_empty  (a0 : Nat) (h0 : PH) : Option (Unit × PH) :=
    bn (wr 4 0 (.int (0 : Int32)) a0 h0) fun h1 =>
    bn (wr 4 1 (.int (0 : Int32)) a0 h1) fun h2 =>
    some ((), h2)
set_option maxHeartbeats 4000000 in
set_option maxRecDepth 100000 in
theorem vfX4_empty {p : Program} {l : Launch} {e : Env} {s : State} {m : MethodId} {args : Array Value} {below : List Frame} {meth : Method} {c : Code} {G : GX} (C : Cx p s m args meth c G cX4_empty 1 RX4) (hr : meth.sig.returnType = none) (a0 : Nat) (h0 : PH) : J p l e rmX4_empty s m args below meth c G 1 (qM below args s rvU G 0 0) 0 0 h0 0 [(0, .ref a0)] [] (fX4_empty  a0 h0) := by
  unfold fX4_empty
  refine J_aload_n (pc := 0) C dX4_empty_0 rfl 0 rfl ?_
  refine J_iconst (pc := 1) (v := 0) C dX4_empty_1 (by decide) ?_
  refine J_put (pc := 2) C flX4_9 cl4 ft4_0 rfl rfl dX4_empty_2 (fun h1 => ?_)
  refine J_aload_n (pc := 5) C dX4_empty_5 rfl 0 rfl ?_
  refine J_iconst (pc := 6) (v := 0) C dX4_empty_6 (by decide) ?_
  refine J_put (pc := 7) C flX4_15 cl4 ft4_1 rfl rfl dX4_empty_7 (fun h2 => ?_)
  exact J_vret (pc := 10) C hr dX4_empty_10
theorem mX4_empty {l : Launch} {G : GX} (a0 : Nat) (h0 : PH) : ∀ z, fX4_empty a0 h0 = some z → MC l G yX4_empty cX4_empty 1 none rmX4_empty [.ref a0] h0 (rvU z.1) z.2 :=
  Met_J (own := RX4) (by decide) rfl (Nat.le_of_ble_eq_true rfl) (fun p e s m args below meth c C hr hn => vfX4_empty C hr a0 h0)

theorem dX8_kindOf_0 : decode cX8_kindOf 0 = .ok (.iload_n 0, 1) := by decide +kernel
theorem dX8_kindOf_1 : decode cX8_kindOf 1 = .ok (.bipush 97, 2) := by decide +kernel
theorem dX8_kindOf_3 : decode cX8_kindOf 3 = .ok (.bipush 122, 2) := by decide +kernel
theorem dX8_kindOf_5 : decode cX8_kindOf 5 = .ok (.invokestatic 35, 3) := by decide +kernel
theorem dX8_kindOf_8 : decode cX8_kindOf 8 = .ok (.ifCond .eq 5, 3) := by decide +kernel
theorem dX8_kindOf_11 : decode cX8_kindOf 11 = .ok (.iconst 1, 1) := by decide +kernel
theorem dX8_kindOf_12 : decode cX8_kindOf 12 = .ok (.ireturn, 1) := by decide +kernel
theorem dX8_kindOf_13 : decode cX8_kindOf 13 = .ok (.iload_n 0, 1) := by decide +kernel
theorem dX8_kindOf_14 : decode cX8_kindOf 14 = .ok (.bipush 48, 2) := by decide +kernel
theorem dX8_kindOf_16 : decode cX8_kindOf 16 = .ok (.bipush 57, 2) := by decide +kernel
theorem dX8_kindOf_18 : decode cX8_kindOf 18 = .ok (.invokestatic 35, 3) := by decide +kernel
theorem dX8_kindOf_21 : decode cX8_kindOf 21 = .ok (.ifCond .eq 7, 3) := by decide +kernel
theorem dX8_kindOf_24 : decode cX8_kindOf 24 = .ok (.iconst 2, 1) := by decide +kernel
theorem dX8_kindOf_25 : decode cX8_kindOf 25 = .ok (.goto 4, 3) := by decide +kernel
theorem dX8_kindOf_28 : decode cX8_kindOf 28 = .ok (.iconst 3, 1) := by decide +kernel
theorem dX8_kindOf_29 : decode cX8_kindOf 29 = .ok (.ireturn, 1) := by decide +kernel
def rmX8_kindOf : Room := { frames := 1, cells := 0, slots := 0, locals := 22 }
def fX8_kindOf  (xp0 : Int32) (h0 : PH) : Option (Int32 × PH) :=
    bn2 (fX9_within xp0 (97 : Int32) (122 : Int32) h0) fun x2 h1 =>
    if x2 = 0 then (bn2 (fX9_within xp0 (48 : Int32) (57 : Int32) h1) fun x4 h3 =>
    if x4 = 0 then (some ((3 : Int32), h3)) else
    some ((2 : Int32), h3)) else
    some ((1 : Int32), h1)
set_option maxHeartbeats 4000000 in
set_option maxRecDepth 100000 in
theorem vfX8_kindOf {p : Program} {l : Launch} {e : Env} {s : State} {m : MethodId} {args : Array Value} {below : List Frame} {meth : Method} {c : Code} {G : GX} (C : Cx p s m args meth c G cX8_kindOf 1 RX8) (hr : meth.sig.returnType = (some .int)) (xp0 : Int32) (h0 : PH) : J p l e rmX8_kindOf s m args below meth c G 1 (qM below args s rvI G 0 0) 0 0 h0 0 [(0, .int xp0)] [] (fX8_kindOf  xp0 h0) := by
  unfold fX8_kindOf
  refine J_iload_n (pc := 0) C dX8_kindOf_0 rfl 0 rfl ?_
  refine J_bipush (pc := 1) (v := 97) C dX8_kindOf_1 (by decide) ?_
  refine J_bipush (pc := 3) (v := 122) C dX8_kindOf_3 (by decide) ?_
  refine J_callSNI (pc := 5) (As := [.int xp0, .int (97 : Int32), .int (122 : Int32)]) (rest := []) C (fun z hz => mX9_within xp0 (97 : Int32) (122 : Int32) h0 z hz) mwX9_within "GoldLeaves" (by decide +kernel) stX9_within rfl dX8_kindOf_5 (by decide) rfl (Nat.le_of_ble_eq_true rfl) (by decide) (fun x2 h1 => ?_)
  refine J_if_eq (pc := 8) (tgt := 13) C dX8_kindOf_8 (by decide) ?_ ?_
  · refine J_iload_n (pc := 13) C dX8_kindOf_13 rfl 0 rfl ?_
    refine J_bipush (pc := 14) (v := 48) C dX8_kindOf_14 (by decide) ?_
    refine J_bipush (pc := 16) (v := 57) C dX8_kindOf_16 (by decide) ?_
    refine J_callSNI (pc := 18) (As := [.int xp0, .int (48 : Int32), .int (57 : Int32)]) (rest := []) C (fun z hz => mX9_within xp0 (48 : Int32) (57 : Int32) h1 z hz) mwX9_within "GoldLeaves" (by decide +kernel) stX9_within rfl dX8_kindOf_18 (by decide) rfl (Nat.le_of_ble_eq_true rfl) (by decide) (fun x4 h3 => ?_)
    refine J_if_eq (pc := 21) (tgt := 28) C dX8_kindOf_21 (by decide) ?_ ?_
    · refine J_iconst (pc := 28) (v := 3) C dX8_kindOf_28 (by decide) ?_
      exact J_iret (pc := 29) C hr dX8_kindOf_29
    · refine J_iconst (pc := 24) (v := 2) C dX8_kindOf_24 (by decide) ?_
      refine J_goto (pc := 25) (tgt := 29) C dX8_kindOf_25 (by decide) ?_
      exact J_iret (pc := 29) C hr dX8_kindOf_29
  · refine J_iconst (pc := 11) (v := 1) C dX8_kindOf_11 (by decide) ?_
    exact J_iret (pc := 12) C hr dX8_kindOf_12
theorem mX8_kindOf {l : Launch} {G : GX} (xp0 : Int32) (h0 : PH) : ∀ z, fX8_kindOf xp0 h0 = some z → MC l G yX8_kindOf cX8_kindOf 1 (some .int) rmX8_kindOf [.int xp0] h0 (rvI z.1) z.2 :=
  Met_J (own := RX8) (by decide) rfl (Nat.le_of_ble_eq_true rfl) (fun p e s m args below meth c C hr hn => vfX8_kindOf C hr xp0 h0)

