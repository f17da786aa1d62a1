theorem dX9_dry_0 : decode cX9_dry 0 = .ok (.aload_n 0, 1) := by decide +kernel
theorem dX9_dry_1 : decode cX9_dry 1 = .ok (.aload_n 0, 1) := by decide +kernel
theorem dX9_dry_2 : decode cX9_dry 2 = .ok (.getfield 38, 3) := by decide +kernel
theorem dX9_dry_5 : decode cX9_dry 5 = .ok (.iload_n 1, 1) := by decide +kernel
theorem dX9_dry_6 : decode cX9_dry 6 = .ok (.iload_n 2, 1) := by decide +kernel
theorem dX9_dry_7 : decode cX9_dry 7 = .ok (.invokevirtual 133, 3) := by decide +kernel
theorem dX9_dry_10 : decode cX9_dry 10 = .ok (.invokevirtual 70, 3) := by decide +kernel
theorem dX9_dry_13 : decode cX9_dry 13 = .ok (.ireturn, 1) := by decide +kernel
def rmX9_dry : Room := { frames := 2, cells := 0, slots := 0, locals := 45 }
def fX9_dry  (a0 : Nat) (xp0 : Int32) (xp1 : Int32) (h0 : PH) : Option (Int32 × PH) :=
    bn (rdR 9 4 a0 h0) fun a1 =>
    bn (chk 6 a1 h0) fun _ => bn2 (fX6_changeDryness a1 xp0 xp1 h0) fun x3 h2 =>
    bn (chk 9 a0 h2) fun _ => bn2 (fX9_noted a0 x3 h2) fun x5 h4 =>
    some (x5, h4)
set_option maxHeartbeats 4000000 in
set_option maxRecDepth 100000 in
theorem vfX9_dry {p : Program} {l : Launch} {e : Env} {s : State} {m : MethodId} {args : Array Value} {below : List Frame} {meth : Method} {c : Code} {G : GX} (C : Cx p s m args meth c G cX9_dry 3 RX9) (hr : meth.sig.returnType = (some .int)) (a0 : Nat) (xp0 : Int32) (xp1 : Int32) (h0 : PH) : J p l e rmX9_dry s m args below meth c G 3 (qM below args s rvI G 0 0) 0 0 h0 0 [(0, .ref a0), (1, .int xp0), (2, .int xp1)] [] (fX9_dry  a0 xp0 xp1 h0) := by
  unfold fX9_dry
  refine J_aload_n (pc := 0) C dX9_dry_0 rfl 0 rfl ?_
  refine J_aload_n (pc := 1) C dX9_dry_1 rfl 0 rfl ?_
  refine J_getR (pc := 2) C flX9_38 dX9_dry_2 (fun a1 => ?_)
  refine J_iload_n (pc := 5) C dX9_dry_5 rfl 1 rfl ?_
  refine J_iload_n (pc := 6) C dX9_dry_6 rfl 2 rfl ?_
  refine J_callVI (pc := 7) (As := [.int xp0, .int xp1]) (rest := [.ref a0]) C (fun z hz => mX6_changeDryness a1 xp0 xp1 h0 z hz) mwX6_changeDryness csX6_changeDryness mlX9_133 inX6_changeDryness rfl dX9_dry_7 (by decide) rfl (Nat.le_of_ble_eq_true rfl) (by decide) (fun x3 h2 => ?_)
  refine J_callVI (pc := 10) (As := [.int x3]) (rest := []) C (fun z hz => mX9_noted a0 x3 h2 z hz) mwX9_noted csX9_noted mlX9_70 inX9_noted rfl dX9_dry_10 (by decide) rfl (Nat.le_of_ble_eq_true rfl) (by decide) (fun x5 h4 => ?_)
  exact J_iret (pc := 13) C hr dX9_dry_13
theorem mX9_dry {l : Launch} {G : GX} (a0 : Nat) (xp0 : Int32) (xp1 : Int32) (h0 : PH) : ∀ z, fX9_dry a0 xp0 xp1 h0 = some z → MC l G yX9_dry cX9_dry 3 (some .int) rmX9_dry [.ref a0, .int xp0, .int xp1] h0 (rvI z.1) z.2 :=
  Met_J (own := RX9) (by decide) rfl (Nat.le_of_ble_eq_true rfl) (fun p e s m args below meth c C hr hn => vfX9_dry C hr a0 xp0 xp1 h0)

theorem dX10_isSkin_0 : decode cX10_isSkin 0 = .ok (.iload_n 1, 1) := by decide +kernel
theorem dX10_isSkin_1 : decode cX10_isSkin 1 = .ok (.i2l, 1) := by decide +kernel
theorem dX10_isSkin_2 : decode cX10_isSkin 2 = .ok (.lconst 0, 1) := by decide +kernel
theorem dX10_isSkin_3 : decode cX10_isSkin 3 = .ok (.aload_n 0, 1) := by decide +kernel
theorem dX10_isSkin_4 : decode cX10_isSkin 4 = .ok (.getfield 210, 3) := by decide +kernel
theorem dX10_isSkin_7 : decode cX10_isSkin 7 = .ok (.i2l, 1) := by decide +kernel
theorem dX10_isSkin_8 : decode cX10_isSkin 8 = .ok (.lconst 1, 1) := by decide +kernel
theorem dX10_isSkin_9 : decode cX10_isSkin 9 = .ok (.lsub, 1) := by decide +kernel
theorem dX10_isSkin_10 : decode cX10_isSkin 10 = .ok (.invokestatic 99, 3) := by decide +kernel
theorem dX10_isSkin_13 : decode cX10_isSkin 13 = .ok (.ireturn, 1) := by decide +kernel
def rmX10_isSkin : Room := { frames := 1, cells := 0, slots := 0, locals := 25 }
def fX10_isSkin  (a0 : Nat) (xp0 : Int32) (h0 : PH) : Option (Int32 × PH) :=
    bn (rdI 10 27 a0 h0) fun x1 =>
    bn2 (fX10_in xp0.toInt64 (0 : Int64) (x1.toInt64 - (1 : Int64)) h0) fun x3 h2 =>
    if x3 = 0 ∨ x3 = 1 then some (x3, h2) else none
set_option maxHeartbeats 4000000 in
set_option maxRecDepth 100000 in
theorem vfX10_isSkin {p : Program} {l : Launch} {e : Env} {s : State} {m : MethodId} {args : Array Value} {below : List Frame} {meth : Method} {c : Code} {G : GX} (C : Cx p s m args meth c G cX10_isSkin 2 RX10) (hr : meth.sig.returnType = (some .boolean)) (a0 : Nat) (xp0 : Int32) (h0 : PH) : J p l e rmX10_isSkin s m args below meth c G 2 (qM below args s rvI G 0 0) 0 0 h0 0 [(0, .ref a0), (1, .int xp0)] [] (fX10_isSkin  a0 xp0 h0) := by
  unfold fX10_isSkin
  refine J_iload_n (pc := 0) C dX10_isSkin_0 rfl 1 rfl ?_
  refine J_i2l (pc := 1) C dX10_isSkin_1 ?_
  refine J_lconst (pc := 2) (v := 0) C dX10_isSkin_2 (by decide) ?_
  refine J_aload_n (pc := 3) C dX10_isSkin_3 rfl 0 rfl ?_
  refine J_getI (pc := 4) C flX10_210 dX10_isSkin_4 (fun x1 => ?_)
  refine J_i2l (pc := 7) C dX10_isSkin_7 ?_
  refine J_lconst (pc := 8) (v := 1) C dX10_isSkin_8 (by decide) ?_
  refine J_lsub (pc := 9) C dX10_isSkin_9 ?_
  refine J_callSI (pc := 10) (As := [.long xp0.toInt64, .long (0 : Int64), .long (x1.toInt64 - (1 : Int64))]) (rest := []) C (fun z hz => mX10_in xp0.toInt64 (0 : Int64) (x1.toInt64 - (1 : Int64)) h0 z hz) mwX10_in mlX10_99 stX10_in rfl dX10_isSkin_10 (by decide) rfl (Nat.le_of_ble_eq_true rfl) (by decide) (fun x3 h2 => ?_)
  exact J_zretC (pc := 13) C hr dX10_isSkin_13
theorem mX10_isSkin {l : Launch} {G : GX} (a0 : Nat) (xp0 : Int32) (h0 : PH) : ∀ z, fX10_isSkin a0 xp0 h0 = some z → MC l G yX10_isSkin cX10_isSkin 2 (some .boolean) rmX10_isSkin [.ref a0, .int xp0] h0 (rvI z.1) z.2 :=
  Met_J (own := RX10) (by decide) rfl (Nat.le_of_ble_eq_true rfl) (fun p e s m args below meth c C hr hn => vfX10_isSkin C hr a0 xp0 h0)

theorem dX10_dry_0 : decode cX10_dry 0 = .ok (.aload_n 0, 1) := by decide +kernel
theorem dX10_dry_1 : decode cX10_dry 1 = .ok (.iconst 0, 1) := by decide +kernel
theorem dX10_dry_2 : decode cX10_dry 2 = .ok (.putfield 90, 3) := by decide +kernel
theorem dX10_dry_5 : decode cX10_dry 5 = .ok (.iload_n 2, 1) := by decide +kernel
theorem dX10_dry_6 : decode cX10_dry 6 = .ok (.i2l, 1) := by decide +kernel
theorem dX10_dry_7 : decode cX10_dry 7 = .ok (.lconst 0, 1) := by decide +kernel
theorem dX10_dry_8 : decode cX10_dry 8 = .ok (.ldc2_w 213, 3) := by decide +kernel
theorem dX10_dry_11 : decode cX10_dry 11 = .ok (.invokestatic 99, 3) := by decide +kernel
theorem dX10_dry_14 : decode cX10_dry 14 = .ok (.ifCond .ne 9, 3) := by decide +kernel
theorem dX10_dry_17 : decode cX10_dry 17 = .ok (.aload_n 0, 1) := by decide +kernel
theorem dX10_dry_18 : decode cX10_dry 18 = .ok (.iconst (-1), 1) := by decide +kernel
theorem dX10_dry_19 : decode cX10_dry 19 = .ok (.invokevirtual 107, 3) := by decide +kernel
theorem dX10_dry_22 : decode cX10_dry 22 = .ok (.ireturn, 1) := by decide +kernel
theorem dX10_dry_23 : decode cX10_dry 23 = .ok (.aload_n 0, 1) := by decide +kernel
theorem dX10_dry_24 : decode cX10_dry 24 = .ok (.iload_n 1, 1) := by decide +kernel
theorem dX10_dry_25 : decode cX10_dry 25 = .ok (.invokevirtual 215, 3) := by decide +kernel
theorem dX10_dry_28 : decode cX10_dry 28 = .ok (.ifCond .ne 10, 3) := by decide +kernel
theorem dX10_dry_31 : decode cX10_dry 31 = .ok (.aload_n 0, 1) := by decide +kernel
theorem dX10_dry_32 : decode cX10_dry 32 = .ok (.bipush (-2), 2) := by decide +kernel
theorem dX10_dry_34 : decode cX10_dry 34 = .ok (.invokevirtual 107, 3) := by decide +kernel
theorem dX10_dry_37 : decode cX10_dry 37 = .ok (.ireturn, 1) := by decide +kernel
theorem dX10_dry_38 : decode cX10_dry 38 = .ok (.aload_n 0, 1) := by decide +kernel
theorem dX10_dry_39 : decode cX10_dry 39 = .ok (.getfield 51, 3) := by decide +kernel
theorem dX10_dry_42 : decode cX10_dry 42 = .ok (.iload_n 1, 1) := by decide +kernel
theorem dX10_dry_43 : decode cX10_dry 43 = .ok (.iaload, 1) := by decide +kernel
theorem dX10_dry_44 : decode cX10_dry 44 = .ok (.istore_n 3, 1) := by decide +kernel
theorem dX10_dry_45 : decode cX10_dry 45 = .ok (.aload_n 0, 1) := by decide +kernel
theorem dX10_dry_46 : decode cX10_dry 46 = .ok (.getfield 51, 3) := by decide +kernel
theorem dX10_dry_49 : decode cX10_dry 49 = .ok (.iload_n 1, 1) := by decide +kernel
theorem dX10_dry_50 : decode cX10_dry 50 = .ok (.iload_n 2, 1) := by decide +kernel
theorem dX10_dry_51 : decode cX10_dry 51 = .ok (.iastore, 1) := by decide +kernel
theorem dX10_dry_52 : decode cX10_dry 52 = .ok (.aload_n 0, 1) := by decide +kernel
theorem dX10_dry_53 : decode cX10_dry 53 = .ok (.iload_n 3, 1) := by decide +kernel
theorem dX10_dry_54 : decode cX10_dry 54 = .ok (.invokevirtual 107, 3) := by decide +kernel
theorem dX10_dry_57 : decode cX10_dry 57 = .ok (.ireturn, 1) := by decide +kernel
def rmX10_dry : Room := { frames := 2, cells := 0, slots := 0, locals := 46 }
def fX10_dry  (a0 : Nat) (xp0 : Int32) (xp1 : Int32) (h0 : PH) : Option (Int32 × PH) :=
    bn (wr 10 0 (.int (0 : Int32)) a0 h0) fun h1 =>
    bn2 (fX10_in xp1.toInt64 (0 : Int64) (100 : Int64) h1) fun x3 h2 =>
    if x3 = 0 then (bn (chk 10 a0 h2) fun _ => bn2 (fX10_told a0 (-1 : Int32) h2) fun x15 h14 =>
    some (x15, h14)) else
    bn (chk 10 a0 h2) fun _ => bn2 (fX10_isSkin a0 xp0 h2) fun x5 h4 =>
    if x5 = 0 then (bn (chk 10 a0 h4) fun _ => bn2 (fX10_told a0 (-2 : Int32) h4) fun x13 h12 =>
    some (x13, h12)) else
    bn (rdR 10 28 a0 h4) fun a6 =>
    bn (aldI 0 a6 xp0 h4) fun x7 =>
    bn (rdR 10 28 a0 h4) fun a8 =>
    bn (astI a8 xp0 xp1 h4) fun h9 =>
    bn (chk 10 a0 h9) fun _ => bn2 (fX10_told a0 x7 h9) fun x11 h10 =>
    some (x11, h10)
set_option maxHeartbeats 4000000 in
set_option maxRecDepth 100000 in
theorem vfX10_dry {p : Program} {l : Launch} {e : Env} {s : State} {m : MethodId} {args : Array Value} {below : List Frame} {meth : Method} {c : Code} {G : GX} (C : Cx p s m args meth c G cX10_dry 4 RX10) (hr : meth.sig.returnType = (some .int)) (a0 : Nat) (xp0 : Int32) (xp1 : Int32) (h0 : PH) : J p l e rmX10_dry s m args below meth c G 4 (qM below args s rvI G 0 0) 0 0 h0 0 [(0, .ref a0), (1, .int xp0), (2, .int xp1)] [] (fX10_dry  a0 xp0 xp1 h0) := by
  unfold fX10_dry
  refine J_aload_n (pc := 0) C dX10_dry_0 rfl 0 rfl ?_
  refine J_iconst (pc := 1) (v := 0) C dX10_dry_1 (by decide) ?_
  refine J_put (pc := 2) C flX10_90 cl10 ft10_0 rfl rfl dX10_dry_2 (fun h1 => ?_)
  refine J_iload_n (pc := 5) C dX10_dry_5 rfl 2 rfl ?_
  refine J_i2l (pc := 6) C dX10_dry_6 ?_
  refine J_lconst (pc := 7) (v := 0) C dX10_dry_7 (by decide) ?_
  refine J_ldc2 (pc := 8) C kjX10_213 dX10_dry_8 ?_
  refine J_callSI (pc := 11) (As := [.long xp1.toInt64, .long (0 : Int64), .long (100 : Int64)]) (rest := []) C (fun z hz => mX10_in xp1.toInt64 (0 : Int64) (100 : Int64) h1 z hz) mwX10_in mlX10_99 stX10_in rfl dX10_dry_11 (by decide) rfl (Nat.le_of_ble_eq_true rfl) (by decide) (fun x3 h2 => ?_)
  refine J_if_ne (pc := 14) (tgt := 23) C dX10_dry_14 (by decide) ?_ ?_
  · refine J_aload_n (pc := 23) C dX10_dry_23 rfl 0 rfl ?_
    refine J_iload_n (pc := 24) C dX10_dry_24 rfl 1 rfl ?_
    refine J_callVI (pc := 25) (As := [.int xp0]) (rest := []) C (fun z hz => mX10_isSkin a0 xp0 h2 z hz) mwX10_isSkin csX10_isSkin mlX10_215 inX10_isSkin rfl dX10_dry_25 (by decide) rfl (Nat.le_of_ble_eq_true rfl) (by decide) (fun x5 h4 => ?_)
    refine J_if_ne (pc := 28) (tgt := 38) C dX10_dry_28 (by decide) ?_ ?_
    · refine J_aload_n (pc := 38) C dX10_dry_38 rfl 0 rfl ?_
      refine J_getR (pc := 39) C flX10_51 dX10_dry_39 (fun a6 => ?_)
      refine J_iload_n (pc := 42) C dX10_dry_42 rfl 1 rfl ?_
      refine J_iald (pc := 43) C dX10_dry_43 (fun x7 => ?_)
      refine J_istore_n (pc := 44) (lv1 := [(3, .int x7), (0, .ref a0), (1, .int xp0), (2, .int xp1)]) C dX10_dry_44 rfl (by decide) rfl ?_
      refine J_aload_n (pc := 45) C dX10_dry_45 rfl 1 rfl ?_
      refine J_getR (pc := 46) C flX10_51 dX10_dry_46 (fun a8 => ?_)
      refine J_iload_n (pc := 49) C dX10_dry_49 rfl 2 rfl ?_
      refine J_iload_n (pc := 50) C dX10_dry_50 rfl 3 rfl ?_
      refine J_iast (pc := 51) C dX10_dry_51 (fun h9 => ?_)
      refine J_aload_n (pc := 52) C dX10_dry_52 rfl 1 rfl ?_
      refine J_iload_n (pc := 53) C dX10_dry_53 rfl 0 rfl ?_
      refine J_callVI (pc := 54) (As := [.int x7]) (rest := []) C (fun z hz => mX10_told a0 x7 h9 z hz) mwX10_told csX10_told mlX10_107 inX10_told rfl dX10_dry_54 (by decide) rfl (Nat.le_of_ble_eq_true rfl) (by decide) (fun x11 h10 => ?_)
      exact J_iret (pc := 57) C hr dX10_dry_57
    · refine J_aload_n (pc := 31) C dX10_dry_31 rfl 0 rfl ?_
      refine J_bipush (pc := 32) (v := -2) C dX10_dry_32 (by decide) ?_
      refine J_callVI (pc := 34) (As := [.int (-2 : Int32)]) (rest := []) C (fun z hz => mX10_told a0 (-2 : Int32) h4 z hz) mwX10_told csX10_told mlX10_107 inX10_told rfl dX10_dry_34 (by decide) rfl (Nat.le_of_ble_eq_true rfl) (by decide) (fun x13 h12 => ?_)
      exact J_iret (pc := 37) C hr dX10_dry_37
  · refine J_aload_n (pc := 17) C dX10_dry_17 rfl 0 rfl ?_
    refine J_iconst (pc := 18) (v := -1) C dX10_dry_18 (by decide) ?_
    refine J_callVI (pc := 19) (As := [.int (-1 : Int32)]) (rest := []) C (fun z hz => mX10_told a0 (-1 : Int32) h2 z hz) mwX10_told csX10_told mlX10_107 inX10_told rfl dX10_dry_19 (by decide) rfl (Nat.le_of_ble_eq_true rfl) (by decide) (fun x15 h14 => ?_)
    exact J_iret (pc := 22) C hr dX10_dry_22
theorem mX10_dry {l : Launch} {G : GX} (a0 : Nat) (xp0 : Int32) (xp1 : Int32) (h0 : PH) : ∀ z, fX10_dry a0 xp0 xp1 h0 = some z → MC l G yX10_dry cX10_dry 4 (some .int) rmX10_dry [.ref a0, .int xp0, .int xp1] h0 (rvI z.1) z.2 :=
  Met_J (own := RX10) (by decide) rfl (Nat.le_of_ble_eq_true rfl) (fun p e s m args below meth c C hr hn => vfX10_dry C hr a0 xp0 xp1 h0)

theorem dX9_age_0 : decode cX9_age 0 = .ok (.aload_n 0, 1) := by decide +kernel
theorem dX9_age_1 : decode cX9_age 1 = .ok (.getfield 38, 3) := by decide +kernel
theorem dX9_age_4 : decode cX9_age 4 = .ok (.iload_n 1, 1) := by decide +kernel
theorem dX9_age_5 : decode cX9_age 5 = .ok (.invokevirtual 136, 3) := by decide +kernel
theorem dX9_age_8 : decode cX9_age 8 = .ok (.ifCond .eq 15, 3) := by decide +kernel
theorem dX9_age_11 : decode cX9_age 11 = .ok (.aload_n 0, 1) := by decide +kernel
theorem dX9_age_12 : decode cX9_age 12 = .ok (.getfield 38, 3) := by decide +kernel
theorem dX9_age_15 : decode cX9_age 15 = .ok (.getfield 140, 3) := by decide +kernel
theorem dX9_age_18 : decode cX9_age 18 = .ok (.iload_n 1, 1) := by decide +kernel
theorem dX9_age_19 : decode cX9_age 19 = .ok (.iaload, 1) := by decide +kernel
theorem dX9_age_20 : decode cX9_age 20 = .ok (.goto 4, 3) := by decide +kernel
theorem dX9_age_23 : decode cX9_age 23 = .ok (.iconst (-1), 1) := by decide +kernel
theorem dX9_age_24 : decode cX9_age 24 = .ok (.ireturn, 1) := by decide +kernel
def rmX9_age : Room := { frames := 1, cells := 0, slots := 0, locals := 21 }
def fX9_age  (a0 : Nat) (xp0 : Int32) (h0 : PH) : Option (Int32 × PH) :=
    bn (rdR 9 4 a0 h0) fun a1 =>
    bn (chk 6 a1 h0) fun _ => bn2 (fX6_has a1 xp0 h0) fun x3 h2 =>
    if x3 = 0 then (some ((-1 : Int32), h2)) else
    bn (rdR 9 4 a0 h2) fun a4 =>
    bn (rdR 6 1 a4 h2) fun a5 =>
    bn (aldI 0 a5 xp0 h2) fun x6 =>
    some (x6, h2)
set_option maxHeartbeats 4000000 in
set_option maxRecDepth 100000 in
theorem vfX9_age {p : Program} {l : Launch} {e : Env} {s : State} {m : MethodId} {args : Array Value} {below : List Frame} {meth : Method} {c : Code} {G : GX} (C : Cx p s m args meth c G cX9_age 2 RX9) (hr : meth.sig.returnType = (some .int)) (a0 : Nat) (xp0 : Int32) (h0 : PH) : J p l e rmX9_age s m args below meth c G 2 (qM below args s rvI G 0 0) 0 0 h0 0 [(0, .ref a0), (1, .int xp0)] [] (fX9_age  a0 xp0 h0) := by
  unfold fX9_age
  refine J_aload_n (pc := 0) C dX9_age_0 rfl 0 rfl ?_
  refine J_getR (pc := 1) C flX9_38 dX9_age_1 (fun a1 => ?_)
  refine J_iload_n (pc := 4) C dX9_age_4 rfl 1 rfl ?_
  refine J_callVI (pc := 5) (As := [.int xp0]) (rest := []) C (fun z hz => mX6_has a1 xp0 h0 z hz) mwX6_has csX6_has mlX9_136 inX6_has rfl dX9_age_5 (by decide) rfl (Nat.le_of_ble_eq_true rfl) (by decide) (fun x3 h2 => ?_)
  refine J_if_eq (pc := 8) (tgt := 23) C dX9_age_8 (by decide) ?_ ?_
  · refine J_iconst (pc := 23) (v := -1) C dX9_age_23 (by decide) ?_
    exact J_iret (pc := 24) C hr dX9_age_24
  · refine J_aload_n (pc := 11) C dX9_age_11 rfl 0 rfl ?_
    refine J_getR (pc := 12) C flX9_38 dX9_age_12 (fun a4 => ?_)
    refine J_getR (pc := 15) C flX9_140 dX9_age_15 (fun a5 => ?_)
    refine J_iload_n (pc := 18) C dX9_age_18 rfl 1 rfl ?_
    refine J_iald (pc := 19) C dX9_age_19 (fun x6 => ?_)
    refine J_goto (pc := 20) (tgt := 24) C dX9_age_20 (by decide) ?_
    exact J_iret (pc := 24) C hr dX9_age_24
theorem mX9_age {l : Launch} {G : GX} (a0 : Nat) (xp0 : Int32) (h0 : PH) : ∀ z, fX9_age a0 xp0 h0 = some z → MC l G yX9_age cX9_age 2 (some .int) rmX9_age [.ref a0, .int xp0] h0 (rvI z.1) z.2 :=
  Met_J (own := RX9) (by decide) rfl (Nat.le_of_ble_eq_true rfl) (fun p e s m args below meth c C hr hn => vfX9_age C hr a0 xp0 h0)

theorem dX10_age_0 : decode cX10_age 0 = .ok (.aload_n 0, 1) := by decide +kernel
theorem dX10_age_1 : decode cX10_age 1 = .ok (.iconst 0, 1) := by decide +kernel
theorem dX10_age_2 : decode cX10_age 2 = .ok (.putfield 90, 3) := by decide +kernel
theorem dX10_age_5 : decode cX10_age 5 = .ok (.aload_n 0, 1) := by decide +kernel
theorem dX10_age_6 : decode cX10_age 6 = .ok (.iload_n 1, 1) := by decide +kernel
theorem dX10_age_7 : decode cX10_age 7 = .ok (.invokevirtual 215, 3) := by decide +kernel
theorem dX10_age_10 : decode cX10_age 10 = .ok (.ifCond .eq 12, 3) := by decide +kernel
theorem dX10_age_13 : decode cX10_age 13 = .ok (.aload_n 0, 1) := by decide +kernel
theorem dX10_age_14 : decode cX10_age 14 = .ok (.getfield 54, 3) := by decide +kernel
theorem dX10_age_17 : decode cX10_age 17 = .ok (.iload_n 1, 1) := by decide +kernel
theorem dX10_age_18 : decode cX10_age 18 = .ok (.iaload, 1) := by decide +kernel
theorem dX10_age_19 : decode cX10_age 19 = .ok (.goto 4, 3) := by decide +kernel
theorem dX10_age_22 : decode cX10_age 22 = .ok (.iconst (-1), 1) := by decide +kernel
theorem dX10_age_23 : decode cX10_age 23 = .ok (.ireturn, 1) := by decide +kernel
def rmX10_age : Room := { frames := 2, cells := 0, slots := 0, locals := 46 }
def fX10_age  (a0 : Nat) (xp0 : Int32) (h0 : PH) : Option (Int32 × PH) :=
    bn (wr 10 0 (.int (0 : Int32)) a0 h0) fun h1 =>
    bn (chk 10 a0 h1) fun _ => bn2 (fX10_isSkin a0 xp0 h1) fun x3 h2 =>
    if x3 = 0 then (some ((-1 : Int32), h2)) else
    bn (rdR 10 29 a0 h2) fun a4 =>
    bn (aldI 0 a4 xp0 h2) fun x5 =>
    some (x5, h2)
set_option maxHeartbeats 4000000 in
set_option maxRecDepth 100000 in
theorem vfX10_age {p : Program} {l : Launch} {e : Env} {s : State} {m : MethodId} {args : Array Value} {below : List Frame} {meth : Method} {c : Code} {G : GX} (C : Cx p s m args meth c G cX10_age 2 RX10) (hr : meth.sig.returnType = (some .int)) (a0 : Nat) (xp0 : Int32) (h0 : PH) : J p l e rmX10_age s m args below meth c G 2 (qM below args s rvI G 0 0) 0 0 h0 0 [(0, .ref a0), (1, .int xp0)] [] (fX10_age  a0 xp0 h0) := by
  unfold fX10_age
  refine J_aload_n (pc := 0) C dX10_age_0 rfl 0 rfl ?_
  refine J_iconst (pc := 1) (v := 0) C dX10_age_1 (by decide) ?_
  refine J_put (pc := 2) C flX10_90 cl10 ft10_0 rfl rfl dX10_age_2 (fun h1 => ?_)
  refine J_aload_n (pc := 5) C dX10_age_5 rfl 0 rfl ?_
  refine J_iload_n (pc := 6) C dX10_age_6 rfl 1 rfl ?_
  refine J_callVI (pc := 7) (As := [.int xp0]) (rest := []) C (fun z hz => mX10_isSkin a0 xp0 h1 z hz) mwX10_isSkin csX10_isSkin mlX10_215 inX10_isSkin rfl dX10_age_7 (by decide) rfl (Nat.le_of_ble_eq_true rfl) (by decide) (fun x3 h2 => ?_)
  refine J_if_eq (pc := 10) (tgt := 22) C dX10_age_10 (by decide) ?_ ?_
  · refine J_iconst (pc := 22) (v := -1) C dX10_age_22 (by decide) ?_
    exact J_iret (pc := 23) C hr dX10_age_23
  · refine J_aload_n (pc := 13) C dX10_age_13 rfl 0 rfl ?_
    refine J_getR (pc := 14) C flX10_54 dX10_age_14 (fun a4 => ?_)
    refine J_iload_n (pc := 17) C dX10_age_17 rfl 1 rfl ?_
    refine J_iald (pc := 18) C dX10_age_18 (fun x5 => ?_)
    refine J_goto (pc := 19) (tgt := 23) C dX10_age_19 (by decide) ?_
    exact J_iret (pc := 23) C hr dX10_age_23
theorem mX10_age {l : Launch} {G : GX} (a0 : Nat) (xp0 : Int32) (h0 : PH) : ∀ z, fX10_age a0 xp0 h0 = some z → MC l G yX10_age cX10_age 2 (some .int) rmX10_age [.ref a0, .int xp0] h0 (rvI z.1) z.2 :=
  Met_J (own := RX10) (by decide) rfl (Nat.le_of_ble_eq_true rfl) (fun p e s m args below meth c C hr hn => vfX10_age C hr a0 xp0 h0)

theorem dX6_needOf_0 : decode cX6_needOf 0 = .ok (.iload_n 1, 1) := by decide +kernel
theorem dX6_needOf_1 : decode cX6_needOf 1 = .ok (.ifCond .lt 21, 3) := by decide +kernel
theorem dX6_needOf_4 : decode cX6_needOf 4 = .ok (.iload_n 1, 1) := by decide +kernel
theorem dX6_needOf_5 : decode cX6_needOf 5 = .ok (.aload_n 0, 1) := by decide +kernel
theorem dX6_needOf_6 : decode cX6_needOf 6 = .ok (.getfield 12, 3) := by decide +kernel
theorem dX6_needOf_9 : decode cX6_needOf 9 = .ok (.arraylength, 1) := by decide +kernel
theorem dX6_needOf_10 : decode cX6_needOf 10 = .ok (.if_icmp .ge 12, 3) := by decide +kernel
theorem dX6_needOf_13 : decode cX6_needOf 13 = .ok (.aload_n 0, 1) := by decide +kernel
theorem dX6_needOf_14 : decode cX6_needOf 14 = .ok (.getfield 12, 3) := by decide +kernel
theorem dX6_needOf_17 : decode cX6_needOf 17 = .ok (.iload_n 1, 1) := by decide +kernel
theorem dX6_needOf_18 : decode cX6_needOf 18 = .ok (.aaload, 1) := by decide +kernel
theorem dX6_needOf_19 : decode cX6_needOf 19 = .ok (.goto 4, 3) := by decide +kernel
theorem dX6_needOf_22 : decode cX6_needOf 22 = .ok (.aconst_null, 1) := by decide +kernel
theorem dX6_needOf_23 : decode cX6_needOf 23 = .ok (.areturn, 1) := by decide +kernel
def rmX6_needOf : Room := { frames := 0, cells := 0, slots := 0, locals := 0 }
def fX6_needOf  (a0 : Nat) (xp0 : Int32) (h0 : PH) : Option (Option Nat × PH) :=
    if xp0 < 0 then (some (none, h0)) else
    bn (rdR 6 0 a0 h0) fun a1 =>
    bn (alenR 4 a1 h0) fun x2 =>
    if x2 ≤ xp0 then (some (none, h0)) else
    bn (rdR 6 0 a0 h0) fun a3 =>
    bn (aldR 4 a3 xp0 h0) fun o4 =>
    some (o4, h0)
set_option maxHeartbeats 4000000 in
set_option maxRecDepth 100000 in
theorem vfX6_needOf {p : Program} {l : Launch} {e : Env} {s : State} {m : MethodId} {args : Array Value} {below : List Frame} {meth : Method} {c : Code} {G : GX} (C : Cx p s m args meth c G cX6_needOf 2 RX6) (hr : meth.sig.returnType = (some (.object "GoldLeaves$PackNeed"))) (a0 : Nat) (xp0 : Int32) (h0 : PH) : J p l e rmX6_needOf s m args below meth c G 2 (qM below args s rvR G 0 0) 0 0 h0 0 [(0, .ref a0), (1, .int xp0)] [] (fX6_needOf  a0 xp0 h0) := by
  unfold fX6_needOf
  refine J_iload_n (pc := 0) C dX6_needOf_0 rfl 1 rfl ?_
  refine J_if_lt (pc := 1) (tgt := 22) C dX6_needOf_1 (by decide) ?_ ?_
  · refine J_null (pc := 22) C dX6_needOf_22 ?_
    exact J_aret (pc := 23) (v := none) C hr dX6_needOf_23
  · refine J_iload_n (pc := 4) C dX6_needOf_4 rfl 1 rfl ?_
    refine J_aload_n (pc := 5) C dX6_needOf_5 rfl 0 rfl ?_
    refine J_getR (pc := 6) C flX6_12 dX6_needOf_6 (fun a1 => ?_)
    refine J_alen (pc := 9) C 4 (.object "GoldLeaves$PackNeed") (fun _ => rfl) dX6_needOf_9 (fun x2 => ?_)
    refine J_icmp_ge (pc := 10) (tgt := 22) C dX6_needOf_10 (by decide) ?_ ?_
    · refine J_null (pc := 22) C dX6_needOf_22 ?_
      exact J_aret (pc := 23) (v := none) C hr dX6_needOf_23
    · refine J_aload_n (pc := 13) C dX6_needOf_13 rfl 0 rfl ?_
      refine J_getR (pc := 14) C flX6_12 dX6_needOf_14 (fun a3 => ?_)
      refine J_iload_n (pc := 17) C dX6_needOf_17 rfl 1 rfl ?_
      refine J_aald (pc := 18) C 4 (.object "GoldLeaves$PackNeed") (fun _ => rfl) rfl dX6_needOf_18 (fun o4 => ?_)
      refine J_goto (pc := 19) (tgt := 23) C dX6_needOf_19 (by decide) ?_
      exact J_aret (pc := 23) (v := o4) C hr dX6_needOf_23
theorem mX6_needOf {l : Launch} {G : GX} (a0 : Nat) (xp0 : Int32) (h0 : PH) : ∀ z, fX6_needOf a0 xp0 h0 = some z → MC l G yX6_needOf cX6_needOf 2 (some (.object "GoldLeaves$PackNeed")) rmX6_needOf [.ref a0, .int xp0] h0 (rvR z.1) z.2 :=
  Met_J (own := RX6) (by decide) rfl (Nat.le_of_ble_eq_true rfl) (fun p e s m args below meth c C hr hn => vfX6_needOf C hr a0 xp0 h0)

theorem dX9_isSpan_0 : decode cX9_isSpan 0 = .ok (.iload_n 0, 1) := by decide +kernel
theorem dX9_isSpan_1 : decode cX9_isSpan 1 = .ok (.ifCond .lt 17, 3) := by decide +kernel
theorem dX9_isSpan_4 : decode cX9_isSpan 4 = .ok (.iload_n 0, 1) := by decide +kernel
theorem dX9_isSpan_5 : decode cX9_isSpan 5 = .ok (.iload_n 1, 1) := by decide +kernel
theorem dX9_isSpan_6 : decode cX9_isSpan 6 = .ok (.if_icmp .gt 12, 3) := by decide +kernel
theorem dX9_isSpan_9 : decode cX9_isSpan 9 = .ok (.iload_n 1, 1) := by decide +kernel
theorem dX9_isSpan_10 : decode cX9_isSpan 10 = .ok (.iload_n 2, 1) := by decide +kernel
theorem dX9_isSpan_11 : decode cX9_isSpan 11 = .ok (.if_icmp .gt 7, 3) := by decide +kernel
theorem dX9_isSpan_14 : decode cX9_isSpan 14 = .ok (.iconst 1, 1) := by decide +kernel
theorem dX9_isSpan_15 : decode cX9_isSpan 15 = .ok (.goto 4, 3) := by decide +kernel
theorem dX9_isSpan_18 : decode cX9_isSpan 18 = .ok (.iconst 0, 1) := by decide +kernel
theorem dX9_isSpan_19 : decode cX9_isSpan 19 = .ok (.ireturn, 1) := by decide +kernel
def rmX9_isSpan : Room := { frames := 0, cells := 0, slots := 0, locals := 0 }
def fX9_isSpan  (xp0 : Int32) (xp1 : Int32) (xp2 : Int32) (h0 : PH) : Option (Int32 × PH) :=
    if xp0 < 0 then (some ((0 : Int32), h0)) else
    if xp1 < xp0 then (some ((0 : Int32), h0)) else
    if xp2 < xp1 then (some ((0 : Int32), h0)) else
    some ((1 : Int32), h0)
set_option maxHeartbeats 4000000 in
set_option maxRecDepth 100000 in
theorem vfX9_isSpan {p : Program} {l : Launch} {e : Env} {s : State} {m : MethodId} {args : Array Value} {below : List Frame} {meth : Method} {c : Code} {G : GX} (C : Cx p s m args meth c G cX9_isSpan 3 RX9) (hr : meth.sig.returnType = (some .boolean)) (xp0 : Int32) (xp1 : Int32) (xp2 : Int32) (h0 : PH) : J p l e rmX9_isSpan s m args below meth c G 3 (qM below args s rvI G 0 0) 0 0 h0 0 [(0, .int xp0), (1, .int xp1), (2, .int xp2)] [] (fX9_isSpan  xp0 xp1 xp2 h0) := by
  unfold fX9_isSpan
  refine J_iload_n (pc := 0) C dX9_isSpan_0 rfl 0 rfl ?_
  refine J_if_lt (pc := 1) (tgt := 18) C dX9_isSpan_1 (by decide) ?_ ?_
  · refine J_iconst (pc := 18) (v := 0) C dX9_isSpan_18 (by decide) ?_
    exact J_zret (pc := 19) C hr rfl dX9_isSpan_19
  · refine J_iload_n (pc := 4) C dX9_isSpan_4 rfl 0 rfl ?_
    refine J_iload_n (pc := 5) C dX9_isSpan_5 rfl 1 rfl ?_
    refine J_icmp_gt (pc := 6) (tgt := 18) C dX9_isSpan_6 (by decide) ?_ ?_
    · refine J_iconst (pc := 18) (v := 0) C dX9_isSpan_18 (by decide) ?_
      exact J_zret (pc := 19) C hr rfl dX9_isSpan_19
    · refine J_iload_n (pc := 9) C dX9_isSpan_9 rfl 1 rfl ?_
      refine J_iload_n (pc := 10) C dX9_isSpan_10 rfl 2 rfl ?_
      refine J_icmp_gt (pc := 11) (tgt := 18) C dX9_isSpan_11 (by decide) ?_ ?_
      · refine J_iconst (pc := 18) (v := 0) C dX9_isSpan_18 (by decide) ?_
        exact J_zret (pc := 19) C hr rfl dX9_isSpan_19
      · refine J_iconst (pc := 14) (v := 1) C dX9_isSpan_14 (by decide) ?_
        refine J_goto (pc := 15) (tgt := 19) C dX9_isSpan_15 (by decide) ?_
        exact J_zret (pc := 19) C hr rfl dX9_isSpan_19
theorem mX9_isSpan {l : Launch} {G : GX} (xp0 : Int32) (xp1 : Int32) (xp2 : Int32) (h0 : PH) : ∀ z, fX9_isSpan xp0 xp1 xp2 h0 = some z → MC l G yX9_isSpan cX9_isSpan 3 (some .boolean) rmX9_isSpan [.int xp0, .int xp1, .int xp2] h0 (rvI z.1) z.2 :=
  Met_J (own := RX9) (by decide) rfl (Nat.le_of_ble_eq_true rfl) (fun p e s m args below meth c C hr hn => vfX9_isSpan C hr xp0 xp1 xp2 h0)

theorem dX9_pack_0 : decode cX9_pack 0 = .ok (.aload_n 0, 1) := by decide +kernel
theorem dX9_pack_1 : decode cX9_pack 1 = .ok (.getfield 38, 3) := by decide +kernel
theorem dX9_pack_4 : decode cX9_pack 4 = .ok (.iload_n 1, 1) := by decide +kernel
theorem dX9_pack_5 : decode cX9_pack 5 = .ok (.invokevirtual 143, 3) := by decide +kernel
theorem dX9_pack_8 : decode cX9_pack 8 = .ok (.astore 7, 2) := by decide +kernel
theorem dX9_pack_10 : decode cX9_pack 10 = .ok (.aload 7, 2) := by decide +kernel
theorem dX9_pack_12 : decode cX9_pack 12 = .ok (.ifnull 36, 3) := by decide +kernel
theorem dX9_pack_15 : decode cX9_pack 15 = .ok (.iload_n 2, 1) := by decide +kernel
theorem dX9_pack_16 : decode cX9_pack 16 = .ok (.iconst 1, 1) := by decide +kernel
theorem dX9_pack_17 : decode cX9_pack 17 = .ok (.bipush 20, 2) := by decide +kernel
theorem dX9_pack_19 : decode cX9_pack 19 = .ok (.invokestatic 97, 3) := by decide +kernel
theorem dX9_pack_22 : decode cX9_pack 22 = .ok (.ifCond .eq 26, 3) := by decide +kernel
theorem dX9_pack_25 : decode cX9_pack 25 = .ok (.iload_n 3, 1) := by decide +kernel
theorem dX9_pack_26 : decode cX9_pack 26 = .ok (.iload 4, 2) := by decide +kernel
theorem dX9_pack_28 : decode cX9_pack 28 = .ok (.bipush 100, 2) := by decide +kernel
theorem dX9_pack_30 : decode cX9_pack 30 = .ok (.invokestatic 147, 3) := by decide +kernel
theorem dX9_pack_33 : decode cX9_pack 33 = .ok (.ifCond .eq 15, 3) := by decide +kernel
theorem dX9_pack_36 : decode cX9_pack 36 = .ok (.iload 5, 2) := by decide +kernel
theorem dX9_pack_38 : decode cX9_pack 38 = .ok (.iload 6, 2) := by decide +kernel
theorem dX9_pack_40 : decode cX9_pack 40 = .ok (.bipush 100, 2) := by decide +kernel
theorem dX9_pack_42 : decode cX9_pack 42 = .ok (.invokestatic 147, 3) := by decide +kernel
theorem dX9_pack_45 : decode cX9_pack 45 = .ok (.ifCond .ne 9, 3) := by decide +kernel
theorem dX9_pack_48 : decode cX9_pack 48 = .ok (.aload_n 0, 1) := by decide +kernel
theorem dX9_pack_49 : decode cX9_pack 49 = .ok (.iconst (-1), 1) := by decide +kernel
theorem dX9_pack_50 : decode cX9_pack 50 = .ok (.invokevirtual 70, 3) := by decide +kernel
theorem dX9_pack_53 : decode cX9_pack 53 = .ok (.ireturn, 1) := by decide +kernel
theorem dX9_pack_54 : decode cX9_pack 54 = .ok (.aload 7, 2) := by decide +kernel
theorem dX9_pack_56 : decode cX9_pack 56 = .ok (.iload_n 2, 1) := by decide +kernel
theorem dX9_pack_57 : decode cX9_pack 57 = .ok (.putfield 150, 3) := by decide +kernel
theorem dX9_pack_60 : decode cX9_pack 60 = .ok (.aload 7, 2) := by decide +kernel
theorem dX9_pack_62 : decode cX9_pack 62 = .ok (.iload_n 3, 1) := by decide +kernel
theorem dX9_pack_63 : decode cX9_pack 63 = .ok (.putfield 155, 3) := by decide +kernel
theorem dX9_pack_66 : decode cX9_pack 66 = .ok (.aload 7, 2) := by decide +kernel
theorem dX9_pack_68 : decode cX9_pack 68 = .ok (.iload 4, 2) := by decide +kernel
theorem dX9_pack_70 : decode cX9_pack 70 = .ok (.putfield 158, 3) := by decide +kernel
theorem dX9_pack_73 : decode cX9_pack 73 = .ok (.aload 7, 2) := by decide +kernel
theorem dX9_pack_75 : decode cX9_pack 75 = .ok (.iload 5, 2) := by decide +kernel
theorem dX9_pack_77 : decode cX9_pack 77 = .ok (.putfield 161, 3) := by decide +kernel
theorem dX9_pack_80 : decode cX9_pack 80 = .ok (.aload 7, 2) := by decide +kernel
theorem dX9_pack_82 : decode cX9_pack 82 = .ok (.iload 6, 2) := by decide +kernel
theorem dX9_pack_84 : decode cX9_pack 84 = .ok (.putfield 164, 3) := by decide +kernel
theorem dX9_pack_87 : decode cX9_pack 87 = .ok (.aload_n 0, 1) := by decide +kernel
theorem dX9_pack_88 : decode cX9_pack 88 = .ok (.iconst 0, 1) := by decide +kernel
theorem dX9_pack_89 : decode cX9_pack 89 = .ok (.invokevirtual 70, 3) := by decide +kernel
theorem dX9_pack_92 : decode cX9_pack 92 = .ok (.ireturn, 1) := by decide +kernel
def rmX9_pack : Room := { frames := 1, cells := 0, slots := 0, locals := 22 }
def fX9_pack  (a0 : Nat) (xp0 : Int32) (xp1 : Int32) (xp2 : Int32) (xp3 : Int32) (xp4 : Int32) (xp5 : Int32) (h0 : PH) : Option (Int32 × PH) :=
    bn (rdR 9 4 a0 h0) fun a1 =>
    bn (chk 6 a1 h0) fun _ => bn2 (fX6_needOf a1 xp0 h0) fun o3 h2 =>
    onul o3 (bn (chk 9 a0 h2) fun _ => bn2 (fX9_noted a0 (-1 : Int32) h2) fun x6 h5 =>
    some (x6, h5)) fun a4 =>
    bn2 (fX9_within xp1 (1 : Int32) (20 : Int32) h2) fun x8 h7 =>
    if x8 = 0 then (bn (chk 9 a0 h7) fun _ => bn2 (fX9_noted a0 (-1 : Int32) h7) fun x10 h9 =>
    some (x10, h9)) else
    bn2 (fX9_isSpan xp2 xp3 (100 : Int32) h7) fun x12 h11 =>
    if x12 = 0 then (bn (chk 9 a0 h11) fun _ => bn2 (fX9_noted a0 (-1 : Int32) h11) fun x14 h13 =>
    some (x14, h13)) else
    bn2 (fX9_isSpan xp4 xp5 (100 : Int32) h11) fun x16 h15 =>
    if x16 = 0 then (bn (chk 9 a0 h15) fun _ => bn2 (fX9_noted a0 (-1 : Int32) h15) fun x25 h24 =>
    some (x25, h24)) else
    bn (wr 3 0 (.int xp1) a4 h15) fun h17 =>
    bn (wr 3 1 (.int xp2) a4 h17) fun h18 =>
    bn (wr 3 2 (.int xp3) a4 h18) fun h19 =>
    bn (wr 3 3 (.int xp4) a4 h19) fun h20 =>
    bn (wr 3 4 (.int xp5) a4 h20) fun h21 =>
    bn (chk 9 a0 h21) fun _ => bn2 (fX9_noted a0 (0 : Int32) h21) fun x23 h22 =>
    some (x23, h22)
set_option maxHeartbeats 4000000 in
set_option maxRecDepth 100000 in
theorem vfX9_pack {p : Program} {l : Launch} {e : Env} {s : State} {m : MethodId} {args : Array Value} {below : List Frame} {meth : Method} {c : Code} {G : GX} (C : Cx p s m args meth c G cX9_pack 8 RX9) (hr : meth.sig.returnType = (some .int)) (a0 : Nat) (xp0 : Int32) (xp1 : Int32) (xp2 : Int32) (xp3 : Int32) (xp4 : Int32) (xp5 : Int32) (h0 : PH) : J p l e rmX9_pack s m args below meth c G 8 (qM below args s rvI G 0 0) 0 0 h0 0 [(0, .ref a0), (1, .int xp0), (2, .int xp1), (3, .int xp2), (4, .int xp3), (5, .int xp4), (6, .int xp5)] [] (fX9_pack  a0 xp0 xp1 xp2 xp3 xp4 xp5 h0) := by
  unfold fX9_pack
  refine J_aload_n (pc := 0) C dX9_pack_0 rfl 0 rfl ?_
  refine J_getR (pc := 1) C flX9_38 dX9_pack_1 (fun a1 => ?_)
  refine J_iload_n (pc := 4) C dX9_pack_4 rfl 1 rfl ?_
  refine J_callVR (pc := 5) (As := [.int xp0]) (rest := []) C (fun z hz => mX6_needOf a1 xp0 h0 z hz) mwX6_needOf csX6_needOf mlX9_143 inX6_needOf rfl dX9_pack_5 (by decide) rfl (Nat.le_of_ble_eq_true rfl) (by decide) (fun o3 h2 => ?_)
  refine J_astoreQ (pc := 8) (x := o3) (lv1 := [(7, va_rf o3), (0, .ref a0), (1, .int xp0), (2, .int xp1), (3, .int xp2), (4, .int xp3), (5, .int xp4), (6, .int xp5)]) C dX9_pack_8 (by decide) rfl ?_
  refine J_aloadQ (pc := 10) (x := o3) C dX9_pack_10 0 rfl ?_
  refine J_onul (fun hx => ?_) (fun a4 hx => ?_)
  · subst hx
    refine J_ifnullN (pc := 12) (tgt := 48) C dX9_pack_12 (by decide) ?_
    refine J_aload_n (pc := 48) C dX9_pack_48 rfl 1 rfl ?_
    refine J_iconst (pc := 49) (v := -1) C dX9_pack_49 (by decide) ?_
    refine J_callVI (pc := 50) (As := [.int (-1 : Int32)]) (rest := []) C (fun z hz => mX9_noted a0 (-1 : Int32) h2 z hz) mwX9_noted csX9_noted mlX9_70 inX9_noted rfl dX9_pack_50 (by decide) rfl (Nat.le_of_ble_eq_true rfl) (by decide) (fun x6 h5 => ?_)
    exact J_iret (pc := 53) C hr dX9_pack_53
  · subst hx
    refine J_ifnull (pc := 12) C dX9_pack_12 ?_
    refine J_iload_n (pc := 15) C dX9_pack_15 rfl 3 rfl ?_
    refine J_iconst (pc := 16) (v := 1) C dX9_pack_16 (by decide) ?_
    refine J_bipush (pc := 17) (v := 20) C dX9_pack_17 (by decide) ?_
    refine J_callSI (pc := 19) (As := [.int xp1, .int (1 : Int32), .int (20 : Int32)]) (rest := []) C (fun z hz => mX9_within xp1 (1 : Int32) (20 : Int32) h2 z hz) mwX9_within mlX9_97 stX9_within rfl dX9_pack_19 (by decide) rfl (Nat.le_of_ble_eq_true rfl) (by decide) (fun x8 h7 => ?_)
    refine J_if_eq (pc := 22) (tgt := 48) C dX9_pack_22 (by decide) ?_ ?_
    · refine J_aload_n (pc := 48) C dX9_pack_48 rfl 1 rfl ?_
      refine J_iconst (pc := 49) (v := -1) C dX9_pack_49 (by decide) ?_
      refine J_callVI (pc := 50) (As := [.int (-1 : Int32)]) (rest := []) C (fun z hz => mX9_noted a0 (-1 : Int32) h7 z hz) mwX9_noted csX9_noted mlX9_70 inX9_noted rfl dX9_pack_50 (by decide) rfl (Nat.le_of_ble_eq_true rfl) (by decide) (fun x10 h9 => ?_)
      exact J_iret (pc := 53) C hr dX9_pack_53
    · refine J_iload_n (pc := 25) C dX9_pack_25 rfl 4 rfl ?_
      refine J_iload (pc := 26) C dX9_pack_26 5 rfl ?_
      refine J_bipush (pc := 28) (v := 100) C dX9_pack_28 (by decide) ?_
      refine J_callSI (pc := 30) (As := [.int xp2, .int xp3, .int (100 : Int32)]) (rest := []) C (fun z hz => mX9_isSpan xp2 xp3 (100 : Int32) h7 z hz) mwX9_isSpan mlX9_147 stX9_isSpan rfl dX9_pack_30 (by decide) rfl (Nat.le_of_ble_eq_true rfl) (by decide) (fun x12 h11 => ?_)
      refine J_if_eq (pc := 33) (tgt := 48) C dX9_pack_33 (by decide) ?_ ?_
      · refine J_aload_n (pc := 48) C dX9_pack_48 rfl 1 rfl ?_
        refine J_iconst (pc := 49) (v := -1) C dX9_pack_49 (by decide) ?_
        refine J_callVI (pc := 50) (As := [.int (-1 : Int32)]) (rest := []) C (fun z hz => mX9_noted a0 (-1 : Int32) h11 z hz) mwX9_noted csX9_noted mlX9_70 inX9_noted rfl dX9_pack_50 (by decide) rfl (Nat.le_of_ble_eq_true rfl) (by decide) (fun x14 h13 => ?_)
        exact J_iret (pc := 53) C hr dX9_pack_53
      · refine J_iload (pc := 36) C dX9_pack_36 6 rfl ?_
        refine J_iload (pc := 38) C dX9_pack_38 7 rfl ?_
        refine J_bipush (pc := 40) (v := 100) C dX9_pack_40 (by decide) ?_
        refine J_callSI (pc := 42) (As := [.int xp4, .int xp5, .int (100 : Int32)]) (rest := []) C (fun z hz => mX9_isSpan xp4 xp5 (100 : Int32) h11 z hz) mwX9_isSpan mlX9_147 stX9_isSpan rfl dX9_pack_42 (by decide) rfl (Nat.le_of_ble_eq_true rfl) (by decide) (fun x16 h15 => ?_)
        refine J_if_ne (pc := 45) (tgt := 54) C dX9_pack_45 (by decide) ?_ ?_
        · refine J_aload (pc := 54) C dX9_pack_54 0 rfl ?_
          refine J_iload_n (pc := 56) C dX9_pack_56 rfl 3 rfl ?_
          refine J_put (pc := 57) C flX9_150 cl3 ft3_0 rfl rfl dX9_pack_57 (fun h17 => ?_)
          refine J_aload (pc := 60) C dX9_pack_60 0 rfl ?_
          refine J_iload_n (pc := 62) C dX9_pack_62 rfl 4 rfl ?_
          refine J_put (pc := 63) C flX9_155 cl3 ft3_1 rfl rfl dX9_pack_63 (fun h18 => ?_)
          refine J_aload (pc := 66) C dX9_pack_66 0 rfl ?_
          refine J_iload (pc := 68) C dX9_pack_68 5 rfl ?_
          refine J_put (pc := 70) C flX9_158 cl3 ft3_2 rfl rfl dX9_pack_70 (fun h19 => ?_)
          refine J_aload (pc := 73) C dX9_pack_73 0 rfl ?_
          refine J_iload (pc := 75) C dX9_pack_75 6 rfl ?_
          refine J_put (pc := 77) C flX9_161 cl3 ft3_3 rfl rfl dX9_pack_77 (fun h20 => ?_)
          refine J_aload (pc := 80) C dX9_pack_80 0 rfl ?_
          refine J_iload (pc := 82) C dX9_pack_82 7 rfl ?_
          refine J_put (pc := 84) C flX9_164 cl3 ft3_4 rfl rfl dX9_pack_84 (fun h21 => ?_)
          refine J_aload_n (pc := 87) C dX9_pack_87 rfl 1 rfl ?_
          refine J_iconst (pc := 88) (v := 0) C dX9_pack_88 (by decide) ?_
          refine J_callVI (pc := 89) (As := [.int (0 : Int32)]) (rest := []) C (fun z hz => mX9_noted a0 (0 : Int32) h21 z hz) mwX9_noted csX9_noted mlX9_70 inX9_noted rfl dX9_pack_89 (by decide) rfl (Nat.le_of_ble_eq_true rfl) (by decide) (fun x23 h22 => ?_)
          exact J_iret (pc := 92) C hr dX9_pack_92
        · refine J_aload_n (pc := 48) C dX9_pack_48 rfl 1 rfl ?_
          refine J_iconst (pc := 49) (v := -1) C dX9_pack_49 (by decide) ?_
          refine J_callVI (pc := 50) (As := [.int (-1 : Int32)]) (rest := []) C (fun z hz => mX9_noted a0 (-1 : Int32) h15 z hz) mwX9_noted csX9_noted mlX9_70 inX9_noted rfl dX9_pack_50 (by decide) rfl (Nat.le_of_ble_eq_true rfl) (by decide) (fun x25 h24 => ?_)
          exact J_iret (pc := 53) C hr dX9_pack_53
theorem mX9_pack {l : Launch} {G : GX} (a0 : Nat) (xp0 : Int32) (xp1 : Int32) (xp2 : Int32) (xp3 : Int32) (xp4 : Int32) (xp5 : Int32) (h0 : PH) : ∀ z, fX9_pack a0 xp0 xp1 xp2 xp3 xp4 xp5 h0 = some z → MC l G yX9_pack cX9_pack 8 (some .int) rmX9_pack [.ref a0, .int xp0, .int xp1, .int xp2, .int xp3, .int xp4, .int xp5] h0 (rvI z.1) z.2 :=
  Met_J (own := RX9) (by decide) rfl (Nat.le_of_ble_eq_true rfl) (fun p e s m args below meth c C hr hn => vfX9_pack C hr a0 xp0 xp1 xp2 xp3 xp4 xp5 h0)

theorem dX10_pack_0 : decode cX10_pack 0 = .ok (.aload_n 0, 1) := by decide +kernel
theorem dX10_pack_1 : decode cX10_pack 1 = .ok (.iconst 0, 1) := by decide +kernel
theorem dX10_pack_2 : decode cX10_pack 2 = .ok (.putfield 90, 3) := by decide +kernel
theorem dX10_pack_5 : decode cX10_pack 5 = .ok (.iload_n 1, 1) := by decide +kernel
theorem dX10_pack_6 : decode cX10_pack 6 = .ok (.i2l, 1) := by decide +kernel
theorem dX10_pack_7 : decode cX10_pack 7 = .ok (.lconst 0, 1) := by decide +kernel
theorem dX10_pack_8 : decode cX10_pack 8 = .ok (.ldc2_w 127, 3) := by decide +kernel
theorem dX10_pack_11 : decode cX10_pack 11 = .ok (.invokestatic 99, 3) := by decide +kernel
theorem dX10_pack_14 : decode cX10_pack 14 = .ok (.ifCond .eq 69, 3) := by decide +kernel
theorem dX10_pack_17 : decode cX10_pack 17 = .ok (.iload_n 2, 1) := by decide +kernel
theorem dX10_pack_18 : decode cX10_pack 18 = .ok (.i2l, 1) := by decide +kernel
theorem dX10_pack_19 : decode cX10_pack 19 = .ok (.lconst 1, 1) := by decide +kernel
theorem dX10_pack_20 : decode cX10_pack 20 = .ok (.ldc2_w 218, 3) := by decide +kernel
theorem dX10_pack_23 : decode cX10_pack 23 = .ok (.invokestatic 99, 3) := by decide +kernel
theorem dX10_pack_26 : decode cX10_pack 26 = .ok (.ifCond .eq 57, 3) := by decide +kernel
theorem dX10_pack_29 : decode cX10_pack 29 = .ok (.iload_n 3, 1) := by decide +kernel
theorem dX10_pack_30 : decode cX10_pack 30 = .ok (.i2l, 1) := by decide +kernel
theorem dX10_pack_31 : decode cX10_pack 31 = .ok (.lconst 0, 1) := by decide +kernel
theorem dX10_pack_32 : decode cX10_pack 32 = .ok (.ldc2_w 213, 3) := by decide +kernel
theorem dX10_pack_35 : decode cX10_pack 35 = .ok (.invokestatic 99, 3) := by decide +kernel
theorem dX10_pack_38 : decode cX10_pack 38 = .ok (.ifCond .eq 45, 3) := by decide +kernel
theorem dX10_pack_41 : decode cX10_pack 41 = .ok (.iload 4, 2) := by decide +kernel
theorem dX10_pack_43 : decode cX10_pack 43 = .ok (.i2l, 1) := by decide +kernel
theorem dX10_pack_44 : decode cX10_pack 44 = .ok (.iload_n 3, 1) := by decide +kernel
theorem dX10_pack_45 : decode cX10_pack 45 = .ok (.i2l, 1) := by decide +kernel
theorem dX10_pack_46 : decode cX10_pack 46 = .ok (.ldc2_w 213, 3) := by decide +kernel
theorem dX10_pack_49 : decode cX10_pack 49 = .ok (.invokestatic 99, 3) := by decide +kernel
theorem dX10_pack_52 : decode cX10_pack 52 = .ok (.ifCond .eq 31, 3) := by decide +kernel
theorem dX10_pack_55 : decode cX10_pack 55 = .ok (.iload 5, 2) := by decide +kernel
theorem dX10_pack_57 : decode cX10_pack 57 = .ok (.i2l, 1) := by decide +kernel
theorem dX10_pack_58 : decode cX10_pack 58 = .ok (.lconst 0, 1) := by decide +kernel
theorem dX10_pack_59 : decode cX10_pack 59 = .ok (.ldc2_w 213, 3) := by decide +kernel
theorem dX10_pack_62 : decode cX10_pack 62 = .ok (.invokestatic 99, 3) := by decide +kernel
theorem dX10_pack_65 : decode cX10_pack 65 = .ok (.ifCond .eq 18, 3) := by decide +kernel
theorem dX10_pack_68 : decode cX10_pack 68 = .ok (.iload 6, 2) := by decide +kernel
theorem dX10_pack_70 : decode cX10_pack 70 = .ok (.i2l, 1) := by decide +kernel
theorem dX10_pack_71 : decode cX10_pack 71 = .ok (.iload 5, 2) := by decide +kernel
theorem dX10_pack_73 : decode cX10_pack 73 = .ok (.i2l, 1) := by decide +kernel
theorem dX10_pack_74 : decode cX10_pack 74 = .ok (.ldc2_w 213, 3) := by decide +kernel
theorem dX10_pack_77 : decode cX10_pack 77 = .ok (.invokestatic 99, 3) := by decide +kernel
theorem dX10_pack_80 : decode cX10_pack 80 = .ok (.ifCond .ne 9, 3) := by decide +kernel
theorem dX10_pack_83 : decode cX10_pack 83 = .ok (.aload_n 0, 1) := by decide +kernel
theorem dX10_pack_84 : decode cX10_pack 84 = .ok (.iconst (-1), 1) := by decide +kernel
theorem dX10_pack_85 : decode cX10_pack 85 = .ok (.invokevirtual 107, 3) := by decide +kernel
theorem dX10_pack_88 : decode cX10_pack 88 = .ok (.ireturn, 1) := by decide +kernel
theorem dX10_pack_89 : decode cX10_pack 89 = .ok (.aload_n 0, 1) := by decide +kernel
theorem dX10_pack_90 : decode cX10_pack 90 = .ok (.getfield 60, 3) := by decide +kernel
theorem dX10_pack_93 : decode cX10_pack 93 = .ok (.iload_n 1, 1) := by decide +kernel
theorem dX10_pack_94 : decode cX10_pack 94 = .ok (.iload_n 2, 1) := by decide +kernel
theorem dX10_pack_95 : decode cX10_pack 95 = .ok (.iastore, 1) := by decide +kernel
theorem dX10_pack_96 : decode cX10_pack 96 = .ok (.aload_n 0, 1) := by decide +kernel
theorem dX10_pack_97 : decode cX10_pack 97 = .ok (.getfield 63, 3) := by decide +kernel
theorem dX10_pack_100 : decode cX10_pack 100 = .ok (.iconst 2, 1) := by decide +kernel
theorem dX10_pack_101 : decode cX10_pack 101 = .ok (.iload_n 1, 1) := by decide +kernel
theorem dX10_pack_102 : decode cX10_pack 102 = .ok (.imul, 1) := by decide +kernel
theorem dX10_pack_103 : decode cX10_pack 103 = .ok (.iload_n 3, 1) := by decide +kernel
theorem dX10_pack_104 : decode cX10_pack 104 = .ok (.iastore, 1) := by decide +kernel
theorem dX10_pack_105 : decode cX10_pack 105 = .ok (.aload_n 0, 1) := by decide +kernel
theorem dX10_pack_106 : decode cX10_pack 106 = .ok (.getfield 63, 3) := by decide +kernel
theorem dX10_pack_109 : decode cX10_pack 109 = .ok (.iconst 2, 1) := by decide +kernel
theorem dX10_pack_110 : decode cX10_pack 110 = .ok (.iload_n 1, 1) := by decide +kernel
theorem dX10_pack_111 : decode cX10_pack 111 = .ok (.imul, 1) := by decide +kernel
theorem dX10_pack_112 : decode cX10_pack 112 = .ok (.iconst 1, 1) := by decide +kernel
theorem dX10_pack_113 : decode cX10_pack 113 = .ok (.iadd, 1) := by decide +kernel
theorem dX10_pack_114 : decode cX10_pack 114 = .ok (.iload 4, 2) := by decide +kernel
theorem dX10_pack_116 : decode cX10_pack 116 = .ok (.iastore, 1) := by decide +kernel
theorem dX10_pack_117 : decode cX10_pack 117 = .ok (.aload_n 0, 1) := by decide +kernel
theorem dX10_pack_118 : decode cX10_pack 118 = .ok (.getfield 66, 3) := by decide +kernel
theorem dX10_pack_121 : decode cX10_pack 121 = .ok (.iconst 2, 1) := by decide +kernel
theorem dX10_pack_122 : decode cX10_pack 122 = .ok (.iload_n 1, 1) := by decide +kernel
theorem dX10_pack_123 : decode cX10_pack 123 = .ok (.imul, 1) := by decide +kernel
theorem dX10_pack_124 : decode cX10_pack 124 = .ok (.iload 5, 2) := by decide +kernel
theorem dX10_pack_126 : decode cX10_pack 126 = .ok (.iastore, 1) := by decide +kernel
theorem dX10_pack_127 : decode cX10_pack 127 = .ok (.aload_n 0, 1) := by decide +kernel
theorem dX10_pack_128 : decode cX10_pack 128 = .ok (.getfield 66, 3) := by decide +kernel
theorem dX10_pack_131 : decode cX10_pack 131 = .ok (.iconst 2, 1) := by decide +kernel
theorem dX10_pack_132 : decode cX10_pack 132 = .ok (.iload_n 1, 1) := by decide +kernel
theorem dX10_pack_133 : decode cX10_pack 133 = .ok (.imul, 1) := by decide +kernel
theorem dX10_pack_134 : decode cX10_pack 134 = .ok (.iconst 1, 1) := by decide +kernel
theorem dX10_pack_135 : decode cX10_pack 135 = .ok (.iadd, 1) := by decide +kernel
theorem dX10_pack_136 : decode cX10_pack 136 = .ok (.iload 6, 2) := by decide +kernel
theorem dX10_pack_138 : decode cX10_pack 138 = .ok (.iastore, 1) := by decide +kernel
theorem dX10_pack_139 : decode cX10_pack 139 = .ok (.aload_n 0, 1) := by decide +kernel
theorem dX10_pack_140 : decode cX10_pack 140 = .ok (.iconst 0, 1) := by decide +kernel
theorem dX10_pack_141 : decode cX10_pack 141 = .ok (.invokevirtual 107, 3) := by decide +kernel
theorem dX10_pack_144 : decode cX10_pack 144 = .ok (.ireturn, 1) := by decide +kernel
def rmX10_pack : Room := { frames := 1, cells := 0, slots := 0, locals := 25 }
def fX10_pack  (a0 : Nat) (xp0 : Int32) (xp1 : Int32) (xp2 : Int32) (xp3 : Int32) (xp4 : Int32) (xp5 : Int32) (h0 : PH) : Option (Int32 × PH) :=
    bn (wr 10 0 (.int (0 : Int32)) a0 h0) fun h1 =>
    bn2 (fX10_in xp0.toInt64 (0 : Int64) (2 : Int64) h1) fun x3 h2 =>
    if x3 = 0 then (bn (chk 10 a0 h2) fun _ => bn2 (fX10_told a0 (-1 : Int32) h2) fun x5 h4 =>
    some (x5, h4)) else
    bn2 (fX10_in xp1.toInt64 (1 : Int64) (20 : Int64) h2) fun x7 h6 =>
    if x7 = 0 then (bn (chk 10 a0 h6) fun _ => bn2 (fX10_told a0 (-1 : Int32) h6) fun x9 h8 =>
    some (x9, h8)) else
    bn2 (fX10_in xp2.toInt64 (0 : Int64) (100 : Int64) h6) fun x11 h10 =>
    if x11 = 0 then (bn (chk 10 a0 h10) fun _ => bn2 (fX10_told a0 (-1 : Int32) h10) fun x13 h12 =>
    some (x13, h12)) else
    bn2 (fX10_in xp3.toInt64 xp2.toInt64 (100 : Int64) h10) fun x15 h14 =>
    if x15 = 0 then (bn (chk 10 a0 h14) fun _ => bn2 (fX10_told a0 (-1 : Int32) h14) fun x17 h16 =>
    some (x17, h16)) else
    bn2 (fX10_in xp4.toInt64 (0 : Int64) (100 : Int64) h14) fun x19 h18 =>
    if x19 = 0 then (bn (chk 10 a0 h18) fun _ => bn2 (fX10_told a0 (-1 : Int32) h18) fun x21 h20 =>
    some (x21, h20)) else
    bn2 (fX10_in xp5.toInt64 xp4.toInt64 (100 : Int64) h18) fun x23 h22 =>
    if x23 = 0 then (bn (chk 10 a0 h22) fun _ => bn2 (fX10_told a0 (-1 : Int32) h22) fun x37 h36 =>
    some (x37, h36)) else
    bn (rdR 10 31 a0 h22) fun a24 =>
    bn (astI a24 xp0 xp1 h22) fun h25 =>
    bn (rdR 10 32 a0 h25) fun a26 =>
    bn (astI a26 ((2 : Int32) * xp0) xp2 h25) fun h27 =>
    bn (rdR 10 32 a0 h27) fun a28 =>
    bn (astI a28 (((2 : Int32) * xp0) + (1 : Int32)) xp3 h27) fun h29 =>
    bn (rdR 10 33 a0 h29) fun a30 =>
    bn (astI a30 ((2 : Int32) * xp0) xp4 h29) fun h31 =>
    bn (rdR 10 33 a0 h31) fun a32 =>
    bn (astI a32 (((2 : Int32) * xp0) + (1 : Int32)) xp5 h31) fun h33 =>
    bn (chk 10 a0 h33) fun _ => bn2 (fX10_told a0 (0 : Int32) h33) fun x35 h34 =>
    some (x35, h34)
set_option maxHeartbeats 4000000 in
set_option maxRecDepth 100000 in
theorem vfX10_pack {p : Program} {l : Launch} {e : Env} {s : State} {m : MethodId} {args : Array Value} {below : List Frame} {meth : Method} {c : Code} {G : GX} (C : Cx p s m args meth c G cX10_pack 7 RX10) (hr : meth.sig.returnType = (some .int)) (a0 : Nat) (xp0 : Int32) (xp1 : Int32) (xp2 : Int32) (xp3 : Int32) (xp4 : Int32) (xp5 : Int32) (h0 : PH) : J p l e rmX10_pack s m args below meth c G 7 (qM below args s rvI G 0 0) 0 0 h0 0 [(0, .ref a0), (1, .int xp0), (2, .int xp1), (3, .int xp2), (4, .int xp3), (5, .int xp4), (6, .int xp5)] [] (fX10_pack  a0 xp0 xp1 xp2 xp3 xp4 xp5 h0) := by
  unfold fX10_pack
  refine J_aload_n (pc := 0) C dX10_pack_0 rfl 0 rfl ?_
  refine J_iconst (pc := 1) (v := 0) C dX10_pack_1 (by decide) ?_
  refine J_put (pc := 2) C flX10_90 cl10 ft10_0 rfl rfl dX10_pack_2 (fun h1 => ?_)
  refine J_iload_n (pc := 5) C dX10_pack_5 rfl 1 rfl ?_
  refine J_i2l (pc := 6) C dX10_pack_6 ?_
  refine J_lconst (pc := 7) (v := 0) C dX10_pack_7 (by decide) ?_
  refine J_ldc2 (pc := 8) C kjX10_127 dX10_pack_8 ?_
  refine J_callSI (pc := 11) (As := [.long xp0.toInt64, .long (0 : Int64), .long (2 : Int64)]) (rest := []) C (fun z hz => mX10_in xp0.toInt64 (0 : Int64) (2 : Int64) h1 z hz) mwX10_in mlX10_99 stX10_in rfl dX10_pack_11 (by decide) rfl (Nat.le_of_ble_eq_true rfl) (by decide) (fun x3 h2 => ?_)
  refine J_if_eq (pc := 14) (tgt := 83) C dX10_pack_14 (by decide) ?_ ?_
  · refine J_aload_n (pc := 83) C dX10_pack_83 rfl 0 rfl ?_
    refine J_iconst (pc := 84) (v := -1) C dX10_pack_84 (by decide) ?_
    refine J_callVI (pc := 85) (As := [.int (-1 : Int32)]) (rest := []) C (fun z hz => mX10_told a0 (-1 : Int32) h2 z hz) mwX10_told csX10_told mlX10_107 inX10_told rfl dX10_pack_85 (by decide) rfl (Nat.le_of_ble_eq_true rfl) (by decide) (fun x5 h4 => ?_)
    exact J_iret (pc := 88) C hr dX10_pack_88
  · refine J_iload_n (pc := 17) C dX10_pack_17 rfl 2 rfl ?_
    refine J_i2l (pc := 18) C dX10_pack_18 ?_
    refine J_lconst (pc := 19) (v := 1) C dX10_pack_19 (by decide) ?_
    refine J_ldc2 (pc := 20) C kjX10_218 dX10_pack_20 ?_
    refine J_callSI (pc := 23) (As := [.long xp1.toInt64, .long (1 : Int64), .long (20 : Int64)]) (rest := []) C (fun z hz => mX10_in xp1.toInt64 (1 : Int64) (20 : Int64) h2 z hz) mwX10_in mlX10_99 stX10_in rfl dX10_pack_23 (by decide) rfl (Nat.le_of_ble_eq_true rfl) (by decide) (fun x7 h6 => ?_)
    refine J_if_eq (pc := 26) (tgt := 83) C dX10_pack_26 (by decide) ?_ ?_
    · refine J_aload_n (pc := 83) C dX10_pack_83 rfl 0 rfl ?_
      refine J_iconst (pc := 84) (v := -1) C dX10_pack_84 (by decide) ?_
      refine J_callVI (pc := 85) (As := [.int (-1 : Int32)]) (rest := []) C (fun z hz => mX10_told a0 (-1 : Int32) h6 z hz) mwX10_told csX10_told mlX10_107 inX10_told rfl dX10_pack_85 (by decide) rfl (Nat.le_of_ble_eq_true rfl) (by decide) (fun x9 h8 => ?_)
      exact J_iret (pc := 88) C hr dX10_pack_88
    · refine J_iload_n (pc := 29) C dX10_pack_29 rfl 3 rfl ?_
      refine J_i2l (pc := 30) C dX10_pack_30 ?_
      refine J_lconst (pc := 31) (v := 0) C dX10_pack_31 (by decide) ?_
      refine J_ldc2 (pc := 32) C kjX10_213 dX10_pack_32 ?_
      refine J_callSI (pc := 35) (As := [.long xp2.toInt64, .long (0 : Int64), .long (100 : Int64)]) (rest := []) C (fun z hz => mX10_in xp2.toInt64 (0 : Int64) (100 : Int64) h6 z hz) mwX10_in mlX10_99 stX10_in rfl dX10_pack_35 (by decide) rfl (Nat.le_of_ble_eq_true rfl) (by decide) (fun x11 h10 => ?_)
      refine J_if_eq (pc := 38) (tgt := 83) C dX10_pack_38 (by decide) ?_ ?_
      · refine J_aload_n (pc := 83) C dX10_pack_83 rfl 0 rfl ?_
        refine J_iconst (pc := 84) (v := -1) C dX10_pack_84 (by decide) ?_
        refine J_callVI (pc := 85) (As := [.int (-1 : Int32)]) (rest := []) C (fun z hz => mX10_told a0 (-1 : Int32) h10 z hz) mwX10_told csX10_told mlX10_107 inX10_told rfl dX10_pack_85 (by decide) rfl (Nat.le_of_ble_eq_true rfl) (by decide) (fun x13 h12 => ?_)
        exact J_iret (pc := 88) C hr dX10_pack_88
      · refine J_iload (pc := 41) C dX10_pack_41 4 rfl ?_
        refine J_i2l (pc := 43) C dX10_pack_43 ?_
        refine J_iload_n (pc := 44) C dX10_pack_44 rfl 3 rfl ?_
        refine J_i2l (pc := 45) C dX10_pack_45 ?_
        refine J_ldc2 (pc := 46) C kjX10_213 dX10_pack_46 ?_
        refine J_callSI (pc := 49) (As := [.long xp3.toInt64, .long xp2.toInt64, .long (100 : Int64)]) (rest := []) C (fun z hz => mX10_in xp3.toInt64 xp2.toInt64 (100 : Int64) h10 z hz) mwX10_in mlX10_99 stX10_in rfl dX10_pack_49 (by decide) rfl (Nat.le_of_ble_eq_true rfl) (by decide) (fun x15 h14 => ?_)
        refine J_if_eq (pc := 52) (tgt := 83) C dX10_pack_52 (by decide) ?_ ?_
        · refine J_aload_n (pc := 83) C dX10_pack_83 rfl 0 rfl ?_
          refine J_iconst (pc := 84) (v := -1) C dX10_pack_84 (by decide) ?_
          refine J_callVI (pc := 85) (As := [.int (-1 : Int32)]) (rest := []) C (fun z hz => mX10_told a0 (-1 : Int32) h14 z hz) mwX10_told csX10_told mlX10_107 inX10_told rfl dX10_pack_85 (by decide) rfl (Nat.le_of_ble_eq_true rfl) (by decide) (fun x17 h16 => ?_)
          exact J_iret (pc := 88) C hr dX10_pack_88
        · refine J_iload (pc := 55) C dX10_pack_55 5 rfl ?_
          refine J_i2l (pc := 57) C dX10_pack_57 ?_
          refine J_lconst (pc := 58) (v := 0) C dX10_pack_58 (by decide) ?_
          refine J_ldc2 (pc := 59) C kjX10_213 dX10_pack_59 ?_
          refine J_callSI (pc := 62) (As := [.long xp4.toInt64, .long (0 : Int64), .long (100 : Int64)]) (rest := []) C (fun z hz => mX10_in xp4.toInt64 (0 : Int64) (100 : Int64) h14 z hz) mwX10_in mlX10_99 stX10_in rfl dX10_pack_62 (by decide) rfl (Nat.le_of_ble_eq_true rfl) (by decide) (fun x19 h18 => ?_)
          refine J_if_eq (pc := 65) (tgt := 83) C dX10_pack_65 (by decide) ?_ ?_
          · refine J_aload_n (pc := 83) C dX10_pack_83 rfl 0 rfl ?_
            refine J_iconst (pc := 84) (v := -1) C dX10_pack_84 (by decide) ?_
            refine J_callVI (pc := 85) (As := [.int (-1 : Int32)]) (rest := []) C (fun z hz => mX10_told a0 (-1 : Int32) h18 z hz) mwX10_told csX10_told mlX10_107 inX10_told rfl dX10_pack_85 (by decide) rfl (Nat.le_of_ble_eq_true rfl) (by decide) (fun x21 h20 => ?_)
            exact J_iret (pc := 88) C hr dX10_pack_88
          · refine J_iload (pc := 68) C dX10_pack_68 6 rfl ?_
            refine J_i2l (pc := 70) C dX10_pack_70 ?_
            refine J_iload (pc := 71) C dX10_pack_71 5 rfl ?_
            refine J_i2l (pc := 73) C dX10_pack_73 ?_
            refine J_ldc2 (pc := 74) C kjX10_213 dX10_pack_74 ?_
            refine J_callSI (pc := 77) (As := [.long xp5.toInt64, .long xp4.toInt64, .long (100 : Int64)]) (rest := []) C (fun z hz => mX10_in xp5.toInt64 xp4.toInt64 (100 : Int64) h18 z hz) mwX10_in mlX10_99 stX10_in rfl dX10_pack_77 (by decide) rfl (Nat.le_of_ble_eq_true rfl) (by decide) (fun x23 h22 => ?_)
            refine J_if_ne (pc := 80) (tgt := 89) C dX10_pack_80 (by decide) ?_ ?_
            · refine J_aload_n (pc := 89) C dX10_pack_89 rfl 0 rfl ?_
              refine J_getR (pc := 90) C flX10_60 dX10_pack_90 (fun a24 => ?_)
              refine J_iload_n (pc := 93) C dX10_pack_93 rfl 1 rfl ?_
              refine J_iload_n (pc := 94) C dX10_pack_94 rfl 2 rfl ?_
              refine J_iast (pc := 95) C dX10_pack_95 (fun h25 => ?_)
              refine J_aload_n (pc := 96) C dX10_pack_96 rfl 0 rfl ?_
              refine J_getR (pc := 97) C flX10_63 dX10_pack_97 (fun a26 => ?_)
              refine J_iconst (pc := 100) (v := 2) C dX10_pack_100 (by decide) ?_
              refine J_iload_n (pc := 101) C dX10_pack_101 rfl 1 rfl ?_
              refine J_imul (pc := 102) C dX10_pack_102 ?_
              refine J_iload_n (pc := 103) C dX10_pack_103 rfl 3 rfl ?_
              refine J_iast (pc := 104) C dX10_pack_104 (fun h27 => ?_)
              refine J_aload_n (pc := 105) C dX10_pack_105 rfl 0 rfl ?_
              refine J_getR (pc := 106) C flX10_63 dX10_pack_106 (fun a28 => ?_)
              refine J_iconst (pc := 109) (v := 2) C dX10_pack_109 (by decide) ?_
              refine J_iload_n (pc := 110) C dX10_pack_110 rfl 1 rfl ?_
              refine J_imul (pc := 111) C dX10_pack_111 ?_
              refine J_iconst (pc := 112) (v := 1) C dX10_pack_112 (by decide) ?_
              refine J_iadd (pc := 113) C dX10_pack_113 ?_
              refine J_iload (pc := 114) C dX10_pack_114 4 rfl ?_
              refine J_iast (pc := 116) C dX10_pack_116 (fun h29 => ?_)
              refine J_aload_n (pc := 117) C dX10_pack_117 rfl 0 rfl ?_
              refine J_getR (pc := 118) C flX10_66 dX10_pack_118 (fun a30 => ?_)
              refine J_iconst (pc := 121) (v := 2) C dX10_pack_121 (by decide) ?_
              refine J_iload_n (pc := 122) C dX10_pack_122 rfl 1 rfl ?_
              refine J_imul (pc := 123) C dX10_pack_123 ?_
              refine J_iload (pc := 124) C dX10_pack_124 5 rfl ?_
              refine J_iast (pc := 126) C dX10_pack_126 (fun h31 => ?_)
              refine J_aload_n (pc := 127) C dX10_pack_127 rfl 0 rfl ?_
              refine J_getR (pc := 128) C flX10_66 dX10_pack_128 (fun a32 => ?_)
              refine J_iconst (pc := 131) (v := 2) C dX10_pack_131 (by decide) ?_
              refine J_iload_n (pc := 132) C dX10_pack_132 rfl 1 rfl ?_
              refine J_imul (pc := 133) C dX10_pack_133 ?_
              refine J_iconst (pc := 134) (v := 1) C dX10_pack_134 (by decide) ?_
              refine J_iadd (pc := 135) C dX10_pack_135 ?_
              refine J_iload (pc := 136) C dX10_pack_136 6 rfl ?_
              refine J_iast (pc := 138) C dX10_pack_138 (fun h33 => ?_)
              refine J_aload_n (pc := 139) C dX10_pack_139 rfl 0 rfl ?_
              refine J_iconst (pc := 140) (v := 0) C dX10_pack_140 (by decide) ?_
              refine J_callVI (pc := 141) (As := [.int (0 : Int32)]) (rest := []) C (fun z hz => mX10_told a0 (0 : Int32) h33 z hz) mwX10_told csX10_told mlX10_107 inX10_told rfl dX10_pack_141 (by decide) rfl (Nat.le_of_ble_eq_true rfl) (by decide) (fun x35 h34 => ?_)
              exact J_iret (pc := 144) C hr dX10_pack_144
            · refine J_aload_n (pc := 83) C dX10_pack_83 rfl 0 rfl ?_
              refine J_iconst (pc := 84) (v := -1) C dX10_pack_84 (by decide) ?_
              refine J_callVI (pc := 85) (As := [.int (-1 : Int32)]) (rest := []) C (fun z hz => mX10_told a0 (-1 : Int32) h22 z hz) mwX10_told csX10_told mlX10_107 inX10_told rfl dX10_pack_85 (by decide) rfl (Nat.le_of_ble_eq_true rfl) (by decide) (fun x37 h36 => ?_)
              exact J_iret (pc := 88) C hr dX10_pack_88
theorem mX10_pack {l : Launch} {G : GX} (a0 : Nat) (xp0 : Int32) (xp1 : Int32) (xp2 : Int32) (xp3 : Int32) (xp4 : Int32) (xp5 : Int32) (h0 : PH) : ∀ z, fX10_pack a0 xp0 xp1 xp2 xp3 xp4 xp5 h0 = some z → MC l G yX10_pack cX10_pack 7 (some .int) rmX10_pack [.ref a0, .int xp0, .int xp1, .int xp2, .int xp3, .int xp4, .int xp5] h0 (rvI z.1) z.2 :=
  Met_J (own := RX10) (by decide) rfl (Nat.le_of_ble_eq_true rfl) (fun p e s m args below meth c C hr hn => vfX10_pack C hr a0 xp0 xp1 xp2 xp3 xp4 xp5 h0)

