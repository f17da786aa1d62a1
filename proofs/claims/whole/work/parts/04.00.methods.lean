theorem dX7_init_0 : decode cX7_init 0 = .ok (.aload_n 0, 1) := by decide +kernel
theorem dX7_init_1 : decode cX7_init 1 = .ok (.invokespecial 3, 3) := by decide +kernel
theorem dX7_init_4 : decode cX7_init 4 = .ok (.aload_n 0, 1) := by decide +kernel
theorem dX7_init_5 : decode cX7_init 5 = .ok (.bipush 120, 2) := by decide +kernel
theorem dX7_init_7 : decode cX7_init 7 = .ok (.anewarray 9, 3) := by decide +kernel
theorem dX7_init_10 : decode cX7_init 10 = .ok (.putfield 11, 3) := by decide +kernel
theorem dX7_init_13 : decode cX7_init 13 = .ok (.aload_n 0, 1) := by decide +kernel
theorem dX7_init_14 : decode cX7_init 14 = .ok (.iconst 3, 1) := by decide +kernel
theorem dX7_init_15 : decode cX7_init 15 = .ok (.bipush 10, 2) := by decide +kernel
theorem dX7_init_17 : decode cX7_init 17 = .ok (.multianewarray 17 2, 4) := by decide +kernel
theorem dX7_init_21 : decode cX7_init 21 = .ok (.putfield 19, 3) := by decide +kernel
theorem dX7_init_24 : decode cX7_init 24 = .ok (.aload_n 0, 1) := by decide +kernel
theorem dX7_init_25 : decode cX7_init 25 = .ok (.bipush 10, 2) := by decide +kernel
theorem dX7_init_27 : decode cX7_init 27 = .ok (.newarray .long, 2) := by decide +kernel
theorem dX7_init_29 : decode cX7_init 29 = .ok (.putfield 22, 3) := by decide +kernel
theorem dX7_init_32 : decode cX7_init 32 = .ok (.aload_n 0, 1) := by decide +kernel
theorem dX7_init_33 : decode cX7_init 33 = .ok (.iconst 0, 1) := by decide +kernel
theorem dX7_init_34 : decode cX7_init 34 = .ok (.putfield 26, 3) := by decide +kernel
theorem dX7_init_37 : decode cX7_init 37 = .ok (.aload_n 0, 1) := by decide +kernel
theorem dX7_init_38 : decode cX7_init 38 = .ok (.iconst 0, 1) := by decide +kernel
theorem dX7_init_39 : decode cX7_init 39 = .ok (.putfield 30, 3) := by decide +kernel
theorem dX7_init_42 : decode cX7_init 42 = .ok (.return_, 1) := by decide +kernel
def rmX7_init : Room := { frames := 1, cells := 6, slots := 163, locals := 20 }
def fX7_init  (a0 : Nat) (h0 : PH) : Option (Unit × PH) :=
    nwB (.inl (3, 120, .inr (.inr (.inr (.inr (fun _ => none)))))) h0 fun a1 h2 =>
    bn (wr 7 0 (.ref a1) a0 h2) fun h3 =>
    mnB 3 10 h3 fun a4 h5 =>
    bn (wr 7 1 (.ref a4) a0 h5) fun h6 =>
    nwB (.inl (2, 10, .inr (.inl (fun _ => 0)))) h6 fun a7 h8 =>
    bn (wr 7 2 (.ref a7) a0 h8) fun h9 =>
    bn (wr 7 3 (.int (0 : Int32)) a0 h9) fun h10 =>
    bn (wr 7 4 (.int (0 : Int32)) a0 h10) fun h11 =>
    some ((), h11)
set_option maxHeartbeats 4000000 in
set_option maxRecDepth 100000 in
theorem vfX7_init {p : Program} {l : Launch} {e : Env} {s : State} {m : MethodId} {args : Array Value} {below : List Frame} {meth : Method} {c : Code} {G : GX} (C : Cx p s m args meth c G cX7_init 1 RX7) (hr : meth.sig.returnType = none) (hin : meth.name = "<init>") (a0 : Nat) (h0 : PH) : J p l e rmX7_init s m args below meth c G 1 (qM below args s rvU G 6 163) 0 0 h0 0 [(0, .ref a0)] [] (fX7_init  a0 h0) := by
  unfold fX7_init
  refine J_aload_n (pc := 0) C dX7_init_0 rfl 0 rfl ?_
  refine J_obj (pc := 1) C mlX7_3 wObjI wObjC dX7_init_1 (by decide) (Nat.le_of_ble_eq_true rfl) ?_
  refine J_aload_n (pc := 4) C dX7_init_4 rfl 0 rfl ?_
  refine J_bipush (pc := 5) (v := 120) C dX7_init_5 (by decide) ?_
  refine J_newQ (pc := 7) (N := 120) C 3 "GoldLeaves$Piece" (fun _ => rfl) ckX7_9 (fun G U hk => hk.2.2.1) (by decide) (by decide) (by decide) (by decide) (by decide) dX7_init_7 (fun a1 h2 => ?_)
  refine J_putF (pc := 10) C flX7_11 cl7 ft7_0 rfl rfl hin cw7 dX7_init_10 (fun h3 => ?_)
  refine J_aload_n (pc := 13) C dX7_init_13 rfl 0 rfl ?_
  refine J_iconst (pc := 14) (v := 3) C dX7_init_14 (by decide) ?_
  refine J_bipush (pc := 15) (v := 10) C dX7_init_15 (by decide) ?_
  refine J_mna (pc := 17) (N := 3) (K := 10) C ckX7_17 (by decide) (by decide) (by decide) (by decide) (by decide) (by decide) (by decide) (by decide) (by decide) dX7_init_17 (fun a4 h5 => ?_)
  refine J_putF (pc := 21) C flX7_19 cl7 ft7_1 rfl rfl hin cw7 dX7_init_21 (fun h6 => ?_)
  refine J_aload_n (pc := 24) C dX7_init_24 rfl 0 rfl ?_
  refine J_bipush (pc := 25) (v := 10) C dX7_init_25 (by decide) ?_
  refine J_newJ (pc := 27) (N := 10) C (by decide) (by decide) (by decide) (by decide) (by decide) dX7_init_27 (fun a7 h8 => ?_)
  refine J_putF (pc := 29) C flX7_22 cl7 ft7_2 rfl rfl hin cw7 dX7_init_29 (fun h9 => ?_)
  refine J_aload_n (pc := 32) C dX7_init_32 rfl 0 rfl ?_
  refine J_iconst (pc := 33) (v := 0) C dX7_init_33 (by decide) ?_
  refine J_put (pc := 34) C flX7_26 cl7 ft7_3 rfl rfl dX7_init_34 (fun h10 => ?_)
  refine J_aload_n (pc := 37) C dX7_init_37 rfl 0 rfl ?_
  refine J_iconst (pc := 38) (v := 0) C dX7_init_38 (by decide) ?_
  refine J_put (pc := 39) C flX7_30 cl7 ft7_4 rfl rfl dX7_init_39 (fun h11 => ?_)
  exact J_vret (pc := 42) C hr dX7_init_42
theorem mX7_init {l : Launch} {G : GX} (a0 : Nat) (h0 : PH) : ∀ z, fX7_init a0 h0 = some z → MC l G yX7_init cX7_init 1 none rmX7_init [.ref a0] h0 (rvU z.1) z.2 :=
  Met_J (own := RX7) (by decide) rfl (Nat.le_of_ble_eq_true rfl) (fun p e s m args below meth c C hr hn => vfX7_init C hr hn a0 h0)

theorem dX0_init_0 : decode cX0_init 0 = .ok (.aload_n 0, 1) := by decide +kernel
theorem dX0_init_1 : decode cX0_init 1 = .ok (.invokespecial 3, 3) := by decide +kernel
theorem dX0_init_4 : decode cX0_init 4 = .ok (.aload_n 0, 1) := by decide +kernel
theorem dX0_init_5 : decode cX0_init 5 = .ok (.iconst 0, 1) := by decide +kernel
theorem dX0_init_6 : decode cX0_init 6 = .ok (.putfield 9, 3) := by decide +kernel
theorem dX0_init_9 : decode cX0_init 9 = .ok (.aload_n 0, 1) := by decide +kernel
theorem dX0_init_10 : decode cX0_init 10 = .ok (.iconst 0, 1) := by decide +kernel
theorem dX0_init_11 : decode cX0_init 11 = .ok (.putfield 15, 3) := by decide +kernel
theorem dX0_init_14 : decode cX0_init 14 = .ok (.aload_n 0, 1) := by decide +kernel
theorem dX0_init_15 : decode cX0_init 15 = .ok (.iconst 0, 1) := by decide +kernel
theorem dX0_init_16 : decode cX0_init 16 = .ok (.putfield 18, 3) := by decide +kernel
theorem dX0_init_19 : decode cX0_init 19 = .ok (.return_, 1) := by decide +kernel
def rmX0_init : Room := { frames := 1, cells := 0, slots := 0, locals := 20 }
def fX0_init  (a0 : Nat) (h0 : PH) : Option (Unit × PH) :=
    bn (wr 0 0 (.int (0 : Int32)) a0 h0) fun h1 =>
    bn (wr 0 1 (.int (0 : Int32)) a0 h1) fun h2 =>
    bn (wr 0 2 (.int (0 : Int32)) a0 h2) fun h3 =>
    some ((), h3)
set_option maxHeartbeats 4000000 in
set_option maxRecDepth 100000 in
theorem vfX0_init {p : Program} {l : Launch} {e : Env} {s : State} {m : MethodId} {args : Array Value} {below : List Frame} {meth : Method} {c : Code} {G : GX} (C : Cx p s m args meth c G cX0_init 1 RX0) (hr : meth.sig.returnType = none) (hin : meth.name = "<init>") (a0 : Nat) (h0 : PH) : J p l e rmX0_init s m args below meth c G 1 (qM below args s rvU G 0 0) 0 0 h0 0 [(0, .ref a0)] [] (fX0_init  a0 h0) := by
  unfold fX0_init
  refine J_aload_n (pc := 0) C dX0_init_0 rfl 0 rfl ?_
  refine J_obj (pc := 1) C mlX0_3 wObjI wObjC dX0_init_1 (by decide) (Nat.le_of_ble_eq_true rfl) ?_
  refine J_aload_n (pc := 4) C dX0_init_4 rfl 0 rfl ?_
  refine J_iconst (pc := 5) (v := 0) C dX0_init_5 (by decide) ?_
  refine J_put (pc := 6) C flX0_9 cl0 ft0_0 rfl rfl dX0_init_6 (fun h1 => ?_)
  refine J_aload_n (pc := 9) C dX0_init_9 rfl 0 rfl ?_
  refine J_iconst (pc := 10) (v := 0) C dX0_init_10 (by decide) ?_
  refine J_put (pc := 11) C flX0_15 cl0 ft0_1 rfl rfl dX0_init_11 (fun h2 => ?_)
  refine J_aload_n (pc := 14) C dX0_init_14 rfl 0 rfl ?_
  refine J_iconst (pc := 15) (v := 0) C dX0_init_15 (by decide) ?_
  refine J_put (pc := 16) C flX0_18 cl0 ft0_2 rfl rfl dX0_init_16 (fun h3 => ?_)
  exact J_vret (pc := 19) C hr dX0_init_19
theorem mX0_init {l : Launch} {G : GX} (a0 : Nat) (h0 : PH) : ∀ z, fX0_init a0 h0 = some z → MC l G yX0_init cX0_init 1 none rmX0_init [.ref a0] h0 (rvU z.1) z.2 :=
  Met_J (own := RX0) (by decide) rfl (Nat.le_of_ble_eq_true rfl) (fun p e s m args below meth c C hr hn => vfX0_init C hr hn a0 h0)

theorem dX8_init_0 : decode cX8_init 0 = .ok (.aload_n 0, 1) := by decide +kernel
theorem dX8_init_1 : decode cX8_init 1 = .ok (.invokespecial 3, 3) := by decide +kernel
theorem dX8_init_4 : decode cX8_init 4 = .ok (.aload_n 0, 1) := by decide +kernel
theorem dX8_init_5 : decode cX8_init 5 = .ok (.sipush 300, 3) := by decide +kernel
theorem dX8_init_8 : decode cX8_init 8 = .ok (.newarray .int, 2) := by decide +kernel
theorem dX8_init_10 : decode cX8_init 10 = .ok (.putfield 9, 3) := by decide +kernel
theorem dX8_init_13 : decode cX8_init 13 = .ok (.aload_n 0, 1) := by decide +kernel
theorem dX8_init_14 : decode cX8_init 14 = .ok (.iconst 0, 1) := by decide +kernel
theorem dX8_init_15 : decode cX8_init 15 = .ok (.putfield 15, 3) := by decide +kernel
theorem dX8_init_18 : decode cX8_init 18 = .ok (.aload_n 0, 1) := by decide +kernel
theorem dX8_init_19 : decode cX8_init 19 = .ok (.iconst 0, 1) := by decide +kernel
theorem dX8_init_20 : decode cX8_init 20 = .ok (.putfield 19, 3) := by decide +kernel
theorem dX8_init_23 : decode cX8_init 23 = .ok (.aload_n 0, 1) := by decide +kernel
theorem dX8_init_24 : decode cX8_init 24 = .ok (.iconst 0, 1) := by decide +kernel
theorem dX8_init_25 : decode cX8_init 25 = .ok (.putfield 22, 3) := by decide +kernel
theorem dX8_init_28 : decode cX8_init 28 = .ok (.aload_n 0, 1) := by decide +kernel
theorem dX8_init_29 : decode cX8_init 29 = .ok (.iconst 0, 1) := by decide +kernel
theorem dX8_init_30 : decode cX8_init 30 = .ok (.putfield 25, 3) := by decide +kernel
theorem dX8_init_33 : decode cX8_init 33 = .ok (.return_, 1) := by decide +kernel
def rmX8_init : Room := { frames := 1, cells := 1, slots := 300, locals := 20 }
def fX8_init  (a0 : Nat) (h0 : PH) : Option (Unit × PH) :=
    nwB (.inl (0, 300, .inl (fun _ => 0))) h0 fun a1 h2 =>
    bn (wr 8 0 (.ref a1) a0 h2) fun h3 =>
    bn (wr 8 1 (.int (0 : Int32)) a0 h3) fun h4 =>
    bn (wr 8 2 (.int (0 : Int32)) a0 h4) fun h5 =>
    bn (wr 8 3 (.int (0 : Int32)) a0 h5) fun h6 =>
    bn (wr 8 4 (.int (0 : Int32)) a0 h6) fun h7 =>
    some ((), h7)
set_option maxHeartbeats 4000000 in
set_option maxRecDepth 100000 in
theorem vfX8_init {p : Program} {l : Launch} {e : Env} {s : State} {m : MethodId} {args : Array Value} {below : List Frame} {meth : Method} {c : Code} {G : GX} (C : Cx p s m args meth c G cX8_init 1 RX8) (hr : meth.sig.returnType = none) (hin : meth.name = "<init>") (a0 : Nat) (h0 : PH) : J p l e rmX8_init s m args below meth c G 1 (qM below args s rvU G 1 300) 0 0 h0 0 [(0, .ref a0)] [] (fX8_init  a0 h0) := by
  unfold fX8_init
  refine J_aload_n (pc := 0) C dX8_init_0 rfl 0 rfl ?_
  refine J_obj (pc := 1) C mlX8_3 wObjI wObjC dX8_init_1 (by decide) (Nat.le_of_ble_eq_true rfl) ?_
  refine J_aload_n (pc := 4) C dX8_init_4 rfl 0 rfl ?_
  refine J_sipush (pc := 5) (v := 300) C dX8_init_5 (by decide) ?_
  refine J_newI (pc := 8) (N := 300) C (by decide) (by decide) (by decide) (by decide) (by decide) dX8_init_8 (fun a1 h2 => ?_)
  refine J_putF (pc := 10) C flX8_9 cl8 ft8_0 rfl rfl hin cw8 dX8_init_10 (fun h3 => ?_)
  refine J_aload_n (pc := 13) C dX8_init_13 rfl 0 rfl ?_
  refine J_iconst (pc := 14) (v := 0) C dX8_init_14 (by decide) ?_
  refine J_put (pc := 15) C flX8_15 cl8 ft8_1 rfl rfl dX8_init_15 (fun h4 => ?_)
  refine J_aload_n (pc := 18) C dX8_init_18 rfl 0 rfl ?_
  refine J_iconst (pc := 19) (v := 0) C dX8_init_19 (by decide) ?_
  refine J_put (pc := 20) C flX8_19 cl8 ft8_2 rfl rfl dX8_init_20 (fun h5 => ?_)
  refine J_aload_n (pc := 23) C dX8_init_23 rfl 0 rfl ?_
  refine J_iconst (pc := 24) (v := 0) C dX8_init_24 (by decide) ?_
  refine J_put (pc := 25) C flX8_22 cl8 ft8_3 rfl rfl dX8_init_25 (fun h6 => ?_)
  refine J_aload_n (pc := 28) C dX8_init_28 rfl 0 rfl ?_
  refine J_iconst (pc := 29) (v := 0) C dX8_init_29 (by decide) ?_
  refine J_put (pc := 30) C flX8_25 cl8 ft8_4 rfl rfl dX8_init_30 (fun h7 => ?_)
  exact J_vret (pc := 33) C hr dX8_init_33
theorem mX8_init {l : Launch} {G : GX} (a0 : Nat) (h0 : PH) : ∀ z, fX8_init a0 h0 = some z → MC l G yX8_init cX8_init 1 none rmX8_init [.ref a0] h0 (rvU z.1) z.2 :=
  Met_J (own := RX8) (by decide) rfl (Nat.le_of_ble_eq_true rfl) (fun p e s m args below meth c C hr hn => vfX8_init C hr hn a0 h0)

theorem dX1_init_0 : decode cX1_init 0 = .ok (.aload_n 0, 1) := by decide +kernel
theorem dX1_init_1 : decode cX1_init 1 = .ok (.invokespecial 3, 3) := by decide +kernel
theorem dX1_init_4 : decode cX1_init 4 = .ok (.aload_n 0, 1) := by decide +kernel
theorem dX1_init_5 : decode cX1_init 5 = .ok (.new 9, 3) := by decide +kernel
theorem dX1_init_8 : decode cX1_init 8 = .ok (.dup, 1) := by decide +kernel
theorem dX1_init_9 : decode cX1_init 9 = .ok (.invokespecial 11, 3) := by decide +kernel
theorem dX1_init_12 : decode cX1_init 12 = .ok (.putfield 12, 3) := by decide +kernel
theorem dX1_init_15 : decode cX1_init 15 = .ok (.aload_n 0, 1) := by decide +kernel
theorem dX1_init_16 : decode cX1_init 16 = .ok (.bipush 10, 2) := by decide +kernel
theorem dX1_init_18 : decode cX1_init 18 = .ok (.newarray .int, 2) := by decide +kernel
theorem dX1_init_20 : decode cX1_init 20 = .ok (.putfield 18, 3) := by decide +kernel
theorem dX1_init_23 : decode cX1_init 23 = .ok (.aload_n 0, 1) := by decide +kernel
theorem dX1_init_24 : decode cX1_init 24 = .ok (.bipush 10, 2) := by decide +kernel
theorem dX1_init_26 : decode cX1_init 26 = .ok (.newarray .int, 2) := by decide +kernel
theorem dX1_init_28 : decode cX1_init 28 = .ok (.putfield 22, 3) := by decide +kernel
theorem dX1_init_31 : decode cX1_init 31 = .ok (.return_, 1) := by decide +kernel
def rmX1_init : Room := { frames := 2, cells := 4, slots := 325, locals := 40 }
def fX1_init  (a0 : Nat) (h0 : PH) : Option (Unit × PH) :=
    nwB (.inr (8, [.null, .int 0, .int 0, .int 0, .int 0])) h0 fun a1 h2 =>
    bn2 (fX8_init a1 h2) fun _ h3 =>
    bn (wr 1 0 (.ref a1) a0 h3) fun h4 =>
    nwB (.inl (0, 10, .inl (fun _ => 0))) h4 fun a5 h6 =>
    bn (wr 1 1 (.ref a5) a0 h6) fun h7 =>
    nwB (.inl (0, 10, .inl (fun _ => 0))) h7 fun a8 h9 =>
    bn (wr 1 2 (.ref a8) a0 h9) fun h10 =>
    some ((), h10)
set_option maxHeartbeats 4000000 in
set_option maxRecDepth 100000 in
theorem vfX1_init {p : Program} {l : Launch} {e : Env} {s : State} {m : MethodId} {args : Array Value} {below : List Frame} {meth : Method} {c : Code} {G : GX} (C : Cx p s m args meth c G cX1_init 1 RX1) (hr : meth.sig.returnType = none) (hin : meth.name = "<init>") (a0 : Nat) (h0 : PH) : J p l e rmX1_init s m args below meth c G 1 (qM below args s rvU G 4 325) 0 0 h0 0 [(0, .ref a0)] [] (fX1_init  a0 h0) := by
  unfold fX1_init
  refine J_aload_n (pc := 0) C dX1_init_0 rfl 0 rfl ?_
  refine J_obj (pc := 1) C mlX1_3 wObjI wObjC dX1_init_1 (by decide) (Nat.le_of_ble_eq_true rfl) ?_
  refine J_aload_n (pc := 4) C dX1_init_4 rfl 0 rfl ?_
  refine J_new (pc := 5) C nlX1_9 (by decide) (by decide) dX1_init_5 (fun a1 h2 => ?_)
  refine J_dup (pc := 8) C dX1_init_8 rfl ?_
  refine J_callINU (pc := 9) (As := []) (rest := [.ref a1, .ref a0]) C (fun z hz => mX8_init a1 h2 z hz) mwX8_init rfl "GoldLeaves" rfl (by decide +kernel) inX8_init rfl dX1_init_9 (by decide) rfl (Nat.le_of_ble_eq_true rfl) (by decide) (fun _ h3 => ?_)
  refine J_putF (pc := 12) C flX1_12 cl1 ft1_0 rfl rfl hin cw1 dX1_init_12 (fun h4 => ?_)
  refine J_aload_n (pc := 15) C dX1_init_15 rfl 0 rfl ?_
  refine J_bipush (pc := 16) (v := 10) C dX1_init_16 (by decide) ?_
  refine J_newI (pc := 18) (N := 10) C (by decide) (by decide) (by decide) (by decide) (by decide) dX1_init_18 (fun a5 h6 => ?_)
  refine J_putF (pc := 20) C flX1_18 cl1 ft1_1 rfl rfl hin cw1 dX1_init_20 (fun h7 => ?_)
  refine J_aload_n (pc := 23) C dX1_init_23 rfl 0 rfl ?_
  refine J_bipush (pc := 24) (v := 10) C dX1_init_24 (by decide) ?_
  refine J_newI (pc := 26) (N := 10) C (by decide) (by decide) (by decide) (by decide) (by decide) dX1_init_26 (fun a8 h9 => ?_)
  refine J_putF (pc := 28) C flX1_22 cl1 ft1_2 rfl rfl hin cw1 dX1_init_28 (fun h10 => ?_)
  exact J_vret (pc := 31) C hr dX1_init_31
theorem mX1_init {l : Launch} {G : GX} (a0 : Nat) (h0 : PH) : ∀ z, fX1_init a0 h0 = some z → MC l G yX1_init cX1_init 1 none rmX1_init [.ref a0] h0 (rvU z.1) z.2 :=
  Met_J (own := RX1) (by decide) rfl (Nat.le_of_ble_eq_true rfl) (fun p e s m args below meth c C hr hn => vfX1_init C hr hn a0 h0)

theorem dX3_init_0 : decode cX3_init 0 = .ok (.aload_n 0, 1) := by decide +kernel
theorem dX3_init_1 : decode cX3_init 1 = .ok (.invokespecial 3, 3) := by decide +kernel
theorem dX3_init_4 : decode cX3_init 4 = .ok (.aload_n 0, 1) := by decide +kernel
theorem dX3_init_5 : decode cX3_init 5 = .ok (.iconst 1, 1) := by decide +kernel
theorem dX3_init_6 : decode cX3_init 6 = .ok (.putfield 9, 3) := by decide +kernel
theorem dX3_init_9 : decode cX3_init 9 = .ok (.aload_n 0, 1) := by decide +kernel
theorem dX3_init_10 : decode cX3_init 10 = .ok (.iconst 0, 1) := by decide +kernel
theorem dX3_init_11 : decode cX3_init 11 = .ok (.putfield 15, 3) := by decide +kernel
theorem dX3_init_14 : decode cX3_init 14 = .ok (.aload_n 0, 1) := by decide +kernel
theorem dX3_init_15 : decode cX3_init 15 = .ok (.bipush 100, 2) := by decide +kernel
theorem dX3_init_17 : decode cX3_init 17 = .ok (.putfield 18, 3) := by decide +kernel
theorem dX3_init_20 : decode cX3_init 20 = .ok (.aload_n 0, 1) := by decide +kernel
theorem dX3_init_21 : decode cX3_init 21 = .ok (.iconst 0, 1) := by decide +kernel
theorem dX3_init_22 : decode cX3_init 22 = .ok (.putfield 21, 3) := by decide +kernel
theorem dX3_init_25 : decode cX3_init 25 = .ok (.aload_n 0, 1) := by decide +kernel
theorem dX3_init_26 : decode cX3_init 26 = .ok (.bipush 100, 2) := by decide +kernel
theorem dX3_init_28 : decode cX3_init 28 = .ok (.putfield 24, 3) := by decide +kernel
theorem dX3_init_31 : decode cX3_init 31 = .ok (.return_, 1) := by decide +kernel
def rmX3_init : Room := { frames := 1, cells := 0, slots := 0, locals := 20 }
def fX3_init  (a0 : Nat) (h0 : PH) : Option (Unit × PH) :=
    bn (wr 3 0 (.int (1 : Int32)) a0 h0) fun h1 =>
    bn (wr 3 1 (.int (0 : Int32)) a0 h1) fun h2 =>
    bn (wr 3 2 (.int (100 : Int32)) a0 h2) fun h3 =>
    bn (wr 3 3 (.int (0 : Int32)) a0 h3) fun h4 =>
    bn (wr 3 4 (.int (100 : Int32)) a0 h4) fun h5 =>
    some ((), h5)
set_option maxHeartbeats 4000000 in
set_option maxRecDepth 100000 in
theorem vfX3_init {p : Program} {l : Launch} {e : Env} {s : State} {m : MethodId} {args : Array Value} {below : List Frame} {meth : Method} {c : Code} {G : GX} (C : Cx p s m args meth c G cX3_init 1 RX3) (hr : meth.sig.returnType = none) (hin : meth.name = "<init>") (a0 : Nat) (h0 : PH) : J p l e rmX3_init s m args below meth c G 1 (qM below args s rvU G 0 0) 0 0 h0 0 [(0, .ref a0)] [] (fX3_init  a0 h0) := by
  unfold fX3_init
  refine J_aload_n (pc := 0) C dX3_init_0 rfl 0 rfl ?_
  refine J_obj (pc := 1) C mlX3_3 wObjI wObjC dX3_init_1 (by decide) (Nat.le_of_ble_eq_true rfl) ?_
  refine J_aload_n (pc := 4) C dX3_init_4 rfl 0 rfl ?_
  refine J_iconst (pc := 5) (v := 1) C dX3_init_5 (by decide) ?_
  refine J_put (pc := 6) C flX3_9 cl3 ft3_0 rfl rfl dX3_init_6 (fun h1 => ?_)
  refine J_aload_n (pc := 9) C dX3_init_9 rfl 0 rfl ?_
  refine J_iconst (pc := 10) (v := 0) C dX3_init_10 (by decide) ?_
  refine J_put (pc := 11) C flX3_15 cl3 ft3_1 rfl rfl dX3_init_11 (fun h2 => ?_)
  refine J_aload_n (pc := 14) C dX3_init_14 rfl 0 rfl ?_
  refine J_bipush (pc := 15) (v := 100) C dX3_init_15 (by decide) ?_
  refine J_put (pc := 17) C flX3_18 cl3 ft3_2 rfl rfl dX3_init_17 (fun h3 => ?_)
  refine J_aload_n (pc := 20) C dX3_init_20 rfl 0 rfl ?_
  refine J_iconst (pc := 21) (v := 0) C dX3_init_21 (by decide) ?_
  refine J_put (pc := 22) C flX3_21 cl3 ft3_3 rfl rfl dX3_init_22 (fun h4 => ?_)
  refine J_aload_n (pc := 25) C dX3_init_25 rfl 0 rfl ?_
  refine J_bipush (pc := 26) (v := 100) C dX3_init_26 (by decide) ?_
  refine J_put (pc := 28) C flX3_24 cl3 ft3_4 rfl rfl dX3_init_28 (fun h5 => ?_)
  exact J_vret (pc := 31) C hr dX3_init_31
theorem mX3_init {l : Launch} {G : GX} (a0 : Nat) (h0 : PH) : ∀ z, fX3_init a0 h0 = some z → MC l G yX3_init cX3_init 1 none rmX3_init [.ref a0] h0 (rvU z.1) z.2 :=
  Met_J (own := RX3) (by decide) rfl (Nat.le_of_ble_eq_true rfl) (fun p e s m args below meth c C hr hn => vfX3_init C hr hn a0 h0)

theorem dX6_init_0 : decode cX6_init 0 = .ok (.aload_n 0, 1) := by decide +kernel
theorem dX6_init_1 : decode cX6_init 1 = .ok (.invokespecial 3, 3) := by decide +kernel
theorem dX6_init_4 : decode cX6_init 4 = .ok (.aload_n 0, 1) := by decide +kernel
theorem dX6_init_5 : decode cX6_init 5 = .ok (.iconst 3, 1) := by decide +kernel
theorem dX6_init_6 : decode cX6_init 6 = .ok (.anewarray 9, 3) := by decide +kernel
theorem dX6_init_9 : decode cX6_init 9 = .ok (.dup, 1) := by decide +kernel
theorem dX6_init_10 : decode cX6_init 10 = .ok (.iconst 0, 1) := by decide +kernel
theorem dX6_init_11 : decode cX6_init 11 = .ok (.new 9, 3) := by decide +kernel
theorem dX6_init_14 : decode cX6_init 14 = .ok (.dup, 1) := by decide +kernel
theorem dX6_init_15 : decode cX6_init 15 = .ok (.invokespecial 11, 3) := by decide +kernel
theorem dX6_init_18 : decode cX6_init 18 = .ok (.aastore, 1) := by decide +kernel
theorem dX6_init_19 : decode cX6_init 19 = .ok (.dup, 1) := by decide +kernel
theorem dX6_init_20 : decode cX6_init 20 = .ok (.iconst 1, 1) := by decide +kernel
theorem dX6_init_21 : decode cX6_init 21 = .ok (.new 9, 3) := by decide +kernel
theorem dX6_init_24 : decode cX6_init 24 = .ok (.dup, 1) := by decide +kernel
theorem dX6_init_25 : decode cX6_init 25 = .ok (.invokespecial 11, 3) := by decide +kernel
theorem dX6_init_28 : decode cX6_init 28 = .ok (.aastore, 1) := by decide +kernel
theorem dX6_init_29 : decode cX6_init 29 = .ok (.dup, 1) := by decide +kernel
theorem dX6_init_30 : decode cX6_init 30 = .ok (.iconst 2, 1) := by decide +kernel
theorem dX6_init_31 : decode cX6_init 31 = .ok (.new 9, 3) := by decide +kernel
theorem dX6_init_34 : decode cX6_init 34 = .ok (.dup, 1) := by decide +kernel
theorem dX6_init_35 : decode cX6_init 35 = .ok (.invokespecial 11, 3) := by decide +kernel
theorem dX6_init_38 : decode cX6_init 38 = .ok (.aastore, 1) := by decide +kernel
theorem dX6_init_39 : decode cX6_init 39 = .ok (.putfield 12, 3) := by decide +kernel
theorem dX6_init_42 : decode cX6_init 42 = .ok (.aload_n 0, 1) := by decide +kernel
theorem dX6_init_43 : decode cX6_init 43 = .ok (.bipush 60, 2) := by decide +kernel
theorem dX6_init_45 : decode cX6_init 45 = .ok (.newarray .int, 2) := by decide +kernel
theorem dX6_init_47 : decode cX6_init 47 = .ok (.putfield 18, 3) := by decide +kernel
theorem dX6_init_50 : decode cX6_init 50 = .ok (.aload_n 0, 1) := by decide +kernel
theorem dX6_init_51 : decode cX6_init 51 = .ok (.bipush 60, 2) := by decide +kernel
theorem dX6_init_53 : decode cX6_init 53 = .ok (.newarray .int, 2) := by decide +kernel
theorem dX6_init_55 : decode cX6_init 55 = .ok (.putfield 22, 3) := by decide +kernel
theorem dX6_init_58 : decode cX6_init 58 = .ok (.aload_n 0, 1) := by decide +kernel
theorem dX6_init_59 : decode cX6_init 59 = .ok (.bipush 60, 2) := by decide +kernel
theorem dX6_init_61 : decode cX6_init 61 = .ok (.newarray .boolean, 2) := by decide +kernel
theorem dX6_init_63 : decode cX6_init 63 = .ok (.putfield 25, 3) := by decide +kernel
theorem dX6_init_66 : decode cX6_init 66 = .ok (.aload_n 0, 1) := by decide +kernel
theorem dX6_init_67 : decode cX6_init 67 = .ok (.iconst 0, 1) := by decide +kernel
theorem dX6_init_68 : decode cX6_init 68 = .ok (.putfield 29, 3) := by decide +kernel
theorem dX6_init_71 : decode cX6_init 71 = .ok (.return_, 1) := by decide +kernel
def rmX6_init : Room := { frames := 2, cells := 7, slots := 198, locals := 40 }
def fX6_init  (a0 : Nat) (h0 : PH) : Option (Unit × PH) :=
    nwB (.inl (4, 3, .inr (.inr (.inr (.inr (fun _ => none)))))) h0 fun a1 h2 =>
    nwB (.inr (3, [.int 0, .int 0, .int 0, .int 0, .int 0])) h2 fun a3 h4 =>
    bn2 (fX3_init a3 h4) fun _ h5 =>
    bn (astR 4 3 a1 (0 : Int32) a3 h5) fun h6 =>
    nwB (.inr (3, [.int 0, .int 0, .int 0, .int 0, .int 0])) h6 fun a7 h8 =>
    bn2 (fX3_init a7 h8) fun _ h9 =>
    bn (astR 4 3 a1 (1 : Int32) a7 h9) fun h10 =>
    nwB (.inr (3, [.int 0, .int 0, .int 0, .int 0, .int 0])) h10 fun a11 h12 =>
    bn2 (fX3_init a11 h12) fun _ h13 =>
    bn (astR 4 3 a1 (2 : Int32) a11 h13) fun h14 =>
    bn (wr 6 0 (.ref a1) a0 h14) fun h15 =>
    nwB (.inl (0, 60, .inl (fun _ => 0))) h15 fun a16 h17 =>
    bn (wr 6 1 (.ref a16) a0 h17) fun h18 =>
    nwB (.inl (0, 60, .inl (fun _ => 0))) h18 fun a19 h20 =>
    bn (wr 6 2 (.ref a19) a0 h20) fun h21 =>
    nwB (.inl (1, 60, .inl (fun _ => 0))) h21 fun a22 h23 =>
    bn (wr 6 3 (.ref a22) a0 h23) fun h24 =>
    bn (wr 6 4 (.int (0 : Int32)) a0 h24) fun h25 =>
    some ((), h25)
set_option maxHeartbeats 4000000 in
set_option maxRecDepth 100000 in
theorem vfX6_init {p : Program} {l : Launch} {e : Env} {s : State} {m : MethodId} {args : Array Value} {below : List Frame} {meth : Method} {c : Code} {G : GX} (C : Cx p s m args meth c G cX6_init 1 RX6) (hr : meth.sig.returnType = none) (hin : meth.name = "<init>") (a0 : Nat) (h0 : PH) : J p l e rmX6_init s m args below meth c G 1 (qM below args s rvU G 7 198) 0 0 h0 0 [(0, .ref a0)] [] (fX6_init  a0 h0) := by
  unfold fX6_init
  refine J_aload_n (pc := 0) C dX6_init_0 rfl 0 rfl ?_
  refine J_obj (pc := 1) C mlX6_3 wObjI wObjC dX6_init_1 (by decide) (Nat.le_of_ble_eq_true rfl) ?_
  refine J_aload_n (pc := 4) C dX6_init_4 rfl 0 rfl ?_
  refine J_iconst (pc := 5) (v := 3) C dX6_init_5 (by decide) ?_
  refine J_newQ (pc := 6) (N := 3) C 4 "GoldLeaves$PackNeed" (fun _ => rfl) ckX6_9 (fun G U hk => hk.2.2.2.1) (by decide) (by decide) (by decide) (by decide) (by decide) dX6_init_6 (fun a1 h2 => ?_)
  refine J_dup (pc := 9) C dX6_init_9 rfl ?_
  refine J_iconst (pc := 10) (v := 0) C dX6_init_10 (by decide) ?_
  refine J_new (pc := 11) C nlX6_9 (by decide) (by decide) dX6_init_11 (fun a3 h4 => ?_)
  refine J_dup (pc := 14) C dX6_init_14 rfl ?_
  refine J_callINU (pc := 15) (As := []) (rest := [.ref a3, .int (0 : Int32), .ref a1, .ref a1, .ref a0]) C (fun z hz => mX3_init a3 h4 z hz) mwX3_init rfl "GoldLeaves" rfl (by decide +kernel) inX3_init rfl dX6_init_15 (by decide) rfl (Nat.le_of_ble_eq_true rfl) (by decide) (fun _ h5 => ?_)
  refine J_aast (pc := 18) C 4 3 "GoldLeaves$PackNeed" (fun _ => rfl) ⟨_, _, rfl⟩ dX6_init_18 (fun h6 => ?_)
  refine J_dup (pc := 19) C dX6_init_19 rfl ?_
  refine J_iconst (pc := 20) (v := 1) C dX6_init_20 (by decide) ?_
  refine J_new (pc := 21) C nlX6_9 (by decide) (by decide) dX6_init_21 (fun a7 h8 => ?_)
  refine J_dup (pc := 24) C dX6_init_24 rfl ?_
  refine J_callINU (pc := 25) (As := []) (rest := [.ref a7, .int (1 : Int32), .ref a1, .ref a1, .ref a0]) C (fun z hz => mX3_init a7 h8 z hz) mwX3_init rfl "GoldLeaves" rfl (by decide +kernel) inX3_init rfl dX6_init_25 (by decide) rfl (Nat.le_of_ble_eq_true rfl) (by decide) (fun _ h9 => ?_)
  refine J_aast (pc := 28) C 4 3 "GoldLeaves$PackNeed" (fun _ => rfl) ⟨_, _, rfl⟩ dX6_init_28 (fun h10 => ?_)
  refine J_dup (pc := 29) C dX6_init_29 rfl ?_
  refine J_iconst (pc := 30) (v := 2) C dX6_init_30 (by decide) ?_
  refine J_new (pc := 31) C nlX6_9 (by decide) (by decide) dX6_init_31 (fun a11 h12 => ?_)
  refine J_dup (pc := 34) C dX6_init_34 rfl ?_
  refine J_callINU (pc := 35) (As := []) (rest := [.ref a11, .int (2 : Int32), .ref a1, .ref a1, .ref a0]) C (fun z hz => mX3_init a11 h12 z hz) mwX3_init rfl "GoldLeaves" rfl (by decide +kernel) inX3_init rfl dX6_init_35 (by decide) rfl (Nat.le_of_ble_eq_true rfl) (by decide) (fun _ h13 => ?_)
  refine J_aast (pc := 38) C 4 3 "GoldLeaves$PackNeed" (fun _ => rfl) ⟨_, _, rfl⟩ dX6_init_38 (fun h14 => ?_)
  refine J_putF (pc := 39) C flX6_12 cl6 ft6_0 rfl rfl hin cw6 dX6_init_39 (fun h15 => ?_)
  refine J_aload_n (pc := 42) C dX6_init_42 rfl 0 rfl ?_
  refine J_bipush (pc := 43) (v := 60) C dX6_init_43 (by decide) ?_
  refine J_newI (pc := 45) (N := 60) C (by decide) (by decide) (by decide) (by decide) (by decide) dX6_init_45 (fun a16 h17 => ?_)
  refine J_putF (pc := 47) C flX6_18 cl6 ft6_1 rfl rfl hin cw6 dX6_init_47 (fun h18 => ?_)
  refine J_aload_n (pc := 50) C dX6_init_50 rfl 0 rfl ?_
  refine J_bipush (pc := 51) (v := 60) C dX6_init_51 (by decide) ?_
  refine J_newI (pc := 53) (N := 60) C (by decide) (by decide) (by decide) (by decide) (by decide) dX6_init_53 (fun a19 h20 => ?_)
  refine J_putF (pc := 55) C flX6_22 cl6 ft6_2 rfl rfl hin cw6 dX6_init_55 (fun h21 => ?_)
  refine J_aload_n (pc := 58) C dX6_init_58 rfl 0 rfl ?_
  refine J_bipush (pc := 59) (v := 60) C dX6_init_59 (by decide) ?_
  refine J_newZ (pc := 61) (N := 60) C (by decide) (by decide) (by decide) (by decide) (by decide) dX6_init_61 (fun a22 h23 => ?_)
  refine J_putF (pc := 63) C flX6_25 cl6 ft6_3 rfl rfl hin cw6 dX6_init_63 (fun h24 => ?_)
  refine J_aload_n (pc := 66) C dX6_init_66 rfl 0 rfl ?_
  refine J_iconst (pc := 67) (v := 0) C dX6_init_67 (by decide) ?_
  refine J_put (pc := 68) C flX6_29 cl6 ft6_4 rfl rfl dX6_init_68 (fun h25 => ?_)
  exact J_vret (pc := 71) C hr dX6_init_71
theorem mX6_init {l : Launch} {G : GX} (a0 : Nat) (h0 : PH) : ∀ z, fX6_init a0 h0 = some z → MC l G yX6_init cX6_init 1 none rmX6_init [.ref a0] h0 (rvU z.1) z.2 :=
  Met_J (own := RX6) (by decide) rfl (Nat.le_of_ble_eq_true rfl) (fun p e s m args below meth c C hr hn => vfX6_init C hr hn a0 h0)

theorem dX2_init_0 : decode cX2_init 0 = .ok (.aload_n 0, 1) := by decide +kernel
theorem dX2_init_1 : decode cX2_init 1 = .ok (.invokespecial 3, 3) := by decide +kernel
theorem dX2_init_4 : decode cX2_init 4 = .ok (.aload_n 0, 1) := by decide +kernel
theorem dX2_init_5 : decode cX2_init 5 = .ok (.sipush 200, 3) := by decide +kernel
theorem dX2_init_8 : decode cX2_init 8 = .ok (.newarray .int, 2) := by decide +kernel
theorem dX2_init_10 : decode cX2_init 10 = .ok (.putfield 9, 3) := by decide +kernel
theorem dX2_init_13 : decode cX2_init 13 = .ok (.aload_n 0, 1) := by decide +kernel
theorem dX2_init_14 : decode cX2_init 14 = .ok (.sipush 200, 3) := by decide +kernel
theorem dX2_init_17 : decode cX2_init 17 = .ok (.newarray .int, 2) := by decide +kernel
theorem dX2_init_19 : decode cX2_init 19 = .ok (.putfield 15, 3) := by decide +kernel
theorem dX2_init_22 : decode cX2_init 22 = .ok (.aload_n 0, 1) := by decide +kernel
theorem dX2_init_23 : decode cX2_init 23 = .ok (.sipush 200, 3) := by decide +kernel
theorem dX2_init_26 : decode cX2_init 26 = .ok (.newarray .int, 2) := by decide +kernel
theorem dX2_init_28 : decode cX2_init 28 = .ok (.putfield 18, 3) := by decide +kernel
theorem dX2_init_31 : decode cX2_init 31 = .ok (.aload_n 0, 1) := by decide +kernel
theorem dX2_init_32 : decode cX2_init 32 = .ok (.sipush 200, 3) := by decide +kernel
theorem dX2_init_35 : decode cX2_init 35 = .ok (.newarray .int, 2) := by decide +kernel
theorem dX2_init_37 : decode cX2_init 37 = .ok (.putfield 21, 3) := by decide +kernel
theorem dX2_init_40 : decode cX2_init 40 = .ok (.aload_n 0, 1) := by decide +kernel
theorem dX2_init_41 : decode cX2_init 41 = .ok (.iconst 0, 1) := by decide +kernel
theorem dX2_init_42 : decode cX2_init 42 = .ok (.putfield 24, 3) := by decide +kernel
theorem dX2_init_45 : decode cX2_init 45 = .ok (.aload_n 0, 1) := by decide +kernel
theorem dX2_init_46 : decode cX2_init 46 = .ok (.bipush 60, 2) := by decide +kernel
theorem dX2_init_48 : decode cX2_init 48 = .ok (.newarray .int, 2) := by decide +kernel
theorem dX2_init_50 : decode cX2_init 50 = .ok (.putfield 28, 3) := by decide +kernel
theorem dX2_init_53 : decode cX2_init 53 = .ok (.aload_n 0, 1) := by decide +kernel
theorem dX2_init_54 : decode cX2_init 54 = .ok (.bipush 60, 2) := by decide +kernel
theorem dX2_init_56 : decode cX2_init 56 = .ok (.newarray .int, 2) := by decide +kernel
theorem dX2_init_58 : decode cX2_init 58 = .ok (.putfield 31, 3) := by decide +kernel
theorem dX2_init_61 : decode cX2_init 61 = .ok (.aload_n 0, 1) := by decide +kernel
theorem dX2_init_62 : decode cX2_init 62 = .ok (.bipush 60, 2) := by decide +kernel
theorem dX2_init_64 : decode cX2_init 64 = .ok (.newarray .int, 2) := by decide +kernel
theorem dX2_init_66 : decode cX2_init 66 = .ok (.putfield 34, 3) := by decide +kernel
theorem dX2_init_69 : decode cX2_init 69 = .ok (.aload_n 0, 1) := by decide +kernel
theorem dX2_init_70 : decode cX2_init 70 = .ok (.iconst 0, 1) := by decide +kernel
theorem dX2_init_71 : decode cX2_init 71 = .ok (.putfield 37, 3) := by decide +kernel
theorem dX2_init_74 : decode cX2_init 74 = .ok (.return_, 1) := by decide +kernel
def rmX2_init : Room := { frames := 1, cells := 7, slots := 980, locals := 20 }
def fX2_init  (a0 : Nat) (h0 : PH) : Option (Unit × PH) :=
    nwB (.inl (0, 200, .inl (fun _ => 0))) h0 fun a1 h2 =>
    bn (wr 2 0 (.ref a1) a0 h2) fun h3 =>
    nwB (.inl (0, 200, .inl (fun _ => 0))) h3 fun a4 h5 =>
    bn (wr 2 1 (.ref a4) a0 h5) fun h6 =>
    nwB (.inl (0, 200, .inl (fun _ => 0))) h6 fun a7 h8 =>
    bn (wr 2 2 (.ref a7) a0 h8) fun h9 =>
    nwB (.inl (0, 200, .inl (fun _ => 0))) h9 fun a10 h11 =>
    bn (wr 2 3 (.ref a10) a0 h11) fun h12 =>
    bn (wr 2 4 (.int (0 : Int32)) a0 h12) fun h13 =>
    nwB (.inl (0, 60, .inl (fun _ => 0))) h13 fun a14 h15 =>
    bn (wr 2 5 (.ref a14) a0 h15) fun h16 =>
    nwB (.inl (0, 60, .inl (fun _ => 0))) h16 fun a17 h18 =>
    bn (wr 2 6 (.ref a17) a0 h18) fun h19 =>
    nwB (.inl (0, 60, .inl (fun _ => 0))) h19 fun a20 h21 =>
    bn (wr 2 7 (.ref a20) a0 h21) fun h22 =>
    bn (wr 2 8 (.int (0 : Int32)) a0 h22) fun h23 =>
    some ((), h23)
set_option maxHeartbeats 4000000 in
set_option maxRecDepth 100000 in
theorem vfX2_init {p : Program} {l : Launch} {e : Env} {s : State} {m : MethodId} {args : Array Value} {below : List Frame} {meth : Method} {c : Code} {G : GX} (C : Cx p s m args meth c G cX2_init 1 RX2) (hr : meth.sig.returnType = none) (hin : meth.name = "<init>") (a0 : Nat) (h0 : PH) : J p l e rmX2_init s m args below meth c G 1 (qM below args s rvU G 7 980) 0 0 h0 0 [(0, .ref a0)] [] (fX2_init  a0 h0) := by
  unfold fX2_init
  refine J_aload_n (pc := 0) C dX2_init_0 rfl 0 rfl ?_
  refine J_obj (pc := 1) C mlX2_3 wObjI wObjC dX2_init_1 (by decide) (Nat.le_of_ble_eq_true rfl) ?_
  refine J_aload_n (pc := 4) C dX2_init_4 rfl 0 rfl ?_
  refine J_sipush (pc := 5) (v := 200) C dX2_init_5 (by decide) ?_
  refine J_newI (pc := 8) (N := 200) C (by decide) (by decide) (by decide) (by decide) (by decide) dX2_init_8 (fun a1 h2 => ?_)
  refine J_putF (pc := 10) C flX2_9 cl2 ft2_0 rfl rfl hin cw2 dX2_init_10 (fun h3 => ?_)
  refine J_aload_n (pc := 13) C dX2_init_13 rfl 0 rfl ?_
  refine J_sipush (pc := 14) (v := 200) C dX2_init_14 (by decide) ?_
  refine J_newI (pc := 17) (N := 200) C (by decide) (by decide) (by decide) (by decide) (by decide) dX2_init_17 (fun a4 h5 => ?_)
  refine J_putF (pc := 19) C flX2_15 cl2 ft2_1 rfl rfl hin cw2 dX2_init_19 (fun h6 => ?_)
  refine J_aload_n (pc := 22) C dX2_init_22 rfl 0 rfl ?_
  refine J_sipush (pc := 23) (v := 200) C dX2_init_23 (by decide) ?_
  refine J_newI (pc := 26) (N := 200) C (by decide) (by decide) (by decide) (by decide) (by decide) dX2_init_26 (fun a7 h8 => ?_)
  refine J_putF (pc := 28) C flX2_18 cl2 ft2_2 rfl rfl hin cw2 dX2_init_28 (fun h9 => ?_)
  refine J_aload_n (pc := 31) C dX2_init_31 rfl 0 rfl ?_
  refine J_sipush (pc := 32) (v := 200) C dX2_init_32 (by decide) ?_
  refine J_newI (pc := 35) (N := 200) C (by decide) (by decide) (by decide) (by decide) (by decide) dX2_init_35 (fun a10 h11 => ?_)
  refine J_putF (pc := 37) C flX2_21 cl2 ft2_3 rfl rfl hin cw2 dX2_init_37 (fun h12 => ?_)
  refine J_aload_n (pc := 40) C dX2_init_40 rfl 0 rfl ?_
  refine J_iconst (pc := 41) (v := 0) C dX2_init_41 (by decide) ?_
  refine J_put (pc := 42) C flX2_24 cl2 ft2_4 rfl rfl dX2_init_42 (fun h13 => ?_)
  refine J_aload_n (pc := 45) C dX2_init_45 rfl 0 rfl ?_
  refine J_bipush (pc := 46) (v := 60) C dX2_init_46 (by decide) ?_
  refine J_newI (pc := 48) (N := 60) C (by decide) (by decide) (by decide) (by decide) (by decide) dX2_init_48 (fun a14 h15 => ?_)
  refine J_putF (pc := 50) C flX2_28 cl2 ft2_5 rfl rfl hin cw2 dX2_init_50 (fun h16 => ?_)
  refine J_aload_n (pc := 53) C dX2_init_53 rfl 0 rfl ?_
  refine J_bipush (pc := 54) (v := 60) C dX2_init_54 (by decide) ?_
  refine J_newI (pc := 56) (N := 60) C (by decide) (by decide) (by decide) (by decide) (by decide) dX2_init_56 (fun a17 h18 => ?_)
  refine J_putF (pc := 58) C flX2_31 cl2 ft2_6 rfl rfl hin cw2 dX2_init_58 (fun h19 => ?_)
  refine J_aload_n (pc := 61) C dX2_init_61 rfl 0 rfl ?_
  refine J_bipush (pc := 62) (v := 60) C dX2_init_62 (by decide) ?_
  refine J_newI (pc := 64) (N := 60) C (by decide) (by decide) (by decide) (by decide) (by decide) dX2_init_64 (fun a20 h21 => ?_)
  refine J_putF (pc := 66) C flX2_34 cl2 ft2_7 rfl rfl hin cw2 dX2_init_66 (fun h22 => ?_)
  refine J_aload_n (pc := 69) C dX2_init_69 rfl 0 rfl ?_
  refine J_iconst (pc := 70) (v := 0) C dX2_init_70 (by decide) ?_
  refine J_put (pc := 71) C flX2_37 cl2 ft2_8 rfl rfl dX2_init_71 (fun h23 => ?_)
  exact J_vret (pc := 74) C hr dX2_init_74
theorem mX2_init {l : Launch} {G : GX} (a0 : Nat) (h0 : PH) : ∀ z, fX2_init a0 h0 = some z → MC l G yX2_init cX2_init 1 none rmX2_init [.ref a0] h0 (rvU z.1) z.2 :=
  Met_J (own := RX2) (by decide) rfl (Nat.le_of_ble_eq_true rfl) (fun p e s m args below meth c C hr hn => vfX2_init C hr hn a0 h0)

theorem dX4_init_0 : decode cX4_init 0 = .ok (.aload_n 0, 1) := by decide +kernel
theorem dX4_init_1 : decode cX4_init 1 = .ok (.invokespecial 3, 3) := by decide +kernel
theorem dX4_init_4 : decode cX4_init 4 = .ok (.aload_n 0, 1) := by decide +kernel
theorem dX4_init_5 : decode cX4_init 5 = .ok (.iconst 0, 1) := by decide +kernel
theorem dX4_init_6 : decode cX4_init 6 = .ok (.putfield 9, 3) := by decide +kernel
theorem dX4_init_9 : decode cX4_init 9 = .ok (.aload_n 0, 1) := by decide +kernel
theorem dX4_init_10 : decode cX4_init 10 = .ok (.iconst 0, 1) := by decide +kernel
theorem dX4_init_11 : decode cX4_init 11 = .ok (.putfield 15, 3) := by decide +kernel
theorem dX4_init_14 : decode cX4_init 14 = .ok (.aload_n 0, 1) := by decide +kernel
theorem dX4_init_15 : decode cX4_init 15 = .ok (.bipush 30, 2) := by decide +kernel
theorem dX4_init_17 : decode cX4_init 17 = .ok (.newarray .int, 2) := by decide +kernel
theorem dX4_init_19 : decode cX4_init 19 = .ok (.putfield 18, 3) := by decide +kernel
theorem dX4_init_22 : decode cX4_init 22 = .ok (.aload_n 0, 1) := by decide +kernel
theorem dX4_init_23 : decode cX4_init 23 = .ok (.bipush 30, 2) := by decide +kernel
theorem dX4_init_25 : decode cX4_init 25 = .ok (.newarray .int, 2) := by decide +kernel
theorem dX4_init_27 : decode cX4_init 27 = .ok (.putfield 22, 3) := by decide +kernel
theorem dX4_init_30 : decode cX4_init 30 = .ok (.aload_n 0, 1) := by decide +kernel
theorem dX4_init_31 : decode cX4_init 31 = .ok (.bipush 30, 2) := by decide +kernel
theorem dX4_init_33 : decode cX4_init 33 = .ok (.newarray .int, 2) := by decide +kernel
theorem dX4_init_35 : decode cX4_init 35 = .ok (.putfield 25, 3) := by decide +kernel
theorem dX4_init_38 : decode cX4_init 38 = .ok (.aload_n 0, 1) := by decide +kernel
theorem dX4_init_39 : decode cX4_init 39 = .ok (.bipush 30, 2) := by decide +kernel
theorem dX4_init_41 : decode cX4_init 41 = .ok (.newarray .int, 2) := by decide +kernel
theorem dX4_init_43 : decode cX4_init 43 = .ok (.putfield 28, 3) := by decide +kernel
theorem dX4_init_46 : decode cX4_init 46 = .ok (.return_, 1) := by decide +kernel
def rmX4_init : Room := { frames := 1, cells := 4, slots := 120, locals := 20 }
def fX4_init  (a0 : Nat) (h0 : PH) : Option (Unit × PH) :=
    bn (wr 4 0 (.int (0 : Int32)) a0 h0) fun h1 =>
    bn (wr 4 1 (.int (0 : Int32)) a0 h1) fun h2 =>
    nwB (.inl (0, 30, .inl (fun _ => 0))) h2 fun a3 h4 =>
    bn (wr 4 2 (.ref a3) a0 h4) fun h5 =>
    nwB (.inl (0, 30, .inl (fun _ => 0))) h5 fun a6 h7 =>
    bn (wr 4 3 (.ref a6) a0 h7) fun h8 =>
    nwB (.inl (0, 30, .inl (fun _ => 0))) h8 fun a9 h10 =>
    bn (wr 4 4 (.ref a9) a0 h10) fun h11 =>
    nwB (.inl (0, 30, .inl (fun _ => 0))) h11 fun a12 h13 =>
    bn (wr 4 5 (.ref a12) a0 h13) fun h14 =>
    some ((), h14)
set_option maxHeartbeats 4000000 in
set_option maxRecDepth 100000 in
theorem vfX4_init {p : Program} {l : Launch} {e : Env} {s : State} {m : MethodId} {args : Array Value} {below : List Frame} {meth : Method} {c : Code} {G : GX} (C : Cx p s m args meth c G cX4_init 1 RX4) (hr : meth.sig.returnType = none) (hin : meth.name = "<init>") (a0 : Nat) (h0 : PH) : J p l e rmX4_init s m args below meth c G 1 (qM below args s rvU G 4 120) 0 0 h0 0 [(0, .ref a0)] [] (fX4_init  a0 h0) := by
  unfold fX4_init
  refine J_aload_n (pc := 0) C dX4_init_0 rfl 0 rfl ?_
  refine J_obj (pc := 1) C mlX4_3 wObjI wObjC dX4_init_1 (by decide) (Nat.le_of_ble_eq_true rfl) ?_
  refine J_aload_n (pc := 4) C dX4_init_4 rfl 0 rfl ?_
  refine J_iconst (pc := 5) (v := 0) C dX4_init_5 (by decide) ?_
  refine J_put (pc := 6) C flX4_9 cl4 ft4_0 rfl rfl dX4_init_6 (fun h1 => ?_)
  refine J_aload_n (pc := 9) C dX4_init_9 rfl 0 rfl ?_
  refine J_iconst (pc := 10) (v := 0) C dX4_init_10 (by decide) ?_
  refine J_put (pc := 11) C flX4_15 cl4 ft4_1 rfl rfl dX4_init_11 (fun h2 => ?_)
  refine J_aload_n (pc := 14) C dX4_init_14 rfl 0 rfl ?_
  refine J_bipush (pc := 15) (v := 30) C dX4_init_15 (by decide) ?_
  refine J_newI (pc := 17) (N := 30) C (by decide) (by decide) (by decide) (by decide) (by decide) dX4_init_17 (fun a3 h4 => ?_)
  refine J_putF (pc := 19) C flX4_18 cl4 ft4_2 rfl rfl hin cw4 dX4_init_19 (fun h5 => ?_)
  refine J_aload_n (pc := 22) C dX4_init_22 rfl 0 rfl ?_
  refine J_bipush (pc := 23) (v := 30) C dX4_init_23 (by decide) ?_
  refine J_newI (pc := 25) (N := 30) C (by decide) (by decide) (by decide) (by decide) (by decide) dX4_init_25 (fun a6 h7 => ?_)
  refine J_putF (pc := 27) C flX4_22 cl4 ft4_3 rfl rfl hin cw4 dX4_init_27 (fun h8 => ?_)
  refine J_aload_n (pc := 30) C dX4_init_30 rfl 0 rfl ?_
  refine J_bipush (pc := 31) (v := 30) C dX4_init_31 (by decide) ?_
  refine J_newI (pc := 33) (N := 30) C (by decide) (by decide) (by decide) (by decide) (by decide) dX4_init_33 (fun a9 h10 => ?_)
  refine J_putF (pc := 35) C flX4_25 cl4 ft4_4 rfl rfl hin cw4 dX4_init_35 (fun h11 => ?_)
  refine J_aload_n (pc := 38) C dX4_init_38 rfl 0 rfl ?_
  refine J_bipush (pc := 39) (v := 30) C dX4_init_39 (by decide) ?_
  refine J_newI (pc := 41) (N := 30) C (by decide) (by decide) (by decide) (by decide) (by decide) dX4_init_41 (fun a12 h13 => ?_)
  refine J_putF (pc := 43) C flX4_28 cl4 ft4_5 rfl rfl hin cw4 dX4_init_43 (fun h14 => ?_)
  exact J_vret (pc := 46) C hr dX4_init_46
theorem mX4_init {l : Launch} {G : GX} (a0 : Nat) (h0 : PH) : ∀ z, fX4_init a0 h0 = some z → MC l G yX4_init cX4_init 1 none rmX4_init [.ref a0] h0 (rvU z.1) z.2 :=
  Met_J (own := RX4) (by decide) rfl (Nat.le_of_ble_eq_true rfl) (fun p e s m args below meth c C hr hn => vfX4_init C hr hn a0 h0)

theorem dX9_init_0 : decode cX9_init 0 = .ok (.aload_n 0, 1) := by decide +kernel
theorem dX9_init_1 : decode cX9_init 1 = .ok (.invokespecial 1, 3) := by decide +kernel
theorem dX9_init_4 : decode cX9_init 4 = .ok (.aload_n 0, 1) := by decide +kernel
theorem dX9_init_5 : decode cX9_init 5 = .ok (.new 7, 3) := by decide +kernel
theorem dX9_init_8 : decode cX9_init 8 = .ok (.dup, 1) := by decide +kernel
theorem dX9_init_9 : decode cX9_init 9 = .ok (.invokespecial 9, 3) := by decide +kernel
theorem dX9_init_12 : decode cX9_init 12 = .ok (.putfield 10, 3) := by decide +kernel
theorem dX9_init_15 : decode cX9_init 15 = .ok (.aload_n 0, 1) := by decide +kernel
theorem dX9_init_16 : decode cX9_init 16 = .ok (.new 16, 3) := by decide +kernel
theorem dX9_init_19 : decode cX9_init 19 = .ok (.dup, 1) := by decide +kernel
theorem dX9_init_20 : decode cX9_init 20 = .ok (.invokespecial 18, 3) := by decide +kernel
theorem dX9_init_23 : decode cX9_init 23 = .ok (.putfield 19, 3) := by decide +kernel
theorem dX9_init_26 : decode cX9_init 26 = .ok (.aload_n 0, 1) := by decide +kernel
theorem dX9_init_27 : decode cX9_init 27 = .ok (.new 23, 3) := by decide +kernel
theorem dX9_init_30 : decode cX9_init 30 = .ok (.dup, 1) := by decide +kernel
theorem dX9_init_31 : decode cX9_init 31 = .ok (.invokespecial 25, 3) := by decide +kernel
theorem dX9_init_34 : decode cX9_init 34 = .ok (.putfield 26, 3) := by decide +kernel
theorem dX9_init_37 : decode cX9_init 37 = .ok (.aload_n 0, 1) := by decide +kernel
theorem dX9_init_38 : decode cX9_init 38 = .ok (.aload_n 0, 1) := by decide +kernel
theorem dX9_init_39 : decode cX9_init 39 = .ok (.getfield 26, 3) := by decide +kernel
theorem dX9_init_42 : decode cX9_init 42 = .ok (.getfield 30, 3) := by decide +kernel
theorem dX9_init_45 : decode cX9_init 45 = .ok (.putfield 34, 3) := by decide +kernel
theorem dX9_init_48 : decode cX9_init 48 = .ok (.aload_n 0, 1) := by decide +kernel
theorem dX9_init_49 : decode cX9_init 49 = .ok (.new 35, 3) := by decide +kernel
theorem dX9_init_52 : decode cX9_init 52 = .ok (.dup, 1) := by decide +kernel
theorem dX9_init_53 : decode cX9_init 53 = .ok (.invokespecial 37, 3) := by decide +kernel
theorem dX9_init_56 : decode cX9_init 56 = .ok (.putfield 38, 3) := by decide +kernel
theorem dX9_init_59 : decode cX9_init 59 = .ok (.aload_n 0, 1) := by decide +kernel
theorem dX9_init_60 : decode cX9_init 60 = .ok (.new 42, 3) := by decide +kernel
theorem dX9_init_63 : decode cX9_init 63 = .ok (.dup, 1) := by decide +kernel
theorem dX9_init_64 : decode cX9_init 64 = .ok (.invokespecial 44, 3) := by decide +kernel
theorem dX9_init_67 : decode cX9_init 67 = .ok (.putfield 45, 3) := by decide +kernel
theorem dX9_init_70 : decode cX9_init 70 = .ok (.aload_n 0, 1) := by decide +kernel
theorem dX9_init_71 : decode cX9_init 71 = .ok (.new 49, 3) := by decide +kernel
theorem dX9_init_74 : decode cX9_init 74 = .ok (.dup, 1) := by decide +kernel
theorem dX9_init_75 : decode cX9_init 75 = .ok (.invokespecial 51, 3) := by decide +kernel
theorem dX9_init_78 : decode cX9_init 78 = .ok (.putfield 52, 3) := by decide +kernel
theorem dX9_init_81 : decode cX9_init 81 = .ok (.aload_n 0, 1) := by decide +kernel
theorem dX9_init_82 : decode cX9_init 82 = .ok (.new 49, 3) := by decide +kernel
theorem dX9_init_85 : decode cX9_init 85 = .ok (.dup, 1) := by decide +kernel
theorem dX9_init_86 : decode cX9_init 86 = .ok (.invokespecial 51, 3) := by decide +kernel
theorem dX9_init_89 : decode cX9_init 89 = .ok (.putfield 56, 3) := by decide +kernel
theorem dX9_init_92 : decode cX9_init 92 = .ok (.aload_n 0, 1) := by decide +kernel
theorem dX9_init_93 : decode cX9_init 93 = .ok (.iconst (-1), 1) := by decide +kernel
theorem dX9_init_94 : decode cX9_init 94 = .ok (.putfield 59, 3) := by decide +kernel
theorem dX9_init_97 : decode cX9_init 97 = .ok (.aload_n 0, 1) := by decide +kernel
theorem dX9_init_98 : decode cX9_init 98 = .ok (.iconst 0, 1) := by decide +kernel
theorem dX9_init_99 : decode cX9_init 99 = .ok (.putfield 63, 3) := by decide +kernel
theorem dX9_init_102 : decode cX9_init 102 = .ok (.return_, 1) := by decide +kernel
def rmX9_init : Room := { frames := 3, cells := 39, slots := 1943, locals := 60 }
def fX9_init  (a0 : Nat) (h0 : PH) : Option (Unit × PH) :=
    nwB (.inr (7, [.null, .null, .null, .int 0, .int 0])) h0 fun a1 h2 =>
    bn2 (fX7_init a1 h2) fun _ h3 =>
    bn (wr 9 0 (.ref a1) a0 h3) fun h4 =>
    nwB (.inr (0, [.int 0, .int 0, .int 0])) h4 fun a5 h6 =>
    bn2 (fX0_init a5 h6) fun _ h7 =>
    bn (wr 9 1 (.ref a5) a0 h7) fun h8 =>
    nwB (.inr (1, [.null, .null, .null])) h8 fun a9 h10 =>
    bn2 (fX1_init a9 h10) fun _ h11 =>
    bn (wr 9 2 (.ref a9) a0 h11) fun h12 =>
    bn (rdR 9 2 a0 h12) fun a13 =>
    bn (rdR 1 0 a13 h12) fun a14 =>
    bn (wr 9 3 (.ref a14) a0 h12) fun h15 =>
    nwB (.inr (6, [.null, .null, .null, .null, .int 0])) h15 fun a16 h17 =>
    bn2 (fX6_init a16 h17) fun _ h18 =>
    bn (wr 9 4 (.ref a16) a0 h18) fun h19 =>
    nwB (.inr (2, [.null, .null, .null, .null, .int 0, .null, .null, .null, .int 0])) h19 fun a20 h21 =>
    bn2 (fX2_init a20 h21) fun _ h22 =>
    bn (wr 9 5 (.ref a20) a0 h22) fun h23 =>
    nwB (.inr (4, [.int 0, .int 0, .null, .null, .null, .null])) h23 fun a24 h25 =>
    bn2 (fX4_init a24 h25) fun _ h26 =>
    bn (wr 9 6 (.ref a24) a0 h26) fun h27 =>
    nwB (.inr (4, [.int 0, .int 0, .null, .null, .null, .null])) h27 fun a28 h29 =>
    bn2 (fX4_init a28 h29) fun _ h30 =>
    bn (wr 9 7 (.ref a28) a0 h30) fun h31 =>
    bn (wr 9 8 (.int (-1 : Int32)) a0 h31) fun h32 =>
    bn (wr 9 9 (.int (0 : Int32)) a0 h32) fun h33 =>
    some ((), h33)
set_option maxHeartbeats 4000000 in
set_option maxRecDepth 100000 in
theorem vfX9_init {p : Program} {l : Launch} {e : Env} {s : State} {m : MethodId} {args : Array Value} {below : List Frame} {meth : Method} {c : Code} {G : GX} (C : Cx p s m args meth c G cX9_init 1 RX9) (hr : meth.sig.returnType = none) (hin : meth.name = "<init>") (a0 : Nat) (h0 : PH) : J p l e rmX9_init s m args below meth c G 1 (qM below args s rvU G 39 1943) 0 0 h0 0 [(0, .ref a0)] [] (fX9_init  a0 h0) := by
  unfold fX9_init
  refine J_aload_n (pc := 0) C dX9_init_0 rfl 0 rfl ?_
  refine J_obj (pc := 1) C mlX9_1 wObjI wObjC dX9_init_1 (by decide) (Nat.le_of_ble_eq_true rfl) ?_
  refine J_aload_n (pc := 4) C dX9_init_4 rfl 0 rfl ?_
  refine J_new (pc := 5) C nlX9_7 (by decide) (by decide) dX9_init_5 (fun a1 h2 => ?_)
  refine J_dup (pc := 8) C dX9_init_8 rfl ?_
  refine J_callINU (pc := 9) (As := []) (rest := [.ref a1, .ref a0]) C (fun z hz => mX7_init a1 h2 z hz) mwX7_init rfl "GoldLeaves" rfl (by decide +kernel) inX7_init rfl dX9_init_9 (by decide) rfl (Nat.le_of_ble_eq_true rfl) (by decide) (fun _ h3 => ?_)
  refine J_putF (pc := 12) C flX9_10 cl9 ft9_0 rfl rfl hin cw9 dX9_init_12 (fun h4 => ?_)
  refine J_aload_n (pc := 15) C dX9_init_15 rfl 0 rfl ?_
  refine J_new (pc := 16) C nlX9_16 (by decide) (by decide) dX9_init_16 (fun a5 h6 => ?_)
  refine J_dup (pc := 19) C dX9_init_19 rfl ?_
  refine J_callINU (pc := 20) (As := []) (rest := [.ref a5, .ref a0]) C (fun z hz => mX0_init a5 h6 z hz) mwX0_init rfl "GoldLeaves" rfl (by decide +kernel) inX0_init rfl dX9_init_20 (by decide) rfl (Nat.le_of_ble_eq_true rfl) (by decide) (fun _ h7 => ?_)
  refine J_putF (pc := 23) C flX9_19 cl9 ft9_1 rfl rfl hin cw9 dX9_init_23 (fun h8 => ?_)
  refine J_aload_n (pc := 26) C dX9_init_26 rfl 0 rfl ?_
  refine J_new (pc := 27) C nlX9_23 (by decide) (by decide) dX9_init_27 (fun a9 h10 => ?_)
  refine J_dup (pc := 30) C dX9_init_30 rfl ?_
  refine J_callINU (pc := 31) (As := []) (rest := [.ref a9, .ref a0]) C (fun z hz => mX1_init a9 h10 z hz) mwX1_init rfl "GoldLeaves" rfl (by decide +kernel) inX1_init rfl dX9_init_31 (by decide) rfl (Nat.le_of_ble_eq_true rfl) (by decide) (fun _ h11 => ?_)
  refine J_putF (pc := 34) C flX9_26 cl9 ft9_2 rfl rfl hin cw9 dX9_init_34 (fun h12 => ?_)
  refine J_aload_n (pc := 37) C dX9_init_37 rfl 0 rfl ?_
  refine J_aload_n (pc := 38) C dX9_init_38 rfl 0 rfl ?_
  refine J_getR (pc := 39) C flX9_26 dX9_init_39 (fun a13 => ?_)
  refine J_getR (pc := 42) C flX9_30 dX9_init_42 (fun a14 => ?_)
  refine J_putF (pc := 45) C flX9_34 cl9 ft9_3 rfl rfl hin cw9 dX9_init_45 (fun h15 => ?_)
  refine J_aload_n (pc := 48) C dX9_init_48 rfl 0 rfl ?_
  refine J_new (pc := 49) C nlX9_35 (by decide) (by decide) dX9_init_49 (fun a16 h17 => ?_)
  refine J_dup (pc := 52) C dX9_init_52 rfl ?_
  refine J_callINU (pc := 53) (As := []) (rest := [.ref a16, .ref a0]) C (fun z hz => mX6_init a16 h17 z hz) mwX6_init rfl "GoldLeaves" rfl (by decide +kernel) inX6_init rfl dX9_init_53 (by decide) rfl (Nat.le_of_ble_eq_true rfl) (by decide) (fun _ h18 => ?_)
  refine J_putF (pc := 56) C flX9_38 cl9 ft9_4 rfl rfl hin cw9 dX9_init_56 (fun h19 => ?_)
  refine J_aload_n (pc := 59) C dX9_init_59 rfl 0 rfl ?_
  refine J_new (pc := 60) C nlX9_42 (by decide) (by decide) dX9_init_60 (fun a20 h21 => ?_)
  refine J_dup (pc := 63) C dX9_init_63 rfl ?_
  refine J_callINU (pc := 64) (As := []) (rest := [.ref a20, .ref a0]) C (fun z hz => mX2_init a20 h21 z hz) mwX2_init rfl "GoldLeaves" rfl (by decide +kernel) inX2_init rfl dX9_init_64 (by decide) rfl (Nat.le_of_ble_eq_true rfl) (by decide) (fun _ h22 => ?_)
  refine J_putF (pc := 67) C flX9_45 cl9 ft9_5 rfl rfl hin cw9 dX9_init_67 (fun h23 => ?_)
  refine J_aload_n (pc := 70) C dX9_init_70 rfl 0 rfl ?_
  refine J_new (pc := 71) C nlX9_49 (by decide) (by decide) dX9_init_71 (fun a24 h25 => ?_)
  refine J_dup (pc := 74) C dX9_init_74 rfl ?_
  refine J_callINU (pc := 75) (As := []) (rest := [.ref a24, .ref a0]) C (fun z hz => mX4_init a24 h25 z hz) mwX4_init rfl "GoldLeaves" rfl (by decide +kernel) inX4_init rfl dX9_init_75 (by decide) rfl (Nat.le_of_ble_eq_true rfl) (by decide) (fun _ h26 => ?_)
  refine J_put (pc := 78) C flX9_52 cl9 ft9_6 rfl rfl dX9_init_78 (fun h27 => ?_)
  refine J_aload_n (pc := 81) C dX9_init_81 rfl 0 rfl ?_
  refine J_new (pc := 82) C nlX9_49 (by decide) (by decide) dX9_init_82 (fun a28 h29 => ?_)
  refine J_dup (pc := 85) C dX9_init_85 rfl ?_
  refine J_callINU (pc := 86) (As := []) (rest := [.ref a28, .ref a0]) C (fun z hz => mX4_init a28 h29 z hz) mwX4_init rfl "GoldLeaves" rfl (by decide +kernel) inX4_init rfl dX9_init_86 (by decide) rfl (Nat.le_of_ble_eq_true rfl) (by decide) (fun _ h30 => ?_)
  refine J_put (pc := 89) C flX9_56 cl9 ft9_7 rfl rfl dX9_init_89 (fun h31 => ?_)
  refine J_aload_n (pc := 92) C dX9_init_92 rfl 0 rfl ?_
  refine J_iconst (pc := 93) (v := -1) C dX9_init_93 (by decide) ?_
  refine J_put (pc := 94) C flX9_59 cl9 ft9_8 rfl rfl dX9_init_94 (fun h32 => ?_)
  refine J_aload_n (pc := 97) C dX9_init_97 rfl 0 rfl ?_
  refine J_iconst (pc := 98) (v := 0) C dX9_init_98 (by decide) ?_
  refine J_put (pc := 99) C flX9_63 cl9 ft9_9 rfl rfl dX9_init_99 (fun h33 => ?_)
  exact J_vret (pc := 102) C hr dX9_init_102
theorem mX9_init {l : Launch} {G : GX} (a0 : Nat) (h0 : PH) : ∀ z, fX9_init a0 h0 = some z → MC l G yX9_init cX9_init 1 none rmX9_init [.ref a0] h0 (rvU z.1) z.2 :=
  Met_J (own := RX9) (by decide) rfl (Nat.le_of_ble_eq_true rfl) (fun p e s m args below meth c C hr hn => vfX9_init C hr hn a0 h0)

