theorem dX1_readInto_0 : decode cX1_readInto 0 = .ok (.aload_n 1, 1) := by decide +kernel
theorem dX1_readInto_1 : decode cX1_readInto 1 = .ok (.invokevirtual 25, 3) := by decide +kernel
theorem dX1_readInto_4 : decode cX1_readInto 4 = .ok (.aload_n 0, 1) := by decide +kernel
theorem dX1_readInto_5 : decode cX1_readInto 5 = .ok (.getfield 12, 3) := by decide +kernel
theorem dX1_readInto_8 : decode cX1_readInto 8 = .ok (.invokevirtual 30, 3) := by decide +kernel
theorem dX1_readInto_11 : decode cX1_readInto 11 = .ok (.aload_n 0, 1) := by decide +kernel
theorem dX1_readInto_12 : decode cX1_readInto 12 = .ok (.getfield 12, 3) := by decide +kernel
theorem dX1_readInto_15 : decode cX1_readInto 15 = .ok (.getfield 33, 3) := by decide +kernel
theorem dX1_readInto_18 : decode cX1_readInto 18 = .ok (.ifCond .ne 5, 3) := by decide +kernel
theorem dX1_readInto_21 : decode cX1_readInto 21 = .ok (.iconst 1, 1) := by decide +kernel
theorem dX1_readInto_22 : decode cX1_readInto 22 = .ok (.ireturn, 1) := by decide +kernel
theorem dX1_readInto_23 : decode cX1_readInto 23 = .ok (.iconst 0, 1) := by decide +kernel
theorem dX1_readInto_24 : decode cX1_readInto 24 = .ok (.istore_n 2, 1) := by decide +kernel
theorem dX1_readInto_25 : decode cX1_readInto 25 = .ok (.iload_n 2, 1) := by decide +kernel
theorem dX1_readInto_26 : decode cX1_readInto 26 = .ok (.bipush 10, 2) := by decide +kernel
theorem dX1_readInto_28 : decode cX1_readInto 28 = .ok (.if_icmp .gt 42, 3) := by decide +kernel
theorem dX1_readInto_31 : decode cX1_readInto 31 = .ok (.aload_n 0, 1) := by decide +kernel
theorem dX1_readInto_32 : decode cX1_readInto 32 = .ok (.aload_n 1, 1) := by decide +kernel
theorem dX1_readInto_33 : decode cX1_readInto 33 = .ok (.invokevirtual 37, 3) := by decide +kernel
theorem dX1_readInto_36 : decode cX1_readInto 36 = .ok (.ifCond .ne 5, 3) := by decide +kernel
theorem dX1_readInto_39 : decode cX1_readInto 39 = .ok (.iconst 0, 1) := by decide +kernel
theorem dX1_readInto_40 : decode cX1_readInto 40 = .ok (.ireturn, 1) := by decide +kernel
theorem dX1_readInto_41 : decode cX1_readInto 41 = .ok (.aload_n 0, 1) := by decide +kernel
theorem dX1_readInto_42 : decode cX1_readInto 42 = .ok (.getfield 12, 3) := by decide +kernel
theorem dX1_readInto_45 : decode cX1_readInto 45 = .ok (.getfield 33, 3) := by decide +kernel
theorem dX1_readInto_48 : decode cX1_readInto 48 = .ok (.ifCond .ne 5, 3) := by decide +kernel
theorem dX1_readInto_51 : decode cX1_readInto 51 = .ok (.iconst 1, 1) := by decide +kernel
theorem dX1_readInto_52 : decode cX1_readInto 52 = .ok (.ireturn, 1) := by decide +kernel
theorem dX1_readInto_53 : decode cX1_readInto 53 = .ok (.aload_n 0, 1) := by decide +kernel
theorem dX1_readInto_54 : decode cX1_readInto 54 = .ok (.bipush 59, 2) := by decide +kernel
theorem dX1_readInto_56 : decode cX1_readInto 56 = .ok (.invokevirtual 41, 3) := by decide +kernel
theorem dX1_readInto_59 : decode cX1_readInto 59 = .ok (.ifCond .ne 5, 3) := by decide +kernel
theorem dX1_readInto_62 : decode cX1_readInto 62 = .ok (.iconst 0, 1) := by decide +kernel
theorem dX1_readInto_63 : decode cX1_readInto 63 = .ok (.ireturn, 1) := by decide +kernel
theorem dX1_readInto_64 : decode cX1_readInto 64 = .ok (.iinc 2 1, 3) := by decide +kernel
theorem dX1_readInto_67 : decode cX1_readInto 67 = .ok (.goto (-42), 3) := by decide +kernel
theorem dX1_readInto_70 : decode cX1_readInto 70 = .ok (.iconst 0, 1) := by decide +kernel
theorem dX1_readInto_71 : decode cX1_readInto 71 = .ok (.ireturn, 1) := by decide +kernel
def rmX1_readInto : Room := { frames := 8, cells := 0, slots := 0, locals := 173 }
def fX1_readInto_25  : Nat → Nat → Nat → Int32 → PH → Option (Int32 × PH)
  | 0, _, _, _, _ => none
  | n + 1, al0, al1, xl2, h0 =>
    if (10 : Int32) < xl2 then (some ((0 : Int32), h0)) else
    bn (chk 1 al0 h0) fun _ => bn2 (fX1_readColour al0 al1 h0) fun x7 h6 =>
    if x7 = 0 then (some ((0 : Int32), h6)) else
    bn (rdR 1 0 al0 h6) fun a8 =>
    bn (rdI 8 2 a8 h6) fun x9 =>
    if x9 = 0 then (some ((1 : Int32), h6)) else
    bn (chk 1 al0 h6) fun _ => bn2 (fX1_takeMark al0 (59 : Int32) h6) fun x11 h10 =>
    if x11 = 0 then (some ((0 : Int32), h10)) else
    (fX1_readInto_25 n) al0 al1 (xl2 + 1) h10
set_option maxHeartbeats 4000000 in
set_option maxRecDepth 100000 in
theorem vfX1_readInto_25 {p : Program} {l : Launch} {e : Env} {s : State} {m : MethodId} {args : Array Value} {below : List Frame} {meth : Method} {c : Code} {G : GX} (C : Cx p s m args meth c G cX1_readInto 3 RX1) (hr : meth.sig.returnType = (some .boolean)) : ∀ (n : Nat) (al0 : Nat) (al1 : Nat) (xl2 : Int32) (h0 : PH), J p l e rmX1_readInto s m args below meth c G 3 (qM below args s rvI G 0 0) 0 0 h0 25 [(0, .ref al0), (1, .ref al1), (2, .int xl2)] [] (fX1_readInto_25  n al0 al1 xl2 h0) := by
  intro n
  induction n with
  | zero => exact fun al0 al1 xl2 h0 => J_none C
  | succ n ih =>
    intro al0 al1 xl2 h0
    unfold fX1_readInto_25
    refine J_iload_n (pc := 25) C dX1_readInto_25 rfl 2 rfl ?_
    refine J_bipush (pc := 26) (v := 10) C dX1_readInto_26 (by decide) ?_
    refine J_icmp_gt (pc := 28) (tgt := 70) C dX1_readInto_28 (by decide) ?_ ?_
    · refine J_iconst (pc := 70) (v := 0) C dX1_readInto_70 (by decide) ?_
      exact J_zret (pc := 71) C hr rfl dX1_readInto_71
    · refine J_aload_n (pc := 31) C dX1_readInto_31 rfl 0 rfl ?_
      refine J_aload_n (pc := 32) C dX1_readInto_32 rfl 1 rfl ?_
      refine J_callVI (pc := 33) (As := [.ref al1]) (rest := []) C (fun z hz => mX1_readColour al0 al1 h0 z hz) mwX1_readColour csX1_readColour mlX1_37 inX1_readColour rfl dX1_readInto_33 (by decide) rfl (Nat.le_of_ble_eq_true rfl) (by decide) (fun x7 h6 => ?_)
      refine J_if_ne (pc := 36) (tgt := 41) C dX1_readInto_36 (by decide) ?_ ?_
      · refine J_aload_n (pc := 41) C dX1_readInto_41 rfl 0 rfl ?_
        refine J_getR (pc := 42) C flX1_12 dX1_readInto_42 (fun a8 => ?_)
        refine J_getI (pc := 45) C flX1_33 dX1_readInto_45 (fun x9 => ?_)
        refine J_if_ne (pc := 48) (tgt := 53) C dX1_readInto_48 (by decide) ?_ ?_
        · refine J_aload_n (pc := 53) C dX1_readInto_53 rfl 0 rfl ?_
          refine J_bipush (pc := 54) (v := 59) C dX1_readInto_54 (by decide) ?_
          refine J_callVI (pc := 56) (As := [.int (59 : Int32)]) (rest := []) C (fun z hz => mX1_takeMark al0 (59 : Int32) h6 z hz) mwX1_takeMark csX1_takeMark mlX1_41 inX1_takeMark rfl dX1_readInto_56 (by decide) rfl (Nat.le_of_ble_eq_true rfl) (by decide) (fun x11 h10 => ?_)
          refine J_if_ne (pc := 59) (tgt := 64) C dX1_readInto_59 (by decide) ?_ ?_
          · refine J_iinc (pc := 64) (v := (xl2 + 1)) (lv1 := [(2, .int (xl2 + 1)), (0, .ref al0), (1, .ref al1)]) C dX1_readInto_64 2 rfl rfl (by decide) rfl ?_
            refine J_goto (pc := 67) (tgt := 25) C dX1_readInto_67 (by decide) ?_
            refine J_sub [1, 2, 0] rfl ?_
            exact ih al0 al1 (xl2 + 1) h10
          · refine J_iconst (pc := 62) (v := 0) C dX1_readInto_62 (by decide) ?_
            exact J_zret (pc := 63) C hr rfl dX1_readInto_63
        · refine J_iconst (pc := 51) (v := 1) C dX1_readInto_51 (by decide) ?_
          exact J_zret (pc := 52) C hr rfl dX1_readInto_52
      · refine J_iconst (pc := 39) (v := 0) C dX1_readInto_39 (by decide) ?_
        exact J_zret (pc := 40) C hr rfl dX1_readInto_40
def fX1_readInto  (a0 : Nat) (ap0 : Nat) (h0 : PH) : Option (Int32 × PH) :=
    bn (chk 4 ap0 h0) fun _ => bn2 (fX4_empty ap0 h0) fun _ h1 =>
    bn (rdR 1 0 a0 h1) fun a2 =>
    bn (chk 8 a2 h1) fun _ => bn2 (fX8_toFirstToken a2 h1) fun _ h3 =>
    bn (rdR 1 0 a0 h3) fun a4 =>
    bn (rdI 8 2 a4 h3) fun x5 =>
    if x5 = 0 then (some ((1 : Int32), h3)) else
    fX1_readInto_25  FU a0 ap0 (0 : Int32) h3
set_option maxHeartbeats 4000000 in
set_option maxRecDepth 100000 in
theorem vfX1_readInto {p : Program} {l : Launch} {e : Env} {s : State} {m : MethodId} {args : Array Value} {below : List Frame} {meth : Method} {c : Code} {G : GX} (C : Cx p s m args meth c G cX1_readInto 3 RX1) (hr : meth.sig.returnType = (some .boolean)) (a0 : Nat) (ap0 : Nat) (h0 : PH) : J p l e rmX1_readInto s m args below meth c G 3 (qM below args s rvI G 0 0) 0 0 h0 0 [(0, .ref a0), (1, .ref ap0)] [] (fX1_readInto  a0 ap0 h0) := by
  unfold fX1_readInto
  refine J_aload_n (pc := 0) C dX1_readInto_0 rfl 1 rfl ?_
  refine J_callVU (pc := 1) (As := []) (rest := []) C (fun z hz => mX4_empty ap0 h0 z hz) mwX4_empty csX4_empty mlX1_25 inX4_empty rfl dX1_readInto_1 (by decide) rfl (Nat.le_of_ble_eq_true rfl) (by decide) (fun _ h1 => ?_)
  refine J_aload_n (pc := 4) C dX1_readInto_4 rfl 0 rfl ?_
  refine J_getR (pc := 5) C flX1_12 dX1_readInto_5 (fun a2 => ?_)
  refine J_callVU (pc := 8) (As := []) (rest := []) C (fun z hz => mX8_toFirstToken a2 h1 z hz) mwX8_toFirstToken csX8_toFirstToken mlX1_30 inX8_toFirstToken rfl dX1_readInto_8 (by decide) rfl (Nat.le_of_ble_eq_true rfl) (by decide) (fun _ h3 => ?_)
  refine J_aload_n (pc := 11) C dX1_readInto_11 rfl 0 rfl ?_
  refine J_getR (pc := 12) C flX1_12 dX1_readInto_12 (fun a4 => ?_)
  refine J_getI (pc := 15) C flX1_33 dX1_readInto_15 (fun x5 => ?_)
  refine J_if_ne (pc := 18) (tgt := 23) C dX1_readInto_18 (by decide) ?_ ?_
  · refine J_iconst (pc := 23) (v := 0) C dX1_readInto_23 (by decide) ?_
    refine J_istore_n (pc := 24) (lv1 := [(2, .int (0 : Int32)), (0, .ref a0), (1, .ref ap0)]) C dX1_readInto_24 rfl (by decide) rfl ?_
    refine J_sub [1, 2, 0] rfl ?_
    exact vfX1_readInto_25 C hr  FU a0 ap0 (0 : Int32) h3
  · refine J_iconst (pc := 21) (v := 1) C dX1_readInto_21 (by decide) ?_
    exact J_zret (pc := 22) C hr rfl dX1_readInto_22
theorem mX1_readInto {l : Launch} {G : GX} (a0 : Nat) (ap0 : Nat) (h0 : PH) : ∀ z, fX1_readInto a0 ap0 h0 = some z → MC l G yX1_readInto cX1_readInto 3 (some .boolean) rmX1_readInto [.ref a0, .ref ap0] h0 (rvI z.1) z.2 :=
  Met_J (own := RX1) (by decide) rfl (Nat.le_of_ble_eq_true rfl) (fun p e s m args below meth c C hr hn => vfX1_readInto C hr a0 ap0 h0)

theorem dX9_colours_0 : decode cX9_colours 0 = .ok (.aload_n 0, 1) := by decide +kernel
theorem dX9_colours_1 : decode cX9_colours 1 = .ok (.getfield 26, 3) := by decide +kernel
theorem dX9_colours_4 : decode cX9_colours 4 = .ok (.aload_n 0, 1) := by decide +kernel
theorem dX9_colours_5 : decode cX9_colours 5 = .ok (.getfield 56, 3) := by decide +kernel
theorem dX9_colours_8 : decode cX9_colours 8 = .ok (.invokevirtual 116, 3) := by decide +kernel
theorem dX9_colours_11 : decode cX9_colours 11 = .ok (.istore_n 1, 1) := by decide +kernel
theorem dX9_colours_12 : decode cX9_colours 12 = .ok (.aload_n 0, 1) := by decide +kernel
theorem dX9_colours_13 : decode cX9_colours 13 = .ok (.iload_n 1, 1) := by decide +kernel
theorem dX9_colours_14 : decode cX9_colours 14 = .ok (.ifCond .eq 7, 3) := by decide +kernel
theorem dX9_colours_17 : decode cX9_colours 17 = .ok (.iconst (-1), 1) := by decide +kernel
theorem dX9_colours_18 : decode cX9_colours 18 = .ok (.goto 10, 3) := by decide +kernel
theorem dX9_colours_21 : decode cX9_colours 21 = .ok (.aload_n 0, 1) := by decide +kernel
theorem dX9_colours_22 : decode cX9_colours 22 = .ok (.getfield 34, 3) := by decide +kernel
theorem dX9_colours_25 : decode cX9_colours 25 = .ok (.getfield 120, 3) := by decide +kernel
theorem dX9_colours_28 : decode cX9_colours 28 = .ok (.putfield 59, 3) := by decide +kernel
theorem dX9_colours_31 : decode cX9_colours 31 = .ok (.aload_n 0, 1) := by decide +kernel
theorem dX9_colours_32 : decode cX9_colours 32 = .ok (.getfield 34, 3) := by decide +kernel
theorem dX9_colours_35 : decode cX9_colours 35 = .ok (.iconst 0, 1) := by decide +kernel
theorem dX9_colours_36 : decode cX9_colours 36 = .ok (.putfield 107, 3) := by decide +kernel
theorem dX9_colours_39 : decode cX9_colours 39 = .ok (.iload_n 1, 1) := by decide +kernel
theorem dX9_colours_40 : decode cX9_colours 40 = .ok (.ifCond .ne 10, 3) := by decide +kernel
theorem dX9_colours_43 : decode cX9_colours 43 = .ok (.aload_n 0, 1) := by decide +kernel
theorem dX9_colours_44 : decode cX9_colours 44 = .ok (.bipush (-6), 2) := by decide +kernel
theorem dX9_colours_46 : decode cX9_colours 46 = .ok (.invokevirtual 70, 3) := by decide +kernel
theorem dX9_colours_49 : decode cX9_colours 49 = .ok (.ireturn, 1) := by decide +kernel
theorem dX9_colours_50 : decode cX9_colours 50 = .ok (.aload_n 0, 1) := by decide +kernel
theorem dX9_colours_51 : decode cX9_colours 51 = .ok (.getfield 52, 3) := by decide +kernel
theorem dX9_colours_54 : decode cX9_colours 54 = .ok (.astore_n 2, 1) := by decide +kernel
theorem dX9_colours_55 : decode cX9_colours 55 = .ok (.aload_n 0, 1) := by decide +kernel
theorem dX9_colours_56 : decode cX9_colours 56 = .ok (.aload_n 0, 1) := by decide +kernel
theorem dX9_colours_57 : decode cX9_colours 57 = .ok (.getfield 56, 3) := by decide +kernel
theorem dX9_colours_60 : decode cX9_colours 60 = .ok (.putfield 52, 3) := by decide +kernel
theorem dX9_colours_63 : decode cX9_colours 63 = .ok (.aload_n 0, 1) := by decide +kernel
theorem dX9_colours_64 : decode cX9_colours 64 = .ok (.aload_n 2, 1) := by decide +kernel
theorem dX9_colours_65 : decode cX9_colours 65 = .ok (.putfield 56, 3) := by decide +kernel
theorem dX9_colours_68 : decode cX9_colours 68 = .ok (.aload_n 0, 1) := by decide +kernel
theorem dX9_colours_69 : decode cX9_colours 69 = .ok (.aload_n 0, 1) := by decide +kernel
theorem dX9_colours_70 : decode cX9_colours 70 = .ok (.getfield 52, 3) := by decide +kernel
theorem dX9_colours_73 : decode cX9_colours 73 = .ok (.getfield 123, 3) := by decide +kernel
theorem dX9_colours_76 : decode cX9_colours 76 = .ok (.invokevirtual 70, 3) := by decide +kernel
theorem dX9_colours_79 : decode cX9_colours 79 = .ok (.ireturn, 1) := by decide +kernel
def rmX9_colours : Room := { frames := 9, cells := 0, slots := 0, locals := 195 }
def fX9_colours_28  (al0 : Nat) (xl1 : Int32) (xs0 : Int32) (as1 : Nat) (h0 : PH) : Option (Int32 × PH) :=
    bn (wr 9 8 (.int xs0) as1 h0) fun h7 =>
    bn (rdR 9 3 al0 h7) fun a8 =>
    bn (wr 8 1 (.int (0 : Int32)) a8 h7) fun h9 =>
    if xl1 = 0 then (bn (chk 9 al0 h9) fun _ => bn2 (fX9_noted al0 (-6 : Int32) h9) fun x19 h18 =>
    some (x19, h18)) else
    bn (rdR 9 6 al0 h9) fun a10 =>
    bn (rdR 9 7 al0 h9) fun a11 =>
    bn (wr 9 6 (.ref a11) al0 h9) fun h12 =>
    bn (wr 9 7 (.ref a10) al0 h12) fun h13 =>
    bn (rdR 9 6 al0 h13) fun a14 =>
    bn (rdI 4 0 a14 h13) fun x15 =>
    bn (chk 9 al0 h13) fun _ => bn2 (fX9_noted al0 x15 h13) fun x17 h16 =>
    some (x17, h16)
set_option maxHeartbeats 4000000 in
set_option maxRecDepth 100000 in
theorem vfX9_colours_28 {p : Program} {l : Launch} {e : Env} {s : State} {m : MethodId} {args : Array Value} {below : List Frame} {meth : Method} {c : Code} {G : GX} (C : Cx p s m args meth c G cX9_colours 3 RX9) (hr : meth.sig.returnType = (some .int)) (al0 : Nat) (xl1 : Int32) (xs0 : Int32) (as1 : Nat) (h0 : PH) : J p l e rmX9_colours s m args below meth c G 3 (qM below args s rvI G 0 0) 0 0 h0 28 [(0, .ref al0), (1, .int xl1)] [.int xs0, .ref as1] (fX9_colours_28  al0 xl1 xs0 as1 h0) := by
  unfold fX9_colours_28
  refine J_put (pc := 28) C flX9_59 cl9 ft9_8 rfl rfl dX9_colours_28 (fun h7 => ?_)
  refine J_aload_n (pc := 31) C dX9_colours_31 rfl 0 rfl ?_
  refine J_getR (pc := 32) C flX9_34 dX9_colours_32 (fun a8 => ?_)
  refine J_iconst (pc := 35) (v := 0) C dX9_colours_35 (by decide) ?_
  refine J_put (pc := 36) C flX9_107 cl8 ft8_1 rfl rfl dX9_colours_36 (fun h9 => ?_)
  refine J_iload_n (pc := 39) C dX9_colours_39 rfl 1 rfl ?_
  refine J_if_ne (pc := 40) (tgt := 50) C dX9_colours_40 (by decide) ?_ ?_
  · refine J_aload_n (pc := 50) C dX9_colours_50 rfl 0 rfl ?_
    refine J_getR (pc := 51) C flX9_52 dX9_colours_51 (fun a10 => ?_)
    refine J_astore_n (pc := 54) (lv1 := [(2, .ref a10), (0, .ref al0), (1, .int xl1)]) C dX9_colours_54 rfl (by decide) rfl ?_
    refine J_aload_n (pc := 55) C dX9_colours_55 rfl 1 rfl ?_
    refine J_aload_n (pc := 56) C dX9_colours_56 rfl 1 rfl ?_
    refine J_getR (pc := 57) C flX9_56 dX9_colours_57 (fun a11 => ?_)
    refine J_put (pc := 60) C flX9_52 cl9 ft9_6 rfl rfl dX9_colours_60 (fun h12 => ?_)
    refine J_aload_n (pc := 63) C dX9_colours_63 rfl 1 rfl ?_
    refine J_aload_n (pc := 64) C dX9_colours_64 rfl 0 rfl ?_
    refine J_put (pc := 65) C flX9_56 cl9 ft9_7 rfl rfl dX9_colours_65 (fun h13 => ?_)
    refine J_aload_n (pc := 68) C dX9_colours_68 rfl 1 rfl ?_
    refine J_aload_n (pc := 69) C dX9_colours_69 rfl 1 rfl ?_
    refine J_getR (pc := 70) C flX9_52 dX9_colours_70 (fun a14 => ?_)
    refine J_getI (pc := 73) C flX9_123 dX9_colours_73 (fun x15 => ?_)
    refine J_callVI (pc := 76) (As := [.int x15]) (rest := []) C (fun z hz => mX9_noted al0 x15 h13 z hz) mwX9_noted csX9_noted mlX9_70 inX9_noted rfl dX9_colours_76 (by decide) rfl (Nat.le_of_ble_eq_true rfl) (by decide) (fun x17 h16 => ?_)
    exact J_iret (pc := 79) C hr dX9_colours_79
  · refine J_aload_n (pc := 43) C dX9_colours_43 rfl 0 rfl ?_
    refine J_bipush (pc := 44) (v := -6) C dX9_colours_44 (by decide) ?_
    refine J_callVI (pc := 46) (As := [.int (-6 : Int32)]) (rest := []) C (fun z hz => mX9_noted al0 (-6 : Int32) h9 z hz) mwX9_noted csX9_noted mlX9_70 inX9_noted rfl dX9_colours_46 (by decide) rfl (Nat.le_of_ble_eq_true rfl) (by decide) (fun x19 h18 => ?_)
    exact J_iret (pc := 49) C hr dX9_colours_49
def fX9_colours  (a0 : Nat) (h0 : PH) : Option (Int32 × PH) :=
    bn (rdR 9 2 a0 h0) fun a1 =>
    bn (rdR 9 7 a0 h0) fun a2 =>
    bn (chk 1 a1 h0) fun _ => bn2 (fX1_readInto a1 a2 h0) fun x4 h3 =>
    if x4 = 0 then (bn (rdR 9 3 a0 h3) fun a5 =>
    bn (rdI 8 3 a5 h3) fun x6 =>
    fX9_colours_28  a0 x4 x6 a0 h3) else
    fX9_colours_28  a0 x4 (-1 : Int32) a0 h3
set_option maxHeartbeats 4000000 in
set_option maxRecDepth 100000 in
theorem vfX9_colours {p : Program} {l : Launch} {e : Env} {s : State} {m : MethodId} {args : Array Value} {below : List Frame} {meth : Method} {c : Code} {G : GX} (C : Cx p s m args meth c G cX9_colours 3 RX9) (hr : meth.sig.returnType = (some .int)) (a0 : Nat) (h0 : PH) : J p l e rmX9_colours s m args below meth c G 3 (qM below args s rvI G 0 0) 0 0 h0 0 [(0, .ref a0)] [] (fX9_colours  a0 h0) := by
  unfold fX9_colours
  refine J_aload_n (pc := 0) C dX9_colours_0 rfl 0 rfl ?_
  refine J_getR (pc := 1) C flX9_26 dX9_colours_1 (fun a1 => ?_)
  refine J_aload_n (pc := 4) C dX9_colours_4 rfl 0 rfl ?_
  refine J_getR (pc := 5) C flX9_56 dX9_colours_5 (fun a2 => ?_)
  refine J_callVI (pc := 8) (As := [.ref a2]) (rest := []) C (fun z hz => mX1_readInto a1 a2 h0 z hz) mwX1_readInto csX1_readInto mlX9_116 inX1_readInto rfl dX9_colours_8 (by decide) rfl (Nat.le_of_ble_eq_true rfl) (by decide) (fun x4 h3 => ?_)
  refine J_istore_n (pc := 11) (lv1 := [(1, .int x4), (0, .ref a0)]) C dX9_colours_11 rfl (by decide) rfl ?_
  refine J_aload_n (pc := 12) C dX9_colours_12 rfl 1 rfl ?_
  refine J_iload_n (pc := 13) C dX9_colours_13 rfl 0 rfl ?_
  refine J_if_eq (pc := 14) (tgt := 21) C dX9_colours_14 (by decide) ?_ ?_
  · refine J_aload_n (pc := 21) C dX9_colours_21 rfl 1 rfl ?_
    refine J_getR (pc := 22) C flX9_34 dX9_colours_22 (fun a5 => ?_)
    refine J_getI (pc := 25) C flX9_120 dX9_colours_25 (fun x6 => ?_)
    refine J_sub [1, 0] rfl ?_
    exact vfX9_colours_28 C hr  a0 x4 x6 a0 h3
  · refine J_iconst (pc := 17) (v := -1) C dX9_colours_17 (by decide) ?_
    refine J_goto (pc := 18) (tgt := 28) C dX9_colours_18 (by decide) ?_
    refine J_sub [1, 0] rfl ?_
    exact vfX9_colours_28 C hr  a0 x4 (-1 : Int32) a0 h3
theorem mX9_colours {l : Launch} {G : GX} (a0 : Nat) (h0 : PH) : ∀ z, fX9_colours a0 h0 = some z → MC l G yX9_colours cX9_colours 3 (some .int) rmX9_colours [.ref a0] h0 (rvI z.1) z.2 :=
  Met_J (own := RX9) (by decide) rfl (Nat.le_of_ble_eq_true rfl) (fun p e s m args below meth c C hr hn => vfX9_colours C hr a0 h0)

theorem dX10_isSmall_0 : decode cX10_isSmall 0 = .ok (.iload_n 0, 1) := by decide +kernel
theorem dX10_isSmall_1 : decode cX10_isSmall 1 = .ok (.bipush 97, 2) := by decide +kernel
theorem dX10_isSmall_3 : decode cX10_isSmall 3 = .ok (.if_icmp .lt 13, 3) := by decide +kernel
theorem dX10_isSmall_6 : decode cX10_isSmall 6 = .ok (.iload_n 0, 1) := by decide +kernel
theorem dX10_isSmall_7 : decode cX10_isSmall 7 = .ok (.bipush 122, 2) := by decide +kernel
theorem dX10_isSmall_9 : decode cX10_isSmall 9 = .ok (.if_icmp .gt 7, 3) := by decide +kernel
theorem dX10_isSmall_12 : decode cX10_isSmall 12 = .ok (.iconst 1, 1) := by decide +kernel
theorem dX10_isSmall_13 : decode cX10_isSmall 13 = .ok (.goto 4, 3) := by decide +kernel
theorem dX10_isSmall_16 : decode cX10_isSmall 16 = .ok (.iconst 0, 1) := by decide +kernel
theorem dX10_isSmall_17 : decode cX10_isSmall 17 = .ok (.ireturn, 1) := by decide +kernel
def rmX10_isSmall : Room := { frames := 0, cells := 0, slots := 0, locals := 0 }
def fX10_isSmall  (xp0 : Int32) (h0 : PH) : Option (Int32 × PH) :=
    if xp0 < (97 : Int32) then (some ((0 : Int32), h0)) else
    if (122 : Int32) < xp0 then (some ((0 : Int32), h0)) else
    some ((1 : Int32), h0)
set_option maxHeartbeats 4000000 in
set_option maxRecDepth 100000 in
theorem vfX10_isSmall {p : Program} {l : Launch} {e : Env} {s : State} {m : MethodId} {args : Array Value} {below : List Frame} {meth : Method} {c : Code} {G : GX} (C : Cx p s m args meth c G cX10_isSmall 1 RX10) (hr : meth.sig.returnType = (some .boolean)) (xp0 : Int32) (h0 : PH) : J p l e rmX10_isSmall s m args below meth c G 1 (qM below args s rvI G 0 0) 0 0 h0 0 [(0, .int xp0)] [] (fX10_isSmall  xp0 h0) := by
  unfold fX10_isSmall
  refine J_iload_n (pc := 0) C dX10_isSmall_0 rfl 0 rfl ?_
  refine J_bipush (pc := 1) (v := 97) C dX10_isSmall_1 (by decide) ?_
  refine J_icmp_lt (pc := 3) (tgt := 16) C dX10_isSmall_3 (by decide) ?_ ?_
  · refine J_iconst (pc := 16) (v := 0) C dX10_isSmall_16 (by decide) ?_
    exact J_zret (pc := 17) C hr rfl dX10_isSmall_17
  · refine J_iload_n (pc := 6) C dX10_isSmall_6 rfl 0 rfl ?_
    refine J_bipush (pc := 7) (v := 122) C dX10_isSmall_7 (by decide) ?_
    refine J_icmp_gt (pc := 9) (tgt := 16) C dX10_isSmall_9 (by decide) ?_ ?_
    · refine J_iconst (pc := 16) (v := 0) C dX10_isSmall_16 (by decide) ?_
      exact J_zret (pc := 17) C hr rfl dX10_isSmall_17
    · refine J_iconst (pc := 12) (v := 1) C dX10_isSmall_12 (by decide) ?_
      refine J_goto (pc := 13) (tgt := 17) C dX10_isSmall_13 (by decide) ?_
      exact J_zret (pc := 17) C hr rfl dX10_isSmall_17
theorem mX10_isSmall {l : Launch} {G : GX} (xp0 : Int32) (h0 : PH) : ∀ z, fX10_isSmall xp0 h0 = some z → MC l G yX10_isSmall cX10_isSmall 1 (some .boolean) rmX10_isSmall [.int xp0] h0 (rvI z.1) z.2 :=
  Met_J (own := RX10) (by decide) rfl (Nat.le_of_ble_eq_true rfl) (fun p e s m args below meth c C hr hn => vfX10_isSmall C hr xp0 h0)

theorem dX10_isDigit_0 : decode cX10_isDigit 0 = .ok (.iload_n 0, 1) := by decide +kernel
theorem dX10_isDigit_1 : decode cX10_isDigit 1 = .ok (.bipush 48, 2) := by decide +kernel
theorem dX10_isDigit_3 : decode cX10_isDigit 3 = .ok (.if_icmp .lt 13, 3) := by decide +kernel
theorem dX10_isDigit_6 : decode cX10_isDigit 6 = .ok (.iload_n 0, 1) := by decide +kernel
theorem dX10_isDigit_7 : decode cX10_isDigit 7 = .ok (.bipush 57, 2) := by decide +kernel
theorem dX10_isDigit_9 : decode cX10_isDigit 9 = .ok (.if_icmp .gt 7, 3) := by decide +kernel
theorem dX10_isDigit_12 : decode cX10_isDigit 12 = .ok (.iconst 1, 1) := by decide +kernel
theorem dX10_isDigit_13 : decode cX10_isDigit 13 = .ok (.goto 4, 3) := by decide +kernel
theorem dX10_isDigit_16 : decode cX10_isDigit 16 = .ok (.iconst 0, 1) := by decide +kernel
theorem dX10_isDigit_17 : decode cX10_isDigit 17 = .ok (.ireturn, 1) := by decide +kernel
def rmX10_isDigit : Room := { frames := 0, cells := 0, slots := 0, locals := 0 }
def fX10_isDigit  (xp0 : Int32) (h0 : PH) : Option (Int32 × PH) :=
    if xp0 < (48 : Int32) then (some ((0 : Int32), h0)) else
    if (57 : Int32) < xp0 then (some ((0 : Int32), h0)) else
    some ((1 : Int32), h0)
set_option maxHeartbeats 4000000 in
set_option maxRecDepth 100000 in
theorem vfX10_isDigit {p : Program} {l : Launch} {e : Env} {s : State} {m : MethodId} {args : Array Value} {below : List Frame} {meth : Method} {c : Code} {G : GX} (C : Cx p s m args meth c G cX10_isDigit 1 RX10) (hr : meth.sig.returnType = (some .boolean)) (xp0 : Int32) (h0 : PH) : J p l e rmX10_isDigit s m args below meth c G 1 (qM below args s rvI G 0 0) 0 0 h0 0 [(0, .int xp0)] [] (fX10_isDigit  xp0 h0) := by
  unfold fX10_isDigit
  refine J_iload_n (pc := 0) C dX10_isDigit_0 rfl 0 rfl ?_
  refine J_bipush (pc := 1) (v := 48) C dX10_isDigit_1 (by decide) ?_
  refine J_icmp_lt (pc := 3) (tgt := 16) C dX10_isDigit_3 (by decide) ?_ ?_
  · refine J_iconst (pc := 16) (v := 0) C dX10_isDigit_16 (by decide) ?_
    exact J_zret (pc := 17) C hr rfl dX10_isDigit_17
  · refine J_iload_n (pc := 6) C dX10_isDigit_6 rfl 0 rfl ?_
    refine J_bipush (pc := 7) (v := 57) C dX10_isDigit_7 (by decide) ?_
    refine J_icmp_gt (pc := 9) (tgt := 16) C dX10_isDigit_9 (by decide) ?_ ?_
    · refine J_iconst (pc := 16) (v := 0) C dX10_isDigit_16 (by decide) ?_
      exact J_zret (pc := 17) C hr rfl dX10_isDigit_17
    · refine J_iconst (pc := 12) (v := 1) C dX10_isDigit_12 (by decide) ?_
      refine J_goto (pc := 13) (tgt := 17) C dX10_isDigit_13 (by decide) ?_
      exact J_zret (pc := 17) C hr rfl dX10_isDigit_17
theorem mX10_isDigit {l : Launch} {G : GX} (xp0 : Int32) (h0 : PH) : ∀ z, fX10_isDigit xp0 h0 = some z → MC l G yX10_isDigit cX10_isDigit 1 (some .boolean) rmX10_isDigit [.int xp0] h0 (rvI z.1) z.2 :=
  Met_J (own := RX10) (by decide) rfl (Nat.le_of_ble_eq_true rfl) (fun p e s m args below meth c C hr hn => vfX10_isDigit C hr xp0 h0)

