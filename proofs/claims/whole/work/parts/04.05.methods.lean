theorem dX7_meltInto_0 : decode cX7_meltInto 0 = .ok (.aload_n 0, 1) := by decide +kernel
theorem dX7_meltInto_1 : decode cX7_meltInto 1 = .ok (.iload_n 1, 1) := by decide +kernel
theorem dX7_meltInto_2 : decode cX7_meltInto 2 = .ok (.invokevirtual 54, 3) := by decide +kernel
theorem dX7_meltInto_5 : decode cX7_meltInto 5 = .ok (.astore_n 3, 1) := by decide +kernel
theorem dX7_meltInto_6 : decode cX7_meltInto 6 = .ok (.aload_n 0, 1) := by decide +kernel
theorem dX7_meltInto_7 : decode cX7_meltInto 7 = .ok (.iload_n 2, 1) := by decide +kernel
theorem dX7_meltInto_8 : decode cX7_meltInto 8 = .ok (.invokevirtual 54, 3) := by decide +kernel
theorem dX7_meltInto_11 : decode cX7_meltInto 11 = .ok (.astore 4, 2) := by decide +kernel
theorem dX7_meltInto_13 : decode cX7_meltInto 13 = .ok (.aload_n 3, 1) := by decide +kernel
theorem dX7_meltInto_14 : decode cX7_meltInto 14 = .ok (.ifnull 8, 3) := by decide +kernel
theorem dX7_meltInto_17 : decode cX7_meltInto 17 = .ok (.aload 4, 2) := by decide +kernel
theorem dX7_meltInto_19 : decode cX7_meltInto 19 = .ok (.ifnonnull 6, 3) := by decide +kernel
theorem dX7_meltInto_22 : decode cX7_meltInto 22 = .ok (.bipush (-2), 2) := by decide +kernel
theorem dX7_meltInto_24 : decode cX7_meltInto 24 = .ok (.ireturn, 1) := by decide +kernel
theorem dX7_meltInto_25 : decode cX7_meltInto 25 = .ok (.iload_n 1, 1) := by decide +kernel
theorem dX7_meltInto_26 : decode cX7_meltInto 26 = .ok (.iload_n 2, 1) := by decide +kernel
theorem dX7_meltInto_27 : decode cX7_meltInto 27 = .ok (.if_icmp .eq 18, 3) := by decide +kernel
theorem dX7_meltInto_30 : decode cX7_meltInto 30 = .ok (.aload_n 3, 1) := by decide +kernel
theorem dX7_meltInto_31 : decode cX7_meltInto 31 = .ok (.invokevirtual 58, 3) := by decide +kernel
theorem dX7_meltInto_34 : decode cX7_meltInto 34 = .ok (.ifCond .ne 11, 3) := by decide +kernel
theorem dX7_meltInto_37 : decode cX7_meltInto 37 = .ok (.aload 4, 2) := by decide +kernel
theorem dX7_meltInto_39 : decode cX7_meltInto 39 = .ok (.invokevirtual 58, 3) := by decide +kernel
theorem dX7_meltInto_42 : decode cX7_meltInto 42 = .ok (.ifCond .eq 6, 3) := by decide +kernel
theorem dX7_meltInto_45 : decode cX7_meltInto 45 = .ok (.bipush (-3), 2) := by decide +kernel
theorem dX7_meltInto_47 : decode cX7_meltInto 47 = .ok (.ireturn, 1) := by decide +kernel
theorem dX7_meltInto_48 : decode cX7_meltInto 48 = .ok (.iconst 0, 1) := by decide +kernel
theorem dX7_meltInto_49 : decode cX7_meltInto 49 = .ok (.istore 5, 2) := by decide +kernel
theorem dX7_meltInto_51 : decode cX7_meltInto 51 = .ok (.iload 5, 2) := by decide +kernel
theorem dX7_meltInto_53 : decode cX7_meltInto 53 = .ok (.bipush 10, 2) := by decide +kernel
theorem dX7_meltInto_55 : decode cX7_meltInto 55 = .ok (.if_icmp .ge 27, 3) := by decide +kernel
theorem dX7_meltInto_58 : decode cX7_meltInto 58 = .ok (.aload_n 3, 1) := by decide +kernel
theorem dX7_meltInto_59 : decode cX7_meltInto 59 = .ok (.getfield 43, 3) := by decide +kernel
theorem dX7_meltInto_62 : decode cX7_meltInto 62 = .ok (.iload 5, 2) := by decide +kernel
theorem dX7_meltInto_64 : decode cX7_meltInto 64 = .ok (.dup2, 1) := by decide +kernel
theorem dX7_meltInto_65 : decode cX7_meltInto 65 = .ok (.iaload, 1) := by decide +kernel
theorem dX7_meltInto_66 : decode cX7_meltInto 66 = .ok (.aload 4, 2) := by decide +kernel
theorem dX7_meltInto_68 : decode cX7_meltInto 68 = .ok (.getfield 43, 3) := by decide +kernel
theorem dX7_meltInto_71 : decode cX7_meltInto 71 = .ok (.iload 5, 2) := by decide +kernel
theorem dX7_meltInto_73 : decode cX7_meltInto 73 = .ok (.iaload, 1) := by decide +kernel
theorem dX7_meltInto_74 : decode cX7_meltInto 74 = .ok (.iadd, 1) := by decide +kernel
theorem dX7_meltInto_75 : decode cX7_meltInto 75 = .ok (.iastore, 1) := by decide +kernel
theorem dX7_meltInto_76 : decode cX7_meltInto 76 = .ok (.iinc 5 1, 3) := by decide +kernel
theorem dX7_meltInto_79 : decode cX7_meltInto 79 = .ok (.goto (-28), 3) := by decide +kernel
theorem dX7_meltInto_82 : decode cX7_meltInto 82 = .ok (.aload_n 3, 1) := by decide +kernel
theorem dX7_meltInto_83 : decode cX7_meltInto 83 = .ok (.dup, 1) := by decide +kernel
theorem dX7_meltInto_84 : decode cX7_meltInto 84 = .ok (.getfield 47, 3) := by decide +kernel
theorem dX7_meltInto_87 : decode cX7_meltInto 87 = .ok (.aload 4, 2) := by decide +kernel
theorem dX7_meltInto_89 : decode cX7_meltInto 89 = .ok (.getfield 47, 3) := by decide +kernel
theorem dX7_meltInto_92 : decode cX7_meltInto 92 = .ok (.iadd, 1) := by decide +kernel
theorem dX7_meltInto_93 : decode cX7_meltInto 93 = .ok (.putfield 47, 3) := by decide +kernel
theorem dX7_meltInto_96 : decode cX7_meltInto 96 = .ok (.aload 4, 2) := by decide +kernel
theorem dX7_meltInto_98 : decode cX7_meltInto 98 = .ok (.iconst 1, 1) := by decide +kernel
theorem dX7_meltInto_99 : decode cX7_meltInto 99 = .ok (.putfield 33, 3) := by decide +kernel
theorem dX7_meltInto_102 : decode cX7_meltInto 102 = .ok (.aload_n 3, 1) := by decide +kernel
theorem dX7_meltInto_103 : decode cX7_meltInto 103 = .ok (.getfield 47, 3) := by decide +kernel
theorem dX7_meltInto_106 : decode cX7_meltInto 106 = .ok (.ireturn, 1) := by decide +kernel
def rmX7_meltInto : Room := { frames := 1, cells := 0, slots := 0, locals := 22 }
def fX7_meltInto_51  : Nat → Nat → Nat → Int32 → PH → Option (Int32 × PH)
  | 0, _, _, _, _ => none
  | n + 1, al3, al4, xl5, h0 =>
    if (10 : Int32) ≤ xl5 then (bn (rdI 5 1 al3 h0) fun x11 =>
    bn (rdI 5 1 al4 h0) fun x12 =>
    bn (wr 5 1 (.int (x11 + x12)) al3 h0) fun h13 =>
    bn (wr 5 4 (.int (1 : Int32)) al4 h13) fun h14 =>
    bn (rdI 5 1 al3 h14) fun x15 =>
    some (x15, h14)) else
    bn (rdR 5 0 al3 h0) fun a16 =>
    bn (aldI 0 a16 xl5 h0) fun x17 =>
    bn (rdR 5 0 al4 h0) fun a18 =>
    bn (aldI 0 a18 xl5 h0) fun x19 =>
    bn (astI a16 xl5 (x17 + x19) h0) fun h20 =>
    (fX7_meltInto_51 n) al3 al4 (xl5 + 1) h20
set_option maxHeartbeats 4000000 in
set_option maxRecDepth 100000 in
theorem vfX7_meltInto_51 {p : Program} {l : Launch} {e : Env} {s : State} {m : MethodId} {args : Array Value} {below : List Frame} {meth : Method} {c : Code} {G : GX} (C : Cx p s m args meth c G cX7_meltInto 6 RX7) (hr : meth.sig.returnType = (some .int)) : ∀ (n : Nat) (al3 : Nat) (al4 : Nat) (xl5 : Int32) (h0 : PH), J p l e rmX7_meltInto s m args below meth c G 6 (qM below args s rvI G 0 0) 0 0 h0 51 [(3, .ref al3), (4, .ref al4), (5, .int xl5)] [] (fX7_meltInto_51  n al3 al4 xl5 h0) := by
  intro n
  induction n with
  | zero => exact fun al3 al4 xl5 h0 => J_none C
  | succ n ih =>
    intro al3 al4 xl5 h0
    unfold fX7_meltInto_51
    refine J_iload (pc := 51) C dX7_meltInto_51 2 rfl ?_
    refine J_bipush (pc := 53) (v := 10) C dX7_meltInto_53 (by decide) ?_
    refine J_icmp_ge (pc := 55) (tgt := 82) C dX7_meltInto_55 (by decide) ?_ ?_
    · refine J_aload_n (pc := 82) C dX7_meltInto_82 rfl 0 rfl ?_
      refine J_dup (pc := 83) C dX7_meltInto_83 rfl ?_
      refine J_getI (pc := 84) C flX7_47 dX7_meltInto_84 (fun x11 => ?_)
      refine J_aload (pc := 87) C dX7_meltInto_87 1 rfl ?_
      refine J_getI (pc := 89) C flX7_47 dX7_meltInto_89 (fun x12 => ?_)
      refine J_iadd (pc := 92) C dX7_meltInto_92 ?_
      refine J_put (pc := 93) C flX7_47 cl5 ft5_1 rfl rfl dX7_meltInto_93 (fun h13 => ?_)
      refine J_aload (pc := 96) C dX7_meltInto_96 1 rfl ?_
      refine J_iconst (pc := 98) (v := 1) C dX7_meltInto_98 (by decide) ?_
      refine J_put (pc := 99) C flX7_33 cl5 ft5_4 rfl rfl dX7_meltInto_99 (fun h14 => ?_)
      refine J_aload_n (pc := 102) C dX7_meltInto_102 rfl 0 rfl ?_
      refine J_getI (pc := 103) C flX7_47 dX7_meltInto_103 (fun x15 => ?_)
      exact J_iret (pc := 106) C hr dX7_meltInto_106
    · refine J_aload_n (pc := 58) C dX7_meltInto_58 rfl 0 rfl ?_
      refine J_getR (pc := 59) C flX7_43 dX7_meltInto_59 (fun a16 => ?_)
      refine J_iload (pc := 62) C dX7_meltInto_62 2 rfl ?_
      refine J_dup2 (pc := 64) C dX7_meltInto_64 rfl rfl ?_
      refine J_iald (pc := 65) C dX7_meltInto_65 (fun x17 => ?_)
      refine J_aload (pc := 66) C dX7_meltInto_66 1 rfl ?_
      refine J_getR (pc := 68) C flX7_43 dX7_meltInto_68 (fun a18 => ?_)
      refine J_iload (pc := 71) C dX7_meltInto_71 2 rfl ?_
      refine J_iald (pc := 73) C dX7_meltInto_73 (fun x19 => ?_)
      refine J_iadd (pc := 74) C dX7_meltInto_74 ?_
      refine J_iast (pc := 75) C dX7_meltInto_75 (fun h20 => ?_)
      refine J_iinc (pc := 76) (v := (xl5 + 1)) (lv1 := [(5, .int (xl5 + 1)), (3, .ref al3), (4, .ref al4)]) C dX7_meltInto_76 2 rfl rfl (by decide) rfl ?_
      refine J_goto (pc := 79) (tgt := 51) C dX7_meltInto_79 (by decide) ?_
      refine J_sub [1, 2, 0] rfl ?_
      exact ih al3 al4 (xl5 + 1) h20
def fX7_meltInto  (a0 : Nat) (xp0 : Int32) (xp1 : Int32) (h0 : PH) : Option (Int32 × PH) :=
    bn (chk 7 a0 h0) fun _ => bn2 (fX7_living a0 xp0 h0) fun o2 h1 =>
    bn (chk 7 a0 h1) fun _ => bn2 (fX7_living a0 xp1 h1) fun o4 h3 =>
    onul o2 (some ((-2 : Int32), h3)) fun a5 =>
    onul o4 (some ((-2 : Int32), h3)) fun a6 =>
    if xp0 = xp1 then (some ((-3 : Int32), h3)) else
    bn (chk 5 a5 h3) fun _ => bn2 (fX5_isLeaf a5 h3) fun x8 h7 =>
    if x8 = 0 then (bn (chk 5 a6 h7) fun _ => bn2 (fX5_isLeaf a6 h7) fun x10 h9 =>
    if x10 = 0 then (fX7_meltInto_51  FU a5 a6 (0 : Int32) h9) else
    some ((-3 : Int32), h9)) else
    some ((-3 : Int32), h7)
set_option maxHeartbeats 4000000 in
set_option maxRecDepth 100000 in
theorem vfX7_meltInto {p : Program} {l : Launch} {e : Env} {s : State} {m : MethodId} {args : Array Value} {below : List Frame} {meth : Method} {c : Code} {G : GX} (C : Cx p s m args meth c G cX7_meltInto 6 RX7) (hr : meth.sig.returnType = (some .int)) (a0 : Nat) (xp0 : Int32) (xp1 : Int32) (h0 : PH) : J p l e rmX7_meltInto s m args below meth c G 6 (qM below args s rvI G 0 0) 0 0 h0 0 [(0, .ref a0), (1, .int xp0), (2, .int xp1)] [] (fX7_meltInto  a0 xp0 xp1 h0) := by
  unfold fX7_meltInto
  refine J_aload_n (pc := 0) C dX7_meltInto_0 rfl 0 rfl ?_
  refine J_iload_n (pc := 1) C dX7_meltInto_1 rfl 1 rfl ?_
  refine J_callVR (pc := 2) (As := [.int xp0]) (rest := []) C (fun z hz => mX7_living a0 xp0 h0 z hz) mwX7_living csX7_living mlX7_54 inX7_living rfl dX7_meltInto_2 (by decide) rfl (Nat.le_of_ble_eq_true rfl) (by decide) (fun o2 h1 => ?_)
  refine J_astore_nQ (pc := 5) (x := o2) (lv1 := [(3, va_rf o2), (0, .ref a0), (1, .int xp0), (2, .int xp1)]) C dX7_meltInto_5 rfl (by decide) rfl ?_
  refine J_aload_n (pc := 6) C dX7_meltInto_6 rfl 1 rfl ?_
  refine J_iload_n (pc := 7) C dX7_meltInto_7 rfl 3 rfl ?_
  refine J_callVR (pc := 8) (As := [.int xp1]) (rest := []) C (fun z hz => mX7_living a0 xp1 h1 z hz) mwX7_living csX7_living mlX7_54 inX7_living rfl dX7_meltInto_8 (by decide) rfl (Nat.le_of_ble_eq_true rfl) (by decide) (fun o4 h3 => ?_)
  refine J_astoreQ (pc := 11) (x := o4) (lv1 := [(4, va_rf o4), (3, va_rf o2), (0, .ref a0), (1, .int xp0), (2, .int xp1)]) C dX7_meltInto_11 (by decide) (by cases o2 <;> rfl) ?_
  refine J_aload_nQ (pc := 13) (x := o2) C dX7_meltInto_13 rfl 1 rfl ?_
  refine J_onul (fun hx => ?_) (fun a5 hx => ?_)
  · subst hx
    refine J_ifnullN (pc := 14) (tgt := 22) C dX7_meltInto_14 (by decide) ?_
    refine J_bipush (pc := 22) (v := -2) C dX7_meltInto_22 (by decide) ?_
    exact J_iret (pc := 24) C hr dX7_meltInto_24
  · subst hx
    refine J_ifnull (pc := 14) C dX7_meltInto_14 ?_
    refine J_aloadQ (pc := 17) (x := o4) C dX7_meltInto_17 0 rfl ?_
    refine J_onul (fun hx => ?_) (fun a6 hx => ?_)
    · subst hx
      refine J_ifnonnullN (pc := 19) C dX7_meltInto_19 ?_
      refine J_bipush (pc := 22) (v := -2) C dX7_meltInto_22 (by decide) ?_
      exact J_iret (pc := 24) C hr dX7_meltInto_24
    · subst hx
      refine J_ifnonnull (pc := 19) (tgt := 25) C dX7_meltInto_19 (by decide) ?_
      refine J_iload_n (pc := 25) C dX7_meltInto_25 rfl 3 rfl ?_
      refine J_iload_n (pc := 26) C dX7_meltInto_26 rfl 4 rfl ?_
      refine J_icmp_eq (pc := 27) (tgt := 45) C dX7_meltInto_27 (by decide) ?_ ?_
      · refine J_bipush (pc := 45) (v := -3) C dX7_meltInto_45 (by decide) ?_
        exact J_iret (pc := 47) C hr dX7_meltInto_47
      · refine J_aload_n (pc := 30) C dX7_meltInto_30 rfl 1 rfl ?_
        refine J_callVI (pc := 31) (As := []) (rest := []) C (fun z hz => mX5_isLeaf a5 h3 z hz) mwX5_isLeaf csX5_isLeaf mlX7_58 inX5_isLeaf rfl dX7_meltInto_31 (by decide) rfl (Nat.le_of_ble_eq_true rfl) (by decide) (fun x8 h7 => ?_)
        refine J_if_ne (pc := 34) (tgt := 45) C dX7_meltInto_34 (by decide) ?_ ?_
        · refine J_bipush (pc := 45) (v := -3) C dX7_meltInto_45 (by decide) ?_
          exact J_iret (pc := 47) C hr dX7_meltInto_47
        · refine J_aload (pc := 37) C dX7_meltInto_37 0 rfl ?_
          refine J_callVI (pc := 39) (As := []) (rest := []) C (fun z hz => mX5_isLeaf a6 h7 z hz) mwX5_isLeaf csX5_isLeaf mlX7_58 inX5_isLeaf rfl dX7_meltInto_39 (by decide) rfl (Nat.le_of_ble_eq_true rfl) (by decide) (fun x10 h9 => ?_)
          refine J_if_eq (pc := 42) (tgt := 48) C dX7_meltInto_42 (by decide) ?_ ?_
          · refine J_iconst (pc := 48) (v := 0) C dX7_meltInto_48 (by decide) ?_
            refine J_istore (pc := 49) (lv1 := [(5, .int (0 : Int32)), (4, .ref a6), (3, .ref a5), (0, .ref a0), (1, .int xp0), (2, .int xp1)]) C dX7_meltInto_49 (by decide) rfl ?_
            refine J_sub [2, 1, 0] rfl ?_
            exact vfX7_meltInto_51 C hr  FU a5 a6 (0 : Int32) h9
          · refine J_bipush (pc := 45) (v := -3) C dX7_meltInto_45 (by decide) ?_
            exact J_iret (pc := 47) C hr dX7_meltInto_47
theorem mX7_meltInto {l : Launch} {G : GX} (a0 : Nat) (xp0 : Int32) (xp1 : Int32) (h0 : PH) : ∀ z, fX7_meltInto a0 xp0 xp1 h0 = some z → MC l G yX7_meltInto cX7_meltInto 6 (some .int) rmX7_meltInto [.ref a0, .int xp0, .int xp1] h0 (rvI z.1) z.2 :=
  Met_J (own := RX7) (by decide) rfl (Nat.le_of_ble_eq_true rfl) (fun p e s m args below meth c C hr hn => vfX7_meltInto C hr a0 xp0 xp1 h0)

theorem dX9_melt_0 : decode cX9_melt 0 = .ok (.aload_n 0, 1) := by decide +kernel
theorem dX9_melt_1 : decode cX9_melt 1 = .ok (.aload_n 0, 1) := by decide +kernel
theorem dX9_melt_2 : decode cX9_melt 2 = .ok (.getfield 10, 3) := by decide +kernel
theorem dX9_melt_5 : decode cX9_melt 5 = .ok (.iload_n 1, 1) := by decide +kernel
theorem dX9_melt_6 : decode cX9_melt 6 = .ok (.iload_n 2, 1) := by decide +kernel
theorem dX9_melt_7 : decode cX9_melt 7 = .ok (.invokevirtual 78, 3) := by decide +kernel
theorem dX9_melt_10 : decode cX9_melt 10 = .ok (.invokevirtual 70, 3) := by decide +kernel
theorem dX9_melt_13 : decode cX9_melt 13 = .ok (.ireturn, 1) := by decide +kernel
def rmX9_melt : Room := { frames := 2, cells := 0, slots := 0, locals := 47 }
def fX9_melt  (a0 : Nat) (xp0 : Int32) (xp1 : Int32) (h0 : PH) : Option (Int32 × PH) :=
    bn (rdR 9 0 a0 h0) fun a1 =>
    bn (chk 7 a1 h0) fun _ => bn2 (fX7_meltInto a1 xp0 xp1 h0) fun x3 h2 =>
    bn (chk 9 a0 h2) fun _ => bn2 (fX9_noted a0 x3 h2) fun x5 h4 =>
    some (x5, h4)
set_option maxHeartbeats 4000000 in
set_option maxRecDepth 100000 in
theorem vfX9_melt {p : Program} {l : Launch} {e : Env} {s : State} {m : MethodId} {args : Array Value} {below : List Frame} {meth : Method} {c : Code} {G : GX} (C : Cx p s m args meth c G cX9_melt 3 RX9) (hr : meth.sig.returnType = (some .int)) (a0 : Nat) (xp0 : Int32) (xp1 : Int32) (h0 : PH) : J p l e rmX9_melt s m args below meth c G 3 (qM below args s rvI G 0 0) 0 0 h0 0 [(0, .ref a0), (1, .int xp0), (2, .int xp1)] [] (fX9_melt  a0 xp0 xp1 h0) := by
  unfold fX9_melt
  refine J_aload_n (pc := 0) C dX9_melt_0 rfl 0 rfl ?_
  refine J_aload_n (pc := 1) C dX9_melt_1 rfl 0 rfl ?_
  refine J_getR (pc := 2) C flX9_10 dX9_melt_2 (fun a1 => ?_)
  refine J_iload_n (pc := 5) C dX9_melt_5 rfl 1 rfl ?_
  refine J_iload_n (pc := 6) C dX9_melt_6 rfl 2 rfl ?_
  refine J_callVI (pc := 7) (As := [.int xp0, .int xp1]) (rest := [.ref a0]) C (fun z hz => mX7_meltInto a1 xp0 xp1 h0 z hz) mwX7_meltInto csX7_meltInto mlX9_78 inX7_meltInto rfl dX9_melt_7 (by decide) rfl (Nat.le_of_ble_eq_true rfl) (by decide) (fun x3 h2 => ?_)
  refine J_callVI (pc := 10) (As := [.int x3]) (rest := []) C (fun z hz => mX9_noted a0 x3 h2 z hz) mwX9_noted csX9_noted mlX9_70 inX9_noted rfl dX9_melt_10 (by decide) rfl (Nat.le_of_ble_eq_true rfl) (by decide) (fun x5 h4 => ?_)
  exact J_iret (pc := 13) C hr dX9_melt_13
theorem mX9_melt {l : Launch} {G : GX} (a0 : Nat) (xp0 : Int32) (xp1 : Int32) (h0 : PH) : ∀ z, fX9_melt a0 xp0 xp1 h0 = some z → MC l G yX9_melt cX9_melt 3 (some .int) rmX9_melt [.ref a0, .int xp0, .int xp1] h0 (rvI z.1) z.2 :=
  Met_J (own := RX9) (by decide) rfl (Nat.le_of_ble_eq_true rfl) (fun p e s m args below meth c C hr hn => vfX9_melt C hr a0 xp0 xp1 h0)

theorem dX10_melt_0 : decode cX10_melt 0 = .ok (.aload_n 0, 1) := by decide +kernel
theorem dX10_melt_1 : decode cX10_melt 1 = .ok (.iconst 0, 1) := by decide +kernel
theorem dX10_melt_2 : decode cX10_melt 2 = .ok (.putfield 90, 3) := by decide +kernel
theorem dX10_melt_5 : decode cX10_melt 5 = .ok (.aload_n 0, 1) := by decide +kernel
theorem dX10_melt_6 : decode cX10_melt 6 = .ok (.iload_n 1, 1) := by decide +kernel
theorem dX10_melt_7 : decode cX10_melt 7 = .ok (.invokevirtual 117, 3) := by decide +kernel
theorem dX10_melt_10 : decode cX10_melt 10 = .ok (.ifCond .eq 11, 3) := by decide +kernel
theorem dX10_melt_13 : decode cX10_melt 13 = .ok (.aload_n 0, 1) := by decide +kernel
theorem dX10_melt_14 : decode cX10_melt 14 = .ok (.iload_n 2, 1) := by decide +kernel
theorem dX10_melt_15 : decode cX10_melt 15 = .ok (.invokevirtual 117, 3) := by decide +kernel
theorem dX10_melt_18 : decode cX10_melt 18 = .ok (.ifCond .ne 10, 3) := by decide +kernel
theorem dX10_melt_21 : decode cX10_melt 21 = .ok (.aload_n 0, 1) := by decide +kernel
theorem dX10_melt_22 : decode cX10_melt 22 = .ok (.bipush (-2), 2) := by decide +kernel
theorem dX10_melt_24 : decode cX10_melt 24 = .ok (.invokevirtual 107, 3) := by decide +kernel
theorem dX10_melt_27 : decode cX10_melt 27 = .ok (.ireturn, 1) := by decide +kernel
theorem dX10_melt_28 : decode cX10_melt 28 = .ok (.iload_n 1, 1) := by decide +kernel
theorem dX10_melt_29 : decode cX10_melt 29 = .ok (.iload_n 2, 1) := by decide +kernel
theorem dX10_melt_30 : decode cX10_melt 30 = .ok (.if_icmp .eq 19, 3) := by decide +kernel
theorem dX10_melt_33 : decode cX10_melt 33 = .ok (.aload_n 0, 1) := by decide +kernel
theorem dX10_melt_34 : decode cX10_melt 34 = .ok (.iload_n 1, 1) := by decide +kernel
theorem dX10_melt_35 : decode cX10_melt 35 = .ok (.invokevirtual 124, 3) := by decide +kernel
theorem dX10_melt_38 : decode cX10_melt 38 = .ok (.ifCond .ne 11, 3) := by decide +kernel
theorem dX10_melt_41 : decode cX10_melt 41 = .ok (.aload_n 0, 1) := by decide +kernel
theorem dX10_melt_42 : decode cX10_melt 42 = .ok (.iload_n 2, 1) := by decide +kernel
theorem dX10_melt_43 : decode cX10_melt 43 = .ok (.invokevirtual 124, 3) := by decide +kernel
theorem dX10_melt_46 : decode cX10_melt 46 = .ok (.ifCond .eq 10, 3) := by decide +kernel
theorem dX10_melt_49 : decode cX10_melt 49 = .ok (.aload_n 0, 1) := by decide +kernel
theorem dX10_melt_50 : decode cX10_melt 50 = .ok (.bipush (-3), 2) := by decide +kernel
theorem dX10_melt_52 : decode cX10_melt 52 = .ok (.invokevirtual 107, 3) := by decide +kernel
theorem dX10_melt_55 : decode cX10_melt 55 = .ok (.ireturn, 1) := by decide +kernel
theorem dX10_melt_56 : decode cX10_melt 56 = .ok (.iconst 0, 1) := by decide +kernel
theorem dX10_melt_57 : decode cX10_melt 57 = .ok (.istore_n 3, 1) := by decide +kernel
theorem dX10_melt_58 : decode cX10_melt 58 = .ok (.iload_n 3, 1) := by decide +kernel
theorem dX10_melt_59 : decode cX10_melt 59 = .ok (.bipush 10, 2) := by decide +kernel
theorem dX10_melt_61 : decode cX10_melt 61 = .ok (.if_icmp .ge 46, 3) := by decide +kernel
theorem dX10_melt_64 : decode cX10_melt 64 = .ok (.aload_n 0, 1) := by decide +kernel
theorem dX10_melt_65 : decode cX10_melt 65 = .ok (.getfield 17, 3) := by decide +kernel
theorem dX10_melt_68 : decode cX10_melt 68 = .ok (.bipush 10, 2) := by decide +kernel
theorem dX10_melt_70 : decode cX10_melt 70 = .ok (.iload_n 1, 1) := by decide +kernel
theorem dX10_melt_71 : decode cX10_melt 71 = .ok (.imul, 1) := by decide +kernel
theorem dX10_melt_72 : decode cX10_melt 72 = .ok (.iload_n 3, 1) := by decide +kernel
theorem dX10_melt_73 : decode cX10_melt 73 = .ok (.iadd, 1) := by decide +kernel
theorem dX10_melt_74 : decode cX10_melt 74 = .ok (.dup2, 1) := by decide +kernel
theorem dX10_melt_75 : decode cX10_melt 75 = .ok (.iaload, 1) := by decide +kernel
theorem dX10_melt_76 : decode cX10_melt 76 = .ok (.aload_n 0, 1) := by decide +kernel
theorem dX10_melt_77 : decode cX10_melt 77 = .ok (.getfield 17, 3) := by decide +kernel
theorem dX10_melt_80 : decode cX10_melt 80 = .ok (.bipush 10, 2) := by decide +kernel
theorem dX10_melt_82 : decode cX10_melt 82 = .ok (.iload_n 2, 1) := by decide +kernel
theorem dX10_melt_83 : decode cX10_melt 83 = .ok (.imul, 1) := by decide +kernel
theorem dX10_melt_84 : decode cX10_melt 84 = .ok (.iload_n 3, 1) := by decide +kernel
theorem dX10_melt_85 : decode cX10_melt 85 = .ok (.iadd, 1) := by decide +kernel
theorem dX10_melt_86 : decode cX10_melt 86 = .ok (.iaload, 1) := by decide +kernel
theorem dX10_melt_87 : decode cX10_melt 87 = .ok (.iadd, 1) := by decide +kernel
theorem dX10_melt_88 : decode cX10_melt 88 = .ok (.iastore, 1) := by decide +kernel
theorem dX10_melt_89 : decode cX10_melt 89 = .ok (.aload_n 0, 1) := by decide +kernel
theorem dX10_melt_90 : decode cX10_melt 90 = .ok (.getfield 17, 3) := by decide +kernel
theorem dX10_melt_93 : decode cX10_melt 93 = .ok (.bipush 10, 2) := by decide +kernel
theorem dX10_melt_95 : decode cX10_melt 95 = .ok (.iload_n 2, 1) := by decide +kernel
theorem dX10_melt_96 : decode cX10_melt 96 = .ok (.imul, 1) := by decide +kernel
theorem dX10_melt_97 : decode cX10_melt 97 = .ok (.iload_n 3, 1) := by decide +kernel
theorem dX10_melt_98 : decode cX10_melt 98 = .ok (.iadd, 1) := by decide +kernel
theorem dX10_melt_99 : decode cX10_melt 99 = .ok (.iconst 0, 1) := by decide +kernel
theorem dX10_melt_100 : decode cX10_melt 100 = .ok (.iastore, 1) := by decide +kernel
theorem dX10_melt_101 : decode cX10_melt 101 = .ok (.iinc 3 1, 3) := by decide +kernel
theorem dX10_melt_104 : decode cX10_melt 104 = .ok (.goto (-46), 3) := by decide +kernel
theorem dX10_melt_107 : decode cX10_melt 107 = .ok (.aload_n 0, 1) := by decide +kernel
theorem dX10_melt_108 : decode cX10_melt 108 = .ok (.getfield 13, 3) := by decide +kernel
theorem dX10_melt_111 : decode cX10_melt 111 = .ok (.iload_n 2, 1) := by decide +kernel
theorem dX10_melt_112 : decode cX10_melt 112 = .ok (.iconst 1, 1) := by decide +kernel
theorem dX10_melt_113 : decode cX10_melt 113 = .ok (.bastore, 1) := by decide +kernel
theorem dX10_melt_114 : decode cX10_melt 114 = .ok (.aload_n 0, 1) := by decide +kernel
theorem dX10_melt_115 : decode cX10_melt 115 = .ok (.aload_n 0, 1) := by decide +kernel
theorem dX10_melt_116 : decode cX10_melt 116 = .ok (.iload_n 1, 1) := by decide +kernel
theorem dX10_melt_117 : decode cX10_melt 117 = .ok (.invokevirtual 121, 3) := by decide +kernel
theorem dX10_melt_120 : decode cX10_melt 120 = .ok (.invokevirtual 107, 3) := by decide +kernel
theorem dX10_melt_123 : decode cX10_melt 123 = .ok (.ireturn, 1) := by decide +kernel
def rmX10_melt : Room := { frames := 2, cells := 0, slots := 0, locals := 46 }
def fX10_melt_58  : Nat → Nat → Int32 → Int32 → Int32 → PH → Option (Int32 × PH)
  | 0, _, _, _, _, _ => none
  | n + 1, al0, xl1, xl2, xl3, h0 =>
    if (10 : Int32) ≤ xl3 then (bn (rdR 10 5 al0 h0) fun a16 =>
    bn (astZ a16 xl2 (1 : Int32) h0) fun h17 =>
    bn (chk 10 al0 h17) fun _ => bn2 (fX10_weightOf al0 xl1 h17) fun x19 h18 =>
    bn (chk 10 al0 h18) fun _ => bn2 (fX10_told al0 x19 h18) fun x21 h20 =>
    some (x21, h20)) else
    bn (rdR 10 6 al0 h0) fun a22 =>
    bn (aldI 0 a22 (((10 : Int32) * xl1) + xl3) h0) fun x23 =>
    bn (rdR 10 6 al0 h0) fun a24 =>
    bn (aldI 0 a24 (((10 : Int32) * xl2) + xl3) h0) fun x25 =>
    bn (astI a22 (((10 : Int32) * xl1) + xl3) (x23 + x25) h0) fun h26 =>
    bn (rdR 10 6 al0 h26) fun a27 =>
    bn (astI a27 (((10 : Int32) * xl2) + xl3) (0 : Int32) h26) fun h28 =>
    (fX10_melt_58 n) al0 xl1 xl2 (xl3 + 1) h28
set_option maxHeartbeats 4000000 in
set_option maxRecDepth 100000 in
theorem vfX10_melt_58 {p : Program} {l : Launch} {e : Env} {s : State} {m : MethodId} {args : Array Value} {below : List Frame} {meth : Method} {c : Code} {G : GX} (C : Cx p s m args meth c G cX10_melt 4 RX10) (hr : meth.sig.returnType = (some .int)) : ∀ (n : Nat) (al0 : Nat) (xl1 : Int32) (xl2 : Int32) (xl3 : Int32) (h0 : PH), J p l e rmX10_melt s m args below meth c G 4 (qM below args s rvI G 0 0) 0 0 h0 58 [(0, .ref al0), (1, .int xl1), (2, .int xl2), (3, .int xl3)] [] (fX10_melt_58  n al0 xl1 xl2 xl3 h0) := by
  intro n
  induction n with
  | zero => exact fun al0 xl1 xl2 xl3 h0 => J_none C
  | succ n ih =>
    intro al0 xl1 xl2 xl3 h0
    unfold fX10_melt_58
    refine J_iload_n (pc := 58) C dX10_melt_58 rfl 3 rfl ?_
    refine J_bipush (pc := 59) (v := 10) C dX10_melt_59 (by decide) ?_
    refine J_icmp_ge (pc := 61) (tgt := 107) C dX10_melt_61 (by decide) ?_ ?_
    · refine J_aload_n (pc := 107) C dX10_melt_107 rfl 0 rfl ?_
      refine J_getR (pc := 108) C flX10_13 dX10_melt_108 (fun a16 => ?_)
      refine J_iload_n (pc := 111) C dX10_melt_111 rfl 2 rfl ?_
      refine J_iconst (pc := 112) (v := 1) C dX10_melt_112 (by decide) ?_
      refine J_zast (pc := 113) C dX10_melt_113 (fun h17 => ?_)
      refine J_aload_n (pc := 114) C dX10_melt_114 rfl 0 rfl ?_
      refine J_aload_n (pc := 115) C dX10_melt_115 rfl 0 rfl ?_
      refine J_iload_n (pc := 116) C dX10_melt_116 rfl 1 rfl ?_
      refine J_callVI (pc := 117) (As := [.int xl1]) (rest := [.ref al0]) C (fun z hz => mX10_weightOf al0 xl1 h17 z hz) mwX10_weightOf csX10_weightOf mlX10_121 inX10_weightOf rfl dX10_melt_117 (by decide) rfl (Nat.le_of_ble_eq_true rfl) (by decide) (fun x19 h18 => ?_)
      refine J_callVI (pc := 120) (As := [.int x19]) (rest := []) C (fun z hz => mX10_told al0 x19 h18 z hz) mwX10_told csX10_told mlX10_107 inX10_told rfl dX10_melt_120 (by decide) rfl (Nat.le_of_ble_eq_true rfl) (by decide) (fun x21 h20 => ?_)
      exact J_iret (pc := 123) C hr dX10_melt_123
    · refine J_aload_n (pc := 64) C dX10_melt_64 rfl 0 rfl ?_
      refine J_getR (pc := 65) C flX10_17 dX10_melt_65 (fun a22 => ?_)
      refine J_bipush (pc := 68) (v := 10) C dX10_melt_68 (by decide) ?_
      refine J_iload_n (pc := 70) C dX10_melt_70 rfl 1 rfl ?_
      refine J_imul (pc := 71) C dX10_melt_71 ?_
      refine J_iload_n (pc := 72) C dX10_melt_72 rfl 3 rfl ?_
      refine J_iadd (pc := 73) C dX10_melt_73 ?_
      refine J_dup2 (pc := 74) C dX10_melt_74 rfl rfl ?_
      refine J_iald (pc := 75) C dX10_melt_75 (fun x23 => ?_)
      refine J_aload_n (pc := 76) C dX10_melt_76 rfl 0 rfl ?_
      refine J_getR (pc := 77) C flX10_17 dX10_melt_77 (fun a24 => ?_)
      refine J_bipush (pc := 80) (v := 10) C dX10_melt_80 (by decide) ?_
      refine J_iload_n (pc := 82) C dX10_melt_82 rfl 2 rfl ?_
      refine J_imul (pc := 83) C dX10_melt_83 ?_
      refine J_iload_n (pc := 84) C dX10_melt_84 rfl 3 rfl ?_
      refine J_iadd (pc := 85) C dX10_melt_85 ?_
      refine J_iald (pc := 86) C dX10_melt_86 (fun x25 => ?_)
      refine J_iadd (pc := 87) C dX10_melt_87 ?_
      refine J_iast (pc := 88) C dX10_melt_88 (fun h26 => ?_)
      refine J_aload_n (pc := 89) C dX10_melt_89 rfl 0 rfl ?_
      refine J_getR (pc := 90) C flX10_17 dX10_melt_90 (fun a27 => ?_)
      refine J_bipush (pc := 93) (v := 10) C dX10_melt_93 (by decide) ?_
      refine J_iload_n (pc := 95) C dX10_melt_95 rfl 2 rfl ?_
      refine J_imul (pc := 96) C dX10_melt_96 ?_
      refine J_iload_n (pc := 97) C dX10_melt_97 rfl 3 rfl ?_
      refine J_iadd (pc := 98) C dX10_melt_98 ?_
      refine J_iconst (pc := 99) (v := 0) C dX10_melt_99 (by decide) ?_
      refine J_iast (pc := 100) C dX10_melt_100 (fun h28 => ?_)
      refine J_iinc (pc := 101) (v := (xl3 + 1)) (lv1 := [(3, .int (xl3 + 1)), (0, .ref al0), (1, .int xl1), (2, .int xl2)]) C dX10_melt_101 3 rfl rfl (by decide) rfl ?_
      refine J_goto (pc := 104) (tgt := 58) C dX10_melt_104 (by decide) ?_
      refine J_sub [1, 2, 3, 0] rfl ?_
      exact ih al0 xl1 xl2 (xl3 + 1) h28
def fX10_melt  (a0 : Nat) (xp0 : Int32) (xp1 : Int32) (h0 : PH) : Option (Int32 × PH) :=
    bn (wr 10 0 (.int (0 : Int32)) a0 h0) fun h1 =>
    bn (chk 10 a0 h1) fun _ => bn2 (fX10_isPiece a0 xp0 h1) fun x3 h2 =>
    if x3 = 0 then (bn (chk 10 a0 h2) fun _ => bn2 (fX10_told a0 (-2 : Int32) h2) fun x5 h4 =>
    some (x5, h4)) else
    bn (chk 10 a0 h2) fun _ => bn2 (fX10_isPiece a0 xp1 h2) fun x7 h6 =>
    if x7 = 0 then (bn (chk 10 a0 h6) fun _ => bn2 (fX10_told a0 (-2 : Int32) h6) fun x32 h31 =>
    some (x32, h31)) else
    if xp0 = xp1 then (bn (chk 10 a0 h6) fun _ => bn2 (fX10_told a0 (-3 : Int32) h6) fun x9 h8 =>
    some (x9, h8)) else
    bn (chk 10 a0 h6) fun _ => bn2 (fX10_isLeaf a0 xp0 h6) fun x11 h10 =>
    if x11 = 0 then (bn (chk 10 a0 h10) fun _ => bn2 (fX10_isLeaf a0 xp1 h10) fun x15 h14 =>
    if x15 = 0 then (fX10_melt_58  FU a0 xp0 xp1 (0 : Int32) h14) else
    bn (chk 10 a0 h14) fun _ => bn2 (fX10_told a0 (-3 : Int32) h14) fun x30 h29 =>
    some (x30, h29)) else
    bn (chk 10 a0 h10) fun _ => bn2 (fX10_told a0 (-3 : Int32) h10) fun x13 h12 =>
    some (x13, h12)
set_option maxHeartbeats 4000000 in
set_option maxRecDepth 100000 in
theorem vfX10_melt {p : Program} {l : Launch} {e : Env} {s : State} {m : MethodId} {args : Array Value} {below : List Frame} {meth : Method} {c : Code} {G : GX} (C : Cx p s m args meth c G cX10_melt 4 RX10) (hr : meth.sig.returnType = (some .int)) (a0 : Nat) (xp0 : Int32) (xp1 : Int32) (h0 : PH) : J p l e rmX10_melt s m args below meth c G 4 (qM below args s rvI G 0 0) 0 0 h0 0 [(0, .ref a0), (1, .int xp0), (2, .int xp1)] [] (fX10_melt  a0 xp0 xp1 h0) := by
  unfold fX10_melt
  refine J_aload_n (pc := 0) C dX10_melt_0 rfl 0 rfl ?_
  refine J_iconst (pc := 1) (v := 0) C dX10_melt_1 (by decide) ?_
  refine J_put (pc := 2) C flX10_90 cl10 ft10_0 rfl rfl dX10_melt_2 (fun h1 => ?_)
  refine J_aload_n (pc := 5) C dX10_melt_5 rfl 0 rfl ?_
  refine J_iload_n (pc := 6) C dX10_melt_6 rfl 1 rfl ?_
  refine J_callVI (pc := 7) (As := [.int xp0]) (rest := []) C (fun z hz => mX10_isPiece a0 xp0 h1 z hz) mwX10_isPiece csX10_isPiece mlX10_117 inX10_isPiece rfl dX10_melt_7 (by decide) rfl (Nat.le_of_ble_eq_true rfl) (by decide) (fun x3 h2 => ?_)
  refine J_if_eq (pc := 10) (tgt := 21) C dX10_melt_10 (by decide) ?_ ?_
  · refine J_aload_n (pc := 21) C dX10_melt_21 rfl 0 rfl ?_
    refine J_bipush (pc := 22) (v := -2) C dX10_melt_22 (by decide) ?_
    refine J_callVI (pc := 24) (As := [.int (-2 : Int32)]) (rest := []) C (fun z hz => mX10_told a0 (-2 : Int32) h2 z hz) mwX10_told csX10_told mlX10_107 inX10_told rfl dX10_melt_24 (by decide) rfl (Nat.le_of_ble_eq_true rfl) (by decide) (fun x5 h4 => ?_)
    exact J_iret (pc := 27) C hr dX10_melt_27
  · refine J_aload_n (pc := 13) C dX10_melt_13 rfl 0 rfl ?_
    refine J_iload_n (pc := 14) C dX10_melt_14 rfl 2 rfl ?_
    refine J_callVI (pc := 15) (As := [.int xp1]) (rest := []) C (fun z hz => mX10_isPiece a0 xp1 h2 z hz) mwX10_isPiece csX10_isPiece mlX10_117 inX10_isPiece rfl dX10_melt_15 (by decide) rfl (Nat.le_of_ble_eq_true rfl) (by decide) (fun x7 h6 => ?_)
    refine J_if_ne (pc := 18) (tgt := 28) C dX10_melt_18 (by decide) ?_ ?_
    · refine J_iload_n (pc := 28) C dX10_melt_28 rfl 1 rfl ?_
      refine J_iload_n (pc := 29) C dX10_melt_29 rfl 2 rfl ?_
      refine J_icmp_eq (pc := 30) (tgt := 49) C dX10_melt_30 (by decide) ?_ ?_
      · refine J_aload_n (pc := 49) C dX10_melt_49 rfl 0 rfl ?_
        refine J_bipush (pc := 50) (v := -3) C dX10_melt_50 (by decide) ?_
        refine J_callVI (pc := 52) (As := [.int (-3 : Int32)]) (rest := []) C (fun z hz => mX10_told a0 (-3 : Int32) h6 z hz) mwX10_told csX10_told mlX10_107 inX10_told rfl dX10_melt_52 (by decide) rfl (Nat.le_of_ble_eq_true rfl) (by decide) (fun x9 h8 => ?_)
        exact J_iret (pc := 55) C hr dX10_melt_55
      · refine J_aload_n (pc := 33) C dX10_melt_33 rfl 0 rfl ?_
        refine J_iload_n (pc := 34) C dX10_melt_34 rfl 1 rfl ?_
        refine J_callVI (pc := 35) (As := [.int xp0]) (rest := []) C (fun z hz => mX10_isLeaf a0 xp0 h6 z hz) mwX10_isLeaf csX10_isLeaf mlX10_124 inX10_isLeaf rfl dX10_melt_35 (by decide) rfl (Nat.le_of_ble_eq_true rfl) (by decide) (fun x11 h10 => ?_)
        refine J_if_ne (pc := 38) (tgt := 49) C dX10_melt_38 (by decide) ?_ ?_
        · refine J_aload_n (pc := 49) C dX10_melt_49 rfl 0 rfl ?_
          refine J_bipush (pc := 50) (v := -3) C dX10_melt_50 (by decide) ?_
          refine J_callVI (pc := 52) (As := [.int (-3 : Int32)]) (rest := []) C (fun z hz => mX10_told a0 (-3 : Int32) h10 z hz) mwX10_told csX10_told mlX10_107 inX10_told rfl dX10_melt_52 (by decide) rfl (Nat.le_of_ble_eq_true rfl) (by decide) (fun x13 h12 => ?_)
          exact J_iret (pc := 55) C hr dX10_melt_55
        · refine J_aload_n (pc := 41) C dX10_melt_41 rfl 0 rfl ?_
          refine J_iload_n (pc := 42) C dX10_melt_42 rfl 2 rfl ?_
          refine J_callVI (pc := 43) (As := [.int xp1]) (rest := []) C (fun z hz => mX10_isLeaf a0 xp1 h10 z hz) mwX10_isLeaf csX10_isLeaf mlX10_124 inX10_isLeaf rfl dX10_melt_43 (by decide) rfl (Nat.le_of_ble_eq_true rfl) (by decide) (fun x15 h14 => ?_)
          refine J_if_eq (pc := 46) (tgt := 56) C dX10_melt_46 (by decide) ?_ ?_
          · refine J_iconst (pc := 56) (v := 0) C dX10_melt_56 (by decide) ?_
            refine J_istore_n (pc := 57) (lv1 := [(3, .int (0 : Int32)), (0, .ref a0), (1, .int xp0), (2, .int xp1)]) C dX10_melt_57 rfl (by decide) rfl ?_
            refine J_sub [1, 2, 3, 0] rfl ?_
            exact vfX10_melt_58 C hr  FU a0 xp0 xp1 (0 : Int32) h14
          · refine J_aload_n (pc := 49) C dX10_melt_49 rfl 0 rfl ?_
            refine J_bipush (pc := 50) (v := -3) C dX10_melt_50 (by decide) ?_
            refine J_callVI (pc := 52) (As := [.int (-3 : Int32)]) (rest := []) C (fun z hz => mX10_told a0 (-3 : Int32) h14 z hz) mwX10_told csX10_told mlX10_107 inX10_told rfl dX10_melt_52 (by decide) rfl (Nat.le_of_ble_eq_true rfl) (by decide) (fun x30 h29 => ?_)
            exact J_iret (pc := 55) C hr dX10_melt_55
    · refine J_aload_n (pc := 21) C dX10_melt_21 rfl 0 rfl ?_
      refine J_bipush (pc := 22) (v := -2) C dX10_melt_22 (by decide) ?_
      refine J_callVI (pc := 24) (As := [.int (-2 : Int32)]) (rest := []) C (fun z hz => mX10_told a0 (-2 : Int32) h6 z hz) mwX10_told csX10_told mlX10_107 inX10_told rfl dX10_melt_24 (by decide) rfl (Nat.le_of_ble_eq_true rfl) (by decide) (fun x32 h31 => ?_)
      exact J_iret (pc := 27) C hr dX10_melt_27
theorem mX10_melt {l : Launch} {G : GX} (a0 : Nat) (xp0 : Int32) (xp1 : Int32) (h0 : PH) : ∀ z, fX10_melt a0 xp0 xp1 h0 = some z → MC l G yX10_melt cX10_melt 4 (some .int) rmX10_melt [.ref a0, .int xp0, .int xp1] h0 (rvI z.1) z.2 :=
  Met_J (own := RX10) (by decide) rfl (Nat.le_of_ble_eq_true rfl) (fun p e s m args below meth c C hr hn => vfX10_melt C hr a0 xp0 xp1 h0)

theorem dX9_weight_0 : decode cX9_weight 0 = .ok (.aload_n 0, 1) := by decide +kernel
theorem dX9_weight_1 : decode cX9_weight 1 = .ok (.getfield 10, 3) := by decide +kernel
theorem dX9_weight_4 : decode cX9_weight 4 = .ok (.iload_n 1, 1) := by decide +kernel
theorem dX9_weight_5 : decode cX9_weight 5 = .ok (.invokevirtual 81, 3) := by decide +kernel
theorem dX9_weight_8 : decode cX9_weight 8 = .ok (.astore_n 2, 1) := by decide +kernel
theorem dX9_weight_9 : decode cX9_weight 9 = .ok (.aload_n 2, 1) := by decide +kernel
theorem dX9_weight_10 : decode cX9_weight 10 = .ok (.ifnonnull 7, 3) := by decide +kernel
theorem dX9_weight_13 : decode cX9_weight 13 = .ok (.iconst (-1), 1) := by decide +kernel
theorem dX9_weight_14 : decode cX9_weight 14 = .ok (.goto 7, 3) := by decide +kernel
theorem dX9_weight_17 : decode cX9_weight 17 = .ok (.aload_n 2, 1) := by decide +kernel
theorem dX9_weight_18 : decode cX9_weight 18 = .ok (.getfield 85, 3) := by decide +kernel
theorem dX9_weight_21 : decode cX9_weight 21 = .ok (.ireturn, 1) := by decide +kernel
def rmX9_weight : Room := { frames := 1, cells := 0, slots := 0, locals := 22 }
def fX9_weight  (a0 : Nat) (xp0 : Int32) (h0 : PH) : Option (Int32 × PH) :=
    bn (rdR 9 0 a0 h0) fun a1 =>
    bn (chk 7 a1 h0) fun _ => bn2 (fX7_living a1 xp0 h0) fun o3 h2 =>
    onul o3 (some ((-1 : Int32), h2)) fun a4 =>
    bn (rdI 5 1 a4 h2) fun x5 =>
    some (x5, h2)
set_option maxHeartbeats 4000000 in
set_option maxRecDepth 100000 in
theorem vfX9_weight {p : Program} {l : Launch} {e : Env} {s : State} {m : MethodId} {args : Array Value} {below : List Frame} {meth : Method} {c : Code} {G : GX} (C : Cx p s m args meth c G cX9_weight 3 RX9) (hr : meth.sig.returnType = (some .int)) (a0 : Nat) (xp0 : Int32) (h0 : PH) : J p l e rmX9_weight s m args below meth c G 3 (qM below args s rvI G 0 0) 0 0 h0 0 [(0, .ref a0), (1, .int xp0)] [] (fX9_weight  a0 xp0 h0) := by
  unfold fX9_weight
  refine J_aload_n (pc := 0) C dX9_weight_0 rfl 0 rfl ?_
  refine J_getR (pc := 1) C flX9_10 dX9_weight_1 (fun a1 => ?_)
  refine J_iload_n (pc := 4) C dX9_weight_4 rfl 1 rfl ?_
  refine J_callVR (pc := 5) (As := [.int xp0]) (rest := []) C (fun z hz => mX7_living a1 xp0 h0 z hz) mwX7_living csX7_living mlX9_81 inX7_living rfl dX9_weight_5 (by decide) rfl (Nat.le_of_ble_eq_true rfl) (by decide) (fun o3 h2 => ?_)
  refine J_astore_nQ (pc := 8) (x := o3) (lv1 := [(2, va_rf o3), (0, .ref a0), (1, .int xp0)]) C dX9_weight_8 rfl (by decide) rfl ?_
  refine J_aload_nQ (pc := 9) (x := o3) C dX9_weight_9 rfl 0 rfl ?_
  refine J_onul (fun hx => ?_) (fun a4 hx => ?_)
  · subst hx
    refine J_ifnonnullN (pc := 10) C dX9_weight_10 ?_
    refine J_iconst (pc := 13) (v := -1) C dX9_weight_13 (by decide) ?_
    refine J_goto (pc := 14) (tgt := 21) C dX9_weight_14 (by decide) ?_
    exact J_iret (pc := 21) C hr dX9_weight_21
  · subst hx
    refine J_ifnonnull (pc := 10) (tgt := 17) C dX9_weight_10 (by decide) ?_
    refine J_aload_n (pc := 17) C dX9_weight_17 rfl 0 rfl ?_
    refine J_getI (pc := 18) C flX9_85 dX9_weight_18 (fun x5 => ?_)
    exact J_iret (pc := 21) C hr dX9_weight_21
theorem mX9_weight {l : Launch} {G : GX} (a0 : Nat) (xp0 : Int32) (h0 : PH) : ∀ z, fX9_weight a0 xp0 h0 = some z → MC l G yX9_weight cX9_weight 3 (some .int) rmX9_weight [.ref a0, .int xp0] h0 (rvI z.1) z.2 :=
  Met_J (own := RX9) (by decide) rfl (Nat.le_of_ble_eq_true rfl) (fun p e s m args below meth c C hr hn => vfX9_weight C hr a0 xp0 h0)

theorem dX10_weight_0 : decode cX10_weight 0 = .ok (.aload_n 0, 1) := by decide +kernel
theorem dX10_weight_1 : decode cX10_weight 1 = .ok (.iconst 0, 1) := by decide +kernel
theorem dX10_weight_2 : decode cX10_weight 2 = .ok (.putfield 90, 3) := by decide +kernel
theorem dX10_weight_5 : decode cX10_weight 5 = .ok (.aload_n 0, 1) := by decide +kernel
theorem dX10_weight_6 : decode cX10_weight 6 = .ok (.iload_n 1, 1) := by decide +kernel
theorem dX10_weight_7 : decode cX10_weight 7 = .ok (.invokevirtual 117, 3) := by decide +kernel
theorem dX10_weight_10 : decode cX10_weight 10 = .ok (.ifCond .eq 11, 3) := by decide +kernel
theorem dX10_weight_13 : decode cX10_weight 13 = .ok (.aload_n 0, 1) := by decide +kernel
theorem dX10_weight_14 : decode cX10_weight 14 = .ok (.iload_n 1, 1) := by decide +kernel
theorem dX10_weight_15 : decode cX10_weight 15 = .ok (.invokevirtual 121, 3) := by decide +kernel
theorem dX10_weight_18 : decode cX10_weight 18 = .ok (.goto 4, 3) := by decide +kernel
theorem dX10_weight_21 : decode cX10_weight 21 = .ok (.iconst (-1), 1) := by decide +kernel
theorem dX10_weight_22 : decode cX10_weight 22 = .ok (.ireturn, 1) := by decide +kernel
def rmX10_weight : Room := { frames := 2, cells := 0, slots := 0, locals := 46 }
def fX10_weight  (a0 : Nat) (xp0 : Int32) (h0 : PH) : Option (Int32 × PH) :=
    bn (wr 10 0 (.int (0 : Int32)) a0 h0) fun h1 =>
    bn (chk 10 a0 h1) fun _ => bn2 (fX10_isPiece a0 xp0 h1) fun x3 h2 =>
    if x3 = 0 then (some ((-1 : Int32), h2)) else
    bn (chk 10 a0 h2) fun _ => bn2 (fX10_weightOf a0 xp0 h2) fun x5 h4 =>
    some (x5, h4)
set_option maxHeartbeats 4000000 in
set_option maxRecDepth 100000 in
theorem vfX10_weight {p : Program} {l : Launch} {e : Env} {s : State} {m : MethodId} {args : Array Value} {below : List Frame} {meth : Method} {c : Code} {G : GX} (C : Cx p s m args meth c G cX10_weight 2 RX10) (hr : meth.sig.returnType = (some .int)) (a0 : Nat) (xp0 : Int32) (h0 : PH) : J p l e rmX10_weight s m args below meth c G 2 (qM below args s rvI G 0 0) 0 0 h0 0 [(0, .ref a0), (1, .int xp0)] [] (fX10_weight  a0 xp0 h0) := by
  unfold fX10_weight
  refine J_aload_n (pc := 0) C dX10_weight_0 rfl 0 rfl ?_
  refine J_iconst (pc := 1) (v := 0) C dX10_weight_1 (by decide) ?_
  refine J_put (pc := 2) C flX10_90 cl10 ft10_0 rfl rfl dX10_weight_2 (fun h1 => ?_)
  refine J_aload_n (pc := 5) C dX10_weight_5 rfl 0 rfl ?_
  refine J_iload_n (pc := 6) C dX10_weight_6 rfl 1 rfl ?_
  refine J_callVI (pc := 7) (As := [.int xp0]) (rest := []) C (fun z hz => mX10_isPiece a0 xp0 h1 z hz) mwX10_isPiece csX10_isPiece mlX10_117 inX10_isPiece rfl dX10_weight_7 (by decide) rfl (Nat.le_of_ble_eq_true rfl) (by decide) (fun x3 h2 => ?_)
  refine J_if_eq (pc := 10) (tgt := 21) C dX10_weight_10 (by decide) ?_ ?_
  · refine J_iconst (pc := 21) (v := -1) C dX10_weight_21 (by decide) ?_
    exact J_iret (pc := 22) C hr dX10_weight_22
  · refine J_aload_n (pc := 13) C dX10_weight_13 rfl 0 rfl ?_
    refine J_iload_n (pc := 14) C dX10_weight_14 rfl 1 rfl ?_
    refine J_callVI (pc := 15) (As := [.int xp0]) (rest := []) C (fun z hz => mX10_weightOf a0 xp0 h2 z hz) mwX10_weightOf csX10_weightOf mlX10_121 inX10_weightOf rfl dX10_weight_15 (by decide) rfl (Nat.le_of_ble_eq_true rfl) (by decide) (fun x5 h4 => ?_)
    refine J_goto (pc := 18) (tgt := 22) C dX10_weight_18 (by decide) ?_
    exact J_iret (pc := 22) C hr dX10_weight_22
theorem mX10_weight {l : Launch} {G : GX} (a0 : Nat) (xp0 : Int32) (h0 : PH) : ∀ z, fX10_weight a0 xp0 h0 = some z → MC l G yX10_weight cX10_weight 2 (some .int) rmX10_weight [.ref a0, .int xp0] h0 (rvI z.1) z.2 :=
  Met_J (own := RX10) (by decide) rfl (Nat.le_of_ble_eq_true rfl) (fun p e s m args below meth c C hr hn => vfX10_weight C hr a0 xp0 h0)

theorem dX9_from_0 : decode cX9_from 0 = .ok (.aload_n 0, 1) := by decide +kernel
theorem dX9_from_1 : decode cX9_from 1 = .ok (.getfield 10, 3) := by decide +kernel
theorem dX9_from_4 : decode cX9_from 4 = .ok (.iload_n 1, 1) := by decide +kernel
theorem dX9_from_5 : decode cX9_from 5 = .ok (.invokevirtual 81, 3) := by decide +kernel
theorem dX9_from_8 : decode cX9_from 8 = .ok (.astore_n 3, 1) := by decide +kernel
theorem dX9_from_9 : decode cX9_from 9 = .ok (.aload_n 3, 1) := by decide +kernel
theorem dX9_from_10 : decode cX9_from 10 = .ok (.ifnull 18, 3) := by decide +kernel
theorem dX9_from_13 : decode cX9_from 13 = .ok (.iload_n 2, 1) := by decide +kernel
theorem dX9_from_14 : decode cX9_from 14 = .ok (.ifCond .lt 14, 3) := by decide +kernel
theorem dX9_from_17 : decode cX9_from 17 = .ok (.iload_n 2, 1) := by decide +kernel
theorem dX9_from_18 : decode cX9_from 18 = .ok (.aload_n 0, 1) := by decide +kernel
theorem dX9_from_19 : decode cX9_from 19 = .ok (.getfield 10, 3) := by decide +kernel
theorem dX9_from_22 : decode cX9_from 22 = .ok (.getfield 90, 3) := by decide +kernel
theorem dX9_from_25 : decode cX9_from 25 = .ok (.if_icmp .lt 5, 3) := by decide +kernel
theorem dX9_from_28 : decode cX9_from 28 = .ok (.iconst (-1), 1) := by decide +kernel
theorem dX9_from_29 : decode cX9_from 29 = .ok (.ireturn, 1) := by decide +kernel
theorem dX9_from_30 : decode cX9_from 30 = .ok (.aload_n 3, 1) := by decide +kernel
theorem dX9_from_31 : decode cX9_from 31 = .ok (.getfield 93, 3) := by decide +kernel
theorem dX9_from_34 : decode cX9_from 34 = .ok (.iload_n 2, 1) := by decide +kernel
theorem dX9_from_35 : decode cX9_from 35 = .ok (.iaload, 1) := by decide +kernel
theorem dX9_from_36 : decode cX9_from 36 = .ok (.ireturn, 1) := by decide +kernel
def rmX9_from : Room := { frames := 1, cells := 0, slots := 0, locals := 22 }
def fX9_from  (a0 : Nat) (xp0 : Int32) (xp1 : Int32) (h0 : PH) : Option (Int32 × PH) :=
    bn (rdR 9 0 a0 h0) fun a1 =>
    bn (chk 7 a1 h0) fun _ => bn2 (fX7_living a1 xp0 h0) fun o3 h2 =>
    onul o3 (some ((-1 : Int32), h2)) fun a4 =>
    if xp1 < 0 then (some ((-1 : Int32), h2)) else
    bn (rdR 9 0 a0 h2) fun a5 =>
    bn (rdI 7 3 a5 h2) fun x6 =>
    if xp1 < x6 then (bn (rdR 5 0 a4 h2) fun a7 =>
    bn (aldI 0 a7 xp1 h2) fun x8 =>
    some (x8, h2)) else
    some ((-1 : Int32), h2)
set_option maxHeartbeats 4000000 in
set_option maxRecDepth 100000 in
theorem vfX9_from {p : Program} {l : Launch} {e : Env} {s : State} {m : MethodId} {args : Array Value} {below : List Frame} {meth : Method} {c : Code} {G : GX} (C : Cx p s m args meth c G cX9_from 4 RX9) (hr : meth.sig.returnType = (some .int)) (a0 : Nat) (xp0 : Int32) (xp1 : Int32) (h0 : PH) : J p l e rmX9_from s m args below meth c G 4 (qM below args s rvI G 0 0) 0 0 h0 0 [(0, .ref a0), (1, .int xp0), (2, .int xp1)] [] (fX9_from  a0 xp0 xp1 h0) := by
  unfold fX9_from
  refine J_aload_n (pc := 0) C dX9_from_0 rfl 0 rfl ?_
  refine J_getR (pc := 1) C flX9_10 dX9_from_1 (fun a1 => ?_)
  refine J_iload_n (pc := 4) C dX9_from_4 rfl 1 rfl ?_
  refine J_callVR (pc := 5) (As := [.int xp0]) (rest := []) C (fun z hz => mX7_living a1 xp0 h0 z hz) mwX7_living csX7_living mlX9_81 inX7_living rfl dX9_from_5 (by decide) rfl (Nat.le_of_ble_eq_true rfl) (by decide) (fun o3 h2 => ?_)
  refine J_astore_nQ (pc := 8) (x := o3) (lv1 := [(3, va_rf o3), (0, .ref a0), (1, .int xp0), (2, .int xp1)]) C dX9_from_8 rfl (by decide) rfl ?_
  refine J_aload_nQ (pc := 9) (x := o3) C dX9_from_9 rfl 0 rfl ?_
  refine J_onul (fun hx => ?_) (fun a4 hx => ?_)
  · subst hx
    refine J_ifnullN (pc := 10) (tgt := 28) C dX9_from_10 (by decide) ?_
    refine J_iconst (pc := 28) (v := -1) C dX9_from_28 (by decide) ?_
    exact J_iret (pc := 29) C hr dX9_from_29
  · subst hx
    refine J_ifnull (pc := 10) C dX9_from_10 ?_
    refine J_iload_n (pc := 13) C dX9_from_13 rfl 3 rfl ?_
    refine J_if_lt (pc := 14) (tgt := 28) C dX9_from_14 (by decide) ?_ ?_
    · refine J_iconst (pc := 28) (v := -1) C dX9_from_28 (by decide) ?_
      exact J_iret (pc := 29) C hr dX9_from_29
    · refine J_iload_n (pc := 17) C dX9_from_17 rfl 3 rfl ?_
      refine J_aload_n (pc := 18) C dX9_from_18 rfl 1 rfl ?_
      refine J_getR (pc := 19) C flX9_10 dX9_from_19 (fun a5 => ?_)
      refine J_getI (pc := 22) C flX9_90 dX9_from_22 (fun x6 => ?_)
      refine J_icmp_lt (pc := 25) (tgt := 30) C dX9_from_25 (by decide) ?_ ?_
      · refine J_aload_n (pc := 30) C dX9_from_30 rfl 0 rfl ?_
        refine J_getR (pc := 31) C flX9_93 dX9_from_31 (fun a7 => ?_)
        refine J_iload_n (pc := 34) C dX9_from_34 rfl 3 rfl ?_
        refine J_iald (pc := 35) C dX9_from_35 (fun x8 => ?_)
        exact J_iret (pc := 36) C hr dX9_from_36
      · refine J_iconst (pc := 28) (v := -1) C dX9_from_28 (by decide) ?_
        exact J_iret (pc := 29) C hr dX9_from_29
theorem mX9_from {l : Launch} {G : GX} (a0 : Nat) (xp0 : Int32) (xp1 : Int32) (h0 : PH) : ∀ z, fX9_from a0 xp0 xp1 h0 = some z → MC l G yX9_from cX9_from 4 (some .int) rmX9_from [.ref a0, .int xp0, .int xp1] h0 (rvI z.1) z.2 :=
  Met_J (own := RX9) (by decide) rfl (Nat.le_of_ble_eq_true rfl) (fun p e s m args below meth c C hr hn => vfX9_from C hr a0 xp0 xp1 h0)

theorem dX10_from_0 : decode cX10_from 0 = .ok (.aload_n 0, 1) := by decide +kernel
theorem dX10_from_1 : decode cX10_from 1 = .ok (.iconst 0, 1) := by decide +kernel
theorem dX10_from_2 : decode cX10_from 2 = .ok (.putfield 90, 3) := by decide +kernel
theorem dX10_from_5 : decode cX10_from 5 = .ok (.aload_n 0, 1) := by decide +kernel
theorem dX10_from_6 : decode cX10_from 6 = .ok (.iload_n 1, 1) := by decide +kernel
theorem dX10_from_7 : decode cX10_from 7 = .ok (.invokevirtual 117, 3) := by decide +kernel
theorem dX10_from_10 : decode cX10_from 10 = .ok (.ifCond .eq 33, 3) := by decide +kernel
theorem dX10_from_13 : decode cX10_from 13 = .ok (.iload_n 2, 1) := by decide +kernel
theorem dX10_from_14 : decode cX10_from 14 = .ok (.i2l, 1) := by decide +kernel
theorem dX10_from_15 : decode cX10_from 15 = .ok (.lconst 0, 1) := by decide +kernel
theorem dX10_from_16 : decode cX10_from 16 = .ok (.aload_n 0, 1) := by decide +kernel
theorem dX10_from_17 : decode cX10_from 17 = .ok (.getfield 111, 3) := by decide +kernel
theorem dX10_from_20 : decode cX10_from 20 = .ok (.i2l, 1) := by decide +kernel
theorem dX10_from_21 : decode cX10_from 21 = .ok (.lconst 1, 1) := by decide +kernel
theorem dX10_from_22 : decode cX10_from 22 = .ok (.lsub, 1) := by decide +kernel
theorem dX10_from_23 : decode cX10_from 23 = .ok (.invokestatic 99, 3) := by decide +kernel
theorem dX10_from_26 : decode cX10_from 26 = .ok (.ifCond .eq 17, 3) := by decide +kernel
theorem dX10_from_29 : decode cX10_from 29 = .ok (.aload_n 0, 1) := by decide +kernel
theorem dX10_from_30 : decode cX10_from 30 = .ok (.getfield 17, 3) := by decide +kernel
theorem dX10_from_33 : decode cX10_from 33 = .ok (.bipush 10, 2) := by decide +kernel
theorem dX10_from_35 : decode cX10_from 35 = .ok (.iload_n 1, 1) := by decide +kernel
theorem dX10_from_36 : decode cX10_from 36 = .ok (.imul, 1) := by decide +kernel
theorem dX10_from_37 : decode cX10_from 37 = .ok (.iload_n 2, 1) := by decide +kernel
theorem dX10_from_38 : decode cX10_from 38 = .ok (.iadd, 1) := by decide +kernel
theorem dX10_from_39 : decode cX10_from 39 = .ok (.iaload, 1) := by decide +kernel
theorem dX10_from_40 : decode cX10_from 40 = .ok (.goto 4, 3) := by decide +kernel
theorem dX10_from_43 : decode cX10_from 43 = .ok (.iconst (-1), 1) := by decide +kernel
theorem dX10_from_44 : decode cX10_from 44 = .ok (.ireturn, 1) := by decide +kernel
def rmX10_from : Room := { frames := 2, cells := 0, slots := 0, locals := 46 }
def fX10_from  (a0 : Nat) (xp0 : Int32) (xp1 : Int32) (h0 : PH) : Option (Int32 × PH) :=
    bn (wr 10 0 (.int (0 : Int32)) a0 h0) fun h1 =>
    bn (chk 10 a0 h1) fun _ => bn2 (fX10_isPiece a0 xp0 h1) fun x3 h2 =>
    if x3 = 0 then (some ((-1 : Int32), h2)) else
    bn (rdI 10 2 a0 h2) fun x4 =>
    bn2 (fX10_in xp1.toInt64 (0 : Int64) (x4.toInt64 - (1 : Int64)) h2) fun x6 h5 =>
    if x6 = 0 then (some ((-1 : Int32), h5)) else
    bn (rdR 10 6 a0 h5) fun a7 =>
    bn (aldI 0 a7 (((10 : Int32) * xp0) + xp1) h5) fun x8 =>
    some (x8, h5)
set_option maxHeartbeats 4000000 in
set_option maxRecDepth 100000 in
theorem vfX10_from {p : Program} {l : Launch} {e : Env} {s : State} {m : MethodId} {args : Array Value} {below : List Frame} {meth : Method} {c : Code} {G : GX} (C : Cx p s m args meth c G cX10_from 3 RX10) (hr : meth.sig.returnType = (some .int)) (a0 : Nat) (xp0 : Int32) (xp1 : Int32) (h0 : PH) : J p l e rmX10_from s m args below meth c G 3 (qM below args s rvI G 0 0) 0 0 h0 0 [(0, .ref a0), (1, .int xp0), (2, .int xp1)] [] (fX10_from  a0 xp0 xp1 h0) := by
  unfold fX10_from
  refine J_aload_n (pc := 0) C dX10_from_0 rfl 0 rfl ?_
  refine J_iconst (pc := 1) (v := 0) C dX10_from_1 (by decide) ?_
  refine J_put (pc := 2) C flX10_90 cl10 ft10_0 rfl rfl dX10_from_2 (fun h1 => ?_)
  refine J_aload_n (pc := 5) C dX10_from_5 rfl 0 rfl ?_
  refine J_iload_n (pc := 6) C dX10_from_6 rfl 1 rfl ?_
  refine J_callVI (pc := 7) (As := [.int xp0]) (rest := []) C (fun z hz => mX10_isPiece a0 xp0 h1 z hz) mwX10_isPiece csX10_isPiece mlX10_117 inX10_isPiece rfl dX10_from_7 (by decide) rfl (Nat.le_of_ble_eq_true rfl) (by decide) (fun x3 h2 => ?_)
  refine J_if_eq (pc := 10) (tgt := 43) C dX10_from_10 (by decide) ?_ ?_
  · refine J_iconst (pc := 43) (v := -1) C dX10_from_43 (by decide) ?_
    exact J_iret (pc := 44) C hr dX10_from_44
  · refine J_iload_n (pc := 13) C dX10_from_13 rfl 2 rfl ?_
    refine J_i2l (pc := 14) C dX10_from_14 ?_
    refine J_lconst (pc := 15) (v := 0) C dX10_from_15 (by decide) ?_
    refine J_aload_n (pc := 16) C dX10_from_16 rfl 0 rfl ?_
    refine J_getI (pc := 17) C flX10_111 dX10_from_17 (fun x4 => ?_)
    refine J_i2l (pc := 20) C dX10_from_20 ?_
    refine J_lconst (pc := 21) (v := 1) C dX10_from_21 (by decide) ?_
    refine J_lsub (pc := 22) C dX10_from_22 ?_
    refine J_callSI (pc := 23) (As := [.long xp1.toInt64, .long (0 : Int64), .long (x4.toInt64 - (1 : Int64))]) (rest := []) C (fun z hz => mX10_in xp1.toInt64 (0 : Int64) (x4.toInt64 - (1 : Int64)) h2 z hz) mwX10_in mlX10_99 stX10_in rfl dX10_from_23 (by decide) rfl (Nat.le_of_ble_eq_true rfl) (by decide) (fun x6 h5 => ?_)
    refine J_if_eq (pc := 26) (tgt := 43) C dX10_from_26 (by decide) ?_ ?_
    · refine J_iconst (pc := 43) (v := -1) C dX10_from_43 (by decide) ?_
      exact J_iret (pc := 44) C hr dX10_from_44
    · refine J_aload_n (pc := 29) C dX10_from_29 rfl 0 rfl ?_
      refine J_getR (pc := 30) C flX10_17 dX10_from_30 (fun a7 => ?_)
      refine J_bipush (pc := 33) (v := 10) C dX10_from_33 (by decide) ?_
      refine J_iload_n (pc := 35) C dX10_from_35 rfl 1 rfl ?_
      refine J_imul (pc := 36) C dX10_from_36 ?_
      refine J_iload_n (pc := 37) C dX10_from_37 rfl 2 rfl ?_
      refine J_iadd (pc := 38) C dX10_from_38 ?_
      refine J_iald (pc := 39) C dX10_from_39 (fun x8 => ?_)
      refine J_goto (pc := 40) (tgt := 44) C dX10_from_40 (by decide) ?_
      exact J_iret (pc := 44) C hr dX10_from_44
theorem mX10_from {l : Launch} {G : GX} (a0 : Nat) (xp0 : Int32) (xp1 : Int32) (h0 : PH) : ∀ z, fX10_from a0 xp0 xp1 h0 = some z → MC l G yX10_from cX10_from 3 (some .int) rmX10_from [.ref a0, .int xp0, .int xp1] h0 (rvI z.1) z.2 :=
  Met_J (own := RX10) (by decide) rfl (Nat.le_of_ble_eq_true rfl) (fun p e s m args below meth c C hr hn => vfX10_from C hr a0 xp0 xp1 h0)

theorem dX7_metalIn_0 : decode cX7_metalIn 0 = .ok (.iload_n 2, 1) := by decide +kernel
theorem dX7_metalIn_1 : decode cX7_metalIn 1 = .ok (.iconst 0, 1) := by decide +kernel
theorem dX7_metalIn_2 : decode cX7_metalIn 2 = .ok (.iconst 2, 1) := by decide +kernel
theorem dX7_metalIn_3 : decode cX7_metalIn 3 = .ok (.invokestatic 38, 3) := by decide +kernel
theorem dX7_metalIn_6 : decode cX7_metalIn 6 = .ok (.ifCond .ne 5, 3) := by decide +kernel
theorem dX7_metalIn_9 : decode cX7_metalIn 9 = .ok (.lconst 0, 1) := by decide +kernel
theorem dX7_metalIn_10 : decode cX7_metalIn 10 = .ok (.lreturn, 1) := by decide +kernel
theorem dX7_metalIn_11 : decode cX7_metalIn 11 = .ok (.lconst 0, 1) := by decide +kernel
theorem dX7_metalIn_12 : decode cX7_metalIn 12 = .ok (.lstore_n 3, 1) := by decide +kernel
theorem dX7_metalIn_13 : decode cX7_metalIn 13 = .ok (.iconst 0, 1) := by decide +kernel
theorem dX7_metalIn_14 : decode cX7_metalIn 14 = .ok (.istore 5, 2) := by decide +kernel
theorem dX7_metalIn_16 : decode cX7_metalIn 16 = .ok (.iload 5, 2) := by decide +kernel
theorem dX7_metalIn_18 : decode cX7_metalIn 18 = .ok (.bipush 10, 2) := by decide +kernel
theorem dX7_metalIn_20 : decode cX7_metalIn 20 = .ok (.if_icmp .ge 31, 3) := by decide +kernel
theorem dX7_metalIn_23 : decode cX7_metalIn 23 = .ok (.lload_n 3, 1) := by decide +kernel
theorem dX7_metalIn_24 : decode cX7_metalIn 24 = .ok (.aload_n 1, 1) := by decide +kernel
theorem dX7_metalIn_25 : decode cX7_metalIn 25 = .ok (.getfield 43, 3) := by decide +kernel
theorem dX7_metalIn_28 : decode cX7_metalIn 28 = .ok (.iload 5, 2) := by decide +kernel
theorem dX7_metalIn_30 : decode cX7_metalIn 30 = .ok (.iaload, 1) := by decide +kernel
theorem dX7_metalIn_31 : decode cX7_metalIn 31 = .ok (.i2l, 1) := by decide +kernel
theorem dX7_metalIn_32 : decode cX7_metalIn 32 = .ok (.aload_n 0, 1) := by decide +kernel
theorem dX7_metalIn_33 : decode cX7_metalIn 33 = .ok (.getfield 19, 3) := by decide +kernel
theorem dX7_metalIn_36 : decode cX7_metalIn 36 = .ok (.iload_n 2, 1) := by decide +kernel
theorem dX7_metalIn_37 : decode cX7_metalIn 37 = .ok (.aaload, 1) := by decide +kernel
theorem dX7_metalIn_38 : decode cX7_metalIn 38 = .ok (.iload 5, 2) := by decide +kernel
theorem dX7_metalIn_40 : decode cX7_metalIn 40 = .ok (.iaload, 1) := by decide +kernel
theorem dX7_metalIn_41 : decode cX7_metalIn 41 = .ok (.i2l, 1) := by decide +kernel
theorem dX7_metalIn_42 : decode cX7_metalIn 42 = .ok (.lmul, 1) := by decide +kernel
theorem dX7_metalIn_43 : decode cX7_metalIn 43 = .ok (.ladd, 1) := by decide +kernel
theorem dX7_metalIn_44 : decode cX7_metalIn 44 = .ok (.lstore_n 3, 1) := by decide +kernel
theorem dX7_metalIn_45 : decode cX7_metalIn 45 = .ok (.iinc 5 1, 3) := by decide +kernel
theorem dX7_metalIn_48 : decode cX7_metalIn 48 = .ok (.goto (-32), 3) := by decide +kernel
theorem dX7_metalIn_51 : decode cX7_metalIn 51 = .ok (.lload_n 3, 1) := by decide +kernel
theorem dX7_metalIn_52 : decode cX7_metalIn 52 = .ok (.lreturn, 1) := by decide +kernel
def rmX7_metalIn : Room := { frames := 1, cells := 0, slots := 0, locals := 22 }
def fX7_metalIn_16  : Nat → Nat → Nat → Int32 → Int64 → Int32 → PH → Option (Int64 × PH)
  | 0, _, _, _, _, _, _ => none
  | n + 1, al0, al1, xl2, xl3, xl5, h0 =>
    if (10 : Int32) ≤ xl5 then (some (xl3, h0)) else
    bn (rdR 5 0 al1 h0) fun a3 =>
    bn (aldI 0 a3 xl5 h0) fun x4 =>
    bn (rdR 7 1 al0 h0) fun a5 =>
    bn (aldR 5 a5 xl2 h0) fun o6 =>
    bn o6 fun a7 =>
    bn (aldI 0 a7 xl5 h0) fun x8 =>
    nm (xl3 + (x4.toInt64 * x8.toInt64)) fun x9 =>
    (fX7_metalIn_16 n) al0 al1 xl2 x9 (xl5 + 1) h0
set_option maxHeartbeats 4000000 in
set_option maxRecDepth 100000 in
theorem vfX7_metalIn_16 {p : Program} {l : Launch} {e : Env} {s : State} {m : MethodId} {args : Array Value} {below : List Frame} {meth : Method} {c : Code} {G : GX} (C : Cx p s m args meth c G cX7_metalIn 6 RX7) (hr : meth.sig.returnType = (some .long)) : ∀ (n : Nat) (al0 : Nat) (al1 : Nat) (xl2 : Int32) (xl3 : Int64) (xl5 : Int32) (h0 : PH), J p l e rmX7_metalIn s m args below meth c G 6 (qM below args s rvJ G 0 0) 0 0 h0 16 [(0, .ref al0), (1, .ref al1), (2, .int xl2), (3, .long xl3), (5, .int xl5)] [] (fX7_metalIn_16  n al0 al1 xl2 xl3 xl5 h0) := by
  intro n
  induction n with
  | zero => exact fun al0 al1 xl2 xl3 xl5 h0 => J_none C
  | succ n ih =>
    intro al0 al1 xl2 xl3 xl5 h0
    unfold fX7_metalIn_16
    refine J_iload (pc := 16) C dX7_metalIn_16 4 rfl ?_
    refine J_bipush (pc := 18) (v := 10) C dX7_metalIn_18 (by decide) ?_
    refine J_icmp_ge (pc := 20) (tgt := 51) C dX7_metalIn_20 (by decide) ?_ ?_
    · refine J_lload_n (pc := 51) C dX7_metalIn_51 rfl 3 rfl ?_
      exact J_lret (pc := 52) C hr dX7_metalIn_52
    · refine J_lload_n (pc := 23) C dX7_metalIn_23 rfl 3 rfl ?_
      refine J_aload_n (pc := 24) C dX7_metalIn_24 rfl 1 rfl ?_
      refine J_getR (pc := 25) C flX7_43 dX7_metalIn_25 (fun a3 => ?_)
      refine J_iload (pc := 28) C dX7_metalIn_28 4 rfl ?_
      refine J_iald (pc := 30) C dX7_metalIn_30 (fun x4 => ?_)
      refine J_i2l (pc := 31) C dX7_metalIn_31 ?_
      refine J_aload_n (pc := 32) C dX7_metalIn_32 rfl 0 rfl ?_
      refine J_getR (pc := 33) C flX7_19 dX7_metalIn_33 (fun a5 => ?_)
      refine J_iload_n (pc := 36) C dX7_metalIn_36 rfl 2 rfl ?_
      refine J_aald (pc := 37) C 5 (.array .int) (fun _ => rfl) rfl dX7_metalIn_37 (fun o6 => ?_)
      refine J_iload (pc := 38) C dX7_metalIn_38 4 rfl ?_
      refine J_nn (fun a7 hx => ?_)
      subst hx
      refine J_iald (pc := 40) C dX7_metalIn_40 (fun x8 => ?_)
      refine J_i2l (pc := 41) C dX7_metalIn_41 ?_
      refine J_lmul (pc := 42) C dX7_metalIn_42 ?_
      refine J_ladd (pc := 43) C dX7_metalIn_43 ?_
      refine J_nm (fv := .long) (fun x9 => ?_)
      refine J_lstore_n (pc := 44) (lv1 := [(3, .long x9), (0, .ref al0), (1, .ref al1), (2, .int xl2), (5, .int xl5)]) C dX7_metalIn_44 rfl (by decide) rfl ?_
      refine J_iinc (pc := 45) (v := (xl5 + 1)) (lv1 := [(5, .int (xl5 + 1)), (3, .long x9), (0, .ref al0), (1, .ref al1), (2, .int xl2)]) C dX7_metalIn_45 4 rfl rfl (by decide) rfl ?_
      refine J_goto (pc := 48) (tgt := 16) C dX7_metalIn_48 (by decide) ?_
      refine J_sub [2, 3, 4, 1, 0] rfl ?_
      exact ih al0 al1 xl2 x9 (xl5 + 1) h0
def fX7_metalIn  (a0 : Nat) (ap0 : Nat) (xp1 : Int32) (h0 : PH) : Option (Int64 × PH) :=
    bn2 (fX9_within xp1 (0 : Int32) (2 : Int32) h0) fun x2 h1 =>
    if x2 = 0 then (some ((0 : Int64), h1)) else
    fX7_metalIn_16  FU a0 ap0 xp1 (0 : Int64) (0 : Int32) h1
set_option maxHeartbeats 4000000 in
set_option maxRecDepth 100000 in
theorem vfX7_metalIn {p : Program} {l : Launch} {e : Env} {s : State} {m : MethodId} {args : Array Value} {below : List Frame} {meth : Method} {c : Code} {G : GX} (C : Cx p s m args meth c G cX7_metalIn 6 RX7) (hr : meth.sig.returnType = (some .long)) (a0 : Nat) (ap0 : Nat) (xp1 : Int32) (h0 : PH) : J p l e rmX7_metalIn s m args below meth c G 6 (qM below args s rvJ G 0 0) 0 0 h0 0 [(0, .ref a0), (1, .ref ap0), (2, .int xp1)] [] (fX7_metalIn  a0 ap0 xp1 h0) := by
  unfold fX7_metalIn
  refine J_iload_n (pc := 0) C dX7_metalIn_0 rfl 2 rfl ?_
  refine J_iconst (pc := 1) (v := 0) C dX7_metalIn_1 (by decide) ?_
  refine J_iconst (pc := 2) (v := 2) C dX7_metalIn_2 (by decide) ?_
  refine J_callSNI (pc := 3) (As := [.int xp1, .int (0 : Int32), .int (2 : Int32)]) (rest := []) C (fun z hz => mX9_within xp1 (0 : Int32) (2 : Int32) h0 z hz) mwX9_within "GoldLeaves" (by decide +kernel) stX9_within rfl dX7_metalIn_3 (by decide) rfl (Nat.le_of_ble_eq_true rfl) (by decide) (fun x2 h1 => ?_)
  refine J_if_ne (pc := 6) (tgt := 11) C dX7_metalIn_6 (by decide) ?_ ?_
  · refine J_lconst (pc := 11) (v := 0) C dX7_metalIn_11 (by decide) ?_
    refine J_lstore_n (pc := 12) (lv1 := [(3, .long (0 : Int64)), (0, .ref a0), (1, .ref ap0), (2, .int xp1)]) C dX7_metalIn_12 rfl (by decide) rfl ?_
    refine J_iconst (pc := 13) (v := 0) C dX7_metalIn_13 (by decide) ?_
    refine J_istore (pc := 14) (lv1 := [(5, .int (0 : Int32)), (3, .long (0 : Int64)), (0, .ref a0), (1, .ref ap0), (2, .int xp1)]) C dX7_metalIn_14 (by decide) rfl ?_
    refine J_sub [2, 3, 4, 1, 0] rfl ?_
    exact vfX7_metalIn_16 C hr  FU a0 ap0 xp1 (0 : Int64) (0 : Int32) h1
  · refine J_lconst (pc := 9) (v := 0) C dX7_metalIn_9 (by decide) ?_
    exact J_lret (pc := 10) C hr dX7_metalIn_10
theorem mX7_metalIn {l : Launch} {G : GX} (a0 : Nat) (ap0 : Nat) (xp1 : Int32) (h0 : PH) : ∀ z, fX7_metalIn a0 ap0 xp1 h0 = some z → MC l G yX7_metalIn cX7_metalIn 6 (some .long) rmX7_metalIn [.ref a0, .ref ap0, .int xp1] h0 (rvJ z.1) z.2 :=
  Met_J (own := RX7) (by decide) rfl (Nat.le_of_ble_eq_true rfl) (fun p e s m args below meth c C hr hn => vfX7_metalIn C hr a0 ap0 xp1 h0)

