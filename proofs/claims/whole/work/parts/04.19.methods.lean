theorem dX2_addPassed_0 : decode cX2_addPassed 0 = .ok (.iload_n 1, 1) := by decide +kernel
theorem dX2_addPassed_1 : decode cX2_addPassed 1 = .ok (.iconst 0, 1) := by decide +kernel
theorem dX2_addPassed_2 : decode cX2_addPassed 2 = .ok (.iconst 3, 1) := by decide +kernel
theorem dX2_addPassed_3 : decode cX2_addPassed 3 = .ok (.invokestatic 40, 3) := by decide +kernel
theorem dX2_addPassed_6 : decode cX2_addPassed 6 = .ok (.ifCond .eq 29, 3) := by decide +kernel
theorem dX2_addPassed_9 : decode cX2_addPassed 9 = .ok (.iload_n 2, 1) := by decide +kernel
theorem dX2_addPassed_10 : decode cX2_addPassed 10 = .ok (.ldc 44, 2) := by decide +kernel
theorem dX2_addPassed_12 : decode cX2_addPassed 12 = .ok (.ldc 45, 2) := by decide +kernel
theorem dX2_addPassed_14 : decode cX2_addPassed 14 = .ok (.invokestatic 40, 3) := by decide +kernel
theorem dX2_addPassed_17 : decode cX2_addPassed 17 = .ok (.ifCond .eq 18, 3) := by decide +kernel
theorem dX2_addPassed_20 : decode cX2_addPassed 20 = .ok (.iload_n 3, 1) := by decide +kernel
theorem dX2_addPassed_21 : decode cX2_addPassed 21 = .ok (.invokestatic 46, 3) := by decide +kernel
theorem dX2_addPassed_24 : decode cX2_addPassed 24 = .ok (.ifCond .eq 11, 3) := by decide +kernel
theorem dX2_addPassed_27 : decode cX2_addPassed 27 = .ok (.iload 4, 2) := by decide +kernel
theorem dX2_addPassed_29 : decode cX2_addPassed 29 = .ok (.invokestatic 46, 3) := by decide +kernel
theorem dX2_addPassed_32 : decode cX2_addPassed 32 = .ok (.ifCond .ne 5, 3) := by decide +kernel
theorem dX2_addPassed_35 : decode cX2_addPassed 35 = .ok (.iconst (-1), 1) := by decide +kernel
theorem dX2_addPassed_36 : decode cX2_addPassed 36 = .ok (.ireturn, 1) := by decide +kernel
theorem dX2_addPassed_37 : decode cX2_addPassed 37 = .ok (.aload_n 0, 1) := by decide +kernel
theorem dX2_addPassed_38 : decode cX2_addPassed 38 = .ok (.getfield 24, 3) := by decide +kernel
theorem dX2_addPassed_41 : decode cX2_addPassed 41 = .ok (.sipush 200, 3) := by decide +kernel
theorem dX2_addPassed_44 : decode cX2_addPassed 44 = .ok (.if_icmp .lt 6, 3) := by decide +kernel
theorem dX2_addPassed_47 : decode cX2_addPassed 47 = .ok (.bipush (-5), 2) := by decide +kernel
theorem dX2_addPassed_49 : decode cX2_addPassed 49 = .ok (.ireturn, 1) := by decide +kernel
theorem dX2_addPassed_50 : decode cX2_addPassed 50 = .ok (.aload_n 0, 1) := by decide +kernel
theorem dX2_addPassed_51 : decode cX2_addPassed 51 = .ok (.getfield 9, 3) := by decide +kernel
theorem dX2_addPassed_54 : decode cX2_addPassed 54 = .ok (.aload_n 0, 1) := by decide +kernel
theorem dX2_addPassed_55 : decode cX2_addPassed 55 = .ok (.getfield 24, 3) := by decide +kernel
theorem dX2_addPassed_58 : decode cX2_addPassed 58 = .ok (.iload_n 1, 1) := by decide +kernel
theorem dX2_addPassed_59 : decode cX2_addPassed 59 = .ok (.iastore, 1) := by decide +kernel
theorem dX2_addPassed_60 : decode cX2_addPassed 60 = .ok (.aload_n 0, 1) := by decide +kernel
theorem dX2_addPassed_61 : decode cX2_addPassed 61 = .ok (.getfield 15, 3) := by decide +kernel
theorem dX2_addPassed_64 : decode cX2_addPassed 64 = .ok (.aload_n 0, 1) := by decide +kernel
theorem dX2_addPassed_65 : decode cX2_addPassed 65 = .ok (.getfield 24, 3) := by decide +kernel
theorem dX2_addPassed_68 : decode cX2_addPassed 68 = .ok (.iload_n 2, 1) := by decide +kernel
theorem dX2_addPassed_69 : decode cX2_addPassed 69 = .ok (.iastore, 1) := by decide +kernel
theorem dX2_addPassed_70 : decode cX2_addPassed 70 = .ok (.aload_n 0, 1) := by decide +kernel
theorem dX2_addPassed_71 : decode cX2_addPassed 71 = .ok (.getfield 18, 3) := by decide +kernel
theorem dX2_addPassed_74 : decode cX2_addPassed 74 = .ok (.aload_n 0, 1) := by decide +kernel
theorem dX2_addPassed_75 : decode cX2_addPassed 75 = .ok (.getfield 24, 3) := by decide +kernel
theorem dX2_addPassed_78 : decode cX2_addPassed 78 = .ok (.iload_n 3, 1) := by decide +kernel
theorem dX2_addPassed_79 : decode cX2_addPassed 79 = .ok (.iastore, 1) := by decide +kernel
theorem dX2_addPassed_80 : decode cX2_addPassed 80 = .ok (.aload_n 0, 1) := by decide +kernel
theorem dX2_addPassed_81 : decode cX2_addPassed 81 = .ok (.getfield 21, 3) := by decide +kernel
theorem dX2_addPassed_84 : decode cX2_addPassed 84 = .ok (.aload_n 0, 1) := by decide +kernel
theorem dX2_addPassed_85 : decode cX2_addPassed 85 = .ok (.getfield 24, 3) := by decide +kernel
theorem dX2_addPassed_88 : decode cX2_addPassed 88 = .ok (.iload 4, 2) := by decide +kernel
theorem dX2_addPassed_90 : decode cX2_addPassed 90 = .ok (.iastore, 1) := by decide +kernel
theorem dX2_addPassed_91 : decode cX2_addPassed 91 = .ok (.aload_n 0, 1) := by decide +kernel
theorem dX2_addPassed_92 : decode cX2_addPassed 92 = .ok (.dup, 1) := by decide +kernel
theorem dX2_addPassed_93 : decode cX2_addPassed 93 = .ok (.getfield 24, 3) := by decide +kernel
theorem dX2_addPassed_96 : decode cX2_addPassed 96 = .ok (.iconst 1, 1) := by decide +kernel
theorem dX2_addPassed_97 : decode cX2_addPassed 97 = .ok (.iadd, 1) := by decide +kernel
theorem dX2_addPassed_98 : decode cX2_addPassed 98 = .ok (.putfield 24, 3) := by decide +kernel
theorem dX2_addPassed_101 : decode cX2_addPassed 101 = .ok (.aload_n 0, 1) := by decide +kernel
theorem dX2_addPassed_102 : decode cX2_addPassed 102 = .ok (.getfield 24, 3) := by decide +kernel
theorem dX2_addPassed_105 : decode cX2_addPassed 105 = .ok (.ireturn, 1) := by decide +kernel
def rmX2_addPassed : Room := { frames := 2, cells := 0, slots := 0, locals := 42 }
def fX2_addPassed  (a0 : Nat) (xp0 : Int32) (xp1 : Int32) (xp2 : Int32) (xp3 : Int32) (h0 : PH) : Option (Int32 × PH) :=
    bn2 (fX9_within xp0 (0 : Int32) (3 : Int32) h0) fun x2 h1 =>
    if x2 = 0 then (some ((-1 : Int32), h1)) else
    bn2 (fX9_within xp1 (-1000000 : Int32) (1000000 : Int32) h1) fun x4 h3 =>
    if x4 = 0 then (some ((-1 : Int32), h3)) else
    bn2 (fX9_isHour xp2 h3) fun x6 h5 =>
    if x6 = 0 then (some ((-1 : Int32), h5)) else
    bn2 (fX9_isHour xp3 h5) fun x8 h7 =>
    if x8 = 0 then (some ((-1 : Int32), h7)) else
    bn (rdI 2 4 a0 h7) fun x9 =>
    if x9 < (200 : Int32) then (bn (rdR 2 0 a0 h7) fun a10 =>
    bn (rdI 2 4 a0 h7) fun x11 =>
    bn (astI a10 x11 xp0 h7) fun h12 =>
    bn (rdR 2 1 a0 h12) fun a13 =>
    bn (rdI 2 4 a0 h12) fun x14 =>
    bn (astI a13 x14 xp1 h12) fun h15 =>
    bn (rdR 2 2 a0 h15) fun a16 =>
    bn (rdI 2 4 a0 h15) fun x17 =>
    bn (astI a16 x17 xp2 h15) fun h18 =>
    bn (rdR 2 3 a0 h18) fun a19 =>
    bn (rdI 2 4 a0 h18) fun x20 =>
    bn (astI a19 x20 xp3 h18) fun h21 =>
    bn (rdI 2 4 a0 h21) fun x22 =>
    bn (wr 2 4 (.int (x22 + (1 : Int32))) a0 h21) fun h23 =>
    bn (rdI 2 4 a0 h23) fun x24 =>
    some (x24, h23)) else
    some ((-5 : Int32), h7)
set_option maxHeartbeats 4000000 in
set_option maxRecDepth 100000 in
theorem vfX2_addPassed {p : Program} {l : Launch} {e : Env} {s : State} {m : MethodId} {args : Array Value} {below : List Frame} {meth : Method} {c : Code} {G : GX} (C : Cx p s m args meth c G cX2_addPassed 5 RX2) (hr : meth.sig.returnType = (some .int)) (a0 : Nat) (xp0 : Int32) (xp1 : Int32) (xp2 : Int32) (xp3 : Int32) (h0 : PH) : J p l e rmX2_addPassed s m args below meth c G 5 (qM below args s rvI G 0 0) 0 0 h0 0 [(0, .ref a0), (1, .int xp0), (2, .int xp1), (3, .int xp2), (4, .int xp3)] [] (fX2_addPassed  a0 xp0 xp1 xp2 xp3 h0) := by
  unfold fX2_addPassed
  refine J_iload_n (pc := 0) C dX2_addPassed_0 rfl 1 rfl ?_
  refine J_iconst (pc := 1) (v := 0) C dX2_addPassed_1 (by decide) ?_
  refine J_iconst (pc := 2) (v := 3) C dX2_addPassed_2 (by decide) ?_
  refine J_callSNI (pc := 3) (As := [.int xp0, .int (0 : Int32), .int (3 : Int32)]) (rest := []) C (fun z hz => mX9_within xp0 (0 : Int32) (3 : Int32) h0 z hz) mwX9_within "GoldLeaves" (by decide +kernel) stX9_within rfl dX2_addPassed_3 (by decide) rfl (Nat.le_of_ble_eq_true rfl) (by decide) (fun x2 h1 => ?_)
  refine J_if_eq (pc := 6) (tgt := 35) C dX2_addPassed_6 (by decide) ?_ ?_
  · refine J_iconst (pc := 35) (v := -1) C dX2_addPassed_35 (by decide) ?_
    exact J_iret (pc := 36) C hr dX2_addPassed_36
  · refine J_iload_n (pc := 9) C dX2_addPassed_9 rfl 2 rfl ?_
    refine J_ldc (pc := 10) C kkX2_44 dX2_addPassed_10 ?_
    refine J_ldc (pc := 12) C kkX2_45 dX2_addPassed_12 ?_
    refine J_callSNI (pc := 14) (As := [.int xp1, .int (-1000000 : Int32), .int (1000000 : Int32)]) (rest := []) C (fun z hz => mX9_within xp1 (-1000000 : Int32) (1000000 : Int32) h1 z hz) mwX9_within "GoldLeaves" (by decide +kernel) stX9_within rfl dX2_addPassed_14 (by decide) rfl (Nat.le_of_ble_eq_true rfl) (by decide) (fun x4 h3 => ?_)
    refine J_if_eq (pc := 17) (tgt := 35) C dX2_addPassed_17 (by decide) ?_ ?_
    · refine J_iconst (pc := 35) (v := -1) C dX2_addPassed_35 (by decide) ?_
      exact J_iret (pc := 36) C hr dX2_addPassed_36
    · refine J_iload_n (pc := 20) C dX2_addPassed_20 rfl 3 rfl ?_
      refine J_callSNI (pc := 21) (As := [.int xp2]) (rest := []) C (fun z hz => mX9_isHour xp2 h3 z hz) mwX9_isHour "GoldLeaves" (by decide +kernel) stX9_isHour rfl dX2_addPassed_21 (by decide) rfl (Nat.le_of_ble_eq_true rfl) (by decide) (fun x6 h5 => ?_)
      refine J_if_eq (pc := 24) (tgt := 35) C dX2_addPassed_24 (by decide) ?_ ?_
      · refine J_iconst (pc := 35) (v := -1) C dX2_addPassed_35 (by decide) ?_
        exact J_iret (pc := 36) C hr dX2_addPassed_36
      · refine J_iload (pc := 27) C dX2_addPassed_27 4 rfl ?_
        refine J_callSNI (pc := 29) (As := [.int xp3]) (rest := []) C (fun z hz => mX9_isHour xp3 h5 z hz) mwX9_isHour "GoldLeaves" (by decide +kernel) stX9_isHour rfl dX2_addPassed_29 (by decide) rfl (Nat.le_of_ble_eq_true rfl) (by decide) (fun x8 h7 => ?_)
        refine J_if_ne (pc := 32) (tgt := 37) C dX2_addPassed_32 (by decide) ?_ ?_
        · refine J_aload_n (pc := 37) C dX2_addPassed_37 rfl 0 rfl ?_
          refine J_getI (pc := 38) C flX2_24 dX2_addPassed_38 (fun x9 => ?_)
          refine J_sipush (pc := 41) (v := 200) C dX2_addPassed_41 (by decide) ?_
          refine J_icmp_lt (pc := 44) (tgt := 50) C dX2_addPassed_44 (by decide) ?_ ?_
          · refine J_aload_n (pc := 50) C dX2_addPassed_50 rfl 0 rfl ?_
            refine J_getR (pc := 51) C flX2_9 dX2_addPassed_51 (fun a10 => ?_)
            refine J_aload_n (pc := 54) C dX2_addPassed_54 rfl 0 rfl ?_
            refine J_getI (pc := 55) C flX2_24 dX2_addPassed_55 (fun x11 => ?_)
            refine J_iload_n (pc := 58) C dX2_addPassed_58 rfl 1 rfl ?_
            refine J_iast (pc := 59) C dX2_addPassed_59 (fun h12 => ?_)
            refine J_aload_n (pc := 60) C dX2_addPassed_60 rfl 0 rfl ?_
            refine J_getR (pc := 61) C flX2_15 dX2_addPassed_61 (fun a13 => ?_)
            refine J_aload_n (pc := 64) C dX2_addPassed_64 rfl 0 rfl ?_
            refine J_getI (pc := 65) C flX2_24 dX2_addPassed_65 (fun x14 => ?_)
            refine J_iload_n (pc := 68) C dX2_addPassed_68 rfl 2 rfl ?_
            refine J_iast (pc := 69) C dX2_addPassed_69 (fun h15 => ?_)
            refine J_aload_n (pc := 70) C dX2_addPassed_70 rfl 0 rfl ?_
            refine J_getR (pc := 71) C flX2_18 dX2_addPassed_71 (fun a16 => ?_)
            refine J_aload_n (pc := 74) C dX2_addPassed_74 rfl 0 rfl ?_
            refine J_getI (pc := 75) C flX2_24 dX2_addPassed_75 (fun x17 => ?_)
            refine J_iload_n (pc := 78) C dX2_addPassed_78 rfl 3 rfl ?_
            refine J_iast (pc := 79) C dX2_addPassed_79 (fun h18 => ?_)
            refine J_aload_n (pc := 80) C dX2_addPassed_80 rfl 0 rfl ?_
            refine J_getR (pc := 81) C flX2_21 dX2_addPassed_81 (fun a19 => ?_)
            refine J_aload_n (pc := 84) C dX2_addPassed_84 rfl 0 rfl ?_
            refine J_getI (pc := 85) C flX2_24 dX2_addPassed_85 (fun x20 => ?_)
            refine J_iload (pc := 88) C dX2_addPassed_88 4 rfl ?_
            refine J_iast (pc := 90) C dX2_addPassed_90 (fun h21 => ?_)
            refine J_aload_n (pc := 91) C dX2_addPassed_91 rfl 0 rfl ?_
            refine J_dup (pc := 92) C dX2_addPassed_92 rfl ?_
            refine J_getI (pc := 93) C flX2_24 dX2_addPassed_93 (fun x22 => ?_)
            refine J_iconst (pc := 96) (v := 1) C dX2_addPassed_96 (by decide) ?_
            refine J_iadd (pc := 97) C dX2_addPassed_97 ?_
            refine J_put (pc := 98) C flX2_24 cl2 ft2_4 rfl rfl dX2_addPassed_98 (fun h23 => ?_)
            refine J_aload_n (pc := 101) C dX2_addPassed_101 rfl 0 rfl ?_
            refine J_getI (pc := 102) C flX2_24 dX2_addPassed_102 (fun x24 => ?_)
            exact J_iret (pc := 105) C hr dX2_addPassed_105
          · refine J_bipush (pc := 47) (v := -5) C dX2_addPassed_47 (by decide) ?_
            exact J_iret (pc := 49) C hr dX2_addPassed_49
        · refine J_iconst (pc := 35) (v := -1) C dX2_addPassed_35 (by decide) ?_
          exact J_iret (pc := 36) C hr dX2_addPassed_36
theorem mX2_addPassed {l : Launch} {G : GX} (a0 : Nat) (xp0 : Int32) (xp1 : Int32) (xp2 : Int32) (xp3 : Int32) (h0 : PH) : ∀ z, fX2_addPassed a0 xp0 xp1 xp2 xp3 h0 = some z → MC l G yX2_addPassed cX2_addPassed 5 (some .int) rmX2_addPassed [.ref a0, .int xp0, .int xp1, .int xp2, .int xp3] h0 (rvI z.1) z.2 :=
  Met_J (own := RX2) (by decide) rfl (Nat.le_of_ble_eq_true rfl) (fun p e s m args below meth c C hr hn => vfX2_addPassed C hr a0 xp0 xp1 xp2 xp3 h0)

theorem dX9_pass_0 : decode cX9_pass 0 = .ok (.aload_n 0, 1) := by decide +kernel
theorem dX9_pass_1 : decode cX9_pass 1 = .ok (.aload_n 0, 1) := by decide +kernel
theorem dX9_pass_2 : decode cX9_pass 2 = .ok (.getfield 45, 3) := by decide +kernel
theorem dX9_pass_5 : decode cX9_pass 5 = .ok (.iload_n 1, 1) := by decide +kernel
theorem dX9_pass_6 : decode cX9_pass 6 = .ok (.iload_n 2, 1) := by decide +kernel
theorem dX9_pass_7 : decode cX9_pass 7 = .ok (.iload_n 3, 1) := by decide +kernel
theorem dX9_pass_8 : decode cX9_pass 8 = .ok (.iload 4, 2) := by decide +kernel
theorem dX9_pass_10 : decode cX9_pass 10 = .ok (.invokevirtual 198, 3) := by decide +kernel
theorem dX9_pass_13 : decode cX9_pass 13 = .ok (.invokevirtual 70, 3) := by decide +kernel
theorem dX9_pass_16 : decode cX9_pass 16 = .ok (.ireturn, 1) := by decide +kernel
def rmX9_pass : Room := { frames := 3, cells := 0, slots := 0, locals := 66 }
def fX9_pass  (a0 : Nat) (xp0 : Int32) (xp1 : Int32) (xp2 : Int32) (xp3 : Int32) (h0 : PH) : Option (Int32 × PH) :=
    bn (rdR 9 5 a0 h0) fun a1 =>
    bn (chk 2 a1 h0) fun _ => bn2 (fX2_addPassed a1 xp0 xp1 xp2 xp3 h0) fun x3 h2 =>
    bn (chk 9 a0 h2) fun _ => bn2 (fX9_noted a0 x3 h2) fun x5 h4 =>
    some (x5, h4)
set_option maxHeartbeats 4000000 in
set_option maxRecDepth 100000 in
theorem vfX9_pass {p : Program} {l : Launch} {e : Env} {s : State} {m : MethodId} {args : Array Value} {below : List Frame} {meth : Method} {c : Code} {G : GX} (C : Cx p s m args meth c G cX9_pass 5 RX9) (hr : meth.sig.returnType = (some .int)) (a0 : Nat) (xp0 : Int32) (xp1 : Int32) (xp2 : Int32) (xp3 : Int32) (h0 : PH) : J p l e rmX9_pass s m args below meth c G 5 (qM below args s rvI G 0 0) 0 0 h0 0 [(0, .ref a0), (1, .int xp0), (2, .int xp1), (3, .int xp2), (4, .int xp3)] [] (fX9_pass  a0 xp0 xp1 xp2 xp3 h0) := by
  unfold fX9_pass
  refine J_aload_n (pc := 0) C dX9_pass_0 rfl 0 rfl ?_
  refine J_aload_n (pc := 1) C dX9_pass_1 rfl 0 rfl ?_
  refine J_getR (pc := 2) C flX9_45 dX9_pass_2 (fun a1 => ?_)
  refine J_iload_n (pc := 5) C dX9_pass_5 rfl 1 rfl ?_
  refine J_iload_n (pc := 6) C dX9_pass_6 rfl 2 rfl ?_
  refine J_iload_n (pc := 7) C dX9_pass_7 rfl 3 rfl ?_
  refine J_iload (pc := 8) C dX9_pass_8 4 rfl ?_
  refine J_callVI (pc := 10) (As := [.int xp0, .int xp1, .int xp2, .int xp3]) (rest := [.ref a0]) C (fun z hz => mX2_addPassed a1 xp0 xp1 xp2 xp3 h0 z hz) mwX2_addPassed csX2_addPassed mlX9_198 inX2_addPassed rfl dX9_pass_10 (by decide) rfl (Nat.le_of_ble_eq_true rfl) (by decide) (fun x3 h2 => ?_)
  refine J_callVI (pc := 13) (As := [.int x3]) (rest := []) C (fun z hz => mX9_noted a0 x3 h2 z hz) mwX9_noted csX9_noted mlX9_70 inX9_noted rfl dX9_pass_13 (by decide) rfl (Nat.le_of_ble_eq_true rfl) (by decide) (fun x5 h4 => ?_)
  exact J_iret (pc := 16) C hr dX9_pass_16
theorem mX9_pass {l : Launch} {G : GX} (a0 : Nat) (xp0 : Int32) (xp1 : Int32) (xp2 : Int32) (xp3 : Int32) (h0 : PH) : ∀ z, fX9_pass a0 xp0 xp1 xp2 xp3 h0 = some z → MC l G yX9_pass cX9_pass 5 (some .int) rmX9_pass [.ref a0, .int xp0, .int xp1, .int xp2, .int xp3] h0 (rvI z.1) z.2 :=
  Met_J (own := RX9) (by decide) rfl (Nat.le_of_ble_eq_true rfl) (fun p e s m args below meth c C hr hn => vfX9_pass C hr a0 xp0 xp1 xp2 xp3 h0)

theorem dX10_isHour_0 : decode cX10_isHour 0 = .ok (.iload_n 0, 1) := by decide +kernel
theorem dX10_isHour_1 : decode cX10_isHour 1 = .ok (.i2l, 1) := by decide +kernel
theorem dX10_isHour_2 : decode cX10_isHour 2 = .ok (.lconst 0, 1) := by decide +kernel
theorem dX10_isHour_3 : decode cX10_isHour 3 = .ok (.ldc2_w 105, 3) := by decide +kernel
theorem dX10_isHour_6 : decode cX10_isHour 6 = .ok (.invokestatic 99, 3) := by decide +kernel
theorem dX10_isHour_9 : decode cX10_isHour 9 = .ok (.ireturn, 1) := by decide +kernel
def rmX10_isHour : Room := { frames := 1, cells := 0, slots := 0, locals := 25 }
def fX10_isHour  (xp0 : Int32) (h0 : PH) : Option (Int32 × PH) :=
    bn2 (fX10_in xp0.toInt64 (0 : Int64) (1000 : Int64) h0) fun x2 h1 =>
    if x2 = 0 ∨ x2 = 1 then some (x2, h1) else none
set_option maxHeartbeats 4000000 in
set_option maxRecDepth 100000 in
theorem vfX10_isHour {p : Program} {l : Launch} {e : Env} {s : State} {m : MethodId} {args : Array Value} {below : List Frame} {meth : Method} {c : Code} {G : GX} (C : Cx p s m args meth c G cX10_isHour 1 RX10) (hr : meth.sig.returnType = (some .boolean)) (xp0 : Int32) (h0 : PH) : J p l e rmX10_isHour s m args below meth c G 1 (qM below args s rvI G 0 0) 0 0 h0 0 [(0, .int xp0)] [] (fX10_isHour  xp0 h0) := by
  unfold fX10_isHour
  refine J_iload_n (pc := 0) C dX10_isHour_0 rfl 0 rfl ?_
  refine J_i2l (pc := 1) C dX10_isHour_1 ?_
  refine J_lconst (pc := 2) (v := 0) C dX10_isHour_2 (by decide) ?_
  refine J_ldc2 (pc := 3) C kjX10_105 dX10_isHour_3 ?_
  refine J_callSI (pc := 6) (As := [.long xp0.toInt64, .long (0 : Int64), .long (1000 : Int64)]) (rest := []) C (fun z hz => mX10_in xp0.toInt64 (0 : Int64) (1000 : Int64) h0 z hz) mwX10_in mlX10_99 stX10_in rfl dX10_isHour_6 (by decide) rfl (Nat.le_of_ble_eq_true rfl) (by decide) (fun x2 h1 => ?_)
  exact J_zretC (pc := 9) C hr dX10_isHour_9
theorem mX10_isHour {l : Launch} {G : GX} (xp0 : Int32) (h0 : PH) : ∀ z, fX10_isHour xp0 h0 = some z → MC l G yX10_isHour cX10_isHour 1 (some .boolean) rmX10_isHour [.int xp0] h0 (rvI z.1) z.2 :=
  Met_J (own := RX10) (by decide) rfl (Nat.le_of_ble_eq_true rfl) (fun p e s m args below meth c C hr hn => vfX10_isHour C hr xp0 h0)

theorem dX10_pass_0 : decode cX10_pass 0 = .ok (.aload_n 0, 1) := by decide +kernel
theorem dX10_pass_1 : decode cX10_pass 1 = .ok (.iconst 0, 1) := by decide +kernel
theorem dX10_pass_2 : decode cX10_pass 2 = .ok (.putfield 90, 3) := by decide +kernel
theorem dX10_pass_5 : decode cX10_pass 5 = .ok (.iload_n 1, 1) := by decide +kernel
theorem dX10_pass_6 : decode cX10_pass 6 = .ok (.i2l, 1) := by decide +kernel
theorem dX10_pass_7 : decode cX10_pass 7 = .ok (.lconst 0, 1) := by decide +kernel
theorem dX10_pass_8 : decode cX10_pass 8 = .ok (.ldc2_w 239, 3) := by decide +kernel
theorem dX10_pass_11 : decode cX10_pass 11 = .ok (.invokestatic 99, 3) := by decide +kernel
theorem dX10_pass_14 : decode cX10_pass 14 = .ok (.ifCond .eq 32, 3) := by decide +kernel
theorem dX10_pass_17 : decode cX10_pass 17 = .ok (.iload_n 2, 1) := by decide +kernel
theorem dX10_pass_18 : decode cX10_pass 18 = .ok (.i2l, 1) := by decide +kernel
theorem dX10_pass_19 : decode cX10_pass 19 = .ok (.ldc2_w 241, 3) := by decide +kernel
theorem dX10_pass_22 : decode cX10_pass 22 = .ok (.ldc2_w 103, 3) := by decide +kernel
theorem dX10_pass_25 : decode cX10_pass 25 = .ok (.invokestatic 99, 3) := by decide +kernel
theorem dX10_pass_28 : decode cX10_pass 28 = .ok (.ifCond .eq 18, 3) := by decide +kernel
theorem dX10_pass_31 : decode cX10_pass 31 = .ok (.iload_n 3, 1) := by decide +kernel
theorem dX10_pass_32 : decode cX10_pass 32 = .ok (.invokestatic 243, 3) := by decide +kernel
theorem dX10_pass_35 : decode cX10_pass 35 = .ok (.ifCond .eq 11, 3) := by decide +kernel
theorem dX10_pass_38 : decode cX10_pass 38 = .ok (.iload 4, 2) := by decide +kernel
theorem dX10_pass_40 : decode cX10_pass 40 = .ok (.invokestatic 243, 3) := by decide +kernel
theorem dX10_pass_43 : decode cX10_pass 43 = .ok (.ifCond .ne 9, 3) := by decide +kernel
theorem dX10_pass_46 : decode cX10_pass 46 = .ok (.aload_n 0, 1) := by decide +kernel
theorem dX10_pass_47 : decode cX10_pass 47 = .ok (.iconst (-1), 1) := by decide +kernel
theorem dX10_pass_48 : decode cX10_pass 48 = .ok (.invokevirtual 107, 3) := by decide +kernel
theorem dX10_pass_51 : decode cX10_pass 51 = .ok (.ireturn, 1) := by decide +kernel
theorem dX10_pass_52 : decode cX10_pass 52 = .ok (.aload_n 0, 1) := by decide +kernel
theorem dX10_pass_53 : decode cX10_pass 53 = .ok (.getfield 246, 3) := by decide +kernel
theorem dX10_pass_56 : decode cX10_pass 56 = .ok (.sipush 200, 3) := by decide +kernel
theorem dX10_pass_59 : decode cX10_pass 59 = .ok (.if_icmp .ne 10, 3) := by decide +kernel
theorem dX10_pass_62 : decode cX10_pass 62 = .ok (.aload_n 0, 1) := by decide +kernel
theorem dX10_pass_63 : decode cX10_pass 63 = .ok (.bipush (-5), 2) := by decide +kernel
theorem dX10_pass_65 : decode cX10_pass 65 = .ok (.invokevirtual 107, 3) := by decide +kernel
theorem dX10_pass_68 : decode cX10_pass 68 = .ok (.ireturn, 1) := by decide +kernel
theorem dX10_pass_69 : decode cX10_pass 69 = .ok (.aload_n 0, 1) := by decide +kernel
theorem dX10_pass_70 : decode cX10_pass 70 = .ok (.getfield 69, 3) := by decide +kernel
theorem dX10_pass_73 : decode cX10_pass 73 = .ok (.aload_n 0, 1) := by decide +kernel
theorem dX10_pass_74 : decode cX10_pass 74 = .ok (.getfield 246, 3) := by decide +kernel
theorem dX10_pass_77 : decode cX10_pass 77 = .ok (.iload_n 1, 1) := by decide +kernel
theorem dX10_pass_78 : decode cX10_pass 78 = .ok (.iastore, 1) := by decide +kernel
theorem dX10_pass_79 : decode cX10_pass 79 = .ok (.aload_n 0, 1) := by decide +kernel
theorem dX10_pass_80 : decode cX10_pass 80 = .ok (.getfield 72, 3) := by decide +kernel
theorem dX10_pass_83 : decode cX10_pass 83 = .ok (.aload_n 0, 1) := by decide +kernel
theorem dX10_pass_84 : decode cX10_pass 84 = .ok (.getfield 246, 3) := by decide +kernel
theorem dX10_pass_87 : decode cX10_pass 87 = .ok (.iload_n 2, 1) := by decide +kernel
theorem dX10_pass_88 : decode cX10_pass 88 = .ok (.iastore, 1) := by decide +kernel
theorem dX10_pass_89 : decode cX10_pass 89 = .ok (.aload_n 0, 1) := by decide +kernel
theorem dX10_pass_90 : decode cX10_pass 90 = .ok (.getfield 75, 3) := by decide +kernel
theorem dX10_pass_93 : decode cX10_pass 93 = .ok (.aload_n 0, 1) := by decide +kernel
theorem dX10_pass_94 : decode cX10_pass 94 = .ok (.getfield 246, 3) := by decide +kernel
theorem dX10_pass_97 : decode cX10_pass 97 = .ok (.iload_n 3, 1) := by decide +kernel
theorem dX10_pass_98 : decode cX10_pass 98 = .ok (.iastore, 1) := by decide +kernel
theorem dX10_pass_99 : decode cX10_pass 99 = .ok (.aload_n 0, 1) := by decide +kernel
theorem dX10_pass_100 : decode cX10_pass 100 = .ok (.getfield 78, 3) := by decide +kernel
theorem dX10_pass_103 : decode cX10_pass 103 = .ok (.aload_n 0, 1) := by decide +kernel
theorem dX10_pass_104 : decode cX10_pass 104 = .ok (.getfield 246, 3) := by decide +kernel
theorem dX10_pass_107 : decode cX10_pass 107 = .ok (.iload 4, 2) := by decide +kernel
theorem dX10_pass_109 : decode cX10_pass 109 = .ok (.iastore, 1) := by decide +kernel
theorem dX10_pass_110 : decode cX10_pass 110 = .ok (.aload_n 0, 1) := by decide +kernel
theorem dX10_pass_111 : decode cX10_pass 111 = .ok (.dup, 1) := by decide +kernel
theorem dX10_pass_112 : decode cX10_pass 112 = .ok (.getfield 246, 3) := by decide +kernel
theorem dX10_pass_115 : decode cX10_pass 115 = .ok (.iconst 1, 1) := by decide +kernel
theorem dX10_pass_116 : decode cX10_pass 116 = .ok (.iadd, 1) := by decide +kernel
theorem dX10_pass_117 : decode cX10_pass 117 = .ok (.putfield 246, 3) := by decide +kernel
theorem dX10_pass_120 : decode cX10_pass 120 = .ok (.aload_n 0, 1) := by decide +kernel
theorem dX10_pass_121 : decode cX10_pass 121 = .ok (.aload_n 0, 1) := by decide +kernel
theorem dX10_pass_122 : decode cX10_pass 122 = .ok (.getfield 246, 3) := by decide +kernel
theorem dX10_pass_125 : decode cX10_pass 125 = .ok (.invokevirtual 107, 3) := by decide +kernel
theorem dX10_pass_128 : decode cX10_pass 128 = .ok (.ireturn, 1) := by decide +kernel
def rmX10_pass : Room := { frames := 2, cells := 0, slots := 0, locals := 45 }
def fX10_pass  (a0 : Nat) (xp0 : Int32) (xp1 : Int32) (xp2 : Int32) (xp3 : Int32) (h0 : PH) : Option (Int32 × PH) :=
    bn (wr 10 0 (.int (0 : Int32)) a0 h0) fun h1 =>
    bn2 (fX10_in xp0.toInt64 (0 : Int64) (3 : Int64) h1) fun x3 h2 =>
    if x3 = 0 then (bn (chk 10 a0 h2) fun _ => bn2 (fX10_told a0 (-1 : Int32) h2) fun x5 h4 =>
    some (x5, h4)) else
    bn2 (fX10_in xp1.toInt64 (-1000000 : Int64) (1000000 : Int64) h2) fun x7 h6 =>
    if x7 = 0 then (bn (chk 10 a0 h6) fun _ => bn2 (fX10_told a0 (-1 : Int32) h6) fun x9 h8 =>
    some (x9, h8)) else
    bn2 (fX10_isHour xp2 h6) fun x11 h10 =>
    if x11 = 0 then (bn (chk 10 a0 h10) fun _ => bn2 (fX10_told a0 (-1 : Int32) h10) fun x13 h12 =>
    some (x13, h12)) else
    bn2 (fX10_isHour xp3 h10) fun x15 h14 =>
    if x15 = 0 then (bn (chk 10 a0 h14) fun _ => bn2 (fX10_told a0 (-1 : Int32) h14) fun x37 h36 =>
    some (x37, h36)) else
    bn (rdI 10 35 a0 h14) fun x16 =>
    if x16 = (200 : Int32) then (bn (chk 10 a0 h14) fun _ => bn2 (fX10_told a0 (-5 : Int32) h14) fun x35 h34 =>
    some (x35, h34)) else
    bn (rdR 10 36 a0 h14) fun a17 =>
    bn (rdI 10 35 a0 h14) fun x18 =>
    bn (astI a17 x18 xp0 h14) fun h19 =>
    bn (rdR 10 37 a0 h19) fun a20 =>
    bn (rdI 10 35 a0 h19) fun x21 =>
    bn (astI a20 x21 xp1 h19) fun h22 =>
    bn (rdR 10 38 a0 h22) fun a23 =>
    bn (rdI 10 35 a0 h22) fun x24 =>
    bn (astI a23 x24 xp2 h22) fun h25 =>
    bn (rdR 10 39 a0 h25) fun a26 =>
    bn (rdI 10 35 a0 h25) fun x27 =>
    bn (astI a26 x27 xp3 h25) fun h28 =>
    bn (rdI 10 35 a0 h28) fun x29 =>
    bn (wr 10 35 (.int (x29 + (1 : Int32))) a0 h28) fun h30 =>
    bn (rdI 10 35 a0 h30) fun x31 =>
    bn (chk 10 a0 h30) fun _ => bn2 (fX10_told a0 x31 h30) fun x33 h32 =>
    some (x33, h32)
set_option maxHeartbeats 4000000 in
set_option maxRecDepth 100000 in
theorem vfX10_pass {p : Program} {l : Launch} {e : Env} {s : State} {m : MethodId} {args : Array Value} {below : List Frame} {meth : Method} {c : Code} {G : GX} (C : Cx p s m args meth c G cX10_pass 5 RX10) (hr : meth.sig.returnType = (some .int)) (a0 : Nat) (xp0 : Int32) (xp1 : Int32) (xp2 : Int32) (xp3 : Int32) (h0 : PH) : J p l e rmX10_pass s m args below meth c G 5 (qM below args s rvI G 0 0) 0 0 h0 0 [(0, .ref a0), (1, .int xp0), (2, .int xp1), (3, .int xp2), (4, .int xp3)] [] (fX10_pass  a0 xp0 xp1 xp2 xp3 h0) := by
  unfold fX10_pass
  refine J_aload_n (pc := 0) C dX10_pass_0 rfl 0 rfl ?_
  refine J_iconst (pc := 1) (v := 0) C dX10_pass_1 (by decide) ?_
  refine J_put (pc := 2) C flX10_90 cl10 ft10_0 rfl rfl dX10_pass_2 (fun h1 => ?_)
  refine J_iload_n (pc := 5) C dX10_pass_5 rfl 1 rfl ?_
  refine J_i2l (pc := 6) C dX10_pass_6 ?_
  refine J_lconst (pc := 7) (v := 0) C dX10_pass_7 (by decide) ?_
  refine J_ldc2 (pc := 8) C kjX10_239 dX10_pass_8 ?_
  refine J_callSI (pc := 11) (As := [.long xp0.toInt64, .long (0 : Int64), .long (3 : Int64)]) (rest := []) C (fun z hz => mX10_in xp0.toInt64 (0 : Int64) (3 : Int64) h1 z hz) mwX10_in mlX10_99 stX10_in rfl dX10_pass_11 (by decide) rfl (Nat.le_of_ble_eq_true rfl) (by decide) (fun x3 h2 => ?_)
  refine J_if_eq (pc := 14) (tgt := 46) C dX10_pass_14 (by decide) ?_ ?_
  · refine J_aload_n (pc := 46) C dX10_pass_46 rfl 0 rfl ?_
    refine J_iconst (pc := 47) (v := -1) C dX10_pass_47 (by decide) ?_
    refine J_callVI (pc := 48) (As := [.int (-1 : Int32)]) (rest := []) C (fun z hz => mX10_told a0 (-1 : Int32) h2 z hz) mwX10_told csX10_told mlX10_107 inX10_told rfl dX10_pass_48 (by decide) rfl (Nat.le_of_ble_eq_true rfl) (by decide) (fun x5 h4 => ?_)
    exact J_iret (pc := 51) C hr dX10_pass_51
  · refine J_iload_n (pc := 17) C dX10_pass_17 rfl 2 rfl ?_
    refine J_i2l (pc := 18) C dX10_pass_18 ?_
    refine J_ldc2 (pc := 19) C kjX10_241 dX10_pass_19 ?_
    refine J_ldc2 (pc := 22) C kjX10_103 dX10_pass_22 ?_
    refine J_callSI (pc := 25) (As := [.long xp1.toInt64, .long (-1000000 : Int64), .long (1000000 : Int64)]) (rest := []) C (fun z hz => mX10_in xp1.toInt64 (-1000000 : Int64) (1000000 : Int64) h2 z hz) mwX10_in mlX10_99 stX10_in rfl dX10_pass_25 (by decide) rfl (Nat.le_of_ble_eq_true rfl) (by decide) (fun x7 h6 => ?_)
    refine J_if_eq (pc := 28) (tgt := 46) C dX10_pass_28 (by decide) ?_ ?_
    · refine J_aload_n (pc := 46) C dX10_pass_46 rfl 0 rfl ?_
      refine J_iconst (pc := 47) (v := -1) C dX10_pass_47 (by decide) ?_
      refine J_callVI (pc := 48) (As := [.int (-1 : Int32)]) (rest := []) C (fun z hz => mX10_told a0 (-1 : Int32) h6 z hz) mwX10_told csX10_told mlX10_107 inX10_told rfl dX10_pass_48 (by decide) rfl (Nat.le_of_ble_eq_true rfl) (by decide) (fun x9 h8 => ?_)
      exact J_iret (pc := 51) C hr dX10_pass_51
    · refine J_iload_n (pc := 31) C dX10_pass_31 rfl 3 rfl ?_
      refine J_callSI (pc := 32) (As := [.int xp2]) (rest := []) C (fun z hz => mX10_isHour xp2 h6 z hz) mwX10_isHour mlX10_243 stX10_isHour rfl dX10_pass_32 (by decide) rfl (Nat.le_of_ble_eq_true rfl) (by decide) (fun x11 h10 => ?_)
      refine J_if_eq (pc := 35) (tgt := 46) C dX10_pass_35 (by decide) ?_ ?_
      · refine J_aload_n (pc := 46) C dX10_pass_46 rfl 0 rfl ?_
        refine J_iconst (pc := 47) (v := -1) C dX10_pass_47 (by decide) ?_
        refine J_callVI (pc := 48) (As := [.int (-1 : Int32)]) (rest := []) C (fun z hz => mX10_told a0 (-1 : Int32) h10 z hz) mwX10_told csX10_told mlX10_107 inX10_told rfl dX10_pass_48 (by decide) rfl (Nat.le_of_ble_eq_true rfl) (by decide) (fun x13 h12 => ?_)
        exact J_iret (pc := 51) C hr dX10_pass_51
      · refine J_iload (pc := 38) C dX10_pass_38 4 rfl ?_
        refine J_callSI (pc := 40) (As := [.int xp3]) (rest := []) C (fun z hz => mX10_isHour xp3 h10 z hz) mwX10_isHour mlX10_243 stX10_isHour rfl dX10_pass_40 (by decide) rfl (Nat.le_of_ble_eq_true rfl) (by decide) (fun x15 h14 => ?_)
        refine J_if_ne (pc := 43) (tgt := 52) C dX10_pass_43 (by decide) ?_ ?_
        · refine J_aload_n (pc := 52) C dX10_pass_52 rfl 0 rfl ?_
          refine J_getI (pc := 53) C flX10_246 dX10_pass_53 (fun x16 => ?_)
          refine J_sipush (pc := 56) (v := 200) C dX10_pass_56 (by decide) ?_
          refine J_icmp_ne (pc := 59) (tgt := 69) C dX10_pass_59 (by decide) ?_ ?_
          · refine J_aload_n (pc := 69) C dX10_pass_69 rfl 0 rfl ?_
            refine J_getR (pc := 70) C flX10_69 dX10_pass_70 (fun a17 => ?_)
            refine J_aload_n (pc := 73) C dX10_pass_73 rfl 0 rfl ?_
            refine J_getI (pc := 74) C flX10_246 dX10_pass_74 (fun x18 => ?_)
            refine J_iload_n (pc := 77) C dX10_pass_77 rfl 1 rfl ?_
            refine J_iast (pc := 78) C dX10_pass_78 (fun h19 => ?_)
            refine J_aload_n (pc := 79) C dX10_pass_79 rfl 0 rfl ?_
            refine J_getR (pc := 80) C flX10_72 dX10_pass_80 (fun a20 => ?_)
            refine J_aload_n (pc := 83) C dX10_pass_83 rfl 0 rfl ?_
            refine J_getI (pc := 84) C flX10_246 dX10_pass_84 (fun x21 => ?_)
            refine J_iload_n (pc := 87) C dX10_pass_87 rfl 2 rfl ?_
            refine J_iast (pc := 88) C dX10_pass_88 (fun h22 => ?_)
            refine J_aload_n (pc := 89) C dX10_pass_89 rfl 0 rfl ?_
            refine J_getR (pc := 90) C flX10_75 dX10_pass_90 (fun a23 => ?_)
            refine J_aload_n (pc := 93) C dX10_pass_93 rfl 0 rfl ?_
            refine J_getI (pc := 94) C flX10_246 dX10_pass_94 (fun x24 => ?_)
            refine J_iload_n (pc := 97) C dX10_pass_97 rfl 3 rfl ?_
            refine J_iast (pc := 98) C dX10_pass_98 (fun h25 => ?_)
            refine J_aload_n (pc := 99) C dX10_pass_99 rfl 0 rfl ?_
            refine J_getR (pc := 100) C flX10_78 dX10_pass_100 (fun a26 => ?_)
            refine J_aload_n (pc := 103) C dX10_pass_103 rfl 0 rfl ?_
            refine J_getI (pc := 104) C flX10_246 dX10_pass_104 (fun x27 => ?_)
            refine J_iload (pc := 107) C dX10_pass_107 4 rfl ?_
            refine J_iast (pc := 109) C dX10_pass_109 (fun h28 => ?_)
            refine J_aload_n (pc := 110) C dX10_pass_110 rfl 0 rfl ?_
            refine J_dup (pc := 111) C dX10_pass_111 rfl ?_
            refine J_getI (pc := 112) C flX10_246 dX10_pass_112 (fun x29 => ?_)
            refine J_iconst (pc := 115) (v := 1) C dX10_pass_115 (by decide) ?_
            refine J_iadd (pc := 116) C dX10_pass_116 ?_
            refine J_put (pc := 117) C flX10_246 cl10 ft10_35 rfl rfl dX10_pass_117 (fun h30 => ?_)
            refine J_aload_n (pc := 120) C dX10_pass_120 rfl 0 rfl ?_
            refine J_aload_n (pc := 121) C dX10_pass_121 rfl 0 rfl ?_
            refine J_getI (pc := 122) C flX10_246 dX10_pass_122 (fun x31 => ?_)
            refine J_callVI (pc := 125) (As := [.int x31]) (rest := []) C (fun z hz => mX10_told a0 x31 h30 z hz) mwX10_told csX10_told mlX10_107 inX10_told rfl dX10_pass_125 (by decide) rfl (Nat.le_of_ble_eq_true rfl) (by decide) (fun x33 h32 => ?_)
            exact J_iret (pc := 128) C hr dX10_pass_128
          · refine J_aload_n (pc := 62) C dX10_pass_62 rfl 0 rfl ?_
            refine J_bipush (pc := 63) (v := -5) C dX10_pass_63 (by decide) ?_
            refine J_callVI (pc := 65) (As := [.int (-5 : Int32)]) (rest := []) C (fun z hz => mX10_told a0 (-5 : Int32) h14 z hz) mwX10_told csX10_told mlX10_107 inX10_told rfl dX10_pass_65 (by decide) rfl (Nat.le_of_ble_eq_true rfl) (by decide) (fun x35 h34 => ?_)
            exact J_iret (pc := 68) C hr dX10_pass_68
        · refine J_aload_n (pc := 46) C dX10_pass_46 rfl 0 rfl ?_
          refine J_iconst (pc := 47) (v := -1) C dX10_pass_47 (by decide) ?_
          refine J_callVI (pc := 48) (As := [.int (-1 : Int32)]) (rest := []) C (fun z hz => mX10_told a0 (-1 : Int32) h14 z hz) mwX10_told csX10_told mlX10_107 inX10_told rfl dX10_pass_48 (by decide) rfl (Nat.le_of_ble_eq_true rfl) (by decide) (fun x37 h36 => ?_)
          exact J_iret (pc := 51) C hr dX10_pass_51
theorem mX10_pass {l : Launch} {G : GX} (a0 : Nat) (xp0 : Int32) (xp1 : Int32) (xp2 : Int32) (xp3 : Int32) (h0 : PH) : ∀ z, fX10_pass a0 xp0 xp1 xp2 xp3 h0 = some z → MC l G yX10_pass cX10_pass 5 (some .int) rmX10_pass [.ref a0, .int xp0, .int xp1, .int xp2, .int xp3] h0 (rvI z.1) z.2 :=
  Met_J (own := RX10) (by decide) rfl (Nat.le_of_ble_eq_true rfl) (fun p e s m args below meth c C hr hn => vfX10_pass C hr a0 xp0 xp1 xp2 xp3 h0)

theorem dX2_through_0 : decode cX2_through 0 = .ok (.iconst 0, 1) := by decide +kernel
theorem dX2_through_1 : decode cX2_through 1 = .ok (.istore 4, 2) := by decide +kernel
theorem dX2_through_3 : decode cX2_through 3 = .ok (.iconst 0, 1) := by decide +kernel
theorem dX2_through_4 : decode cX2_through 4 = .ok (.istore 5, 2) := by decide +kernel
theorem dX2_through_6 : decode cX2_through 6 = .ok (.iload 5, 2) := by decide +kernel
theorem dX2_through_8 : decode cX2_through 8 = .ok (.aload_n 0, 1) := by decide +kernel
theorem dX2_through_9 : decode cX2_through 9 = .ok (.getfield 24, 3) := by decide +kernel
theorem dX2_through_12 : decode cX2_through 12 = .ok (.if_icmp .ge 54, 3) := by decide +kernel
theorem dX2_through_15 : decode cX2_through 15 = .ok (.aload_n 0, 1) := by decide +kernel
theorem dX2_through_16 : decode cX2_through 16 = .ok (.getfield 9, 3) := by decide +kernel
theorem dX2_through_19 : decode cX2_through 19 = .ok (.iload 5, 2) := by decide +kernel
theorem dX2_through_21 : decode cX2_through 21 = .ok (.iaload, 1) := by decide +kernel
theorem dX2_through_22 : decode cX2_through 22 = .ok (.iload_n 1, 1) := by decide +kernel
theorem dX2_through_23 : decode cX2_through 23 = .ok (.if_icmp .ne 37, 3) := by decide +kernel
theorem dX2_through_26 : decode cX2_through 26 = .ok (.aload_n 0, 1) := by decide +kernel
theorem dX2_through_27 : decode cX2_through 27 = .ok (.getfield 18, 3) := by decide +kernel
theorem dX2_through_30 : decode cX2_through 30 = .ok (.iload 5, 2) := by decide +kernel
theorem dX2_through_32 : decode cX2_through 32 = .ok (.iaload, 1) := by decide +kernel
theorem dX2_through_33 : decode cX2_through 33 = .ok (.iload_n 2, 1) := by decide +kernel
theorem dX2_through_34 : decode cX2_through 34 = .ok (.if_icmp .gt 26, 3) := by decide +kernel
theorem dX2_through_37 : decode cX2_through 37 = .ok (.aload_n 0, 1) := by decide +kernel
theorem dX2_through_38 : decode cX2_through 38 = .ok (.getfield 21, 3) := by decide +kernel
theorem dX2_through_41 : decode cX2_through 41 = .ok (.iload 5, 2) := by decide +kernel
theorem dX2_through_43 : decode cX2_through 43 = .ok (.iaload, 1) := by decide +kernel
theorem dX2_through_44 : decode cX2_through 44 = .ok (.iload_n 3, 1) := by decide +kernel
theorem dX2_through_45 : decode cX2_through 45 = .ok (.if_icmp .gt 15, 3) := by decide +kernel
theorem dX2_through_48 : decode cX2_through 48 = .ok (.iload 4, 2) := by decide +kernel
theorem dX2_through_50 : decode cX2_through 50 = .ok (.aload_n 0, 1) := by decide +kernel
theorem dX2_through_51 : decode cX2_through 51 = .ok (.getfield 15, 3) := by decide +kernel
theorem dX2_through_54 : decode cX2_through 54 = .ok (.iload 5, 2) := by decide +kernel
theorem dX2_through_56 : decode cX2_through 56 = .ok (.iaload, 1) := by decide +kernel
theorem dX2_through_57 : decode cX2_through 57 = .ok (.iadd, 1) := by decide +kernel
theorem dX2_through_58 : decode cX2_through 58 = .ok (.istore 4, 2) := by decide +kernel
theorem dX2_through_60 : decode cX2_through 60 = .ok (.iinc 5 1, 3) := by decide +kernel
theorem dX2_through_63 : decode cX2_through 63 = .ok (.goto (-57), 3) := by decide +kernel
theorem dX2_through_66 : decode cX2_through 66 = .ok (.iload 4, 2) := by decide +kernel
theorem dX2_through_68 : decode cX2_through 68 = .ok (.ireturn, 1) := by decide +kernel
def rmX2_through : Room := { frames := 0, cells := 0, slots := 0, locals := 0 }
def fX2_through_60 (r6 : Nat → Int32 → Int32 → Int32 → Int32 → Int32 → PH → Option (Int32 × PH)) (al0 : Nat) (xl1 : Int32) (xl2 : Int32) (xl3 : Int32) (xl4 : Int32) (xl5 : Int32) (h0 : PH) : Option (Int32 × PH) :=
    r6 al0 xl1 xl2 xl3 xl4 (xl5 + 1) h0
set_option maxHeartbeats 4000000 in
set_option maxRecDepth 100000 in
theorem vfX2_through_60 {p : Program} {l : Launch} {e : Env} {s : State} {m : MethodId} {args : Array Value} {below : List Frame} {meth : Method} {c : Code} {G : GX} (C : Cx p s m args meth c G cX2_through 6 RX2) (hr : meth.sig.returnType = (some .int)) {r6 : Nat → Int32 → Int32 → Int32 → Int32 → Int32 → PH → Option (Int32 × PH)} (k6 : ∀ (al0 : Nat) (xl1 : Int32) (xl2 : Int32) (xl3 : Int32) (xl4 : Int32) (xl5 : Int32) (h0 : PH), J p l e rmX2_through s m args below meth c G 6 (qM below args s rvI G 0 0) 0 0 h0 6 [(0, .ref al0), (1, .int xl1), (2, .int xl2), (3, .int xl3), (4, .int xl4), (5, .int xl5)] [] (r6 al0 xl1 xl2 xl3 xl4 xl5 h0)) (al0 : Nat) (xl1 : Int32) (xl2 : Int32) (xl3 : Int32) (xl4 : Int32) (xl5 : Int32) (h0 : PH) : J p l e rmX2_through s m args below meth c G 6 (qM below args s rvI G 0 0) 0 0 h0 60 [(0, .ref al0), (1, .int xl1), (2, .int xl2), (3, .int xl3), (4, .int xl4), (5, .int xl5)] [] (fX2_through_60 r6 al0 xl1 xl2 xl3 xl4 xl5 h0) := by
  unfold fX2_through_60
  refine J_iinc (pc := 60) (v := (xl5 + 1)) (lv1 := [(5, .int (xl5 + 1)), (0, .ref al0), (1, .int xl1), (2, .int xl2), (3, .int xl3), (4, .int xl4)]) C dX2_through_60 5 rfl rfl (by decide) rfl ?_
  refine J_goto (pc := 63) (tgt := 6) C dX2_through_63 (by decide) ?_
  refine J_sub [1, 2, 3, 4, 5, 0] rfl ?_
  exact k6 al0 xl1 xl2 xl3 xl4 (xl5 + 1) h0
def fX2_through_6  : Nat → Nat → Int32 → Int32 → Int32 → Int32 → Int32 → PH → Option (Int32 × PH)
  | 0, _, _, _, _, _, _, _ => none
  | n + 1, al0, xl1, xl2, xl3, xl4, xl5, h0 =>
    bn (rdI 2 4 al0 h0) fun x1 =>
    if x1 ≤ xl5 then (some (xl4, h0)) else
    bn (rdR 2 0 al0 h0) fun a2 =>
    bn (aldI 0 a2 xl5 h0) fun x3 =>
    if x3 = xl1 then (bn (rdR 2 2 al0 h0) fun a4 =>
    bn (aldI 0 a4 xl5 h0) fun x5 =>
    if xl2 < x5 then (fX2_through_60 (fX2_through_6 n) al0 xl1 xl2 xl3 xl4 xl5 h0) else
    bn (rdR 2 3 al0 h0) fun a6 =>
    bn (aldI 0 a6 xl5 h0) fun x7 =>
    if xl3 < x7 then (fX2_through_60 (fX2_through_6 n) al0 xl1 xl2 xl3 xl4 xl5 h0) else
    bn (rdR 2 1 al0 h0) fun a8 =>
    bn (aldI 0 a8 xl5 h0) fun x9 =>
    nm (xl4 + x9) fun x10 =>
    fX2_through_60 (fX2_through_6 n) al0 xl1 xl2 xl3 x10 xl5 h0) else
    fX2_through_60 (fX2_through_6 n) al0 xl1 xl2 xl3 xl4 xl5 h0
set_option maxHeartbeats 4000000 in
set_option maxRecDepth 100000 in
theorem vfX2_through_6 {p : Program} {l : Launch} {e : Env} {s : State} {m : MethodId} {args : Array Value} {below : List Frame} {meth : Method} {c : Code} {G : GX} (C : Cx p s m args meth c G cX2_through 6 RX2) (hr : meth.sig.returnType = (some .int)) : ∀ (n : Nat) (al0 : Nat) (xl1 : Int32) (xl2 : Int32) (xl3 : Int32) (xl4 : Int32) (xl5 : Int32) (h0 : PH), J p l e rmX2_through s m args below meth c G 6 (qM below args s rvI G 0 0) 0 0 h0 6 [(0, .ref al0), (1, .int xl1), (2, .int xl2), (3, .int xl3), (4, .int xl4), (5, .int xl5)] [] (fX2_through_6  n al0 xl1 xl2 xl3 xl4 xl5 h0) := by
  intro n
  induction n with
  | zero => exact fun al0 xl1 xl2 xl3 xl4 xl5 h0 => J_none C
  | succ n ih =>
    intro al0 xl1 xl2 xl3 xl4 xl5 h0
    unfold fX2_through_6
    refine J_iload (pc := 6) C dX2_through_6 5 rfl ?_
    refine J_aload_n (pc := 8) C dX2_through_8 rfl 0 rfl ?_
    refine J_getI (pc := 9) C flX2_24 dX2_through_9 (fun x1 => ?_)
    refine J_icmp_ge (pc := 12) (tgt := 66) C dX2_through_12 (by decide) ?_ ?_
    · refine J_iload (pc := 66) C dX2_through_66 4 rfl ?_
      exact J_iret (pc := 68) C hr dX2_through_68
    · refine J_aload_n (pc := 15) C dX2_through_15 rfl 0 rfl ?_
      refine J_getR (pc := 16) C flX2_9 dX2_through_16 (fun a2 => ?_)
      refine J_iload (pc := 19) C dX2_through_19 5 rfl ?_
      refine J_iald (pc := 21) C dX2_through_21 (fun x3 => ?_)
      refine J_iload_n (pc := 22) C dX2_through_22 rfl 1 rfl ?_
      refine J_icmp_ne (pc := 23) (tgt := 60) C dX2_through_23 (by decide) ?_ ?_
      · exact vfX2_through_60 C hr ih al0 xl1 xl2 xl3 xl4 xl5 h0
      · refine J_aload_n (pc := 26) C dX2_through_26 rfl 0 rfl ?_
        refine J_getR (pc := 27) C flX2_18 dX2_through_27 (fun a4 => ?_)
        refine J_iload (pc := 30) C dX2_through_30 5 rfl ?_
        refine J_iald (pc := 32) C dX2_through_32 (fun x5 => ?_)
        refine J_iload_n (pc := 33) C dX2_through_33 rfl 2 rfl ?_
        refine J_icmp_gt (pc := 34) (tgt := 60) C dX2_through_34 (by decide) ?_ ?_
        · exact vfX2_through_60 C hr ih al0 xl1 xl2 xl3 xl4 xl5 h0
        · refine J_aload_n (pc := 37) C dX2_through_37 rfl 0 rfl ?_
          refine J_getR (pc := 38) C flX2_21 dX2_through_38 (fun a6 => ?_)
          refine J_iload (pc := 41) C dX2_through_41 5 rfl ?_
          refine J_iald (pc := 43) C dX2_through_43 (fun x7 => ?_)
          refine J_iload_n (pc := 44) C dX2_through_44 rfl 3 rfl ?_
          refine J_icmp_gt (pc := 45) (tgt := 60) C dX2_through_45 (by decide) ?_ ?_
          · exact vfX2_through_60 C hr ih al0 xl1 xl2 xl3 xl4 xl5 h0
          · refine J_iload (pc := 48) C dX2_through_48 4 rfl ?_
            refine J_aload_n (pc := 50) C dX2_through_50 rfl 0 rfl ?_
            refine J_getR (pc := 51) C flX2_15 dX2_through_51 (fun a8 => ?_)
            refine J_iload (pc := 54) C dX2_through_54 5 rfl ?_
            refine J_iald (pc := 56) C dX2_through_56 (fun x9 => ?_)
            refine J_iadd (pc := 57) C dX2_through_57 ?_
            refine J_nm (fv := .int) (fun x10 => ?_)
            refine J_istore (pc := 58) (lv1 := [(4, .int x10), (0, .ref al0), (1, .int xl1), (2, .int xl2), (3, .int xl3), (5, .int xl5)]) C dX2_through_58 (by decide) rfl ?_
            refine J_sub [1, 2, 3, 4, 0, 5] rfl ?_
            exact vfX2_through_60 C hr ih al0 xl1 xl2 xl3 x10 xl5 h0
def fX2_through  (a0 : Nat) (xp0 : Int32) (xp1 : Int32) (xp2 : Int32) (h0 : PH) : Option (Int32 × PH) :=
    fX2_through_6  FU a0 xp0 xp1 xp2 (0 : Int32) (0 : Int32) h0
set_option maxHeartbeats 4000000 in
set_option maxRecDepth 100000 in
theorem vfX2_through {p : Program} {l : Launch} {e : Env} {s : State} {m : MethodId} {args : Array Value} {below : List Frame} {meth : Method} {c : Code} {G : GX} (C : Cx p s m args meth c G cX2_through 6 RX2) (hr : meth.sig.returnType = (some .int)) (a0 : Nat) (xp0 : Int32) (xp1 : Int32) (xp2 : Int32) (h0 : PH) : J p l e rmX2_through s m args below meth c G 6 (qM below args s rvI G 0 0) 0 0 h0 0 [(0, .ref a0), (1, .int xp0), (2, .int xp1), (3, .int xp2)] [] (fX2_through  a0 xp0 xp1 xp2 h0) := by
  unfold fX2_through
  refine J_iconst (pc := 0) (v := 0) C dX2_through_0 (by decide) ?_
  refine J_istore (pc := 1) (lv1 := [(4, .int (0 : Int32)), (0, .ref a0), (1, .int xp0), (2, .int xp1), (3, .int xp2)]) C dX2_through_1 (by decide) rfl ?_
  refine J_iconst (pc := 3) (v := 0) C dX2_through_3 (by decide) ?_
  refine J_istore (pc := 4) (lv1 := [(5, .int (0 : Int32)), (4, .int (0 : Int32)), (0, .ref a0), (1, .int xp0), (2, .int xp1), (3, .int xp2)]) C dX2_through_4 (by decide) rfl ?_
  refine J_sub [2, 3, 4, 5, 1, 0] rfl ?_
  exact vfX2_through_6 C hr  FU a0 xp0 xp1 xp2 (0 : Int32) (0 : Int32) h0
theorem mX2_through {l : Launch} {G : GX} (a0 : Nat) (xp0 : Int32) (xp1 : Int32) (xp2 : Int32) (h0 : PH) : ∀ z, fX2_through a0 xp0 xp1 xp2 h0 = some z → MC l G yX2_through cX2_through 6 (some .int) rmX2_through [.ref a0, .int xp0, .int xp1, .int xp2] h0 (rvI z.1) z.2 :=
  Met_J (own := RX2) (by decide) rfl (Nat.le_of_ble_eq_true rfl) (fun p e s m args below meth c C hr hn => vfX2_through C hr a0 xp0 xp1 xp2 h0)

theorem dX2_inRoom_0 : decode cX2_inRoom 0 = .ok (.aload_n 0, 1) := by decide +kernel
theorem dX2_inRoom_1 : decode cX2_inRoom 1 = .ok (.iload_n 1, 1) := by decide +kernel
theorem dX2_inRoom_2 : decode cX2_inRoom 2 = .ok (.iload_n 2, 1) := by decide +kernel
theorem dX2_inRoom_3 : decode cX2_inRoom 3 = .ok (.iload_n 3, 1) := by decide +kernel
theorem dX2_inRoom_4 : decode cX2_inRoom 4 = .ok (.invokevirtual 51, 3) := by decide +kernel
theorem dX2_inRoom_7 : decode cX2_inRoom 7 = .ok (.aload_n 0, 1) := by decide +kernel
theorem dX2_inRoom_8 : decode cX2_inRoom 8 = .ok (.iload_n 1, 1) := by decide +kernel
theorem dX2_inRoom_9 : decode cX2_inRoom 9 = .ok (.iconst 1, 1) := by decide +kernel
theorem dX2_inRoom_10 : decode cX2_inRoom 10 = .ok (.iadd, 1) := by decide +kernel
theorem dX2_inRoom_11 : decode cX2_inRoom 11 = .ok (.iload_n 2, 1) := by decide +kernel
theorem dX2_inRoom_12 : decode cX2_inRoom 12 = .ok (.iload_n 3, 1) := by decide +kernel
theorem dX2_inRoom_13 : decode cX2_inRoom 13 = .ok (.invokevirtual 51, 3) := by decide +kernel
theorem dX2_inRoom_16 : decode cX2_inRoom 16 = .ok (.isub, 1) := by decide +kernel
theorem dX2_inRoom_17 : decode cX2_inRoom 17 = .ok (.ireturn, 1) := by decide +kernel
def rmX2_inRoom : Room := { frames := 1, cells := 0, slots := 0, locals := 25 }
def fX2_inRoom  (a0 : Nat) (xp0 : Int32) (xp1 : Int32) (xp2 : Int32) (h0 : PH) : Option (Int32 × PH) :=
    bn (chk 2 a0 h0) fun _ => bn2 (fX2_through a0 xp0 xp1 xp2 h0) fun x2 h1 =>
    bn (chk 2 a0 h1) fun _ => bn2 (fX2_through a0 (xp0 + (1 : Int32)) xp1 xp2 h1) fun x4 h3 =>
    some ((x2 - x4), h3)
set_option maxHeartbeats 4000000 in
set_option maxRecDepth 100000 in
theorem vfX2_inRoom {p : Program} {l : Launch} {e : Env} {s : State} {m : MethodId} {args : Array Value} {below : List Frame} {meth : Method} {c : Code} {G : GX} (C : Cx p s m args meth c G cX2_inRoom 4 RX2) (hr : meth.sig.returnType = (some .int)) (a0 : Nat) (xp0 : Int32) (xp1 : Int32) (xp2 : Int32) (h0 : PH) : J p l e rmX2_inRoom s m args below meth c G 4 (qM below args s rvI G 0 0) 0 0 h0 0 [(0, .ref a0), (1, .int xp0), (2, .int xp1), (3, .int xp2)] [] (fX2_inRoom  a0 xp0 xp1 xp2 h0) := by
  unfold fX2_inRoom
  refine J_aload_n (pc := 0) C dX2_inRoom_0 rfl 0 rfl ?_
  refine J_iload_n (pc := 1) C dX2_inRoom_1 rfl 1 rfl ?_
  refine J_iload_n (pc := 2) C dX2_inRoom_2 rfl 2 rfl ?_
  refine J_iload_n (pc := 3) C dX2_inRoom_3 rfl 3 rfl ?_
  refine J_callVI (pc := 4) (As := [.int xp0, .int xp1, .int xp2]) (rest := []) C (fun z hz => mX2_through a0 xp0 xp1 xp2 h0 z hz) mwX2_through csX2_through mlX2_51 inX2_through rfl dX2_inRoom_4 (by decide) rfl (Nat.le_of_ble_eq_true rfl) (by decide) (fun x2 h1 => ?_)
  refine J_aload_n (pc := 7) C dX2_inRoom_7 rfl 0 rfl ?_
  refine J_iload_n (pc := 8) C dX2_inRoom_8 rfl 1 rfl ?_
  refine J_iconst (pc := 9) (v := 1) C dX2_inRoom_9 (by decide) ?_
  refine J_iadd (pc := 10) C dX2_inRoom_10 ?_
  refine J_iload_n (pc := 11) C dX2_inRoom_11 rfl 2 rfl ?_
  refine J_iload_n (pc := 12) C dX2_inRoom_12 rfl 3 rfl ?_
  refine J_callVI (pc := 13) (As := [.int (xp0 + (1 : Int32)), .int xp1, .int xp2]) (rest := [.int x2]) C (fun z hz => mX2_through a0 (xp0 + (1 : Int32)) xp1 xp2 h1 z hz) mwX2_through csX2_through mlX2_51 inX2_through rfl dX2_inRoom_13 (by decide) rfl (Nat.le_of_ble_eq_true rfl) (by decide) (fun x4 h3 => ?_)
  refine J_isub (pc := 16) C dX2_inRoom_16 ?_
  exact J_iret (pc := 17) C hr dX2_inRoom_17
theorem mX2_inRoom {l : Launch} {G : GX} (a0 : Nat) (xp0 : Int32) (xp1 : Int32) (xp2 : Int32) (h0 : PH) : ∀ z, fX2_inRoom a0 xp0 xp1 xp2 h0 = some z → MC l G yX2_inRoom cX2_inRoom 4 (some .int) rmX2_inRoom [.ref a0, .int xp0, .int xp1, .int xp2] h0 (rvI z.1) z.2 :=
  Met_J (own := RX2) (by decide) rfl (Nat.le_of_ble_eq_true rfl) (fun p e s m args below meth c C hr hn => vfX2_inRoom C hr a0 xp0 xp1 xp2 h0)

theorem dX9_held_0 : decode cX9_held 0 = .ok (.iload_n 1, 1) := by decide +kernel
theorem dX9_held_1 : decode cX9_held 1 = .ok (.iconst 0, 1) := by decide +kernel
theorem dX9_held_2 : decode cX9_held 2 = .ok (.iconst 3, 1) := by decide +kernel
theorem dX9_held_3 : decode cX9_held 3 = .ok (.invokestatic 97, 3) := by decide +kernel
theorem dX9_held_6 : decode cX9_held 6 = .ok (.ifCond .eq 17, 3) := by decide +kernel
theorem dX9_held_9 : decode cX9_held 9 = .ok (.iload_n 2, 1) := by decide +kernel
theorem dX9_held_10 : decode cX9_held 10 = .ok (.invokestatic 202, 3) := by decide +kernel
theorem dX9_held_13 : decode cX9_held 13 = .ok (.ifCond .eq 10, 3) := by decide +kernel
theorem dX9_held_16 : decode cX9_held 16 = .ok (.iload_n 3, 1) := by decide +kernel
theorem dX9_held_17 : decode cX9_held 17 = .ok (.invokestatic 202, 3) := by decide +kernel
theorem dX9_held_20 : decode cX9_held 20 = .ok (.ifCond .ne 6, 3) := by decide +kernel
theorem dX9_held_23 : decode cX9_held 23 = .ok (.ldc 205, 2) := by decide +kernel
theorem dX9_held_25 : decode cX9_held 25 = .ok (.ireturn, 1) := by decide +kernel
theorem dX9_held_26 : decode cX9_held 26 = .ok (.aload_n 0, 1) := by decide +kernel
theorem dX9_held_27 : decode cX9_held 27 = .ok (.getfield 45, 3) := by decide +kernel
theorem dX9_held_30 : decode cX9_held 30 = .ok (.iload_n 1, 1) := by decide +kernel
theorem dX9_held_31 : decode cX9_held 31 = .ok (.iload_n 2, 1) := by decide +kernel
theorem dX9_held_32 : decode cX9_held 32 = .ok (.iload_n 3, 1) := by decide +kernel
theorem dX9_held_33 : decode cX9_held 33 = .ok (.invokevirtual 206, 3) := by decide +kernel
theorem dX9_held_36 : decode cX9_held 36 = .ok (.ireturn, 1) := by decide +kernel
def rmX9_held : Room := { frames := 2, cells := 0, slots := 0, locals := 48 }
def fX9_held  (a0 : Nat) (xp0 : Int32) (xp1 : Int32) (xp2 : Int32) (h0 : PH) : Option (Int32 × PH) :=
    bn2 (fX9_within xp0 (0 : Int32) (3 : Int32) h0) fun x2 h1 =>
    if x2 = 0 then (some ((-1000000000 : Int32), h1)) else
    bn2 (fX9_isHour xp1 h1) fun x4 h3 =>
    if x4 = 0 then (some ((-1000000000 : Int32), h3)) else
    bn2 (fX9_isHour xp2 h3) fun x6 h5 =>
    if x6 = 0 then (some ((-1000000000 : Int32), h5)) else
    bn (rdR 9 5 a0 h5) fun a7 =>
    bn (chk 2 a7 h5) fun _ => bn2 (fX2_inRoom a7 xp0 xp1 xp2 h5) fun x9 h8 =>
    some (x9, h8)
set_option maxHeartbeats 4000000 in
set_option maxRecDepth 100000 in
theorem vfX9_held {p : Program} {l : Launch} {e : Env} {s : State} {m : MethodId} {args : Array Value} {below : List Frame} {meth : Method} {c : Code} {G : GX} (C : Cx p s m args meth c G cX9_held 4 RX9) (hr : meth.sig.returnType = (some .int)) (a0 : Nat) (xp0 : Int32) (xp1 : Int32) (xp2 : Int32) (h0 : PH) : J p l e rmX9_held s m args below meth c G 4 (qM below args s rvI G 0 0) 0 0 h0 0 [(0, .ref a0), (1, .int xp0), (2, .int xp1), (3, .int xp2)] [] (fX9_held  a0 xp0 xp1 xp2 h0) := by
  unfold fX9_held
  refine J_iload_n (pc := 0) C dX9_held_0 rfl 1 rfl ?_
  refine J_iconst (pc := 1) (v := 0) C dX9_held_1 (by decide) ?_
  refine J_iconst (pc := 2) (v := 3) C dX9_held_2 (by decide) ?_
  refine J_callSI (pc := 3) (As := [.int xp0, .int (0 : Int32), .int (3 : Int32)]) (rest := []) C (fun z hz => mX9_within xp0 (0 : Int32) (3 : Int32) h0 z hz) mwX9_within mlX9_97 stX9_within rfl dX9_held_3 (by decide) rfl (Nat.le_of_ble_eq_true rfl) (by decide) (fun x2 h1 => ?_)
  refine J_if_eq (pc := 6) (tgt := 23) C dX9_held_6 (by decide) ?_ ?_
  · refine J_ldc (pc := 23) C kkX9_205 dX9_held_23 ?_
    exact J_iret (pc := 25) C hr dX9_held_25
  · refine J_iload_n (pc := 9) C dX9_held_9 rfl 2 rfl ?_
    refine J_callSI (pc := 10) (As := [.int xp1]) (rest := []) C (fun z hz => mX9_isHour xp1 h1 z hz) mwX9_isHour mlX9_202 stX9_isHour rfl dX9_held_10 (by decide) rfl (Nat.le_of_ble_eq_true rfl) (by decide) (fun x4 h3 => ?_)
    refine J_if_eq (pc := 13) (tgt := 23) C dX9_held_13 (by decide) ?_ ?_
    · refine J_ldc (pc := 23) C kkX9_205 dX9_held_23 ?_
      exact J_iret (pc := 25) C hr dX9_held_25
    · refine J_iload_n (pc := 16) C dX9_held_16 rfl 3 rfl ?_
      refine J_callSI (pc := 17) (As := [.int xp2]) (rest := []) C (fun z hz => mX9_isHour xp2 h3 z hz) mwX9_isHour mlX9_202 stX9_isHour rfl dX9_held_17 (by decide) rfl (Nat.le_of_ble_eq_true rfl) (by decide) (fun x6 h5 => ?_)
      refine J_if_ne (pc := 20) (tgt := 26) C dX9_held_20 (by decide) ?_ ?_
      · refine J_aload_n (pc := 26) C dX9_held_26 rfl 0 rfl ?_
        refine J_getR (pc := 27) C flX9_45 dX9_held_27 (fun a7 => ?_)
        refine J_iload_n (pc := 30) C dX9_held_30 rfl 1 rfl ?_
        refine J_iload_n (pc := 31) C dX9_held_31 rfl 2 rfl ?_
        refine J_iload_n (pc := 32) C dX9_held_32 rfl 3 rfl ?_
        refine J_callVI (pc := 33) (As := [.int xp0, .int xp1, .int xp2]) (rest := []) C (fun z hz => mX2_inRoom a7 xp0 xp1 xp2 h5 z hz) mwX2_inRoom csX2_inRoom mlX9_206 inX2_inRoom rfl dX9_held_33 (by decide) rfl (Nat.le_of_ble_eq_true rfl) (by decide) (fun x9 h8 => ?_)
        exact J_iret (pc := 36) C hr dX9_held_36
      · refine J_ldc (pc := 23) C kkX9_205 dX9_held_23 ?_
        exact J_iret (pc := 25) C hr dX9_held_25
theorem mX9_held {l : Launch} {G : GX} (a0 : Nat) (xp0 : Int32) (xp1 : Int32) (xp2 : Int32) (h0 : PH) : ∀ z, fX9_held a0 xp0 xp1 xp2 h0 = some z → MC l G yX9_held cX9_held 4 (some .int) rmX9_held [.ref a0, .int xp0, .int xp1, .int xp2] h0 (rvI z.1) z.2 :=
  Met_J (own := RX9) (by decide) rfl (Nat.le_of_ble_eq_true rfl) (fun p e s m args below meth c C hr hn => vfX9_held C hr a0 xp0 xp1 xp2 h0)

