theorem dX8_toNextToken_0 : decode cX8_toNextToken 0 = .ok (.aload_n 0, 1) := by decide +kernel
theorem dX8_toNextToken_1 : decode cX8_toNextToken 1 = .ok (.aload_n 0, 1) := by decide +kernel
theorem dX8_toNextToken_2 : decode cX8_toNextToken 2 = .ok (.getfield 25, 3) := by decide +kernel
theorem dX8_toNextToken_5 : decode cX8_toNextToken 5 = .ok (.putfield 22, 3) := by decide +kernel
theorem dX8_toNextToken_8 : decode cX8_toNextToken 8 = .ok (.aload_n 0, 1) := by decide +kernel
theorem dX8_toNextToken_9 : decode cX8_toNextToken 9 = .ok (.getfield 22, 3) := by decide +kernel
theorem dX8_toNextToken_12 : decode cX8_toNextToken 12 = .ok (.aload_n 0, 1) := by decide +kernel
theorem dX8_toNextToken_13 : decode cX8_toNextToken 13 = .ok (.getfield 15, 3) := by decide +kernel
theorem dX8_toNextToken_16 : decode cX8_toNextToken 16 = .ok (.if_icmp .ge 30, 3) := by decide +kernel
theorem dX8_toNextToken_19 : decode cX8_toNextToken 19 = .ok (.aload_n 0, 1) := by decide +kernel
theorem dX8_toNextToken_20 : decode cX8_toNextToken 20 = .ok (.getfield 9, 3) := by decide +kernel
theorem dX8_toNextToken_23 : decode cX8_toNextToken 23 = .ok (.aload_n 0, 1) := by decide +kernel
theorem dX8_toNextToken_24 : decode cX8_toNextToken 24 = .ok (.getfield 22, 3) := by decide +kernel
theorem dX8_toNextToken_27 : decode cX8_toNextToken 27 = .ok (.iaload, 1) := by decide +kernel
theorem dX8_toNextToken_28 : decode cX8_toNextToken 28 = .ok (.bipush 32, 2) := by decide +kernel
theorem dX8_toNextToken_30 : decode cX8_toNextToken 30 = .ok (.if_icmp .ne 16, 3) := by decide +kernel
theorem dX8_toNextToken_33 : decode cX8_toNextToken 33 = .ok (.aload_n 0, 1) := by decide +kernel
theorem dX8_toNextToken_34 : decode cX8_toNextToken 34 = .ok (.dup, 1) := by decide +kernel
theorem dX8_toNextToken_35 : decode cX8_toNextToken 35 = .ok (.getfield 22, 3) := by decide +kernel
theorem dX8_toNextToken_38 : decode cX8_toNextToken 38 = .ok (.iconst 1, 1) := by decide +kernel
theorem dX8_toNextToken_39 : decode cX8_toNextToken 39 = .ok (.iadd, 1) := by decide +kernel
theorem dX8_toNextToken_40 : decode cX8_toNextToken 40 = .ok (.putfield 22, 3) := by decide +kernel
theorem dX8_toNextToken_43 : decode cX8_toNextToken 43 = .ok (.goto (-35), 3) := by decide +kernel
theorem dX8_toNextToken_46 : decode cX8_toNextToken 46 = .ok (.aload_n 0, 1) := by decide +kernel
theorem dX8_toNextToken_47 : decode cX8_toNextToken 47 = .ok (.getfield 22, 3) := by decide +kernel
theorem dX8_toNextToken_50 : decode cX8_toNextToken 50 = .ok (.aload_n 0, 1) := by decide +kernel
theorem dX8_toNextToken_51 : decode cX8_toNextToken 51 = .ok (.getfield 15, 3) := by decide +kernel
theorem dX8_toNextToken_54 : decode cX8_toNextToken 54 = .ok (.if_icmp .lt 17, 3) := by decide +kernel
theorem dX8_toNextToken_57 : decode cX8_toNextToken 57 = .ok (.aload_n 0, 1) := by decide +kernel
theorem dX8_toNextToken_58 : decode cX8_toNextToken 58 = .ok (.iconst 0, 1) := by decide +kernel
theorem dX8_toNextToken_59 : decode cX8_toNextToken 59 = .ok (.putfield 19, 3) := by decide +kernel
theorem dX8_toNextToken_62 : decode cX8_toNextToken 62 = .ok (.aload_n 0, 1) := by decide +kernel
theorem dX8_toNextToken_63 : decode cX8_toNextToken 63 = .ok (.aload_n 0, 1) := by decide +kernel
theorem dX8_toNextToken_64 : decode cX8_toNextToken 64 = .ok (.getfield 22, 3) := by decide +kernel
theorem dX8_toNextToken_67 : decode cX8_toNextToken 67 = .ok (.putfield 25, 3) := by decide +kernel
theorem dX8_toNextToken_70 : decode cX8_toNextToken 70 = .ok (.return_, 1) := by decide +kernel
theorem dX8_toNextToken_71 : decode cX8_toNextToken 71 = .ok (.aload_n 0, 1) := by decide +kernel
theorem dX8_toNextToken_72 : decode cX8_toNextToken 72 = .ok (.aload_n 0, 1) := by decide +kernel
theorem dX8_toNextToken_73 : decode cX8_toNextToken 73 = .ok (.getfield 9, 3) := by decide +kernel
theorem dX8_toNextToken_76 : decode cX8_toNextToken 76 = .ok (.aload_n 0, 1) := by decide +kernel
theorem dX8_toNextToken_77 : decode cX8_toNextToken 77 = .ok (.getfield 22, 3) := by decide +kernel
theorem dX8_toNextToken_80 : decode cX8_toNextToken 80 = .ok (.iaload, 1) := by decide +kernel
theorem dX8_toNextToken_81 : decode cX8_toNextToken 81 = .ok (.invokestatic 31, 3) := by decide +kernel
theorem dX8_toNextToken_84 : decode cX8_toNextToken 84 = .ok (.putfield 19, 3) := by decide +kernel
theorem dX8_toNextToken_87 : decode cX8_toNextToken 87 = .ok (.aload_n 0, 1) := by decide +kernel
theorem dX8_toNextToken_88 : decode cX8_toNextToken 88 = .ok (.aload_n 0, 1) := by decide +kernel
theorem dX8_toNextToken_89 : decode cX8_toNextToken 89 = .ok (.getfield 22, 3) := by decide +kernel
theorem dX8_toNextToken_92 : decode cX8_toNextToken 92 = .ok (.iconst 1, 1) := by decide +kernel
theorem dX8_toNextToken_93 : decode cX8_toNextToken 93 = .ok (.iadd, 1) := by decide +kernel
theorem dX8_toNextToken_94 : decode cX8_toNextToken 94 = .ok (.putfield 25, 3) := by decide +kernel
theorem dX8_toNextToken_97 : decode cX8_toNextToken 97 = .ok (.aload_n 0, 1) := by decide +kernel
theorem dX8_toNextToken_98 : decode cX8_toNextToken 98 = .ok (.getfield 19, 3) := by decide +kernel
theorem dX8_toNextToken_101 : decode cX8_toNextToken 101 = .ok (.iconst 3, 1) := by decide +kernel
theorem dX8_toNextToken_102 : decode cX8_toNextToken 102 = .ok (.if_icmp .eq 46, 3) := by decide +kernel
theorem dX8_toNextToken_105 : decode cX8_toNextToken 105 = .ok (.aload_n 0, 1) := by decide +kernel
theorem dX8_toNextToken_106 : decode cX8_toNextToken 106 = .ok (.getfield 25, 3) := by decide +kernel
theorem dX8_toNextToken_109 : decode cX8_toNextToken 109 = .ok (.aload_n 0, 1) := by decide +kernel
theorem dX8_toNextToken_110 : decode cX8_toNextToken 110 = .ok (.getfield 15, 3) := by decide +kernel
theorem dX8_toNextToken_113 : decode cX8_toNextToken 113 = .ok (.if_icmp .ge 35, 3) := by decide +kernel
theorem dX8_toNextToken_116 : decode cX8_toNextToken 116 = .ok (.aload_n 0, 1) := by decide +kernel
theorem dX8_toNextToken_117 : decode cX8_toNextToken 117 = .ok (.getfield 9, 3) := by decide +kernel
theorem dX8_toNextToken_120 : decode cX8_toNextToken 120 = .ok (.aload_n 0, 1) := by decide +kernel
theorem dX8_toNextToken_121 : decode cX8_toNextToken 121 = .ok (.getfield 25, 3) := by decide +kernel
theorem dX8_toNextToken_124 : decode cX8_toNextToken 124 = .ok (.iaload, 1) := by decide +kernel
theorem dX8_toNextToken_125 : decode cX8_toNextToken 125 = .ok (.invokestatic 31, 3) := by decide +kernel
theorem dX8_toNextToken_128 : decode cX8_toNextToken 128 = .ok (.aload_n 0, 1) := by decide +kernel
theorem dX8_toNextToken_129 : decode cX8_toNextToken 129 = .ok (.getfield 19, 3) := by decide +kernel
theorem dX8_toNextToken_132 : decode cX8_toNextToken 132 = .ok (.if_icmp .ne 16, 3) := by decide +kernel
theorem dX8_toNextToken_135 : decode cX8_toNextToken 135 = .ok (.aload_n 0, 1) := by decide +kernel
theorem dX8_toNextToken_136 : decode cX8_toNextToken 136 = .ok (.dup, 1) := by decide +kernel
theorem dX8_toNextToken_137 : decode cX8_toNextToken 137 = .ok (.getfield 25, 3) := by decide +kernel
theorem dX8_toNextToken_140 : decode cX8_toNextToken 140 = .ok (.iconst 1, 1) := by decide +kernel
theorem dX8_toNextToken_141 : decode cX8_toNextToken 141 = .ok (.iadd, 1) := by decide +kernel
theorem dX8_toNextToken_142 : decode cX8_toNextToken 142 = .ok (.putfield 25, 3) := by decide +kernel
theorem dX8_toNextToken_145 : decode cX8_toNextToken 145 = .ok (.goto (-48), 3) := by decide +kernel
theorem dX8_toNextToken_148 : decode cX8_toNextToken 148 = .ok (.return_, 1) := by decide +kernel
def rmX8_toNextToken : Room := { frames := 2, cells := 0, slots := 0, locals := 42 }
def fX8_toNextToken_97  : Nat → Nat → PH → Option (Unit × PH)
  | 0, _, _ => none
  | n + 1, al0, h0 =>
    bn (rdI 8 2 al0 h0) fun x15 =>
    if x15 = (3 : Int32) then (some ((), h0)) else
    bn (rdI 8 4 al0 h0) fun x16 =>
    bn (rdI 8 1 al0 h0) fun x17 =>
    if x17 ≤ x16 then (some ((), h0)) else
    bn (rdR 8 0 al0 h0) fun a18 =>
    bn (rdI 8 4 al0 h0) fun x19 =>
    bn (aldI 0 a18 x19 h0) fun x20 =>
    bn2 (fX8_kindOf x20 h0) fun x22 h21 =>
    bn (rdI 8 2 al0 h21) fun x23 =>
    if x22 = x23 then (bn (rdI 8 4 al0 h21) fun x24 =>
    bn (wr 8 4 (.int (x24 + (1 : Int32))) al0 h21) fun h25 =>
    (fX8_toNextToken_97 n) al0 h25) else
    some ((), h21)
set_option maxHeartbeats 4000000 in
set_option maxRecDepth 100000 in
theorem vfX8_toNextToken_97 {p : Program} {l : Launch} {e : Env} {s : State} {m : MethodId} {args : Array Value} {below : List Frame} {meth : Method} {c : Code} {G : GX} (C : Cx p s m args meth c G cX8_toNextToken 1 RX8) (hr : meth.sig.returnType = none) : ∀ (n : Nat) (al0 : Nat) (h0 : PH), J p l e rmX8_toNextToken s m args below meth c G 1 (qM below args s rvU G 0 0) 0 0 h0 97 [(0, .ref al0)] [] (fX8_toNextToken_97  n al0 h0) := by
  intro n
  induction n with
  | zero => exact fun al0 h0 => J_none C
  | succ n ih =>
    intro al0 h0
    unfold fX8_toNextToken_97
    refine J_aload_n (pc := 97) C dX8_toNextToken_97 rfl 0 rfl ?_
    refine J_getI (pc := 98) C flX8_19 dX8_toNextToken_98 (fun x15 => ?_)
    refine J_iconst (pc := 101) (v := 3) C dX8_toNextToken_101 (by decide) ?_
    refine J_icmp_eq (pc := 102) (tgt := 148) C dX8_toNextToken_102 (by decide) ?_ ?_
    · exact J_vret (pc := 148) C hr dX8_toNextToken_148
    · refine J_aload_n (pc := 105) C dX8_toNextToken_105 rfl 0 rfl ?_
      refine J_getI (pc := 106) C flX8_25 dX8_toNextToken_106 (fun x16 => ?_)
      refine J_aload_n (pc := 109) C dX8_toNextToken_109 rfl 0 rfl ?_
      refine J_getI (pc := 110) C flX8_15 dX8_toNextToken_110 (fun x17 => ?_)
      refine J_icmp_ge (pc := 113) (tgt := 148) C dX8_toNextToken_113 (by decide) ?_ ?_
      · exact J_vret (pc := 148) C hr dX8_toNextToken_148
      · refine J_aload_n (pc := 116) C dX8_toNextToken_116 rfl 0 rfl ?_
        refine J_getR (pc := 117) C flX8_9 dX8_toNextToken_117 (fun a18 => ?_)
        refine J_aload_n (pc := 120) C dX8_toNextToken_120 rfl 0 rfl ?_
        refine J_getI (pc := 121) C flX8_25 dX8_toNextToken_121 (fun x19 => ?_)
        refine J_iald (pc := 124) C dX8_toNextToken_124 (fun x20 => ?_)
        refine J_callSI (pc := 125) (As := [.int x20]) (rest := []) C (fun z hz => mX8_kindOf x20 h0 z hz) mwX8_kindOf mlX8_31 stX8_kindOf rfl dX8_toNextToken_125 (by decide) rfl (Nat.le_of_ble_eq_true rfl) (by decide) (fun x22 h21 => ?_)
        refine J_aload_n (pc := 128) C dX8_toNextToken_128 rfl 0 rfl ?_
        refine J_getI (pc := 129) C flX8_19 dX8_toNextToken_129 (fun x23 => ?_)
        refine J_icmp_ne (pc := 132) (tgt := 148) C dX8_toNextToken_132 (by decide) ?_ ?_
        · exact J_vret (pc := 148) C hr dX8_toNextToken_148
        · refine J_aload_n (pc := 135) C dX8_toNextToken_135 rfl 0 rfl ?_
          refine J_dup (pc := 136) C dX8_toNextToken_136 rfl ?_
          refine J_getI (pc := 137) C flX8_25 dX8_toNextToken_137 (fun x24 => ?_)
          refine J_iconst (pc := 140) (v := 1) C dX8_toNextToken_140 (by decide) ?_
          refine J_iadd (pc := 141) C dX8_toNextToken_141 ?_
          refine J_put (pc := 142) C flX8_25 cl8 ft8_4 rfl rfl dX8_toNextToken_142 (fun h25 => ?_)
          refine J_goto (pc := 145) (tgt := 97) C dX8_toNextToken_145 (by decide) ?_
          exact ih al0 h25
def fX8_toNextToken_46  (al0 : Nat) (h0 : PH) : Option (Unit × PH) :=
    bn (rdI 8 3 al0 h0) fun x5 =>
    bn (rdI 8 1 al0 h0) fun x6 =>
    if x5 < x6 then (bn (rdR 8 0 al0 h0) fun a7 =>
    bn (rdI 8 3 al0 h0) fun x8 =>
    bn (aldI 0 a7 x8 h0) fun x9 =>
    bn2 (fX8_kindOf x9 h0) fun x11 h10 =>
    bn (wr 8 2 (.int x11) al0 h10) fun h12 =>
    bn (rdI 8 3 al0 h12) fun x13 =>
    bn (wr 8 4 (.int (x13 + (1 : Int32))) al0 h12) fun h14 =>
    fX8_toNextToken_97  FU al0 h14) else
    bn (wr 8 2 (.int (0 : Int32)) al0 h0) fun h26 =>
    bn (rdI 8 3 al0 h26) fun x27 =>
    bn (wr 8 4 (.int x27) al0 h26) fun h28 =>
    some ((), h28)
set_option maxHeartbeats 4000000 in
set_option maxRecDepth 100000 in
theorem vfX8_toNextToken_46 {p : Program} {l : Launch} {e : Env} {s : State} {m : MethodId} {args : Array Value} {below : List Frame} {meth : Method} {c : Code} {G : GX} (C : Cx p s m args meth c G cX8_toNextToken 1 RX8) (hr : meth.sig.returnType = none) (al0 : Nat) (h0 : PH) : J p l e rmX8_toNextToken s m args below meth c G 1 (qM below args s rvU G 0 0) 0 0 h0 46 [(0, .ref al0)] [] (fX8_toNextToken_46  al0 h0) := by
  unfold fX8_toNextToken_46
  refine J_aload_n (pc := 46) C dX8_toNextToken_46 rfl 0 rfl ?_
  refine J_getI (pc := 47) C flX8_22 dX8_toNextToken_47 (fun x5 => ?_)
  refine J_aload_n (pc := 50) C dX8_toNextToken_50 rfl 0 rfl ?_
  refine J_getI (pc := 51) C flX8_15 dX8_toNextToken_51 (fun x6 => ?_)
  refine J_icmp_lt (pc := 54) (tgt := 71) C dX8_toNextToken_54 (by decide) ?_ ?_
  · refine J_aload_n (pc := 71) C dX8_toNextToken_71 rfl 0 rfl ?_
    refine J_aload_n (pc := 72) C dX8_toNextToken_72 rfl 0 rfl ?_
    refine J_getR (pc := 73) C flX8_9 dX8_toNextToken_73 (fun a7 => ?_)
    refine J_aload_n (pc := 76) C dX8_toNextToken_76 rfl 0 rfl ?_
    refine J_getI (pc := 77) C flX8_22 dX8_toNextToken_77 (fun x8 => ?_)
    refine J_iald (pc := 80) C dX8_toNextToken_80 (fun x9 => ?_)
    refine J_callSI (pc := 81) (As := [.int x9]) (rest := [.ref al0]) C (fun z hz => mX8_kindOf x9 h0 z hz) mwX8_kindOf mlX8_31 stX8_kindOf rfl dX8_toNextToken_81 (by decide) rfl (Nat.le_of_ble_eq_true rfl) (by decide) (fun x11 h10 => ?_)
    refine J_put (pc := 84) C flX8_19 cl8 ft8_2 rfl rfl dX8_toNextToken_84 (fun h12 => ?_)
    refine J_aload_n (pc := 87) C dX8_toNextToken_87 rfl 0 rfl ?_
    refine J_aload_n (pc := 88) C dX8_toNextToken_88 rfl 0 rfl ?_
    refine J_getI (pc := 89) C flX8_22 dX8_toNextToken_89 (fun x13 => ?_)
    refine J_iconst (pc := 92) (v := 1) C dX8_toNextToken_92 (by decide) ?_
    refine J_iadd (pc := 93) C dX8_toNextToken_93 ?_
    refine J_put (pc := 94) C flX8_25 cl8 ft8_4 rfl rfl dX8_toNextToken_94 (fun h14 => ?_)
    exact vfX8_toNextToken_97 C hr  FU al0 h14
  · refine J_aload_n (pc := 57) C dX8_toNextToken_57 rfl 0 rfl ?_
    refine J_iconst (pc := 58) (v := 0) C dX8_toNextToken_58 (by decide) ?_
    refine J_put (pc := 59) C flX8_19 cl8 ft8_2 rfl rfl dX8_toNextToken_59 (fun h26 => ?_)
    refine J_aload_n (pc := 62) C dX8_toNextToken_62 rfl 0 rfl ?_
    refine J_aload_n (pc := 63) C dX8_toNextToken_63 rfl 0 rfl ?_
    refine J_getI (pc := 64) C flX8_22 dX8_toNextToken_64 (fun x27 => ?_)
    refine J_put (pc := 67) C flX8_25 cl8 ft8_4 rfl rfl dX8_toNextToken_67 (fun h28 => ?_)
    exact J_vret (pc := 70) C hr dX8_toNextToken_70
def fX8_toNextToken_8  : Nat → Nat → PH → Option (Unit × PH)
  | 0, _, _ => none
  | n + 1, al0, h0 =>
    bn (rdI 8 3 al0 h0) fun x3 =>
    bn (rdI 8 1 al0 h0) fun x4 =>
    if x4 ≤ x3 then (fX8_toNextToken_46  al0 h0) else
    bn (rdR 8 0 al0 h0) fun a29 =>
    bn (rdI 8 3 al0 h0) fun x30 =>
    bn (aldI 0 a29 x30 h0) fun x31 =>
    if x31 = (32 : Int32) then (bn (rdI 8 3 al0 h0) fun x32 =>
    bn (wr 8 3 (.int (x32 + (1 : Int32))) al0 h0) fun h33 =>
    (fX8_toNextToken_8 n) al0 h33) else
    fX8_toNextToken_46  al0 h0
set_option maxHeartbeats 4000000 in
set_option maxRecDepth 100000 in
theorem vfX8_toNextToken_8 {p : Program} {l : Launch} {e : Env} {s : State} {m : MethodId} {args : Array Value} {below : List Frame} {meth : Method} {c : Code} {G : GX} (C : Cx p s m args meth c G cX8_toNextToken 1 RX8) (hr : meth.sig.returnType = none) : ∀ (n : Nat) (al0 : Nat) (h0 : PH), J p l e rmX8_toNextToken s m args below meth c G 1 (qM below args s rvU G 0 0) 0 0 h0 8 [(0, .ref al0)] [] (fX8_toNextToken_8  n al0 h0) := by
  intro n
  induction n with
  | zero => exact fun al0 h0 => J_none C
  | succ n ih =>
    intro al0 h0
    unfold fX8_toNextToken_8
    refine J_aload_n (pc := 8) C dX8_toNextToken_8 rfl 0 rfl ?_
    refine J_getI (pc := 9) C flX8_22 dX8_toNextToken_9 (fun x3 => ?_)
    refine J_aload_n (pc := 12) C dX8_toNextToken_12 rfl 0 rfl ?_
    refine J_getI (pc := 13) C flX8_15 dX8_toNextToken_13 (fun x4 => ?_)
    refine J_icmp_ge (pc := 16) (tgt := 46) C dX8_toNextToken_16 (by decide) ?_ ?_
    · exact vfX8_toNextToken_46 C hr  al0 h0
    · refine J_aload_n (pc := 19) C dX8_toNextToken_19 rfl 0 rfl ?_
      refine J_getR (pc := 20) C flX8_9 dX8_toNextToken_20 (fun a29 => ?_)
      refine J_aload_n (pc := 23) C dX8_toNextToken_23 rfl 0 rfl ?_
      refine J_getI (pc := 24) C flX8_22 dX8_toNextToken_24 (fun x30 => ?_)
      refine J_iald (pc := 27) C dX8_toNextToken_27 (fun x31 => ?_)
      refine J_bipush (pc := 28) (v := 32) C dX8_toNextToken_28 (by decide) ?_
      refine J_icmp_ne (pc := 30) (tgt := 46) C dX8_toNextToken_30 (by decide) ?_ ?_
      · exact vfX8_toNextToken_46 C hr  al0 h0
      · refine J_aload_n (pc := 33) C dX8_toNextToken_33 rfl 0 rfl ?_
        refine J_dup (pc := 34) C dX8_toNextToken_34 rfl ?_
        refine J_getI (pc := 35) C flX8_22 dX8_toNextToken_35 (fun x32 => ?_)
        refine J_iconst (pc := 38) (v := 1) C dX8_toNextToken_38 (by decide) ?_
        refine J_iadd (pc := 39) C dX8_toNextToken_39 ?_
        refine J_put (pc := 40) C flX8_22 cl8 ft8_3 rfl rfl dX8_toNextToken_40 (fun h33 => ?_)
        refine J_goto (pc := 43) (tgt := 8) C dX8_toNextToken_43 (by decide) ?_
        exact ih al0 h33
def fX8_toNextToken  (a0 : Nat) (h0 : PH) : Option (Unit × PH) :=
    bn (rdI 8 4 a0 h0) fun x1 =>
    bn (wr 8 3 (.int x1) a0 h0) fun h2 =>
    fX8_toNextToken_8  FU a0 h2
set_option maxHeartbeats 4000000 in
set_option maxRecDepth 100000 in
theorem vfX8_toNextToken {p : Program} {l : Launch} {e : Env} {s : State} {m : MethodId} {args : Array Value} {below : List Frame} {meth : Method} {c : Code} {G : GX} (C : Cx p s m args meth c G cX8_toNextToken 1 RX8) (hr : meth.sig.returnType = none) (a0 : Nat) (h0 : PH) : J p l e rmX8_toNextToken s m args below meth c G 1 (qM below args s rvU G 0 0) 0 0 h0 0 [(0, .ref a0)] [] (fX8_toNextToken  a0 h0) := by
  unfold fX8_toNextToken
  refine J_aload_n (pc := 0) C dX8_toNextToken_0 rfl 0 rfl ?_
  refine J_aload_n (pc := 1) C dX8_toNextToken_1 rfl 0 rfl ?_
  refine J_getI (pc := 2) C flX8_25 dX8_toNextToken_2 (fun x1 => ?_)
  refine J_put (pc := 5) C flX8_22 cl8 ft8_3 rfl rfl dX8_toNextToken_5 (fun h2 => ?_)
  exact vfX8_toNextToken_8 C hr  FU a0 h2
theorem mX8_toNextToken {l : Launch} {G : GX} (a0 : Nat) (h0 : PH) : ∀ z, fX8_toNextToken a0 h0 = some z → MC l G yX8_toNextToken cX8_toNextToken 1 none rmX8_toNextToken [.ref a0] h0 (rvU z.1) z.2 :=
  Met_J (own := RX8) (by decide) rfl (Nat.le_of_ble_eq_true rfl) (fun p e s m args below meth c C hr hn => vfX8_toNextToken C hr a0 h0)

theorem dX8_toFirstToken_0 : decode cX8_toFirstToken 0 = .ok (.aload_n 0, 1) := by decide +kernel
theorem dX8_toFirstToken_1 : decode cX8_toFirstToken 1 = .ok (.iconst 0, 1) := by decide +kernel
theorem dX8_toFirstToken_2 : decode cX8_toFirstToken 2 = .ok (.putfield 25, 3) := by decide +kernel
theorem dX8_toFirstToken_5 : decode cX8_toFirstToken 5 = .ok (.aload_n 0, 1) := by decide +kernel
theorem dX8_toFirstToken_6 : decode cX8_toFirstToken 6 = .ok (.invokevirtual 28, 3) := by decide +kernel
theorem dX8_toFirstToken_9 : decode cX8_toFirstToken 9 = .ok (.return_, 1) := by decide +kernel
def rmX8_toFirstToken : Room := { frames := 3, cells := 0, slots := 0, locals := 62 }
def fX8_toFirstToken  (a0 : Nat) (h0 : PH) : Option (Unit × PH) :=
    bn (wr 8 4 (.int (0 : Int32)) a0 h0) fun h1 =>
    bn (chk 8 a0 h1) fun _ => bn2 (fX8_toNextToken a0 h1) fun _ h2 =>
    some ((), h2)
set_option maxHeartbeats 4000000 in
set_option maxRecDepth 100000 in
theorem vfX8_toFirstToken {p : Program} {l : Launch} {e : Env} {s : State} {m : MethodId} {args : Array Value} {below : List Frame} {meth : Method} {c : Code} {G : GX} (C : Cx p s m args meth c G cX8_toFirstToken 1 RX8) (hr : meth.sig.returnType = none) (a0 : Nat) (h0 : PH) : J p l e rmX8_toFirstToken s m args below meth c G 1 (qM below args s rvU G 0 0) 0 0 h0 0 [(0, .ref a0)] [] (fX8_toFirstToken  a0 h0) := by
  unfold fX8_toFirstToken
  refine J_aload_n (pc := 0) C dX8_toFirstToken_0 rfl 0 rfl ?_
  refine J_iconst (pc := 1) (v := 0) C dX8_toFirstToken_1 (by decide) ?_
  refine J_put (pc := 2) C flX8_25 cl8 ft8_4 rfl rfl dX8_toFirstToken_2 (fun h1 => ?_)
  refine J_aload_n (pc := 5) C dX8_toFirstToken_5 rfl 0 rfl ?_
  refine J_callVU (pc := 6) (As := []) (rest := []) C (fun z hz => mX8_toNextToken a0 h1 z hz) mwX8_toNextToken csX8_toNextToken mlX8_28 inX8_toNextToken rfl dX8_toFirstToken_6 (by decide) rfl (Nat.le_of_ble_eq_true rfl) (by decide) (fun _ h2 => ?_)
  exact J_vret (pc := 9) C hr dX8_toFirstToken_9
theorem mX8_toFirstToken {l : Launch} {G : GX} (a0 : Nat) (h0 : PH) : ∀ z, fX8_toFirstToken a0 h0 = some z → MC l G yX8_toFirstToken cX8_toFirstToken 1 none rmX8_toFirstToken [.ref a0] h0 (rvU z.1) z.2 :=
  Met_J (own := RX8) (by decide) rfl (Nat.le_of_ble_eq_true rfl) (fun p e s m args below meth c C hr hn => vfX8_toFirstToken C hr a0 h0)

theorem dX8_isSameAs_0 : decode cX8_isSameAs 0 = .ok (.iload_n 1, 1) := by decide +kernel
theorem dX8_isSameAs_1 : decode cX8_isSameAs 1 = .ok (.ifCond .lt 26, 3) := by decide +kernel
theorem dX8_isSameAs_4 : decode cX8_isSameAs 4 = .ok (.iload_n 2, 1) := by decide +kernel
theorem dX8_isSameAs_5 : decode cX8_isSameAs 5 = .ok (.aload_n 0, 1) := by decide +kernel
theorem dX8_isSameAs_6 : decode cX8_isSameAs 6 = .ok (.getfield 22, 3) := by decide +kernel
theorem dX8_isSameAs_9 : decode cX8_isSameAs 9 = .ok (.if_icmp .gt 18, 3) := by decide +kernel
theorem dX8_isSameAs_12 : decode cX8_isSameAs 12 = .ok (.aload_n 0, 1) := by decide +kernel
theorem dX8_isSameAs_13 : decode cX8_isSameAs 13 = .ok (.getfield 25, 3) := by decide +kernel
theorem dX8_isSameAs_16 : decode cX8_isSameAs 16 = .ok (.aload_n 0, 1) := by decide +kernel
theorem dX8_isSameAs_17 : decode cX8_isSameAs 17 = .ok (.getfield 22, 3) := by decide +kernel
theorem dX8_isSameAs_20 : decode cX8_isSameAs 20 = .ok (.isub, 1) := by decide +kernel
theorem dX8_isSameAs_21 : decode cX8_isSameAs 21 = .ok (.iload_n 2, 1) := by decide +kernel
theorem dX8_isSameAs_22 : decode cX8_isSameAs 22 = .ok (.iload_n 1, 1) := by decide +kernel
theorem dX8_isSameAs_23 : decode cX8_isSameAs 23 = .ok (.isub, 1) := by decide +kernel
theorem dX8_isSameAs_24 : decode cX8_isSameAs 24 = .ok (.if_icmp .eq 5, 3) := by decide +kernel
theorem dX8_isSameAs_27 : decode cX8_isSameAs 27 = .ok (.iconst 0, 1) := by decide +kernel
theorem dX8_isSameAs_28 : decode cX8_isSameAs 28 = .ok (.ireturn, 1) := by decide +kernel
theorem dX8_isSameAs_29 : decode cX8_isSameAs 29 = .ok (.iconst 0, 1) := by decide +kernel
theorem dX8_isSameAs_30 : decode cX8_isSameAs 30 = .ok (.istore_n 3, 1) := by decide +kernel
theorem dX8_isSameAs_31 : decode cX8_isSameAs 31 = .ok (.iload_n 3, 1) := by decide +kernel
theorem dX8_isSameAs_32 : decode cX8_isSameAs 32 = .ok (.iload_n 2, 1) := by decide +kernel
theorem dX8_isSameAs_33 : decode cX8_isSameAs 33 = .ok (.iload_n 1, 1) := by decide +kernel
theorem dX8_isSameAs_34 : decode cX8_isSameAs 34 = .ok (.isub, 1) := by decide +kernel
theorem dX8_isSameAs_35 : decode cX8_isSameAs 35 = .ok (.if_icmp .ge 33, 3) := by decide +kernel
theorem dX8_isSameAs_38 : decode cX8_isSameAs 38 = .ok (.aload_n 0, 1) := by decide +kernel
theorem dX8_isSameAs_39 : decode cX8_isSameAs 39 = .ok (.getfield 9, 3) := by decide +kernel
theorem dX8_isSameAs_42 : decode cX8_isSameAs 42 = .ok (.aload_n 0, 1) := by decide +kernel
theorem dX8_isSameAs_43 : decode cX8_isSameAs 43 = .ok (.getfield 22, 3) := by decide +kernel
theorem dX8_isSameAs_46 : decode cX8_isSameAs 46 = .ok (.iload_n 3, 1) := by decide +kernel
theorem dX8_isSameAs_47 : decode cX8_isSameAs 47 = .ok (.iadd, 1) := by decide +kernel
theorem dX8_isSameAs_48 : decode cX8_isSameAs 48 = .ok (.iaload, 1) := by decide +kernel
theorem dX8_isSameAs_49 : decode cX8_isSameAs 49 = .ok (.aload_n 0, 1) := by decide +kernel
theorem dX8_isSameAs_50 : decode cX8_isSameAs 50 = .ok (.getfield 9, 3) := by decide +kernel
theorem dX8_isSameAs_53 : decode cX8_isSameAs 53 = .ok (.iload_n 1, 1) := by decide +kernel
theorem dX8_isSameAs_54 : decode cX8_isSameAs 54 = .ok (.iload_n 3, 1) := by decide +kernel
theorem dX8_isSameAs_55 : decode cX8_isSameAs 55 = .ok (.iadd, 1) := by decide +kernel
theorem dX8_isSameAs_56 : decode cX8_isSameAs 56 = .ok (.iaload, 1) := by decide +kernel
theorem dX8_isSameAs_57 : decode cX8_isSameAs 57 = .ok (.if_icmp .eq 5, 3) := by decide +kernel
theorem dX8_isSameAs_60 : decode cX8_isSameAs 60 = .ok (.iconst 0, 1) := by decide +kernel
theorem dX8_isSameAs_61 : decode cX8_isSameAs 61 = .ok (.ireturn, 1) := by decide +kernel
theorem dX8_isSameAs_62 : decode cX8_isSameAs 62 = .ok (.iinc 3 1, 3) := by decide +kernel
theorem dX8_isSameAs_65 : decode cX8_isSameAs 65 = .ok (.goto (-34), 3) := by decide +kernel
theorem dX8_isSameAs_68 : decode cX8_isSameAs 68 = .ok (.iconst 1, 1) := by decide +kernel
theorem dX8_isSameAs_69 : decode cX8_isSameAs 69 = .ok (.ireturn, 1) := by decide +kernel
def rmX8_isSameAs : Room := { frames := 0, cells := 0, slots := 0, locals := 0 }
def fX8_isSameAs_31  : Nat → Nat → Int32 → Int32 → Int32 → PH → Option (Int32 × PH)
  | 0, _, _, _, _, _ => none
  | n + 1, al0, xl1, xl2, xl3, h0 =>
    if (xl2 - xl1) ≤ xl3 then (some ((1 : Int32), h0)) else
    bn (rdR 8 0 al0 h0) fun a4 =>
    bn (rdI 8 3 al0 h0) fun x5 =>
    bn (aldI 0 a4 (x5 + xl3) h0) fun x6 =>
    bn (rdR 8 0 al0 h0) fun a7 =>
    bn (aldI 0 a7 (xl1 + xl3) h0) fun x8 =>
    if x6 = x8 then ((fX8_isSameAs_31 n) al0 xl1 xl2 (xl3 + 1) h0) else
    some ((0 : Int32), h0)
set_option maxHeartbeats 4000000 in
set_option maxRecDepth 100000 in
theorem vfX8_isSameAs_31 {p : Program} {l : Launch} {e : Env} {s : State} {m : MethodId} {args : Array Value} {below : List Frame} {meth : Method} {c : Code} {G : GX} (C : Cx p s m args meth c G cX8_isSameAs 4 RX8) (hr : meth.sig.returnType = (some .boolean)) : ∀ (n : Nat) (al0 : Nat) (xl1 : Int32) (xl2 : Int32) (xl3 : Int32) (h0 : PH), J p l e rmX8_isSameAs s m args below meth c G 4 (qM below args s rvI G 0 0) 0 0 h0 31 [(0, .ref al0), (1, .int xl1), (2, .int xl2), (3, .int xl3)] [] (fX8_isSameAs_31  n al0 xl1 xl2 xl3 h0) := by
  intro n
  induction n with
  | zero => exact fun al0 xl1 xl2 xl3 h0 => J_none C
  | succ n ih =>
    intro al0 xl1 xl2 xl3 h0
    unfold fX8_isSameAs_31
    refine J_iload_n (pc := 31) C dX8_isSameAs_31 rfl 3 rfl ?_
    refine J_iload_n (pc := 32) C dX8_isSameAs_32 rfl 2 rfl ?_
    refine J_iload_n (pc := 33) C dX8_isSameAs_33 rfl 1 rfl ?_
    refine J_isub (pc := 34) C dX8_isSameAs_34 ?_
    refine J_icmp_ge (pc := 35) (tgt := 68) C dX8_isSameAs_35 (by decide) ?_ ?_
    · refine J_iconst (pc := 68) (v := 1) C dX8_isSameAs_68 (by decide) ?_
      exact J_zret (pc := 69) C hr rfl dX8_isSameAs_69
    · refine J_aload_n (pc := 38) C dX8_isSameAs_38 rfl 0 rfl ?_
      refine J_getR (pc := 39) C flX8_9 dX8_isSameAs_39 (fun a4 => ?_)
      refine J_aload_n (pc := 42) C dX8_isSameAs_42 rfl 0 rfl ?_
      refine J_getI (pc := 43) C flX8_22 dX8_isSameAs_43 (fun x5 => ?_)
      refine J_iload_n (pc := 46) C dX8_isSameAs_46 rfl 3 rfl ?_
      refine J_iadd (pc := 47) C dX8_isSameAs_47 ?_
      refine J_iald (pc := 48) C dX8_isSameAs_48 (fun x6 => ?_)
      refine J_aload_n (pc := 49) C dX8_isSameAs_49 rfl 0 rfl ?_
      refine J_getR (pc := 50) C flX8_9 dX8_isSameAs_50 (fun a7 => ?_)
      refine J_iload_n (pc := 53) C dX8_isSameAs_53 rfl 1 rfl ?_
      refine J_iload_n (pc := 54) C dX8_isSameAs_54 rfl 3 rfl ?_
      refine J_iadd (pc := 55) C dX8_isSameAs_55 ?_
      refine J_iald (pc := 56) C dX8_isSameAs_56 (fun x8 => ?_)
      refine J_icmp_eq (pc := 57) (tgt := 62) C dX8_isSameAs_57 (by decide) ?_ ?_
      · refine J_iinc (pc := 62) (v := (xl3 + 1)) (lv1 := [(3, .int (xl3 + 1)), (0, .ref al0), (1, .int xl1), (2, .int xl2)]) C dX8_isSameAs_62 3 rfl rfl (by decide) rfl ?_
        refine J_goto (pc := 65) (tgt := 31) C dX8_isSameAs_65 (by decide) ?_
        refine J_sub [1, 2, 3, 0] rfl ?_
        exact ih al0 xl1 xl2 (xl3 + 1) h0
      · refine J_iconst (pc := 60) (v := 0) C dX8_isSameAs_60 (by decide) ?_
        exact J_zret (pc := 61) C hr rfl dX8_isSameAs_61
def fX8_isSameAs  (a0 : Nat) (xp0 : Int32) (xp1 : Int32) (h0 : PH) : Option (Int32 × PH) :=
    if xp0 < 0 then (some ((0 : Int32), h0)) else
    bn (rdI 8 3 a0 h0) fun x1 =>
    if x1 < xp1 then (some ((0 : Int32), h0)) else
    bn (rdI 8 4 a0 h0) fun x2 =>
    bn (rdI 8 3 a0 h0) fun x3 =>
    if (x2 - x3) = (xp1 - xp0) then (fX8_isSameAs_31  FU a0 xp0 xp1 (0 : Int32) h0) else
    some ((0 : Int32), h0)
set_option maxHeartbeats 4000000 in
set_option maxRecDepth 100000 in
theorem vfX8_isSameAs {p : Program} {l : Launch} {e : Env} {s : State} {m : MethodId} {args : Array Value} {below : List Frame} {meth : Method} {c : Code} {G : GX} (C : Cx p s m args meth c G cX8_isSameAs 4 RX8) (hr : meth.sig.returnType = (some .boolean)) (a0 : Nat) (xp0 : Int32) (xp1 : Int32) (h0 : PH) : J p l e rmX8_isSameAs s m args below meth c G 4 (qM below args s rvI G 0 0) 0 0 h0 0 [(0, .ref a0), (1, .int xp0), (2, .int xp1)] [] (fX8_isSameAs  a0 xp0 xp1 h0) := by
  unfold fX8_isSameAs
  refine J_iload_n (pc := 0) C dX8_isSameAs_0 rfl 1 rfl ?_
  refine J_if_lt (pc := 1) (tgt := 27) C dX8_isSameAs_1 (by decide) ?_ ?_
  · refine J_iconst (pc := 27) (v := 0) C dX8_isSameAs_27 (by decide) ?_
    exact J_zret (pc := 28) C hr rfl dX8_isSameAs_28
  · refine J_iload_n (pc := 4) C dX8_isSameAs_4 rfl 2 rfl ?_
    refine J_aload_n (pc := 5) C dX8_isSameAs_5 rfl 0 rfl ?_
    refine J_getI (pc := 6) C flX8_22 dX8_isSameAs_6 (fun x1 => ?_)
    refine J_icmp_gt (pc := 9) (tgt := 27) C dX8_isSameAs_9 (by decide) ?_ ?_
    · refine J_iconst (pc := 27) (v := 0) C dX8_isSameAs_27 (by decide) ?_
      exact J_zret (pc := 28) C hr rfl dX8_isSameAs_28
    · refine J_aload_n (pc := 12) C dX8_isSameAs_12 rfl 0 rfl ?_
      refine J_getI (pc := 13) C flX8_25 dX8_isSameAs_13 (fun x2 => ?_)
      refine J_aload_n (pc := 16) C dX8_isSameAs_16 rfl 0 rfl ?_
      refine J_getI (pc := 17) C flX8_22 dX8_isSameAs_17 (fun x3 => ?_)
      refine J_isub (pc := 20) C dX8_isSameAs_20 ?_
      refine J_iload_n (pc := 21) C dX8_isSameAs_21 rfl 2 rfl ?_
      refine J_iload_n (pc := 22) C dX8_isSameAs_22 rfl 1 rfl ?_
      refine J_isub (pc := 23) C dX8_isSameAs_23 ?_
      refine J_icmp_eq (pc := 24) (tgt := 29) C dX8_isSameAs_24 (by decide) ?_ ?_
      · refine J_iconst (pc := 29) (v := 0) C dX8_isSameAs_29 (by decide) ?_
        refine J_istore_n (pc := 30) (lv1 := [(3, .int (0 : Int32)), (0, .ref a0), (1, .int xp0), (2, .int xp1)]) C dX8_isSameAs_30 rfl (by decide) rfl ?_
        refine J_sub [1, 2, 3, 0] rfl ?_
        exact vfX8_isSameAs_31 C hr  FU a0 xp0 xp1 (0 : Int32) h0
      · refine J_iconst (pc := 27) (v := 0) C dX8_isSameAs_27 (by decide) ?_
        exact J_zret (pc := 28) C hr rfl dX8_isSameAs_28
theorem mX8_isSameAs {l : Launch} {G : GX} (a0 : Nat) (xp0 : Int32) (xp1 : Int32) (h0 : PH) : ∀ z, fX8_isSameAs a0 xp0 xp1 h0 = some z → MC l G yX8_isSameAs cX8_isSameAs 4 (some .boolean) rmX8_isSameAs [.ref a0, .int xp0, .int xp1] h0 (rvI z.1) z.2 :=
  Met_J (own := RX8) (by decide) rfl (Nat.le_of_ble_eq_true rfl) (fun p e s m args below meth c C hr hn => vfX8_isSameAs C hr a0 xp0 xp1 h0)

theorem dX1_takeName_0 : decode cX1_takeName 0 = .ok (.iload_n 1, 1) := by decide +kernel
theorem dX1_takeName_1 : decode cX1_takeName 1 = .ok (.bipush 10, 2) := by decide +kernel
theorem dX1_takeName_3 : decode cX1_takeName 3 = .ok (.if_icmp .ge 14, 3) := by decide +kernel
theorem dX1_takeName_6 : decode cX1_takeName 6 = .ok (.aload_n 0, 1) := by decide +kernel
theorem dX1_takeName_7 : decode cX1_takeName 7 = .ok (.getfield 12, 3) := by decide +kernel
theorem dX1_takeName_10 : decode cX1_takeName 10 = .ok (.getfield 33, 3) := by decide +kernel
theorem dX1_takeName_13 : decode cX1_takeName 13 = .ok (.iconst 1, 1) := by decide +kernel
theorem dX1_takeName_14 : decode cX1_takeName 14 = .ok (.if_icmp .eq 5, 3) := by decide +kernel
theorem dX1_takeName_17 : decode cX1_takeName 17 = .ok (.iconst 0, 1) := by decide +kernel
theorem dX1_takeName_18 : decode cX1_takeName 18 = .ok (.ireturn, 1) := by decide +kernel
theorem dX1_takeName_19 : decode cX1_takeName 19 = .ok (.iconst 0, 1) := by decide +kernel
theorem dX1_takeName_20 : decode cX1_takeName 20 = .ok (.istore_n 2, 1) := by decide +kernel
theorem dX1_takeName_21 : decode cX1_takeName 21 = .ok (.iload_n 2, 1) := by decide +kernel
theorem dX1_takeName_22 : decode cX1_takeName 22 = .ok (.iload_n 1, 1) := by decide +kernel
theorem dX1_takeName_23 : decode cX1_takeName 23 = .ok (.if_icmp .ge 33, 3) := by decide +kernel
theorem dX1_takeName_26 : decode cX1_takeName 26 = .ok (.aload_n 0, 1) := by decide +kernel
theorem dX1_takeName_27 : decode cX1_takeName 27 = .ok (.getfield 12, 3) := by decide +kernel
theorem dX1_takeName_30 : decode cX1_takeName 30 = .ok (.aload_n 0, 1) := by decide +kernel
theorem dX1_takeName_31 : decode cX1_takeName 31 = .ok (.getfield 18, 3) := by decide +kernel
theorem dX1_takeName_34 : decode cX1_takeName 34 = .ok (.iload_n 2, 1) := by decide +kernel
theorem dX1_takeName_35 : decode cX1_takeName 35 = .ok (.iaload, 1) := by decide +kernel
theorem dX1_takeName_36 : decode cX1_takeName 36 = .ok (.aload_n 0, 1) := by decide +kernel
theorem dX1_takeName_37 : decode cX1_takeName 37 = .ok (.getfield 22, 3) := by decide +kernel
theorem dX1_takeName_40 : decode cX1_takeName 40 = .ok (.iload_n 2, 1) := by decide +kernel
theorem dX1_takeName_41 : decode cX1_takeName 41 = .ok (.iaload, 1) := by decide +kernel
theorem dX1_takeName_42 : decode cX1_takeName 42 = .ok (.invokevirtual 61, 3) := by decide +kernel
theorem dX1_takeName_45 : decode cX1_takeName 45 = .ok (.ifCond .eq 5, 3) := by decide +kernel
theorem dX1_takeName_48 : decode cX1_takeName 48 = .ok (.iconst 0, 1) := by decide +kernel
theorem dX1_takeName_49 : decode cX1_takeName 49 = .ok (.ireturn, 1) := by decide +kernel
theorem dX1_takeName_50 : decode cX1_takeName 50 = .ok (.iinc 2 1, 3) := by decide +kernel
theorem dX1_takeName_53 : decode cX1_takeName 53 = .ok (.goto (-32), 3) := by decide +kernel
theorem dX1_takeName_56 : decode cX1_takeName 56 = .ok (.aload_n 0, 1) := by decide +kernel
theorem dX1_takeName_57 : decode cX1_takeName 57 = .ok (.getfield 18, 3) := by decide +kernel
theorem dX1_takeName_60 : decode cX1_takeName 60 = .ok (.iload_n 1, 1) := by decide +kernel
theorem dX1_takeName_61 : decode cX1_takeName 61 = .ok (.aload_n 0, 1) := by decide +kernel
theorem dX1_takeName_62 : decode cX1_takeName 62 = .ok (.getfield 12, 3) := by decide +kernel
theorem dX1_takeName_65 : decode cX1_takeName 65 = .ok (.getfield 65, 3) := by decide +kernel
theorem dX1_takeName_68 : decode cX1_takeName 68 = .ok (.iastore, 1) := by decide +kernel
theorem dX1_takeName_69 : decode cX1_takeName 69 = .ok (.aload_n 0, 1) := by decide +kernel
theorem dX1_takeName_70 : decode cX1_takeName 70 = .ok (.getfield 22, 3) := by decide +kernel
theorem dX1_takeName_73 : decode cX1_takeName 73 = .ok (.iload_n 1, 1) := by decide +kernel
theorem dX1_takeName_74 : decode cX1_takeName 74 = .ok (.aload_n 0, 1) := by decide +kernel
theorem dX1_takeName_75 : decode cX1_takeName 75 = .ok (.getfield 12, 3) := by decide +kernel
theorem dX1_takeName_78 : decode cX1_takeName 78 = .ok (.getfield 68, 3) := by decide +kernel
theorem dX1_takeName_81 : decode cX1_takeName 81 = .ok (.iastore, 1) := by decide +kernel
theorem dX1_takeName_82 : decode cX1_takeName 82 = .ok (.aload_n 0, 1) := by decide +kernel
theorem dX1_takeName_83 : decode cX1_takeName 83 = .ok (.getfield 12, 3) := by decide +kernel
theorem dX1_takeName_86 : decode cX1_takeName 86 = .ok (.invokevirtual 58, 3) := by decide +kernel
theorem dX1_takeName_89 : decode cX1_takeName 89 = .ok (.iconst 1, 1) := by decide +kernel
theorem dX1_takeName_90 : decode cX1_takeName 90 = .ok (.ireturn, 1) := by decide +kernel
def rmX1_takeName : Room := { frames := 3, cells := 0, slots := 0, locals := 62 }
def fX1_takeName_21  : Nat → Nat → Int32 → Int32 → PH → Option (Int32 × PH)
  | 0, _, _, _, _ => none
  | n + 1, al0, xl1, xl2, h0 =>
    if xl1 ≤ xl2 then (bn (rdR 1 1 al0 h0) fun a3 =>
    bn (rdR 1 0 al0 h0) fun a4 =>
    bn (rdI 8 3 a4 h0) fun x5 =>
    bn (astI a3 xl1 x5 h0) fun h6 =>
    bn (rdR 1 2 al0 h6) fun a7 =>
    bn (rdR 1 0 al0 h6) fun a8 =>
    bn (rdI 8 4 a8 h6) fun x9 =>
    bn (astI a7 xl1 x9 h6) fun h10 =>
    bn (rdR 1 0 al0 h10) fun a11 =>
    bn (chk 8 a11 h10) fun _ => bn2 (fX8_toNextToken a11 h10) fun _ h12 =>
    some ((1 : Int32), h12)) else
    bn (rdR 1 0 al0 h0) fun a13 =>
    bn (rdR 1 1 al0 h0) fun a14 =>
    bn (aldI 0 a14 xl2 h0) fun x15 =>
    bn (rdR 1 2 al0 h0) fun a16 =>
    bn (aldI 0 a16 xl2 h0) fun x17 =>
    bn (chk 8 a13 h0) fun _ => bn2 (fX8_isSameAs a13 x15 x17 h0) fun x19 h18 =>
    if x19 = 0 then ((fX1_takeName_21 n) al0 xl1 (xl2 + 1) h18) else
    some ((0 : Int32), h18)
set_option maxHeartbeats 4000000 in
set_option maxRecDepth 100000 in
theorem vfX1_takeName_21 {p : Program} {l : Launch} {e : Env} {s : State} {m : MethodId} {args : Array Value} {below : List Frame} {meth : Method} {c : Code} {G : GX} (C : Cx p s m args meth c G cX1_takeName 3 RX1) (hr : meth.sig.returnType = (some .boolean)) : ∀ (n : Nat) (al0 : Nat) (xl1 : Int32) (xl2 : Int32) (h0 : PH), J p l e rmX1_takeName s m args below meth c G 3 (qM below args s rvI G 0 0) 0 0 h0 21 [(0, .ref al0), (1, .int xl1), (2, .int xl2)] [] (fX1_takeName_21  n al0 xl1 xl2 h0) := by
  intro n
  induction n with
  | zero => exact fun al0 xl1 xl2 h0 => J_none C
  | succ n ih =>
    intro al0 xl1 xl2 h0
    unfold fX1_takeName_21
    refine J_iload_n (pc := 21) C dX1_takeName_21 rfl 2 rfl ?_
    refine J_iload_n (pc := 22) C dX1_takeName_22 rfl 1 rfl ?_
    refine J_icmp_ge (pc := 23) (tgt := 56) C dX1_takeName_23 (by decide) ?_ ?_
    · refine J_aload_n (pc := 56) C dX1_takeName_56 rfl 0 rfl ?_
      refine J_getR (pc := 57) C flX1_18 dX1_takeName_57 (fun a3 => ?_)
      refine J_iload_n (pc := 60) C dX1_takeName_60 rfl 1 rfl ?_
      refine J_aload_n (pc := 61) C dX1_takeName_61 rfl 0 rfl ?_
      refine J_getR (pc := 62) C flX1_12 dX1_takeName_62 (fun a4 => ?_)
      refine J_getI (pc := 65) C flX1_65 dX1_takeName_65 (fun x5 => ?_)
      refine J_iast (pc := 68) C dX1_takeName_68 (fun h6 => ?_)
      refine J_aload_n (pc := 69) C dX1_takeName_69 rfl 0 rfl ?_
      refine J_getR (pc := 70) C flX1_22 dX1_takeName_70 (fun a7 => ?_)
      refine J_iload_n (pc := 73) C dX1_takeName_73 rfl 1 rfl ?_
      refine J_aload_n (pc := 74) C dX1_takeName_74 rfl 0 rfl ?_
      refine J_getR (pc := 75) C flX1_12 dX1_takeName_75 (fun a8 => ?_)
      refine J_getI (pc := 78) C flX1_68 dX1_takeName_78 (fun x9 => ?_)
      refine J_iast (pc := 81) C dX1_takeName_81 (fun h10 => ?_)
      refine J_aload_n (pc := 82) C dX1_takeName_82 rfl 0 rfl ?_
      refine J_getR (pc := 83) C flX1_12 dX1_takeName_83 (fun a11 => ?_)
      refine J_callVU (pc := 86) (As := []) (rest := []) C (fun z hz => mX8_toNextToken a11 h10 z hz) mwX8_toNextToken csX8_toNextToken mlX1_58 inX8_toNextToken rfl dX1_takeName_86 (by decide) rfl (Nat.le_of_ble_eq_true rfl) (by decide) (fun _ h12 => ?_)
      refine J_iconst (pc := 89) (v := 1) C dX1_takeName_89 (by decide) ?_
      exact J_zret (pc := 90) C hr rfl dX1_takeName_90
    · refine J_aload_n (pc := 26) C dX1_takeName_26 rfl 0 rfl ?_
      refine J_getR (pc := 27) C flX1_12 dX1_takeName_27 (fun a13 => ?_)
      refine J_aload_n (pc := 30) C dX1_takeName_30 rfl 0 rfl ?_
      refine J_getR (pc := 31) C flX1_18 dX1_takeName_31 (fun a14 => ?_)
      refine J_iload_n (pc := 34) C dX1_takeName_34 rfl 2 rfl ?_
      refine J_iald (pc := 35) C dX1_takeName_35 (fun x15 => ?_)
      refine J_aload_n (pc := 36) C dX1_takeName_36 rfl 0 rfl ?_
      refine J_getR (pc := 37) C flX1_22 dX1_takeName_37 (fun a16 => ?_)
      refine J_iload_n (pc := 40) C dX1_takeName_40 rfl 2 rfl ?_
      refine J_iald (pc := 41) C dX1_takeName_41 (fun x17 => ?_)
      refine J_callVI (pc := 42) (As := [.int x15, .int x17]) (rest := []) C (fun z hz => mX8_isSameAs a13 x15 x17 h0 z hz) mwX8_isSameAs csX8_isSameAs mlX1_61 inX8_isSameAs rfl dX1_takeName_42 (by decide) rfl (Nat.le_of_ble_eq_true rfl) (by decide) (fun x19 h18 => ?_)
      refine J_if_eq (pc := 45) (tgt := 50) C dX1_takeName_45 (by decide) ?_ ?_
      · refine J_iinc (pc := 50) (v := (xl2 + 1)) (lv1 := [(2, .int (xl2 + 1)), (0, .ref al0), (1, .int xl1)]) C dX1_takeName_50 2 rfl rfl (by decide) rfl ?_
        refine J_goto (pc := 53) (tgt := 21) C dX1_takeName_53 (by decide) ?_
        refine J_sub [1, 2, 0] rfl ?_
        exact ih al0 xl1 (xl2 + 1) h18
      · refine J_iconst (pc := 48) (v := 0) C dX1_takeName_48 (by decide) ?_
        exact J_zret (pc := 49) C hr rfl dX1_takeName_49
def fX1_takeName  (a0 : Nat) (xp0 : Int32) (h0 : PH) : Option (Int32 × PH) :=
    if (10 : Int32) ≤ xp0 then (some ((0 : Int32), h0)) else
    bn (rdR 1 0 a0 h0) fun a1 =>
    bn (rdI 8 2 a1 h0) fun x2 =>
    if x2 = (1 : Int32) then (fX1_takeName_21  FU a0 xp0 (0 : Int32) h0) else
    some ((0 : Int32), h0)
set_option maxHeartbeats 4000000 in
set_option maxRecDepth 100000 in
theorem vfX1_takeName {p : Program} {l : Launch} {e : Env} {s : State} {m : MethodId} {args : Array Value} {below : List Frame} {meth : Method} {c : Code} {G : GX} (C : Cx p s m args meth c G cX1_takeName 3 RX1) (hr : meth.sig.returnType = (some .boolean)) (a0 : Nat) (xp0 : Int32) (h0 : PH) : J p l e rmX1_takeName s m args below meth c G 3 (qM below args s rvI G 0 0) 0 0 h0 0 [(0, .ref a0), (1, .int xp0)] [] (fX1_takeName  a0 xp0 h0) := by
  unfold fX1_takeName
  refine J_iload_n (pc := 0) C dX1_takeName_0 rfl 1 rfl ?_
  refine J_bipush (pc := 1) (v := 10) C dX1_takeName_1 (by decide) ?_
  refine J_icmp_ge (pc := 3) (tgt := 17) C dX1_takeName_3 (by decide) ?_ ?_
  · refine J_iconst (pc := 17) (v := 0) C dX1_takeName_17 (by decide) ?_
    exact J_zret (pc := 18) C hr rfl dX1_takeName_18
  · refine J_aload_n (pc := 6) C dX1_takeName_6 rfl 0 rfl ?_
    refine J_getR (pc := 7) C flX1_12 dX1_takeName_7 (fun a1 => ?_)
    refine J_getI (pc := 10) C flX1_33 dX1_takeName_10 (fun x2 => ?_)
    refine J_iconst (pc := 13) (v := 1) C dX1_takeName_13 (by decide) ?_
    refine J_icmp_eq (pc := 14) (tgt := 19) C dX1_takeName_14 (by decide) ?_ ?_
    · refine J_iconst (pc := 19) (v := 0) C dX1_takeName_19 (by decide) ?_
      refine J_istore_n (pc := 20) (lv1 := [(2, .int (0 : Int32)), (0, .ref a0), (1, .int xp0)]) C dX1_takeName_20 rfl (by decide) rfl ?_
      refine J_sub [1, 2, 0] rfl ?_
      exact vfX1_takeName_21 C hr  FU a0 xp0 (0 : Int32) h0
    · refine J_iconst (pc := 17) (v := 0) C dX1_takeName_17 (by decide) ?_
      exact J_zret (pc := 18) C hr rfl dX1_takeName_18
theorem mX1_takeName {l : Launch} {G : GX} (a0 : Nat) (xp0 : Int32) (h0 : PH) : ∀ z, fX1_takeName a0 xp0 h0 = some z → MC l G yX1_takeName cX1_takeName 3 (some .boolean) rmX1_takeName [.ref a0, .int xp0] h0 (rvI z.1) z.2 :=
  Met_J (own := RX1) (by decide) rfl (Nat.le_of_ble_eq_true rfl) (fun p e s m args below meth c C hr hn => vfX1_takeName C hr a0 xp0 h0)

theorem dX8_isMark_0 : decode cX8_isMark 0 = .ok (.aload_n 0, 1) := by decide +kernel
theorem dX8_isMark_1 : decode cX8_isMark 1 = .ok (.getfield 19, 3) := by decide +kernel
theorem dX8_isMark_4 : decode cX8_isMark 4 = .ok (.iconst 3, 1) := by decide +kernel
theorem dX8_isMark_5 : decode cX8_isMark 5 = .ok (.if_icmp .ne 20, 3) := by decide +kernel
theorem dX8_isMark_8 : decode cX8_isMark 8 = .ok (.aload_n 0, 1) := by decide +kernel
theorem dX8_isMark_9 : decode cX8_isMark 9 = .ok (.getfield 9, 3) := by decide +kernel
theorem dX8_isMark_12 : decode cX8_isMark 12 = .ok (.aload_n 0, 1) := by decide +kernel
theorem dX8_isMark_13 : decode cX8_isMark 13 = .ok (.getfield 22, 3) := by decide +kernel
theorem dX8_isMark_16 : decode cX8_isMark 16 = .ok (.iaload, 1) := by decide +kernel
theorem dX8_isMark_17 : decode cX8_isMark 17 = .ok (.iload_n 1, 1) := by decide +kernel
theorem dX8_isMark_18 : decode cX8_isMark 18 = .ok (.if_icmp .ne 7, 3) := by decide +kernel
theorem dX8_isMark_21 : decode cX8_isMark 21 = .ok (.iconst 1, 1) := by decide +kernel
theorem dX8_isMark_22 : decode cX8_isMark 22 = .ok (.goto 4, 3) := by decide +kernel
theorem dX8_isMark_25 : decode cX8_isMark 25 = .ok (.iconst 0, 1) := by decide +kernel
theorem dX8_isMark_26 : decode cX8_isMark 26 = .ok (.ireturn, 1) := by decide +kernel
def rmX8_isMark : Room := { frames := 0, cells := 0, slots := 0, locals := 0 }
def fX8_isMark  (a0 : Nat) (xp0 : Int32) (h0 : PH) : Option (Int32 × PH) :=
    bn (rdI 8 2 a0 h0) fun x1 =>
    if x1 = (3 : Int32) then (bn (rdR 8 0 a0 h0) fun a2 =>
    bn (rdI 8 3 a0 h0) fun x3 =>
    bn (aldI 0 a2 x3 h0) fun x4 =>
    if x4 = xp0 then (some ((1 : Int32), h0)) else
    some ((0 : Int32), h0)) else
    some ((0 : Int32), h0)
set_option maxHeartbeats 4000000 in
set_option maxRecDepth 100000 in
theorem vfX8_isMark {p : Program} {l : Launch} {e : Env} {s : State} {m : MethodId} {args : Array Value} {below : List Frame} {meth : Method} {c : Code} {G : GX} (C : Cx p s m args meth c G cX8_isMark 2 RX8) (hr : meth.sig.returnType = (some .boolean)) (a0 : Nat) (xp0 : Int32) (h0 : PH) : J p l e rmX8_isMark s m args below meth c G 2 (qM below args s rvI G 0 0) 0 0 h0 0 [(0, .ref a0), (1, .int xp0)] [] (fX8_isMark  a0 xp0 h0) := by
  unfold fX8_isMark
  refine J_aload_n (pc := 0) C dX8_isMark_0 rfl 0 rfl ?_
  refine J_getI (pc := 1) C flX8_19 dX8_isMark_1 (fun x1 => ?_)
  refine J_iconst (pc := 4) (v := 3) C dX8_isMark_4 (by decide) ?_
  refine J_icmp_ne (pc := 5) (tgt := 25) C dX8_isMark_5 (by decide) ?_ ?_
  · refine J_iconst (pc := 25) (v := 0) C dX8_isMark_25 (by decide) ?_
    exact J_zret (pc := 26) C hr rfl dX8_isMark_26
  · refine J_aload_n (pc := 8) C dX8_isMark_8 rfl 0 rfl ?_
    refine J_getR (pc := 9) C flX8_9 dX8_isMark_9 (fun a2 => ?_)
    refine J_aload_n (pc := 12) C dX8_isMark_12 rfl 0 rfl ?_
    refine J_getI (pc := 13) C flX8_22 dX8_isMark_13 (fun x3 => ?_)
    refine J_iald (pc := 16) C dX8_isMark_16 (fun x4 => ?_)
    refine J_iload_n (pc := 17) C dX8_isMark_17 rfl 1 rfl ?_
    refine J_icmp_ne (pc := 18) (tgt := 25) C dX8_isMark_18 (by decide) ?_ ?_
    · refine J_iconst (pc := 25) (v := 0) C dX8_isMark_25 (by decide) ?_
      exact J_zret (pc := 26) C hr rfl dX8_isMark_26
    · refine J_iconst (pc := 21) (v := 1) C dX8_isMark_21 (by decide) ?_
      refine J_goto (pc := 22) (tgt := 26) C dX8_isMark_22 (by decide) ?_
      exact J_zret (pc := 26) C hr rfl dX8_isMark_26
theorem mX8_isMark {l : Launch} {G : GX} (a0 : Nat) (xp0 : Int32) (h0 : PH) : ∀ z, fX8_isMark a0 xp0 h0 = some z → MC l G yX8_isMark cX8_isMark 2 (some .boolean) rmX8_isMark [.ref a0, .int xp0] h0 (rvI z.1) z.2 :=
  Met_J (own := RX8) (by decide) rfl (Nat.le_of_ble_eq_true rfl) (fun p e s m args below meth c C hr hn => vfX8_isMark C hr a0 xp0 h0)

theorem dX1_takeMark_0 : decode cX1_takeMark 0 = .ok (.aload_n 0, 1) := by decide +kernel
theorem dX1_takeMark_1 : decode cX1_takeMark 1 = .ok (.getfield 12, 3) := by decide +kernel
theorem dX1_takeMark_4 : decode cX1_takeMark 4 = .ok (.iload_n 1, 1) := by decide +kernel
theorem dX1_takeMark_5 : decode cX1_takeMark 5 = .ok (.invokevirtual 55, 3) := by decide +kernel
theorem dX1_takeMark_8 : decode cX1_takeMark 8 = .ok (.ifCond .ne 5, 3) := by decide +kernel
theorem dX1_takeMark_11 : decode cX1_takeMark 11 = .ok (.iconst 0, 1) := by decide +kernel
theorem dX1_takeMark_12 : decode cX1_takeMark 12 = .ok (.ireturn, 1) := by decide +kernel
theorem dX1_takeMark_13 : decode cX1_takeMark 13 = .ok (.aload_n 0, 1) := by decide +kernel
theorem dX1_takeMark_14 : decode cX1_takeMark 14 = .ok (.getfield 12, 3) := by decide +kernel
theorem dX1_takeMark_17 : decode cX1_takeMark 17 = .ok (.invokevirtual 58, 3) := by decide +kernel
theorem dX1_takeMark_20 : decode cX1_takeMark 20 = .ok (.iconst 1, 1) := by decide +kernel
theorem dX1_takeMark_21 : decode cX1_takeMark 21 = .ok (.ireturn, 1) := by decide +kernel
def rmX1_takeMark : Room := { frames := 3, cells := 0, slots := 0, locals := 62 }
def fX1_takeMark  (a0 : Nat) (xp0 : Int32) (h0 : PH) : Option (Int32 × PH) :=
    bn (rdR 1 0 a0 h0) fun a1 =>
    bn (chk 8 a1 h0) fun _ => bn2 (fX8_isMark a1 xp0 h0) fun x3 h2 =>
    if x3 = 0 then (some ((0 : Int32), h2)) else
    bn (rdR 1 0 a0 h2) fun a4 =>
    bn (chk 8 a4 h2) fun _ => bn2 (fX8_toNextToken a4 h2) fun _ h5 =>
    some ((1 : Int32), h5)
set_option maxHeartbeats 4000000 in
set_option maxRecDepth 100000 in
theorem vfX1_takeMark {p : Program} {l : Launch} {e : Env} {s : State} {m : MethodId} {args : Array Value} {below : List Frame} {meth : Method} {c : Code} {G : GX} (C : Cx p s m args meth c G cX1_takeMark 2 RX1) (hr : meth.sig.returnType = (some .boolean)) (a0 : Nat) (xp0 : Int32) (h0 : PH) : J p l e rmX1_takeMark s m args below meth c G 2 (qM below args s rvI G 0 0) 0 0 h0 0 [(0, .ref a0), (1, .int xp0)] [] (fX1_takeMark  a0 xp0 h0) := by
  unfold fX1_takeMark
  refine J_aload_n (pc := 0) C dX1_takeMark_0 rfl 0 rfl ?_
  refine J_getR (pc := 1) C flX1_12 dX1_takeMark_1 (fun a1 => ?_)
  refine J_iload_n (pc := 4) C dX1_takeMark_4 rfl 1 rfl ?_
  refine J_callVI (pc := 5) (As := [.int xp0]) (rest := []) C (fun z hz => mX8_isMark a1 xp0 h0 z hz) mwX8_isMark csX8_isMark mlX1_55 inX8_isMark rfl dX1_takeMark_5 (by decide) rfl (Nat.le_of_ble_eq_true rfl) (by decide) (fun x3 h2 => ?_)
  refine J_if_ne (pc := 8) (tgt := 13) C dX1_takeMark_8 (by decide) ?_ ?_
  · refine J_aload_n (pc := 13) C dX1_takeMark_13 rfl 0 rfl ?_
    refine J_getR (pc := 14) C flX1_12 dX1_takeMark_14 (fun a4 => ?_)
    refine J_callVU (pc := 17) (As := []) (rest := []) C (fun z hz => mX8_toNextToken a4 h2 z hz) mwX8_toNextToken csX8_toNextToken mlX1_58 inX8_toNextToken rfl dX1_takeMark_17 (by decide) rfl (Nat.le_of_ble_eq_true rfl) (by decide) (fun _ h5 => ?_)
    refine J_iconst (pc := 20) (v := 1) C dX1_takeMark_20 (by decide) ?_
    exact J_zret (pc := 21) C hr rfl dX1_takeMark_21
  · refine J_iconst (pc := 11) (v := 0) C dX1_takeMark_11 (by decide) ?_
    exact J_zret (pc := 12) C hr rfl dX1_takeMark_12
theorem mX1_takeMark {l : Launch} {G : GX} (a0 : Nat) (xp0 : Int32) (h0 : PH) : ∀ z, fX1_takeMark a0 xp0 h0 = some z → MC l G yX1_takeMark cX1_takeMark 2 (some .boolean) rmX1_takeMark [.ref a0, .int xp0] h0 (rvI z.1) z.2 :=
  Met_J (own := RX1) (by decide) rfl (Nat.le_of_ble_eq_true rfl) (fun p e s m args below meth c C hr hn => vfX1_takeMark C hr a0 xp0 h0)

theorem dJ0_coder_7d493_0 : decode cJ0_coder_7d493 0 = .ok (.getstatic 38, 3) := by decide +kernel
theorem dJ0_coder_7d493_3 : decode cJ0_coder_7d493 3 = .ok (.ifCond .eq 10, 3) := by decide +kernel
theorem dJ0_coder_7d493_6 : decode cJ0_coder_7d493 6 = .ok (.aload_n 0, 1) := by decide +kernel
theorem dJ0_coder_7d493_7 : decode cJ0_coder_7d493 7 = .ok (.getfield 15, 3) := by decide +kernel
theorem dJ0_coder_7d493_10 : decode cJ0_coder_7d493 10 = .ok (.goto 4, 3) := by decide +kernel
theorem dJ0_coder_7d493_13 : decode cJ0_coder_7d493 13 = .ok (.iconst 1, 1) := by decide +kernel
theorem dJ0_coder_7d493_14 : decode cJ0_coder_7d493 14 = .ok (.ireturn, 1) := by decide +kernel
def rmJ0_coder_7d493 : Room := { frames := 0, cells := 0, slots := 0, locals := 0 }
def fJ0_coder_7d493  (w0 : Nat) (h0 : PH) : Option (Int32 × PH) :=
    if (1 : Int32) = 0 then (some ((1 : Int32), h0)) else
    bn (schk w0) fun _ =>
    some ((0 : Int32), h0)
set_option maxHeartbeats 4000000 in
set_option maxRecDepth 100000 in
theorem vfJ0_coder_7d493 {p : Program} {l : Launch} {e : Env} {s : State} {m : MethodId} {args : Array Value} {below : List Frame} {meth : Method} {c : Code} {G : GX} (C : Cx p s m args meth c G cJ0_coder_7d493 1 RJ0) (hr : meth.sig.returnType = (some .byte)) (w0 : Nat) (h0 : PH) : J p l e rmJ0_coder_7d493 s m args below meth c G 1 (qM below args s rvI G 0 0) 0 0 h0 0 [(0, .ref (G.2.2.2.1 w0))] [] (fJ0_coder_7d493  w0 h0) := by
  unfold fJ0_coder_7d493
  refine J_gsC (pc := 0) C dJ0_coder_7d493_0 ?_
  refine J_if_eq (pc := 3) (tgt := 13) C dJ0_coder_7d493_3 (by decide) ?_ ?_
  · refine J_iconst (pc := 13) (v := 1) C dJ0_coder_7d493_13 (by decide) ?_
    exact J_zret (pc := 14) C hr rfl dJ0_coder_7d493_14
  · refine J_aload_n (pc := 6) C dJ0_coder_7d493_6 rfl 0 rfl ?_
    refine J_sgetC (pc := 7) C dJ0_coder_7d493_7 ?_
    refine J_goto (pc := 10) (tgt := 14) C dJ0_coder_7d493_10 (by decide) ?_
    exact J_zret (pc := 14) C hr rfl dJ0_coder_7d493_14
theorem mJ0_coder_7d493 {l : Launch} {G : GX} (w0 : Nat) (h0 : PH) : ∀ z, fJ0_coder_7d493 w0 h0 = some z → MC l G yJ0_coder_7d493 cJ0_coder_7d493 1 (some .byte) rmJ0_coder_7d493 [.ref (G.2.2.2.1 w0)] h0 (rvI z.1) z.2 :=
  Met_J (own := RJ0) (by decide) rfl (Nat.le_of_ble_eq_true rfl) (fun p e s m args below meth c C hr hn => vfJ0_coder_7d493 C hr w0 h0)

theorem dJ0_length_8abf5_0 : decode cJ0_length_8abf5 0 = .ok (.aload_n 0, 1) := by decide +kernel
theorem dJ0_length_8abf5_1 : decode cJ0_length_8abf5 1 = .ok (.getfield 9, 3) := by decide +kernel
theorem dJ0_length_8abf5_4 : decode cJ0_length_8abf5 4 = .ok (.arraylength, 1) := by decide +kernel
theorem dJ0_length_8abf5_5 : decode cJ0_length_8abf5 5 = .ok (.aload_n 0, 1) := by decide +kernel
theorem dJ0_length_8abf5_6 : decode cJ0_length_8abf5 6 = .ok (.invokevirtual 335, 3) := by decide +kernel
theorem dJ0_length_8abf5_9 : decode cJ0_length_8abf5 9 = .ok (.ishr, 1) := by decide +kernel
theorem dJ0_length_8abf5_10 : decode cJ0_length_8abf5 10 = .ok (.ireturn, 1) := by decide +kernel
def rmJ0_length_8abf5 : Room := { frames := 1, cells := 0, slots := 0, locals := 20 }
def fJ0_length_8abf5  (w0 : Nat) (h0 : PH) : Option (Int32 × PH) :=
    bn (schk w0) fun _ =>
    bn (schk w0) fun _ =>
    bn (schk w0) fun _ => bn2 (fJ0_coder_7d493 w0 h0) fun x2 h1 =>
    some (((slenI w0) >>> (x2 &&& 31)), h1)
set_option maxHeartbeats 4000000 in
set_option maxRecDepth 100000 in
theorem vfJ0_length_8abf5 {p : Program} {l : Launch} {e : Env} {s : State} {m : MethodId} {args : Array Value} {below : List Frame} {meth : Method} {c : Code} {G : GX} (C : Cx p s m args meth c G cJ0_length_8abf5 1 RJ0) (hr : meth.sig.returnType = (some .int)) (w0 : Nat) (h0 : PH) : J p l e rmJ0_length_8abf5 s m args below meth c G 1 (qM below args s rvI G 0 0) 0 0 h0 0 [(0, .ref (G.2.2.2.1 w0))] [] (fJ0_length_8abf5  w0 h0) := by
  unfold fJ0_length_8abf5
  refine J_aload_n (pc := 0) C dJ0_length_8abf5_0 rfl 0 rfl ?_
  refine J_sgetV (pc := 1) C dJ0_length_8abf5_1 ?_
  refine J_salen (pc := 4) C dJ0_length_8abf5_4 ?_
  refine J_aload_n (pc := 5) C dJ0_length_8abf5_5 rfl 0 rfl ?_
  refine J_callVS (pc := 6) (As := []) (rest := [.int (slenI w0)]) C (fun z hz => mJ0_coder_7d493 w0 h0 z hz) mwJ0_coder_7d493 rfl seJ0_coder_7d493 mlJ0_335 inJ0_coder_7d493 rfl dJ0_length_8abf5_6 (by decide) rfl (Nat.le_of_ble_eq_true rfl) (by decide) (fun x2 h1 => ?_)
  refine J_ishr (pc := 9) C dJ0_length_8abf5_9 ?_
  exact J_iret (pc := 10) C hr dJ0_length_8abf5_10
theorem mJ0_length_8abf5 {l : Launch} {G : GX} (w0 : Nat) (h0 : PH) : ∀ z, fJ0_length_8abf5 w0 h0 = some z → MC l G yJ0_length_8abf5 cJ0_length_8abf5 1 (some .int) rmJ0_length_8abf5 [.ref (G.2.2.2.1 w0)] h0 (rvI z.1) z.2 :=
  Met_J (own := RJ0) (by decide) rfl (Nat.le_of_ble_eq_true rfl) (fun p e s m args below meth c C hr hn => vfJ0_length_8abf5 C hr w0 h0)

theorem dJ0_isLatin1_aae02_0 : decode cJ0_isLatin1_aae02 0 = .ok (.getstatic 38, 3) := by decide +kernel
theorem dJ0_isLatin1_aae02_3 : decode cJ0_isLatin1_aae02 3 = .ok (.ifCond .eq 14, 3) := by decide +kernel
theorem dJ0_isLatin1_aae02_6 : decode cJ0_isLatin1_aae02 6 = .ok (.aload_n 0, 1) := by decide +kernel
theorem dJ0_isLatin1_aae02_7 : decode cJ0_isLatin1_aae02 7 = .ok (.getfield 15, 3) := by decide +kernel
theorem dJ0_isLatin1_aae02_10 : decode cJ0_isLatin1_aae02 10 = .ok (.ifCond .ne 7, 3) := by decide +kernel
theorem dJ0_isLatin1_aae02_13 : decode cJ0_isLatin1_aae02 13 = .ok (.iconst 1, 1) := by decide +kernel
theorem dJ0_isLatin1_aae02_14 : decode cJ0_isLatin1_aae02 14 = .ok (.goto 4, 3) := by decide +kernel
theorem dJ0_isLatin1_aae02_17 : decode cJ0_isLatin1_aae02 17 = .ok (.iconst 0, 1) := by decide +kernel
theorem dJ0_isLatin1_aae02_18 : decode cJ0_isLatin1_aae02 18 = .ok (.ireturn, 1) := by decide +kernel
def rmJ0_isLatin1_aae02 : Room := { frames := 0, cells := 0, slots := 0, locals := 0 }
def fJ0_isLatin1_aae02  (w0 : Nat) (h0 : PH) : Option (Int32 × PH) :=
    if (1 : Int32) = 0 then (some ((0 : Int32), h0)) else
    bn (schk w0) fun _ =>
    if (0 : Int32) = 0 then (some ((1 : Int32), h0)) else
    some ((0 : Int32), h0)
set_option maxHeartbeats 4000000 in
set_option maxRecDepth 100000 in
theorem vfJ0_isLatin1_aae02 {p : Program} {l : Launch} {e : Env} {s : State} {m : MethodId} {args : Array Value} {below : List Frame} {meth : Method} {c : Code} {G : GX} (C : Cx p s m args meth c G cJ0_isLatin1_aae02 1 RJ0) (hr : meth.sig.returnType = (some .boolean)) (w0 : Nat) (h0 : PH) : J p l e rmJ0_isLatin1_aae02 s m args below meth c G 1 (qM below args s rvI G 0 0) 0 0 h0 0 [(0, .ref (G.2.2.2.1 w0))] [] (fJ0_isLatin1_aae02  w0 h0) := by
  unfold fJ0_isLatin1_aae02
  refine J_gsC (pc := 0) C dJ0_isLatin1_aae02_0 ?_
  refine J_if_eq (pc := 3) (tgt := 17) C dJ0_isLatin1_aae02_3 (by decide) ?_ ?_
  · refine J_iconst (pc := 17) (v := 0) C dJ0_isLatin1_aae02_17 (by decide) ?_
    exact J_zret (pc := 18) C hr rfl dJ0_isLatin1_aae02_18
  · refine J_aload_n (pc := 6) C dJ0_isLatin1_aae02_6 rfl 0 rfl ?_
    refine J_sgetC (pc := 7) C dJ0_isLatin1_aae02_7 ?_
    refine J_if_ne (pc := 10) (tgt := 17) C dJ0_isLatin1_aae02_10 (by decide) ?_ ?_
    · refine J_iconst (pc := 17) (v := 0) C dJ0_isLatin1_aae02_17 (by decide) ?_
      exact J_zret (pc := 18) C hr rfl dJ0_isLatin1_aae02_18
    · refine J_iconst (pc := 13) (v := 1) C dJ0_isLatin1_aae02_13 (by decide) ?_
      refine J_goto (pc := 14) (tgt := 18) C dJ0_isLatin1_aae02_14 (by decide) ?_
      exact J_zret (pc := 18) C hr rfl dJ0_isLatin1_aae02_18
theorem mJ0_isLatin1_aae02 {l : Launch} {G : GX} (w0 : Nat) (h0 : PH) : ∀ z, fJ0_isLatin1_aae02 w0 h0 = some z → MC l G yJ0_isLatin1_aae02 cJ0_isLatin1_aae02 1 (some .boolean) rmJ0_isLatin1_aae02 [.ref (G.2.2.2.1 w0)] h0 (rvI z.1) z.2 :=
  Met_J (own := RJ0) (by decide) rfl (Nat.le_of_ble_eq_true rfl) (fun p e s m args below meth c C hr hn => vfJ0_isLatin1_aae02 C hr w0 h0)

theorem dJ3_checkIndex_8e157_0 : decode cJ3_checkIndex_8e157 0 = .ok (.iload_n 0, 1) := by decide +kernel
theorem dJ3_checkIndex_8e157_1 : decode cJ3_checkIndex_8e157 1 = .ok (.ifCond .lt 8, 3) := by decide +kernel
theorem dJ3_checkIndex_8e157_4 : decode cJ3_checkIndex_8e157 4 = .ok (.iload_n 0, 1) := by decide +kernel
theorem dJ3_checkIndex_8e157_5 : decode cJ3_checkIndex_8e157 5 = .ok (.iload_n 1, 1) := by decide +kernel
theorem dJ3_checkIndex_8e157_6 : decode cJ3_checkIndex_8e157 6 = .ok (.if_icmp .lt 10, 3) := by decide +kernel
theorem dJ3_checkIndex_8e157_9 : decode cJ3_checkIndex_8e157 9 = .ok (.aload_n 2, 1) := by decide +kernel
theorem dJ3_checkIndex_8e157_10 : decode cJ3_checkIndex_8e157 10 = .ok (.iload_n 0, 1) := by decide +kernel
theorem dJ3_checkIndex_8e157_11 : decode cJ3_checkIndex_8e157 11 = .ok (.iload_n 1, 1) := by decide +kernel
theorem dJ3_checkIndex_8e157_12 : decode cJ3_checkIndex_8e157 12 = .ok (.invokestatic 95, 3) := by decide +kernel
theorem dJ3_checkIndex_8e157_16 : decode cJ3_checkIndex_8e157 16 = .ok (.iload_n 0, 1) := by decide +kernel
theorem dJ3_checkIndex_8e157_17 : decode cJ3_checkIndex_8e157 17 = .ok (.ireturn, 1) := by decide +kernel
def rmJ3_checkIndex_8e157 : Room := { frames := 0, cells := 0, slots := 0, locals := 0 }
def fJ3_checkIndex_8e157  (xp0 : Int32) (xp1 : Int32) (h0 : PH) : Option (Int32 × PH) :=
    if xp0 < 0 then (none) else
    if xp0 < xp1 then (some (xp0, h0)) else
    none
set_option maxHeartbeats 4000000 in
set_option maxRecDepth 100000 in
theorem vfJ3_checkIndex_8e157 {p : Program} {l : Launch} {e : Env} {s : State} {m : MethodId} {args : Array Value} {below : List Frame} {meth : Method} {c : Code} {G : GX} (C : Cx p s m args meth c G cJ3_checkIndex_8e157 3 RJ3) (hr : meth.sig.returnType = (some .int)) (xp0 : Int32) (xp1 : Int32) (qp2 : Option Nat) (h0 : PH) : J p l e rmJ3_checkIndex_8e157 s m args below meth c G 3 (qM below args s rvI G 0 0) 0 0 h0 0 [(0, .int xp0), (1, .int xp1), (2, va_rf qp2)] [] (fJ3_checkIndex_8e157  xp0 xp1 h0) := by
  unfold fJ3_checkIndex_8e157
  refine J_iload_n (pc := 0) C dJ3_checkIndex_8e157_0 rfl 0 rfl ?_
  refine J_if_lt (pc := 1) (tgt := 9) C dJ3_checkIndex_8e157_1 (by decide) ?_ ?_
  · refine J_aload_nQ (pc := 9) (x := qp2) C dJ3_checkIndex_8e157_9 rfl 2 rfl ?_
    refine J_iload_n (pc := 10) C dJ3_checkIndex_8e157_10 rfl 0 rfl ?_
    refine J_iload_n (pc := 11) C dJ3_checkIndex_8e157_11 rfl 1 rfl ?_
    exact J_none C
  · refine J_iload_n (pc := 4) C dJ3_checkIndex_8e157_4 rfl 0 rfl ?_
    refine J_iload_n (pc := 5) C dJ3_checkIndex_8e157_5 rfl 1 rfl ?_
    refine J_icmp_lt (pc := 6) (tgt := 16) C dJ3_checkIndex_8e157_6 (by decide) ?_ ?_
    · refine J_iload_n (pc := 16) C dJ3_checkIndex_8e157_16 rfl 0 rfl ?_
      exact J_iret (pc := 17) C hr dJ3_checkIndex_8e157_17
    · refine J_aload_nQ (pc := 9) (x := qp2) C dJ3_checkIndex_8e157_9 rfl 2 rfl ?_
      refine J_iload_n (pc := 10) C dJ3_checkIndex_8e157_10 rfl 0 rfl ?_
      refine J_iload_n (pc := 11) C dJ3_checkIndex_8e157_11 rfl 1 rfl ?_
      exact J_none C
theorem mJ3_checkIndex_8e157 {l : Launch} {G : GX} (xp0 : Int32) (xp1 : Int32) (qp2 : Option Nat) (h0 : PH) : ∀ z, fJ3_checkIndex_8e157 xp0 xp1 h0 = some z → MC l G yJ3_checkIndex_8e157 cJ3_checkIndex_8e157 3 (some .int) rmJ3_checkIndex_8e157 [.int xp0, .int xp1, va_rf qp2] h0 (rvI z.1) z.2 :=
  Met_J (own := RJ3) (by decide) rfl (by cases qp2 <;> exact Nat.le_of_ble_eq_true rfl) (fun p e s m args below meth c C hr hn => vfJ3_checkIndex_8e157 C hr xp0 xp1 qp2 h0)

theorem dJ0_checkIndex_df160_0 : decode cJ0_checkIndex_df160 0 = .ok (.iload_n 0, 1) := by decide +kernel
theorem dJ0_checkIndex_df160_1 : decode cJ0_checkIndex_df160 1 = .ok (.iload_n 1, 1) := by decide +kernel
theorem dJ0_checkIndex_df160_2 : decode cJ0_checkIndex_df160 2 = .ok (.getstatic 1053, 3) := by decide +kernel
theorem dJ0_checkIndex_df160_5 : decode cJ0_checkIndex_df160 5 = .ok (.invokestatic 1059, 3) := by decide +kernel
theorem dJ0_checkIndex_df160_8 : decode cJ0_checkIndex_df160 8 = .ok (.pop, 1) := by decide +kernel
theorem dJ0_checkIndex_df160_9 : decode cJ0_checkIndex_df160 9 = .ok (.return_, 1) := by decide +kernel
def rmJ0_checkIndex_df160 : Room := { frames := 1, cells := 0, slots := 0, locals := 22 }
def fJ0_checkIndex_df160  (xp0 : Int32) (xp1 : Int32) (h0 : PH) : Option (Unit × PH) :=
    bn2 (fJ3_checkIndex_8e157 xp0 xp1 h0) fun x3 h2 =>
    some ((), h2)
set_option maxHeartbeats 4000000 in
set_option maxRecDepth 100000 in
theorem vfJ0_checkIndex_df160 {p : Program} {l : Launch} {e : Env} {s : State} {m : MethodId} {args : Array Value} {below : List Frame} {meth : Method} {c : Code} {G : GX} (C : Cx p s m args meth c G cJ0_checkIndex_df160 2 RJ0) (hr : meth.sig.returnType = none) (xp0 : Int32) (xp1 : Int32) (h0 : PH) : J p l e rmJ0_checkIndex_df160 s m args below meth c G 2 (qM below args s rvU G 0 0) 0 0 h0 0 [(0, .int xp0), (1, .int xp1)] [] (fJ0_checkIndex_df160  xp0 xp1 h0) := by
  unfold fJ0_checkIndex_df160
  refine J_iload_n (pc := 0) C dJ0_checkIndex_df160_0 rfl 0 rfl ?_
  refine J_iload_n (pc := 1) C dJ0_checkIndex_df160_1 rfl 1 rfl ?_
  refine J_gsQ (pc := 2) C dJ0_checkIndex_df160_2 (fun q1 => ?_)
  refine J_callSI (pc := 5) (As := [.int xp0, .int xp1, va_rf q1]) (rest := []) C (fun z hz => mJ3_checkIndex_8e157 xp0 xp1 q1 h0 z hz) mwJ3_checkIndex_8e157 mlJ0_1059 stJ3_checkIndex_8e157 rfl dJ0_checkIndex_df160_5 (by decide) rfl (Nat.le_of_ble_eq_true rfl) (by decide) (fun x3 h2 => ?_)
  refine J_pop (pc := 8) C dJ0_checkIndex_df160_8 rfl ?_
  exact J_vret (pc := 9) C hr dJ0_checkIndex_df160_9
theorem mJ0_checkIndex_df160 {l : Launch} {G : GX} (xp0 : Int32) (xp1 : Int32) (h0 : PH) : ∀ z, fJ0_checkIndex_df160 xp0 xp1 h0 = some z → MC l G yJ0_checkIndex_df160 cJ0_checkIndex_df160 2 none rmJ0_checkIndex_df160 [.int xp0, .int xp1] h0 (rvU z.1) z.2 :=
  Met_J (own := RJ0) (by decide) rfl (Nat.le_of_ble_eq_true rfl) (fun p e s m args below meth c C hr hn => vfJ0_checkIndex_df160 C hr xp0 xp1 h0)

theorem dJ1_charAt_3b067_0 : decode cJ1_charAt_3b067 0 = .ok (.iload_n 1, 1) := by decide +kernel
theorem dJ1_charAt_3b067_1 : decode cJ1_charAt_3b067 1 = .ok (.aload_n 0, 1) := by decide +kernel
theorem dJ1_charAt_3b067_2 : decode cJ1_charAt_3b067 2 = .ok (.arraylength, 1) := by decide +kernel
theorem dJ1_charAt_3b067_3 : decode cJ1_charAt_3b067 3 = .ok (.invokestatic 9, 3) := by decide +kernel
theorem dJ1_charAt_3b067_6 : decode cJ1_charAt_3b067 6 = .ok (.aload_n 0, 1) := by decide +kernel
theorem dJ1_charAt_3b067_7 : decode cJ1_charAt_3b067 7 = .ok (.iload_n 1, 1) := by decide +kernel
theorem dJ1_charAt_3b067_8 : decode cJ1_charAt_3b067 8 = .ok (.baload, 1) := by decide +kernel
theorem dJ1_charAt_3b067_9 : decode cJ1_charAt_3b067 9 = .ok (.sipush 255, 3) := by decide +kernel
theorem dJ1_charAt_3b067_12 : decode cJ1_charAt_3b067 12 = .ok (.iand, 1) := by decide +kernel
theorem dJ1_charAt_3b067_13 : decode cJ1_charAt_3b067 13 = .ok (.i2c, 1) := by decide +kernel
theorem dJ1_charAt_3b067_14 : decode cJ1_charAt_3b067 14 = .ok (.ireturn, 1) := by decide +kernel
def rmJ1_charAt_3b067 : Room := { frames := 2, cells := 0, slots := 0, locals := 43 }
def fJ1_charAt_3b067  (wp0 : Nat) (xp1 : Int32) (h0 : PH) : Option (Int32 × PH) :=
    bn (schk wp0) fun _ =>
    bn2 (fJ0_checkIndex_df160 xp1 (slenI wp0) h0) fun _ h1 =>
    bn (sbyt wp0 xp1) fun x2 =>
    some (((x2 &&& (255 : Int32)).toUInt32 % 65536).toInt32, h1)
set_option maxHeartbeats 4000000 in
set_option maxRecDepth 100000 in
theorem vfJ1_charAt_3b067 {p : Program} {l : Launch} {e : Env} {s : State} {m : MethodId} {args : Array Value} {below : List Frame} {meth : Method} {c : Code} {G : GX} (C : Cx p s m args meth c G cJ1_charAt_3b067 2 RJ1) (hr : meth.sig.returnType = (some .char)) (wp0 : Nat) (xp1 : Int32) (h0 : PH) : J p l e rmJ1_charAt_3b067 s m args below meth c G 2 (qM below args s rvI G 0 0) 0 0 h0 0 [(0, .ref (G.2.2.2.2 wp0)), (1, .int xp1)] [] (fJ1_charAt_3b067  wp0 xp1 h0) := by
  unfold fJ1_charAt_3b067
  refine J_iload_n (pc := 0) C dJ1_charAt_3b067_0 rfl 1 rfl ?_
  refine J_aload_n (pc := 1) C dJ1_charAt_3b067_1 rfl 0 rfl ?_
  refine J_salen (pc := 2) C dJ1_charAt_3b067_2 ?_
  refine J_callSU (pc := 3) (As := [.int xp1, .int (slenI wp0)]) (rest := []) C (fun z hz => mJ0_checkIndex_df160 xp1 (slenI wp0) h0 z hz) mwJ0_checkIndex_df160 mlJ1_9 stJ0_checkIndex_df160 rfl dJ1_charAt_3b067_3 (by decide) rfl (Nat.le_of_ble_eq_true rfl) (by decide) (fun _ h1 => ?_)
  refine J_aload_n (pc := 6) C dJ1_charAt_3b067_6 rfl 0 rfl ?_
  refine J_iload_n (pc := 7) C dJ1_charAt_3b067_7 rfl 1 rfl ?_
  refine J_sbald (pc := 8) C dJ1_charAt_3b067_8 (fun x2 => ?_)
  refine J_sipush (pc := 9) (v := 255) C dJ1_charAt_3b067_9 (by decide) ?_
  refine J_iand (pc := 12) C dJ1_charAt_3b067_12 ?_
  refine J_i2c (pc := 13) C dJ1_charAt_3b067_13 ?_
  exact J_zret (pc := 14) C hr (pk_nc _) dJ1_charAt_3b067_14
theorem mJ1_charAt_3b067 {l : Launch} {G : GX} (wp0 : Nat) (xp1 : Int32) (h0 : PH) : ∀ z, fJ1_charAt_3b067 wp0 xp1 h0 = some z → MC l G yJ1_charAt_3b067 cJ1_charAt_3b067 2 (some .char) rmJ1_charAt_3b067 [.ref (G.2.2.2.2 wp0), .int xp1] h0 (rvI z.1) z.2 :=
  Met_J (own := RJ1) (by decide) rfl (Nat.le_of_ble_eq_true rfl) (fun p e s m args below meth c C hr hn => vfJ1_charAt_3b067 C hr wp0 xp1 h0)

