theorem dX10_readColour_0 : decode cX10_readColour 0 = .ok (.aload_n 0, 1) := by decide +kernel
theorem dX10_readColour_1 : decode cX10_readColour 1 = .ok (.getfield 145, 3) := by decide +kernel
theorem dX10_readColour_4 : decode cX10_readColour 4 = .ok (.istore_n 1, 1) := by decide +kernel
theorem dX10_readColour_5 : decode cX10_readColour 5 = .ok (.aload_n 0, 1) := by decide +kernel
theorem dX10_readColour_6 : decode cX10_readColour 6 = .ok (.getfield 142, 3) := by decide +kernel
theorem dX10_readColour_9 : decode cX10_readColour 9 = .ok (.aload_n 0, 1) := by decide +kernel
theorem dX10_readColour_10 : decode cX10_readColour 10 = .ok (.getfield 145, 3) := by decide +kernel
theorem dX10_readColour_13 : decode cX10_readColour 13 = .ok (.isub, 1) := by decide +kernel
theorem dX10_readColour_14 : decode cX10_readColour 14 = .ok (.istore_n 2, 1) := by decide +kernel
theorem dX10_readColour_15 : decode cX10_readColour 15 = .ok (.aload_n 0, 1) := by decide +kernel
theorem dX10_readColour_16 : decode cX10_readColour 16 = .ok (.aload_n 0, 1) := by decide +kernel
theorem dX10_readColour_17 : decode cX10_readColour 17 = .ok (.getfield 158, 3) := by decide +kernel
theorem dX10_readColour_20 : decode cX10_readColour 20 = .ok (.iconst 1, 1) := by decide +kernel
theorem dX10_readColour_21 : decode cX10_readColour 21 = .ok (.if_icmp .ne 23, 3) := by decide +kernel
theorem dX10_readColour_24 : decode cX10_readColour 24 = .ok (.aload_n 0, 1) := by decide +kernel
theorem dX10_readColour_25 : decode cX10_readColour 25 = .ok (.getfield 180, 3) := by decide +kernel
theorem dX10_readColour_28 : decode cX10_readColour 28 = .ok (.bipush 10, 2) := by decide +kernel
theorem dX10_readColour_30 : decode cX10_readColour 30 = .ok (.if_icmp .ge 14, 3) := by decide +kernel
theorem dX10_readColour_33 : decode cX10_readColour 33 = .ok (.aload_n 0, 1) := by decide +kernel
theorem dX10_readColour_34 : decode cX10_readColour 34 = .ok (.invokevirtual 194, 3) := by decide +kernel
theorem dX10_readColour_37 : decode cX10_readColour 37 = .ok (.ifCond .ne 7, 3) := by decide +kernel
theorem dX10_readColour_40 : decode cX10_readColour 40 = .ok (.iconst 1, 1) := by decide +kernel
theorem dX10_readColour_41 : decode cX10_readColour 41 = .ok (.goto 4, 3) := by decide +kernel
theorem dX10_readColour_44 : decode cX10_readColour 44 = .ok (.iconst 0, 1) := by decide +kernel
theorem dX10_readColour_45 : decode cX10_readColour 45 = .ok (.invokevirtual 176, 3) := by decide +kernel
theorem dX10_readColour_48 : decode cX10_readColour 48 = .ok (.aload_n 0, 1) := by decide +kernel
theorem dX10_readColour_49 : decode cX10_readColour 49 = .ok (.aload_n 0, 1) := by decide +kernel
theorem dX10_readColour_50 : decode cX10_readColour 50 = .ok (.bipush 58, 2) := by decide +kernel
theorem dX10_readColour_52 : decode cX10_readColour 52 = .ok (.invokevirtual 198, 3) := by decide +kernel
theorem dX10_readColour_55 : decode cX10_readColour 55 = .ok (.invokevirtual 176, 3) := by decide +kernel
theorem dX10_readColour_58 : decode cX10_readColour 58 = .ok (.aload_n 0, 1) := by decide +kernel
theorem dX10_readColour_59 : decode cX10_readColour 59 = .ok (.getfield 169, 3) := by decide +kernel
theorem dX10_readColour_62 : decode cX10_readColour 62 = .ok (.ifCond .eq 4, 3) := by decide +kernel
theorem dX10_readColour_65 : decode cX10_readColour 65 = .ok (.return_, 1) := by decide +kernel
theorem dX10_readColour_66 : decode cX10_readColour 66 = .ok (.aload_n 0, 1) := by decide +kernel
theorem dX10_readColour_67 : decode cX10_readColour 67 = .ok (.getfield 32, 3) := by decide +kernel
theorem dX10_readColour_70 : decode cX10_readColour 70 = .ok (.aload_n 0, 1) := by decide +kernel
theorem dX10_readColour_71 : decode cX10_readColour 71 = .ok (.getfield 180, 3) := by decide +kernel
theorem dX10_readColour_74 : decode cX10_readColour 74 = .ok (.aload_n 0, 1) := by decide +kernel
theorem dX10_readColour_75 : decode cX10_readColour 75 = .ok (.getfield 187, 3) := by decide +kernel
theorem dX10_readColour_78 : decode cX10_readColour 78 = .ok (.iastore, 1) := by decide +kernel
theorem dX10_readColour_79 : decode cX10_readColour 79 = .ok (.aload_n 0, 1) := by decide +kernel
theorem dX10_readColour_80 : decode cX10_readColour 80 = .ok (.invokevirtual 201, 3) := by decide +kernel
theorem dX10_readColour_83 : decode cX10_readColour 83 = .ok (.aload_n 0, 1) := by decide +kernel
theorem dX10_readColour_84 : decode cX10_readColour 84 = .ok (.getfield 169, 3) := by decide +kernel
theorem dX10_readColour_87 : decode cX10_readColour 87 = .ok (.ifCond .ne 23, 3) := by decide +kernel
theorem dX10_readColour_90 : decode cX10_readColour 90 = .ok (.aload_n 0, 1) := by decide +kernel
theorem dX10_readColour_91 : decode cX10_readColour 91 = .ok (.bipush 44, 2) := by decide +kernel
theorem dX10_readColour_93 : decode cX10_readColour 93 = .ok (.invokevirtual 198, 3) := by decide +kernel
theorem dX10_readColour_96 : decode cX10_readColour 96 = .ok (.ifCond .eq 14, 3) := by decide +kernel
theorem dX10_readColour_99 : decode cX10_readColour 99 = .ok (.aload_n 0, 1) := by decide +kernel
theorem dX10_readColour_100 : decode cX10_readColour 100 = .ok (.invokevirtual 173, 3) := by decide +kernel
theorem dX10_readColour_103 : decode cX10_readColour 103 = .ok (.aload_n 0, 1) := by decide +kernel
theorem dX10_readColour_104 : decode cX10_readColour 104 = .ok (.invokevirtual 201, 3) := by decide +kernel
theorem dX10_readColour_107 : decode cX10_readColour 107 = .ok (.goto (-24), 3) := by decide +kernel
theorem dX10_readColour_110 : decode cX10_readColour 110 = .ok (.aload_n 0, 1) := by decide +kernel
theorem dX10_readColour_111 : decode cX10_readColour 111 = .ok (.getfield 169, 3) := by decide +kernel
theorem dX10_readColour_114 : decode cX10_readColour 114 = .ok (.ifCond .eq 4, 3) := by decide +kernel
theorem dX10_readColour_117 : decode cX10_readColour 117 = .ok (.return_, 1) := by decide +kernel
theorem dX10_readColour_118 : decode cX10_readColour 118 = .ok (.aload_n 0, 1) := by decide +kernel
theorem dX10_readColour_119 : decode cX10_readColour 119 = .ok (.getfield 38, 3) := by decide +kernel
theorem dX10_readColour_122 : decode cX10_readColour 122 = .ok (.aload_n 0, 1) := by decide +kernel
theorem dX10_readColour_123 : decode cX10_readColour 123 = .ok (.getfield 180, 3) := by decide +kernel
theorem dX10_readColour_126 : decode cX10_readColour 126 = .ok (.iload_n 1, 1) := by decide +kernel
theorem dX10_readColour_127 : decode cX10_readColour 127 = .ok (.iastore, 1) := by decide +kernel
theorem dX10_readColour_128 : decode cX10_readColour 128 = .ok (.aload_n 0, 1) := by decide +kernel
theorem dX10_readColour_129 : decode cX10_readColour 129 = .ok (.getfield 41, 3) := by decide +kernel
theorem dX10_readColour_132 : decode cX10_readColour 132 = .ok (.aload_n 0, 1) := by decide +kernel
theorem dX10_readColour_133 : decode cX10_readColour 133 = .ok (.getfield 180, 3) := by decide +kernel
theorem dX10_readColour_136 : decode cX10_readColour 136 = .ok (.iload_n 2, 1) := by decide +kernel
theorem dX10_readColour_137 : decode cX10_readColour 137 = .ok (.iastore, 1) := by decide +kernel
theorem dX10_readColour_138 : decode cX10_readColour 138 = .ok (.aload_n 0, 1) := by decide +kernel
theorem dX10_readColour_139 : decode cX10_readColour 139 = .ok (.dup, 1) := by decide +kernel
theorem dX10_readColour_140 : decode cX10_readColour 140 = .ok (.getfield 180, 3) := by decide +kernel
theorem dX10_readColour_143 : decode cX10_readColour 143 = .ok (.iconst 1, 1) := by decide +kernel
theorem dX10_readColour_144 : decode cX10_readColour 144 = .ok (.iadd, 1) := by decide +kernel
theorem dX10_readColour_145 : decode cX10_readColour 145 = .ok (.putfield 180, 3) := by decide +kernel
theorem dX10_readColour_148 : decode cX10_readColour 148 = .ok (.aload_n 0, 1) := by decide +kernel
theorem dX10_readColour_149 : decode cX10_readColour 149 = .ok (.getfield 32, 3) := by decide +kernel
theorem dX10_readColour_152 : decode cX10_readColour 152 = .ok (.aload_n 0, 1) := by decide +kernel
theorem dX10_readColour_153 : decode cX10_readColour 153 = .ok (.getfield 180, 3) := by decide +kernel
theorem dX10_readColour_156 : decode cX10_readColour 156 = .ok (.aload_n 0, 1) := by decide +kernel
theorem dX10_readColour_157 : decode cX10_readColour 157 = .ok (.getfield 187, 3) := by decide +kernel
theorem dX10_readColour_160 : decode cX10_readColour 160 = .ok (.iastore, 1) := by decide +kernel
theorem dX10_readColour_161 : decode cX10_readColour 161 = .ok (.return_, 1) := by decide +kernel
def rmX10_readColour : Room := { frames := 5, cells := 0, slots := 0, locals := 107 }
def fX10_readColour_110  (al0 : Nat) (xl1 : Int32) (xl2 : Int32) (h0 : PH) : Option (Unit × PH) :=
    bn (rdI 10 26 al0 h0) fun x17 =>
    if x17 = 0 then (bn (rdR 10 17 al0 h0) fun a18 =>
    bn (rdI 10 13 al0 h0) fun x19 =>
    bn (astI a18 x19 xl1 h0) fun h20 =>
    bn (rdR 10 18 al0 h20) fun a21 =>
    bn (rdI 10 13 al0 h20) fun x22 =>
    bn (astI a21 x22 xl2 h20) fun h23 =>
    bn (rdI 10 13 al0 h23) fun x24 =>
    bn (wr 10 13 (.int (x24 + (1 : Int32))) al0 h23) fun h25 =>
    bn (rdR 10 15 al0 h25) fun a26 =>
    bn (rdI 10 13 al0 h25) fun x27 =>
    bn (rdI 10 14 al0 h25) fun x28 =>
    bn (astI a26 x27 x28 h25) fun h29 =>
    some ((), h29)) else
    some ((), h0)
set_option maxHeartbeats 4000000 in
set_option maxRecDepth 100000 in
theorem vfX10_readColour_110 {p : Program} {l : Launch} {e : Env} {s : State} {m : MethodId} {args : Array Value} {below : List Frame} {meth : Method} {c : Code} {G : GX} (C : Cx p s m args meth c G cX10_readColour 3 RX10) (hr : meth.sig.returnType = none) (al0 : Nat) (xl1 : Int32) (xl2 : Int32) (h0 : PH) : J p l e rmX10_readColour s m args below meth c G 3 (qM below args s rvU G 0 0) 0 0 h0 110 [(0, .ref al0), (1, .int xl1), (2, .int xl2)] [] (fX10_readColour_110  al0 xl1 xl2 h0) := by
  unfold fX10_readColour_110
  refine J_aload_n (pc := 110) C dX10_readColour_110 rfl 0 rfl ?_
  refine J_getI (pc := 111) C flX10_169 dX10_readColour_111 (fun x17 => ?_)
  refine J_if_eq (pc := 114) (tgt := 118) C dX10_readColour_114 (by decide) ?_ ?_
  · refine J_aload_n (pc := 118) C dX10_readColour_118 rfl 0 rfl ?_
    refine J_getR (pc := 119) C flX10_38 dX10_readColour_119 (fun a18 => ?_)
    refine J_aload_n (pc := 122) C dX10_readColour_122 rfl 0 rfl ?_
    refine J_getI (pc := 123) C flX10_180 dX10_readColour_123 (fun x19 => ?_)
    refine J_iload_n (pc := 126) C dX10_readColour_126 rfl 1 rfl ?_
    refine J_iast (pc := 127) C dX10_readColour_127 (fun h20 => ?_)
    refine J_aload_n (pc := 128) C dX10_readColour_128 rfl 0 rfl ?_
    refine J_getR (pc := 129) C flX10_41 dX10_readColour_129 (fun a21 => ?_)
    refine J_aload_n (pc := 132) C dX10_readColour_132 rfl 0 rfl ?_
    refine J_getI (pc := 133) C flX10_180 dX10_readColour_133 (fun x22 => ?_)
    refine J_iload_n (pc := 136) C dX10_readColour_136 rfl 2 rfl ?_
    refine J_iast (pc := 137) C dX10_readColour_137 (fun h23 => ?_)
    refine J_aload_n (pc := 138) C dX10_readColour_138 rfl 0 rfl ?_
    refine J_dup (pc := 139) C dX10_readColour_139 rfl ?_
    refine J_getI (pc := 140) C flX10_180 dX10_readColour_140 (fun x24 => ?_)
    refine J_iconst (pc := 143) (v := 1) C dX10_readColour_143 (by decide) ?_
    refine J_iadd (pc := 144) C dX10_readColour_144 ?_
    refine J_put (pc := 145) C flX10_180 cl10 ft10_13 rfl rfl dX10_readColour_145 (fun h25 => ?_)
    refine J_aload_n (pc := 148) C dX10_readColour_148 rfl 0 rfl ?_
    refine J_getR (pc := 149) C flX10_32 dX10_readColour_149 (fun a26 => ?_)
    refine J_aload_n (pc := 152) C dX10_readColour_152 rfl 0 rfl ?_
    refine J_getI (pc := 153) C flX10_180 dX10_readColour_153 (fun x27 => ?_)
    refine J_aload_n (pc := 156) C dX10_readColour_156 rfl 0 rfl ?_
    refine J_getI (pc := 157) C flX10_187 dX10_readColour_157 (fun x28 => ?_)
    refine J_iast (pc := 160) C dX10_readColour_160 (fun h29 => ?_)
    exact J_vret (pc := 161) C hr dX10_readColour_161
  · exact J_vret (pc := 117) C hr dX10_readColour_117
def fX10_readColour_83  : Nat → Nat → Int32 → Int32 → PH → Option (Unit × PH)
  | 0, _, _, _, _ => none
  | n + 1, al0, xl1, xl2, h0 =>
    bn (rdI 10 26 al0 h0) fun x16 =>
    if x16 = 0 then (bn (chk 10 al0 h0) fun _ => bn2 (fX10_isSign al0 (44 : Int32) h0) fun x31 h30 =>
    if x31 = 0 then (fX10_readColour_110  al0 xl1 xl2 h30) else
    bn (chk 10 al0 h30) fun _ => bn2 (fX10_next al0 h30) fun _ h32 =>
    bn (chk 10 al0 h32) fun _ => bn2 (fX10_readTest al0 h32) fun _ h33 =>
    (fX10_readColour_83 n) al0 xl1 xl2 h33) else
    fX10_readColour_110  al0 xl1 xl2 h0
set_option maxHeartbeats 4000000 in
set_option maxRecDepth 100000 in
theorem vfX10_readColour_83 {p : Program} {l : Launch} {e : Env} {s : State} {m : MethodId} {args : Array Value} {below : List Frame} {meth : Method} {c : Code} {G : GX} (C : Cx p s m args meth c G cX10_readColour 3 RX10) (hr : meth.sig.returnType = none) : ∀ (n : Nat) (al0 : Nat) (xl1 : Int32) (xl2 : Int32) (h0 : PH), J p l e rmX10_readColour s m args below meth c G 3 (qM below args s rvU G 0 0) 0 0 h0 83 [(0, .ref al0), (1, .int xl1), (2, .int xl2)] [] (fX10_readColour_83  n al0 xl1 xl2 h0) := by
  intro n
  induction n with
  | zero => exact fun al0 xl1 xl2 h0 => J_none C
  | succ n ih =>
    intro al0 xl1 xl2 h0
    unfold fX10_readColour_83
    refine J_aload_n (pc := 83) C dX10_readColour_83 rfl 0 rfl ?_
    refine J_getI (pc := 84) C flX10_169 dX10_readColour_84 (fun x16 => ?_)
    refine J_if_ne (pc := 87) (tgt := 110) C dX10_readColour_87 (by decide) ?_ ?_
    · exact vfX10_readColour_110 C hr  al0 xl1 xl2 h0
    · refine J_aload_n (pc := 90) C dX10_readColour_90 rfl 0 rfl ?_
      refine J_bipush (pc := 91) (v := 44) C dX10_readColour_91 (by decide) ?_
      refine J_callVI (pc := 93) (As := [.int (44 : Int32)]) (rest := []) C (fun z hz => mX10_isSign al0 (44 : Int32) h0 z hz) mwX10_isSign csX10_isSign mlX10_198 inX10_isSign rfl dX10_readColour_93 (by decide) rfl (Nat.le_of_ble_eq_true rfl) (by decide) (fun x31 h30 => ?_)
      refine J_if_eq (pc := 96) (tgt := 110) C dX10_readColour_96 (by decide) ?_ ?_
      · exact vfX10_readColour_110 C hr  al0 xl1 xl2 h30
      · refine J_aload_n (pc := 99) C dX10_readColour_99 rfl 0 rfl ?_
        refine J_callVU (pc := 100) (As := []) (rest := []) C (fun z hz => mX10_next al0 h30 z hz) mwX10_next csX10_next mlX10_173 inX10_next rfl dX10_readColour_100 (by decide) rfl (Nat.le_of_ble_eq_true rfl) (by decide) (fun _ h32 => ?_)
        refine J_aload_n (pc := 103) C dX10_readColour_103 rfl 0 rfl ?_
        refine J_callVU (pc := 104) (As := []) (rest := []) C (fun z hz => mX10_readTest al0 h32 z hz) mwX10_readTest csX10_readTest mlX10_201 inX10_readTest rfl dX10_readColour_104 (by decide) rfl (Nat.le_of_ble_eq_true rfl) (by decide) (fun _ h33 => ?_)
        refine J_goto (pc := 107) (tgt := 83) C dX10_readColour_107 (by decide) ?_
        exact ih al0 xl1 xl2 h33
def fX10_readColour_45  (al0 : Nat) (xl1 : Int32) (xl2 : Int32) (xs0 : Int32) (as1 : Nat) (h0 : PH) : Option (Unit × PH) :=
    bn (chk 10 as1 h0) fun _ => bn2 (fX10_must as1 xs0 h0) fun _ h6 =>
    bn (chk 10 al0 h6) fun _ => bn2 (fX10_isSign al0 (58 : Int32) h6) fun x8 h7 =>
    bn (chk 10 al0 h7) fun _ => bn2 (fX10_must al0 x8 h7) fun _ h9 =>
    bn (rdI 10 26 al0 h9) fun x10 =>
    if x10 = 0 then (bn (rdR 10 15 al0 h9) fun a11 =>
    bn (rdI 10 13 al0 h9) fun x12 =>
    bn (rdI 10 14 al0 h9) fun x13 =>
    bn (astI a11 x12 x13 h9) fun h14 =>
    bn (chk 10 al0 h14) fun _ => bn2 (fX10_readTest al0 h14) fun _ h15 =>
    fX10_readColour_83  FU al0 xl1 xl2 h15) else
    some ((), h9)
set_option maxHeartbeats 4000000 in
set_option maxRecDepth 100000 in
theorem vfX10_readColour_45 {p : Program} {l : Launch} {e : Env} {s : State} {m : MethodId} {args : Array Value} {below : List Frame} {meth : Method} {c : Code} {G : GX} (C : Cx p s m args meth c G cX10_readColour 3 RX10) (hr : meth.sig.returnType = none) (al0 : Nat) (xl1 : Int32) (xl2 : Int32) (xs0 : Int32) (as1 : Nat) (h0 : PH) : J p l e rmX10_readColour s m args below meth c G 3 (qM below args s rvU G 0 0) 0 0 h0 45 [(0, .ref al0), (1, .int xl1), (2, .int xl2)] [.int xs0, .ref as1] (fX10_readColour_45  al0 xl1 xl2 xs0 as1 h0) := by
  unfold fX10_readColour_45
  refine J_callVU (pc := 45) (As := [.int xs0]) (rest := []) C (fun z hz => mX10_must as1 xs0 h0 z hz) mwX10_must csX10_must mlX10_176 inX10_must rfl dX10_readColour_45 (by decide) rfl (Nat.le_of_ble_eq_true rfl) (by decide) (fun _ h6 => ?_)
  refine J_aload_n (pc := 48) C dX10_readColour_48 rfl 0 rfl ?_
  refine J_aload_n (pc := 49) C dX10_readColour_49 rfl 0 rfl ?_
  refine J_bipush (pc := 50) (v := 58) C dX10_readColour_50 (by decide) ?_
  refine J_callVI (pc := 52) (As := [.int (58 : Int32)]) (rest := [.ref al0]) C (fun z hz => mX10_isSign al0 (58 : Int32) h6 z hz) mwX10_isSign csX10_isSign mlX10_198 inX10_isSign rfl dX10_readColour_52 (by decide) rfl (Nat.le_of_ble_eq_true rfl) (by decide) (fun x8 h7 => ?_)
  refine J_callVU (pc := 55) (As := [.int x8]) (rest := []) C (fun z hz => mX10_must al0 x8 h7 z hz) mwX10_must csX10_must mlX10_176 inX10_must rfl dX10_readColour_55 (by decide) rfl (Nat.le_of_ble_eq_true rfl) (by decide) (fun _ h9 => ?_)
  refine J_aload_n (pc := 58) C dX10_readColour_58 rfl 0 rfl ?_
  refine J_getI (pc := 59) C flX10_169 dX10_readColour_59 (fun x10 => ?_)
  refine J_if_eq (pc := 62) (tgt := 66) C dX10_readColour_62 (by decide) ?_ ?_
  · refine J_aload_n (pc := 66) C dX10_readColour_66 rfl 0 rfl ?_
    refine J_getR (pc := 67) C flX10_32 dX10_readColour_67 (fun a11 => ?_)
    refine J_aload_n (pc := 70) C dX10_readColour_70 rfl 0 rfl ?_
    refine J_getI (pc := 71) C flX10_180 dX10_readColour_71 (fun x12 => ?_)
    refine J_aload_n (pc := 74) C dX10_readColour_74 rfl 0 rfl ?_
    refine J_getI (pc := 75) C flX10_187 dX10_readColour_75 (fun x13 => ?_)
    refine J_iast (pc := 78) C dX10_readColour_78 (fun h14 => ?_)
    refine J_aload_n (pc := 79) C dX10_readColour_79 rfl 0 rfl ?_
    refine J_callVU (pc := 80) (As := []) (rest := []) C (fun z hz => mX10_readTest al0 h14 z hz) mwX10_readTest csX10_readTest mlX10_201 inX10_readTest rfl dX10_readColour_80 (by decide) rfl (Nat.le_of_ble_eq_true rfl) (by decide) (fun _ h15 => ?_)
    exact vfX10_readColour_83 C hr  FU al0 xl1 xl2 h15
  · exact J_vret (pc := 65) C hr dX10_readColour_65
def fX10_readColour_44  (al0 : Nat) (xl1 : Int32) (xl2 : Int32) (as0 : Nat) (h0 : PH) : Option (Unit × PH) :=
    fX10_readColour_45  al0 xl1 xl2 (0 : Int32) as0 h0
set_option maxHeartbeats 4000000 in
set_option maxRecDepth 100000 in
theorem vfX10_readColour_44 {p : Program} {l : Launch} {e : Env} {s : State} {m : MethodId} {args : Array Value} {below : List Frame} {meth : Method} {c : Code} {G : GX} (C : Cx p s m args meth c G cX10_readColour 3 RX10) (hr : meth.sig.returnType = none) (al0 : Nat) (xl1 : Int32) (xl2 : Int32) (as0 : Nat) (h0 : PH) : J p l e rmX10_readColour s m args below meth c G 3 (qM below args s rvU G 0 0) 0 0 h0 44 [(0, .ref al0), (1, .int xl1), (2, .int xl2)] [.ref as0] (fX10_readColour_44  al0 xl1 xl2 as0 h0) := by
  unfold fX10_readColour_44
  refine J_iconst (pc := 44) (v := 0) C dX10_readColour_44 (by decide) ?_
  exact vfX10_readColour_45 C hr  al0 xl1 xl2 (0 : Int32) as0 h0
def fX10_readColour  (a0 : Nat) (h0 : PH) : Option (Unit × PH) :=
    bn (rdI 10 21 a0 h0) fun x1 =>
    bn (rdI 10 22 a0 h0) fun x2 =>
    bn (rdI 10 21 a0 h0) fun x3 =>
    nm (x2 - x3) fun x4 =>
    bn (rdI 10 23 a0 h0) fun x5 =>
    if x5 = (1 : Int32) then (bn (rdI 10 13 a0 h0) fun x34 =>
    if (10 : Int32) ≤ x34 then (fX10_readColour_44  a0 x1 x4 a0 h0) else
    bn (chk 10 a0 h0) fun _ => bn2 (fX10_isNamed a0 h0) fun x36 h35 =>
    if x36 = 0 then (fX10_readColour_45  a0 x1 x4 (1 : Int32) a0 h35) else
    fX10_readColour_44  a0 x1 x4 a0 h35) else
    fX10_readColour_44  a0 x1 x4 a0 h0
set_option maxHeartbeats 4000000 in
set_option maxRecDepth 100000 in
theorem vfX10_readColour {p : Program} {l : Launch} {e : Env} {s : State} {m : MethodId} {args : Array Value} {below : List Frame} {meth : Method} {c : Code} {G : GX} (C : Cx p s m args meth c G cX10_readColour 3 RX10) (hr : meth.sig.returnType = none) (a0 : Nat) (h0 : PH) : J p l e rmX10_readColour s m args below meth c G 3 (qM below args s rvU G 0 0) 0 0 h0 0 [(0, .ref a0)] [] (fX10_readColour  a0 h0) := by
  unfold fX10_readColour
  refine J_aload_n (pc := 0) C dX10_readColour_0 rfl 0 rfl ?_
  refine J_getI (pc := 1) C flX10_145 dX10_readColour_1 (fun x1 => ?_)
  refine J_istore_n (pc := 4) (lv1 := [(1, .int x1), (0, .ref a0)]) C dX10_readColour_4 rfl (by decide) rfl ?_
  refine J_aload_n (pc := 5) C dX10_readColour_5 rfl 1 rfl ?_
  refine J_getI (pc := 6) C flX10_142 dX10_readColour_6 (fun x2 => ?_)
  refine J_aload_n (pc := 9) C dX10_readColour_9 rfl 1 rfl ?_
  refine J_getI (pc := 10) C flX10_145 dX10_readColour_10 (fun x3 => ?_)
  refine J_isub (pc := 13) C dX10_readColour_13 ?_
  refine J_nm (fv := .int) (fun x4 => ?_)
  refine J_istore_n (pc := 14) (lv1 := [(2, .int x4), (1, .int x1), (0, .ref a0)]) C dX10_readColour_14 rfl (by decide) rfl ?_
  refine J_aload_n (pc := 15) C dX10_readColour_15 rfl 2 rfl ?_
  refine J_aload_n (pc := 16) C dX10_readColour_16 rfl 2 rfl ?_
  refine J_getI (pc := 17) C flX10_158 dX10_readColour_17 (fun x5 => ?_)
  refine J_iconst (pc := 20) (v := 1) C dX10_readColour_20 (by decide) ?_
  refine J_icmp_ne (pc := 21) (tgt := 44) C dX10_readColour_21 (by decide) ?_ ?_
  · refine J_sub [2, 1, 0] rfl ?_
    exact vfX10_readColour_44 C hr  a0 x1 x4 a0 h0
  · refine J_aload_n (pc := 24) C dX10_readColour_24 rfl 2 rfl ?_
    refine J_getI (pc := 25) C flX10_180 dX10_readColour_25 (fun x34 => ?_)
    refine J_bipush (pc := 28) (v := 10) C dX10_readColour_28 (by decide) ?_
    refine J_icmp_ge (pc := 30) (tgt := 44) C dX10_readColour_30 (by decide) ?_ ?_
    · refine J_sub [2, 1, 0] rfl ?_
      exact vfX10_readColour_44 C hr  a0 x1 x4 a0 h0
    · refine J_aload_n (pc := 33) C dX10_readColour_33 rfl 2 rfl ?_
      refine J_callVI (pc := 34) (As := []) (rest := [.ref a0]) C (fun z hz => mX10_isNamed a0 h0 z hz) mwX10_isNamed csX10_isNamed mlX10_194 inX10_isNamed rfl dX10_readColour_34 (by decide) rfl (Nat.le_of_ble_eq_true rfl) (by decide) (fun x36 h35 => ?_)
      refine J_if_ne (pc := 37) (tgt := 44) C dX10_readColour_37 (by decide) ?_ ?_
      · refine J_sub [2, 1, 0] rfl ?_
        exact vfX10_readColour_44 C hr  a0 x1 x4 a0 h35
      · refine J_iconst (pc := 40) (v := 1) C dX10_readColour_40 (by decide) ?_
        refine J_goto (pc := 41) (tgt := 45) C dX10_readColour_41 (by decide) ?_
        refine J_sub [2, 1, 0] rfl ?_
        exact vfX10_readColour_45 C hr  a0 x1 x4 (1 : Int32) a0 h35
theorem mX10_readColour {l : Launch} {G : GX} (a0 : Nat) (h0 : PH) : ∀ z, fX10_readColour a0 h0 = some z → MC l G yX10_readColour cX10_readColour 3 none rmX10_readColour [.ref a0] h0 (rvU z.1) z.2 :=
  Met_J (own := RX10) (by decide) rfl (Nat.le_of_ble_eq_true rfl) (fun p e s m args below meth c C hr hn => vfX10_readColour C hr a0 h0)

theorem dX10_colours_0 : decode cX10_colours 0 = .ok (.aload_n 0, 1) := by decide +kernel
theorem dX10_colours_1 : decode cX10_colours 1 = .ok (.iconst 0, 1) := by decide +kernel
theorem dX10_colours_2 : decode cX10_colours 2 = .ok (.putfield 90, 3) := by decide +kernel
theorem dX10_colours_5 : decode cX10_colours 5 = .ok (.aload_n 0, 1) := by decide +kernel
theorem dX10_colours_6 : decode cX10_colours 6 = .ok (.iconst 0, 1) := by decide +kernel
theorem dX10_colours_7 : decode cX10_colours 7 = .ok (.putfield 142, 3) := by decide +kernel
theorem dX10_colours_10 : decode cX10_colours 10 = .ok (.aload_n 0, 1) := by decide +kernel
theorem dX10_colours_11 : decode cX10_colours 11 = .ok (.iconst 0, 1) := by decide +kernel
theorem dX10_colours_12 : decode cX10_colours 12 = .ok (.putfield 169, 3) := by decide +kernel
theorem dX10_colours_15 : decode cX10_colours 15 = .ok (.aload_n 0, 1) := by decide +kernel
theorem dX10_colours_16 : decode cX10_colours 16 = .ok (.iconst (-1), 1) := by decide +kernel
theorem dX10_colours_17 : decode cX10_colours 17 = .ok (.putfield 47, 3) := by decide +kernel
theorem dX10_colours_20 : decode cX10_colours 20 = .ok (.aload_n 0, 1) := by decide +kernel
theorem dX10_colours_21 : decode cX10_colours 21 = .ok (.iconst 0, 1) := by decide +kernel
theorem dX10_colours_22 : decode cX10_colours 22 = .ok (.putfield 180, 3) := by decide +kernel
theorem dX10_colours_25 : decode cX10_colours 25 = .ok (.aload_n 0, 1) := by decide +kernel
theorem dX10_colours_26 : decode cX10_colours 26 = .ok (.iconst 0, 1) := by decide +kernel
theorem dX10_colours_27 : decode cX10_colours 27 = .ok (.putfield 187, 3) := by decide +kernel
theorem dX10_colours_30 : decode cX10_colours 30 = .ok (.aload_n 0, 1) := by decide +kernel
theorem dX10_colours_31 : decode cX10_colours 31 = .ok (.getfield 32, 3) := by decide +kernel
theorem dX10_colours_34 : decode cX10_colours 34 = .ok (.iconst 0, 1) := by decide +kernel
theorem dX10_colours_35 : decode cX10_colours 35 = .ok (.iconst 0, 1) := by decide +kernel
theorem dX10_colours_36 : decode cX10_colours 36 = .ok (.iastore, 1) := by decide +kernel
theorem dX10_colours_37 : decode cX10_colours 37 = .ok (.aload_n 0, 1) := by decide +kernel
theorem dX10_colours_38 : decode cX10_colours 38 = .ok (.invokevirtual 173, 3) := by decide +kernel
theorem dX10_colours_41 : decode cX10_colours 41 = .ok (.aload_n 0, 1) := by decide +kernel
theorem dX10_colours_42 : decode cX10_colours 42 = .ok (.getfield 158, 3) := by decide +kernel
theorem dX10_colours_45 : decode cX10_colours 45 = .ok (.ifCond .eq 53, 3) := by decide +kernel
theorem dX10_colours_48 : decode cX10_colours 48 = .ok (.aload_n 0, 1) := by decide +kernel
theorem dX10_colours_49 : decode cX10_colours 49 = .ok (.invokevirtual 204, 3) := by decide +kernel
theorem dX10_colours_52 : decode cX10_colours 52 = .ok (.aload_n 0, 1) := by decide +kernel
theorem dX10_colours_53 : decode cX10_colours 53 = .ok (.getfield 169, 3) := by decide +kernel
theorem dX10_colours_56 : decode cX10_colours 56 = .ok (.ifCond .ne 23, 3) := by decide +kernel
theorem dX10_colours_59 : decode cX10_colours 59 = .ok (.aload_n 0, 1) := by decide +kernel
theorem dX10_colours_60 : decode cX10_colours 60 = .ok (.bipush 59, 2) := by decide +kernel
theorem dX10_colours_62 : decode cX10_colours 62 = .ok (.invokevirtual 198, 3) := by decide +kernel
theorem dX10_colours_65 : decode cX10_colours 65 = .ok (.ifCond .eq 14, 3) := by decide +kernel
theorem dX10_colours_68 : decode cX10_colours 68 = .ok (.aload_n 0, 1) := by decide +kernel
theorem dX10_colours_69 : decode cX10_colours 69 = .ok (.invokevirtual 173, 3) := by decide +kernel
theorem dX10_colours_72 : decode cX10_colours 72 = .ok (.aload_n 0, 1) := by decide +kernel
theorem dX10_colours_73 : decode cX10_colours 73 = .ok (.invokevirtual 204, 3) := by decide +kernel
theorem dX10_colours_76 : decode cX10_colours 76 = .ok (.goto (-24), 3) := by decide +kernel
theorem dX10_colours_79 : decode cX10_colours 79 = .ok (.aload_n 0, 1) := by decide +kernel
theorem dX10_colours_80 : decode cX10_colours 80 = .ok (.getfield 169, 3) := by decide +kernel
theorem dX10_colours_83 : decode cX10_colours 83 = .ok (.ifCond .ne 15, 3) := by decide +kernel
theorem dX10_colours_86 : decode cX10_colours 86 = .ok (.aload_n 0, 1) := by decide +kernel
theorem dX10_colours_87 : decode cX10_colours 87 = .ok (.getfield 158, 3) := by decide +kernel
theorem dX10_colours_90 : decode cX10_colours 90 = .ok (.ifCond .eq 8, 3) := by decide +kernel
theorem dX10_colours_93 : decode cX10_colours 93 = .ok (.aload_n 0, 1) := by decide +kernel
theorem dX10_colours_94 : decode cX10_colours 94 = .ok (.iconst 0, 1) := by decide +kernel
theorem dX10_colours_95 : decode cX10_colours 95 = .ok (.invokevirtual 176, 3) := by decide +kernel
theorem dX10_colours_98 : decode cX10_colours 98 = .ok (.aload_n 0, 1) := by decide +kernel
theorem dX10_colours_99 : decode cX10_colours 99 = .ok (.iconst 0, 1) := by decide +kernel
theorem dX10_colours_100 : decode cX10_colours 100 = .ok (.putfield 135, 3) := by decide +kernel
theorem dX10_colours_103 : decode cX10_colours 103 = .ok (.aload_n 0, 1) := by decide +kernel
theorem dX10_colours_104 : decode cX10_colours 104 = .ok (.getfield 169, 3) := by decide +kernel
theorem dX10_colours_107 : decode cX10_colours 107 = .ok (.ifCond .eq 10, 3) := by decide +kernel
theorem dX10_colours_110 : decode cX10_colours 110 = .ok (.aload_n 0, 1) := by decide +kernel
theorem dX10_colours_111 : decode cX10_colours 111 = .ok (.bipush (-6), 2) := by decide +kernel
theorem dX10_colours_113 : decode cX10_colours 113 = .ok (.invokevirtual 107, 3) := by decide +kernel
theorem dX10_colours_116 : decode cX10_colours 116 = .ok (.ireturn, 1) := by decide +kernel
theorem dX10_colours_117 : decode cX10_colours 117 = .ok (.aload_n 0, 1) := by decide +kernel
theorem dX10_colours_118 : decode cX10_colours 118 = .ok (.aload_n 0, 1) := by decide +kernel
theorem dX10_colours_119 : decode cX10_colours 119 = .ok (.getfield 180, 3) := by decide +kernel
theorem dX10_colours_122 : decode cX10_colours 122 = .ok (.putfield 207, 3) := by decide +kernel
theorem dX10_colours_125 : decode cX10_colours 125 = .ok (.aload_n 0, 1) := by decide +kernel
theorem dX10_colours_126 : decode cX10_colours 126 = .ok (.getfield 26, 3) := by decide +kernel
theorem dX10_colours_129 : decode cX10_colours 129 = .ok (.iconst 0, 1) := by decide +kernel
theorem dX10_colours_130 : decode cX10_colours 130 = .ok (.iconst 0, 1) := by decide +kernel
theorem dX10_colours_131 : decode cX10_colours 131 = .ok (.iastore, 1) := by decide +kernel
theorem dX10_colours_132 : decode cX10_colours 132 = .ok (.iconst 0, 1) := by decide +kernel
theorem dX10_colours_133 : decode cX10_colours 133 = .ok (.istore_n 1, 1) := by decide +kernel
theorem dX10_colours_134 : decode cX10_colours 134 = .ok (.iload_n 1, 1) := by decide +kernel
theorem dX10_colours_135 : decode cX10_colours 135 = .ok (.aload_n 0, 1) := by decide +kernel
theorem dX10_colours_136 : decode cX10_colours 136 = .ok (.getfield 180, 3) := by decide +kernel
theorem dX10_colours_139 : decode cX10_colours 139 = .ok (.if_icmp .ge 25, 3) := by decide +kernel
theorem dX10_colours_142 : decode cX10_colours 142 = .ok (.aload_n 0, 1) := by decide +kernel
theorem dX10_colours_143 : decode cX10_colours 143 = .ok (.getfield 26, 3) := by decide +kernel
theorem dX10_colours_146 : decode cX10_colours 146 = .ok (.iload_n 1, 1) := by decide +kernel
theorem dX10_colours_147 : decode cX10_colours 147 = .ok (.iconst 1, 1) := by decide +kernel
theorem dX10_colours_148 : decode cX10_colours 148 = .ok (.iadd, 1) := by decide +kernel
theorem dX10_colours_149 : decode cX10_colours 149 = .ok (.aload_n 0, 1) := by decide +kernel
theorem dX10_colours_150 : decode cX10_colours 150 = .ok (.getfield 32, 3) := by decide +kernel
theorem dX10_colours_153 : decode cX10_colours 153 = .ok (.iload_n 1, 1) := by decide +kernel
theorem dX10_colours_154 : decode cX10_colours 154 = .ok (.iconst 1, 1) := by decide +kernel
theorem dX10_colours_155 : decode cX10_colours 155 = .ok (.iadd, 1) := by decide +kernel
theorem dX10_colours_156 : decode cX10_colours 156 = .ok (.iaload, 1) := by decide +kernel
theorem dX10_colours_157 : decode cX10_colours 157 = .ok (.iastore, 1) := by decide +kernel
theorem dX10_colours_158 : decode cX10_colours 158 = .ok (.iinc 1 1, 3) := by decide +kernel
theorem dX10_colours_161 : decode cX10_colours 161 = .ok (.goto (-27), 3) := by decide +kernel
theorem dX10_colours_164 : decode cX10_colours 164 = .ok (.iconst 0, 1) := by decide +kernel
theorem dX10_colours_165 : decode cX10_colours 165 = .ok (.istore_n 1, 1) := by decide +kernel
theorem dX10_colours_166 : decode cX10_colours 166 = .ok (.iload_n 1, 1) := by decide +kernel
theorem dX10_colours_167 : decode cX10_colours 167 = .ok (.iconst 3, 1) := by decide +kernel
theorem dX10_colours_168 : decode cX10_colours 168 = .ok (.aload_n 0, 1) := by decide +kernel
theorem dX10_colours_169 : decode cX10_colours 169 = .ok (.getfield 187, 3) := by decide +kernel
theorem dX10_colours_172 : decode cX10_colours 172 = .ok (.imul, 1) := by decide +kernel
theorem dX10_colours_173 : decode cX10_colours 173 = .ok (.if_icmp .ge 21, 3) := by decide +kernel
theorem dX10_colours_176 : decode cX10_colours 176 = .ok (.aload_n 0, 1) := by decide +kernel
theorem dX10_colours_177 : decode cX10_colours 177 = .ok (.getfield 29, 3) := by decide +kernel
theorem dX10_colours_180 : decode cX10_colours 180 = .ok (.iload_n 1, 1) := by decide +kernel
theorem dX10_colours_181 : decode cX10_colours 181 = .ok (.aload_n 0, 1) := by decide +kernel
theorem dX10_colours_182 : decode cX10_colours 182 = .ok (.getfield 35, 3) := by decide +kernel
theorem dX10_colours_185 : decode cX10_colours 185 = .ok (.iload_n 1, 1) := by decide +kernel
theorem dX10_colours_186 : decode cX10_colours 186 = .ok (.iaload, 1) := by decide +kernel
theorem dX10_colours_187 : decode cX10_colours 187 = .ok (.iastore, 1) := by decide +kernel
theorem dX10_colours_188 : decode cX10_colours 188 = .ok (.iinc 1 1, 3) := by decide +kernel
theorem dX10_colours_191 : decode cX10_colours 191 = .ok (.goto (-25), 3) := by decide +kernel
theorem dX10_colours_194 : decode cX10_colours 194 = .ok (.aload_n 0, 1) := by decide +kernel
theorem dX10_colours_195 : decode cX10_colours 195 = .ok (.aload_n 0, 1) := by decide +kernel
theorem dX10_colours_196 : decode cX10_colours 196 = .ok (.getfield 207, 3) := by decide +kernel
theorem dX10_colours_199 : decode cX10_colours 199 = .ok (.invokevirtual 107, 3) := by decide +kernel
theorem dX10_colours_202 : decode cX10_colours 202 = .ok (.ireturn, 1) := by decide +kernel
def rmX10_colours : Room := { frames := 6, cells := 0, slots := 0, locals := 129 }
def fX10_colours_166  : Nat → Nat → Int32 → PH → Option (Int32 × PH)
  | 0, _, _, _ => none
  | n + 1, al0, xl1, h0 =>
    bn (rdI 10 14 al0 h0) fun x18 =>
    if ((3 : Int32) * x18) ≤ xl1 then (bn (rdI 10 10 al0 h0) fun x19 =>
    bn (chk 10 al0 h0) fun _ => bn2 (fX10_told al0 x19 h0) fun x21 h20 =>
    some (x21, h20)) else
    bn (rdR 10 12 al0 h0) fun a22 =>
    bn (rdR 10 16 al0 h0) fun a23 =>
    bn (aldI 0 a23 xl1 h0) fun x24 =>
    bn (astI a22 xl1 x24 h0) fun h25 =>
    (fX10_colours_166 n) al0 (xl1 + 1) h25
set_option maxHeartbeats 4000000 in
set_option maxRecDepth 100000 in
theorem vfX10_colours_166 {p : Program} {l : Launch} {e : Env} {s : State} {m : MethodId} {args : Array Value} {below : List Frame} {meth : Method} {c : Code} {G : GX} (C : Cx p s m args meth c G cX10_colours 2 RX10) (hr : meth.sig.returnType = (some .int)) : ∀ (n : Nat) (al0 : Nat) (xl1 : Int32) (h0 : PH), J p l e rmX10_colours s m args below meth c G 2 (qM below args s rvI G 0 0) 0 0 h0 166 [(0, .ref al0), (1, .int xl1)] [] (fX10_colours_166  n al0 xl1 h0) := by
  intro n
  induction n with
  | zero => exact fun al0 xl1 h0 => J_none C
  | succ n ih =>
    intro al0 xl1 h0
    unfold fX10_colours_166
    refine J_iload_n (pc := 166) C dX10_colours_166 rfl 1 rfl ?_
    refine J_iconst (pc := 167) (v := 3) C dX10_colours_167 (by decide) ?_
    refine J_aload_n (pc := 168) C dX10_colours_168 rfl 0 rfl ?_
    refine J_getI (pc := 169) C flX10_187 dX10_colours_169 (fun x18 => ?_)
    refine J_imul (pc := 172) C dX10_colours_172 ?_
    refine J_icmp_ge (pc := 173) (tgt := 194) C dX10_colours_173 (by decide) ?_ ?_
    · refine J_aload_n (pc := 194) C dX10_colours_194 rfl 0 rfl ?_
      refine J_aload_n (pc := 195) C dX10_colours_195 rfl 0 rfl ?_
      refine J_getI (pc := 196) C flX10_207 dX10_colours_196 (fun x19 => ?_)
      refine J_callVI (pc := 199) (As := [.int x19]) (rest := []) C (fun z hz => mX10_told al0 x19 h0 z hz) mwX10_told csX10_told mlX10_107 inX10_told rfl dX10_colours_199 (by decide) rfl (Nat.le_of_ble_eq_true rfl) (by decide) (fun x21 h20 => ?_)
      exact J_iret (pc := 202) C hr dX10_colours_202
    · refine J_aload_n (pc := 176) C dX10_colours_176 rfl 0 rfl ?_
      refine J_getR (pc := 177) C flX10_29 dX10_colours_177 (fun a22 => ?_)
      refine J_iload_n (pc := 180) C dX10_colours_180 rfl 1 rfl ?_
      refine J_aload_n (pc := 181) C dX10_colours_181 rfl 0 rfl ?_
      refine J_getR (pc := 182) C flX10_35 dX10_colours_182 (fun a23 => ?_)
      refine J_iload_n (pc := 185) C dX10_colours_185 rfl 1 rfl ?_
      refine J_iald (pc := 186) C dX10_colours_186 (fun x24 => ?_)
      refine J_iast (pc := 187) C dX10_colours_187 (fun h25 => ?_)
      refine J_iinc (pc := 188) (v := (xl1 + 1)) (lv1 := [(1, .int (xl1 + 1)), (0, .ref al0)]) C dX10_colours_188 1 rfl rfl (by decide) rfl ?_
      refine J_goto (pc := 191) (tgt := 166) C dX10_colours_191 (by decide) ?_
      refine J_sub [1, 0] rfl ?_
      exact ih al0 (xl1 + 1) h25
def fX10_colours_134  : Nat → Nat → Int32 → PH → Option (Int32 × PH)
  | 0, _, _, _ => none
  | n + 1, al0, xl1, h0 =>
    bn (rdI 10 13 al0 h0) fun x17 =>
    if x17 ≤ xl1 then (fX10_colours_166  FU al0 (0 : Int32) h0) else
    bn (rdR 10 11 al0 h0) fun a26 =>
    bn (rdR 10 15 al0 h0) fun a27 =>
    bn (aldI 0 a27 (xl1 + (1 : Int32)) h0) fun x28 =>
    bn (astI a26 (xl1 + (1 : Int32)) x28 h0) fun h29 =>
    (fX10_colours_134 n) al0 (xl1 + 1) h29
set_option maxHeartbeats 4000000 in
set_option maxRecDepth 100000 in
theorem vfX10_colours_134 {p : Program} {l : Launch} {e : Env} {s : State} {m : MethodId} {args : Array Value} {below : List Frame} {meth : Method} {c : Code} {G : GX} (C : Cx p s m args meth c G cX10_colours 2 RX10) (hr : meth.sig.returnType = (some .int)) : ∀ (n : Nat) (al0 : Nat) (xl1 : Int32) (h0 : PH), J p l e rmX10_colours s m args below meth c G 2 (qM below args s rvI G 0 0) 0 0 h0 134 [(0, .ref al0), (1, .int xl1)] [] (fX10_colours_134  n al0 xl1 h0) := by
  intro n
  induction n with
  | zero => exact fun al0 xl1 h0 => J_none C
  | succ n ih =>
    intro al0 xl1 h0
    unfold fX10_colours_134
    refine J_iload_n (pc := 134) C dX10_colours_134 rfl 1 rfl ?_
    refine J_aload_n (pc := 135) C dX10_colours_135 rfl 0 rfl ?_
    refine J_getI (pc := 136) C flX10_180 dX10_colours_136 (fun x17 => ?_)
    refine J_icmp_ge (pc := 139) (tgt := 164) C dX10_colours_139 (by decide) ?_ ?_
    · refine J_iconst (pc := 164) (v := 0) C dX10_colours_164 (by decide) ?_
      refine J_istore_n (pc := 165) (lv1 := [(1, .int (0 : Int32)), (0, .ref al0)]) C dX10_colours_165 rfl (by decide) rfl ?_
      refine J_sub [1, 0] rfl ?_
      exact vfX10_colours_166 C hr  FU al0 (0 : Int32) h0
    · refine J_aload_n (pc := 142) C dX10_colours_142 rfl 0 rfl ?_
      refine J_getR (pc := 143) C flX10_26 dX10_colours_143 (fun a26 => ?_)
      refine J_iload_n (pc := 146) C dX10_colours_146 rfl 1 rfl ?_
      refine J_iconst (pc := 147) (v := 1) C dX10_colours_147 (by decide) ?_
      refine J_iadd (pc := 148) C dX10_colours_148 ?_
      refine J_aload_n (pc := 149) C dX10_colours_149 rfl 0 rfl ?_
      refine J_getR (pc := 150) C flX10_32 dX10_colours_150 (fun a27 => ?_)
      refine J_iload_n (pc := 153) C dX10_colours_153 rfl 1 rfl ?_
      refine J_iconst (pc := 154) (v := 1) C dX10_colours_154 (by decide) ?_
      refine J_iadd (pc := 155) C dX10_colours_155 ?_
      refine J_iald (pc := 156) C dX10_colours_156 (fun x28 => ?_)
      refine J_iast (pc := 157) C dX10_colours_157 (fun h29 => ?_)
      refine J_iinc (pc := 158) (v := (xl1 + 1)) (lv1 := [(1, .int (xl1 + 1)), (0, .ref al0)]) C dX10_colours_158 1 rfl rfl (by decide) rfl ?_
      refine J_goto (pc := 161) (tgt := 134) C dX10_colours_161 (by decide) ?_
      refine J_sub [1, 0] rfl ?_
      exact ih al0 (xl1 + 1) h29
def fX10_colours_98  (al0 : Nat) (h0 : PH) : Option (Int32 × PH) :=
    bn (wr 10 20 (.int (0 : Int32)) al0 h0) fun h11 =>
    bn (rdI 10 26 al0 h11) fun x12 =>
    if x12 = 0 then (bn (rdI 10 13 al0 h11) fun x13 =>
    bn (wr 10 10 (.int x13) al0 h11) fun h14 =>
    bn (rdR 10 11 al0 h14) fun a15 =>
    bn (astI a15 (0 : Int32) (0 : Int32) h14) fun h16 =>
    fX10_colours_134  FU al0 (0 : Int32) h16) else
    bn (chk 10 al0 h11) fun _ => bn2 (fX10_told al0 (-6 : Int32) h11) fun x31 h30 =>
    some (x31, h30)
set_option maxHeartbeats 4000000 in
set_option maxRecDepth 100000 in
theorem vfX10_colours_98 {p : Program} {l : Launch} {e : Env} {s : State} {m : MethodId} {args : Array Value} {below : List Frame} {meth : Method} {c : Code} {G : GX} (C : Cx p s m args meth c G cX10_colours 2 RX10) (hr : meth.sig.returnType = (some .int)) (al0 : Nat) (h0 : PH) : J p l e rmX10_colours s m args below meth c G 2 (qM below args s rvI G 0 0) 0 0 h0 98 [(0, .ref al0)] [] (fX10_colours_98  al0 h0) := by
  unfold fX10_colours_98
  refine J_aload_n (pc := 98) C dX10_colours_98 rfl 0 rfl ?_
  refine J_iconst (pc := 99) (v := 0) C dX10_colours_99 (by decide) ?_
  refine J_put (pc := 100) C flX10_135 cl10 ft10_20 rfl rfl dX10_colours_100 (fun h11 => ?_)
  refine J_aload_n (pc := 103) C dX10_colours_103 rfl 0 rfl ?_
  refine J_getI (pc := 104) C flX10_169 dX10_colours_104 (fun x12 => ?_)
  refine J_if_eq (pc := 107) (tgt := 117) C dX10_colours_107 (by decide) ?_ ?_
  · refine J_aload_n (pc := 117) C dX10_colours_117 rfl 0 rfl ?_
    refine J_aload_n (pc := 118) C dX10_colours_118 rfl 0 rfl ?_
    refine J_getI (pc := 119) C flX10_180 dX10_colours_119 (fun x13 => ?_)
    refine J_put (pc := 122) C flX10_207 cl10 ft10_10 rfl rfl dX10_colours_122 (fun h14 => ?_)
    refine J_aload_n (pc := 125) C dX10_colours_125 rfl 0 rfl ?_
    refine J_getR (pc := 126) C flX10_26 dX10_colours_126 (fun a15 => ?_)
    refine J_iconst (pc := 129) (v := 0) C dX10_colours_129 (by decide) ?_
    refine J_iconst (pc := 130) (v := 0) C dX10_colours_130 (by decide) ?_
    refine J_iast (pc := 131) C dX10_colours_131 (fun h16 => ?_)
    refine J_iconst (pc := 132) (v := 0) C dX10_colours_132 (by decide) ?_
    refine J_istore_n (pc := 133) (lv1 := [(1, .int (0 : Int32)), (0, .ref al0)]) C dX10_colours_133 rfl (by decide) rfl ?_
    refine J_sub [1, 0] rfl ?_
    exact vfX10_colours_134 C hr  FU al0 (0 : Int32) h16
  · refine J_aload_n (pc := 110) C dX10_colours_110 rfl 0 rfl ?_
    refine J_bipush (pc := 111) (v := -6) C dX10_colours_111 (by decide) ?_
    refine J_callVI (pc := 113) (As := [.int (-6 : Int32)]) (rest := []) C (fun z hz => mX10_told al0 (-6 : Int32) h11 z hz) mwX10_told csX10_told mlX10_107 inX10_told rfl dX10_colours_113 (by decide) rfl (Nat.le_of_ble_eq_true rfl) (by decide) (fun x31 h30 => ?_)
    exact J_iret (pc := 116) C hr dX10_colours_116
def fX10_colours_79  (al0 : Nat) (h0 : PH) : Option (Int32 × PH) :=
    bn (rdI 10 26 al0 h0) fun x34 =>
    if x34 = 0 then (bn (rdI 10 23 al0 h0) fun x35 =>
    if x35 = 0 then (fX10_colours_98  al0 h0) else
    bn (chk 10 al0 h0) fun _ => bn2 (fX10_must al0 (0 : Int32) h0) fun _ h36 =>
    fX10_colours_98  al0 h36) else
    fX10_colours_98  al0 h0
set_option maxHeartbeats 4000000 in
set_option maxRecDepth 100000 in
theorem vfX10_colours_79 {p : Program} {l : Launch} {e : Env} {s : State} {m : MethodId} {args : Array Value} {below : List Frame} {meth : Method} {c : Code} {G : GX} (C : Cx p s m args meth c G cX10_colours 2 RX10) (hr : meth.sig.returnType = (some .int)) (al0 : Nat) (h0 : PH) : J p l e rmX10_colours s m args below meth c G 2 (qM below args s rvI G 0 0) 0 0 h0 79 [(0, .ref al0)] [] (fX10_colours_79  al0 h0) := by
  unfold fX10_colours_79
  refine J_aload_n (pc := 79) C dX10_colours_79 rfl 0 rfl ?_
  refine J_getI (pc := 80) C flX10_169 dX10_colours_80 (fun x34 => ?_)
  refine J_if_ne (pc := 83) (tgt := 98) C dX10_colours_83 (by decide) ?_ ?_
  · exact vfX10_colours_98 C hr  al0 h0
  · refine J_aload_n (pc := 86) C dX10_colours_86 rfl 0 rfl ?_
    refine J_getI (pc := 87) C flX10_158 dX10_colours_87 (fun x35 => ?_)
    refine J_if_eq (pc := 90) (tgt := 98) C dX10_colours_90 (by decide) ?_ ?_
    · exact vfX10_colours_98 C hr  al0 h0
    · refine J_aload_n (pc := 93) C dX10_colours_93 rfl 0 rfl ?_
      refine J_iconst (pc := 94) (v := 0) C dX10_colours_94 (by decide) ?_
      refine J_callVU (pc := 95) (As := [.int (0 : Int32)]) (rest := []) C (fun z hz => mX10_must al0 (0 : Int32) h0 z hz) mwX10_must csX10_must mlX10_176 inX10_must rfl dX10_colours_95 (by decide) rfl (Nat.le_of_ble_eq_true rfl) (by decide) (fun _ h36 => ?_)
      exact vfX10_colours_98 C hr  al0 h36
def fX10_colours_52  : Nat → Nat → PH → Option (Int32 × PH)
  | 0, _, _ => none
  | n + 1, al0, h0 =>
    bn (rdI 10 26 al0 h0) fun x33 =>
    if x33 = 0 then (bn (chk 10 al0 h0) fun _ => bn2 (fX10_isSign al0 (59 : Int32) h0) fun x38 h37 =>
    if x38 = 0 then (fX10_colours_79  al0 h37) else
    bn (chk 10 al0 h37) fun _ => bn2 (fX10_next al0 h37) fun _ h39 =>
    bn (chk 10 al0 h39) fun _ => bn2 (fX10_readColour al0 h39) fun _ h40 =>
    (fX10_colours_52 n) al0 h40) else
    fX10_colours_79  al0 h0
set_option maxHeartbeats 4000000 in
set_option maxRecDepth 100000 in
theorem vfX10_colours_52 {p : Program} {l : Launch} {e : Env} {s : State} {m : MethodId} {args : Array Value} {below : List Frame} {meth : Method} {c : Code} {G : GX} (C : Cx p s m args meth c G cX10_colours 2 RX10) (hr : meth.sig.returnType = (some .int)) : ∀ (n : Nat) (al0 : Nat) (h0 : PH), J p l e rmX10_colours s m args below meth c G 2 (qM below args s rvI G 0 0) 0 0 h0 52 [(0, .ref al0)] [] (fX10_colours_52  n al0 h0) := by
  intro n
  induction n with
  | zero => exact fun al0 h0 => J_none C
  | succ n ih =>
    intro al0 h0
    unfold fX10_colours_52
    refine J_aload_n (pc := 52) C dX10_colours_52 rfl 0 rfl ?_
    refine J_getI (pc := 53) C flX10_169 dX10_colours_53 (fun x33 => ?_)
    refine J_if_ne (pc := 56) (tgt := 79) C dX10_colours_56 (by decide) ?_ ?_
    · exact vfX10_colours_79 C hr  al0 h0
    · refine J_aload_n (pc := 59) C dX10_colours_59 rfl 0 rfl ?_
      refine J_bipush (pc := 60) (v := 59) C dX10_colours_60 (by decide) ?_
      refine J_callVI (pc := 62) (As := [.int (59 : Int32)]) (rest := []) C (fun z hz => mX10_isSign al0 (59 : Int32) h0 z hz) mwX10_isSign csX10_isSign mlX10_198 inX10_isSign rfl dX10_colours_62 (by decide) rfl (Nat.le_of_ble_eq_true rfl) (by decide) (fun x38 h37 => ?_)
      refine J_if_eq (pc := 65) (tgt := 79) C dX10_colours_65 (by decide) ?_ ?_
      · exact vfX10_colours_79 C hr  al0 h37
      · refine J_aload_n (pc := 68) C dX10_colours_68 rfl 0 rfl ?_
        refine J_callVU (pc := 69) (As := []) (rest := []) C (fun z hz => mX10_next al0 h37 z hz) mwX10_next csX10_next mlX10_173 inX10_next rfl dX10_colours_69 (by decide) rfl (Nat.le_of_ble_eq_true rfl) (by decide) (fun _ h39 => ?_)
        refine J_aload_n (pc := 72) C dX10_colours_72 rfl 0 rfl ?_
        refine J_callVU (pc := 73) (As := []) (rest := []) C (fun z hz => mX10_readColour al0 h39 z hz) mwX10_readColour csX10_readColour mlX10_204 inX10_readColour rfl dX10_colours_73 (by decide) rfl (Nat.le_of_ble_eq_true rfl) (by decide) (fun _ h40 => ?_)
        refine J_goto (pc := 76) (tgt := 52) C dX10_colours_76 (by decide) ?_
        exact ih al0 h40
def fX10_colours  (a0 : Nat) (h0 : PH) : Option (Int32 × PH) :=
    bn (wr 10 0 (.int (0 : Int32)) a0 h0) fun h1 =>
    bn (wr 10 22 (.int (0 : Int32)) a0 h1) fun h2 =>
    bn (wr 10 26 (.int (0 : Int32)) a0 h2) fun h3 =>
    bn (wr 10 25 (.int (-1 : Int32)) a0 h3) fun h4 =>
    bn (wr 10 13 (.int (0 : Int32)) a0 h4) fun h5 =>
    bn (wr 10 14 (.int (0 : Int32)) a0 h5) fun h6 =>
    bn (rdR 10 15 a0 h6) fun a7 =>
    bn (astI a7 (0 : Int32) (0 : Int32) h6) fun h8 =>
    bn (chk 10 a0 h8) fun _ => bn2 (fX10_next a0 h8) fun _ h9 =>
    bn (rdI 10 23 a0 h9) fun x10 =>
    if x10 = 0 then (fX10_colours_98  a0 h9) else
    bn (chk 10 a0 h9) fun _ => bn2 (fX10_readColour a0 h9) fun _ h32 =>
    fX10_colours_52  FU a0 h32
set_option maxHeartbeats 4000000 in
set_option maxRecDepth 100000 in
theorem vfX10_colours {p : Program} {l : Launch} {e : Env} {s : State} {m : MethodId} {args : Array Value} {below : List Frame} {meth : Method} {c : Code} {G : GX} (C : Cx p s m args meth c G cX10_colours 2 RX10) (hr : meth.sig.returnType = (some .int)) (a0 : Nat) (h0 : PH) : J p l e rmX10_colours s m args below meth c G 2 (qM below args s rvI G 0 0) 0 0 h0 0 [(0, .ref a0)] [] (fX10_colours  a0 h0) := by
  unfold fX10_colours
  refine J_aload_n (pc := 0) C dX10_colours_0 rfl 0 rfl ?_
  refine J_iconst (pc := 1) (v := 0) C dX10_colours_1 (by decide) ?_
  refine J_put (pc := 2) C flX10_90 cl10 ft10_0 rfl rfl dX10_colours_2 (fun h1 => ?_)
  refine J_aload_n (pc := 5) C dX10_colours_5 rfl 0 rfl ?_
  refine J_iconst (pc := 6) (v := 0) C dX10_colours_6 (by decide) ?_
  refine J_put (pc := 7) C flX10_142 cl10 ft10_22 rfl rfl dX10_colours_7 (fun h2 => ?_)
  refine J_aload_n (pc := 10) C dX10_colours_10 rfl 0 rfl ?_
  refine J_iconst (pc := 11) (v := 0) C dX10_colours_11 (by decide) ?_
  refine J_put (pc := 12) C flX10_169 cl10 ft10_26 rfl rfl dX10_colours_12 (fun h3 => ?_)
  refine J_aload_n (pc := 15) C dX10_colours_15 rfl 0 rfl ?_
  refine J_iconst (pc := 16) (v := -1) C dX10_colours_16 (by decide) ?_
  refine J_put (pc := 17) C flX10_47 cl10 ft10_25 rfl rfl dX10_colours_17 (fun h4 => ?_)
  refine J_aload_n (pc := 20) C dX10_colours_20 rfl 0 rfl ?_
  refine J_iconst (pc := 21) (v := 0) C dX10_colours_21 (by decide) ?_
  refine J_put (pc := 22) C flX10_180 cl10 ft10_13 rfl rfl dX10_colours_22 (fun h5 => ?_)
  refine J_aload_n (pc := 25) C dX10_colours_25 rfl 0 rfl ?_
  refine J_iconst (pc := 26) (v := 0) C dX10_colours_26 (by decide) ?_
  refine J_put (pc := 27) C flX10_187 cl10 ft10_14 rfl rfl dX10_colours_27 (fun h6 => ?_)
  refine J_aload_n (pc := 30) C dX10_colours_30 rfl 0 rfl ?_
  refine J_getR (pc := 31) C flX10_32 dX10_colours_31 (fun a7 => ?_)
  refine J_iconst (pc := 34) (v := 0) C dX10_colours_34 (by decide) ?_
  refine J_iconst (pc := 35) (v := 0) C dX10_colours_35 (by decide) ?_
  refine J_iast (pc := 36) C dX10_colours_36 (fun h8 => ?_)
  refine J_aload_n (pc := 37) C dX10_colours_37 rfl 0 rfl ?_
  refine J_callVU (pc := 38) (As := []) (rest := []) C (fun z hz => mX10_next a0 h8 z hz) mwX10_next csX10_next mlX10_173 inX10_next rfl dX10_colours_38 (by decide) rfl (Nat.le_of_ble_eq_true rfl) (by decide) (fun _ h9 => ?_)
  refine J_aload_n (pc := 41) C dX10_colours_41 rfl 0 rfl ?_
  refine J_getI (pc := 42) C flX10_158 dX10_colours_42 (fun x10 => ?_)
  refine J_if_eq (pc := 45) (tgt := 98) C dX10_colours_45 (by decide) ?_ ?_
  · exact vfX10_colours_98 C hr  a0 h9
  · refine J_aload_n (pc := 48) C dX10_colours_48 rfl 0 rfl ?_
    refine J_callVU (pc := 49) (As := []) (rest := []) C (fun z hz => mX10_readColour a0 h9 z hz) mwX10_readColour csX10_readColour mlX10_204 inX10_readColour rfl dX10_colours_49 (by decide) rfl (Nat.le_of_ble_eq_true rfl) (by decide) (fun _ h32 => ?_)
    exact vfX10_colours_52 C hr  FU a0 h32
theorem mX10_colours {l : Launch} {G : GX} (a0 : Nat) (h0 : PH) : ∀ z, fX10_colours a0 h0 = some z → MC l G yX10_colours cX10_colours 2 (some .int) rmX10_colours [.ref a0] h0 (rvI z.1) z.2 :=
  Met_J (own := RX10) (by decide) rfl (Nat.le_of_ble_eq_true rfl) (fun p e s m args below meth c C hr hn => vfX10_colours C hr a0 h0)

theorem dX9_fault_0 : decode cX9_fault 0 = .ok (.aload_n 0, 1) := by decide +kernel
theorem dX9_fault_1 : decode cX9_fault 1 = .ok (.getfield 59, 3) := by decide +kernel
theorem dX9_fault_4 : decode cX9_fault 4 = .ok (.ireturn, 1) := by decide +kernel
def rmX9_fault : Room := { frames := 0, cells := 0, slots := 0, locals := 0 }
def fX9_fault  (a0 : Nat) (h0 : PH) : Option (Int32 × PH) :=
    bn (rdI 9 8 a0 h0) fun x1 =>
    some (x1, h0)
set_option maxHeartbeats 4000000 in
set_option maxRecDepth 100000 in
theorem vfX9_fault {p : Program} {l : Launch} {e : Env} {s : State} {m : MethodId} {args : Array Value} {below : List Frame} {meth : Method} {c : Code} {G : GX} (C : Cx p s m args meth c G cX9_fault 1 RX9) (hr : meth.sig.returnType = (some .int)) (a0 : Nat) (h0 : PH) : J p l e rmX9_fault s m args below meth c G 1 (qM below args s rvI G 0 0) 0 0 h0 0 [(0, .ref a0)] [] (fX9_fault  a0 h0) := by
  unfold fX9_fault
  refine J_aload_n (pc := 0) C dX9_fault_0 rfl 0 rfl ?_
  refine J_getI (pc := 1) C flX9_59 dX9_fault_1 (fun x1 => ?_)
  exact J_iret (pc := 4) C hr dX9_fault_4
theorem mX9_fault {l : Launch} {G : GX} (a0 : Nat) (h0 : PH) : ∀ z, fX9_fault a0 h0 = some z → MC l G yX9_fault cX9_fault 1 (some .int) rmX9_fault [.ref a0] h0 (rvI z.1) z.2 :=
  Met_J (own := RX9) (by decide) rfl (Nat.le_of_ble_eq_true rfl) (fun p e s m args below meth c C hr hn => vfX9_fault C hr a0 h0)

theorem dX10_fault_0 : decode cX10_fault 0 = .ok (.aload_n 0, 1) := by decide +kernel
theorem dX10_fault_1 : decode cX10_fault 1 = .ok (.iconst 0, 1) := by decide +kernel
theorem dX10_fault_2 : decode cX10_fault 2 = .ok (.putfield 90, 3) := by decide +kernel
theorem dX10_fault_5 : decode cX10_fault 5 = .ok (.aload_n 0, 1) := by decide +kernel
theorem dX10_fault_6 : decode cX10_fault 6 = .ok (.getfield 47, 3) := by decide +kernel
theorem dX10_fault_9 : decode cX10_fault 9 = .ok (.ireturn, 1) := by decide +kernel
def rmX10_fault : Room := { frames := 0, cells := 0, slots := 0, locals := 0 }
def fX10_fault  (a0 : Nat) (h0 : PH) : Option (Int32 × PH) :=
    bn (wr 10 0 (.int (0 : Int32)) a0 h0) fun h1 =>
    bn (rdI 10 25 a0 h1) fun x2 =>
    some (x2, h1)
set_option maxHeartbeats 4000000 in
set_option maxRecDepth 100000 in
theorem vfX10_fault {p : Program} {l : Launch} {e : Env} {s : State} {m : MethodId} {args : Array Value} {below : List Frame} {meth : Method} {c : Code} {G : GX} (C : Cx p s m args meth c G cX10_fault 1 RX10) (hr : meth.sig.returnType = (some .int)) (a0 : Nat) (h0 : PH) : J p l e rmX10_fault s m args below meth c G 1 (qM below args s rvI G 0 0) 0 0 h0 0 [(0, .ref a0)] [] (fX10_fault  a0 h0) := by
  unfold fX10_fault
  refine J_aload_n (pc := 0) C dX10_fault_0 rfl 0 rfl ?_
  refine J_iconst (pc := 1) (v := 0) C dX10_fault_1 (by decide) ?_
  refine J_put (pc := 2) C flX10_90 cl10 ft10_0 rfl rfl dX10_fault_2 (fun h1 => ?_)
  refine J_aload_n (pc := 5) C dX10_fault_5 rfl 0 rfl ?_
  refine J_getI (pc := 6) C flX10_47 dX10_fault_6 (fun x2 => ?_)
  exact J_iret (pc := 9) C hr dX10_fault_9
theorem mX10_fault {l : Launch} {G : GX} (a0 : Nat) (h0 : PH) : ∀ z, fX10_fault a0 h0 = some z → MC l G yX10_fault cX10_fault 1 (some .int) rmX10_fault [.ref a0] h0 (rvI z.1) z.2 :=
  Met_J (own := RX10) (by decide) rfl (Nat.le_of_ble_eq_true rfl) (fun p e s m args below meth c C hr hn => vfX10_fault C hr a0 h0)

theorem dX4_holds_0 : decode cX4_holds 0 = .ok (.aload_n 3, 1) := by decide +kernel
theorem dX4_holds_1 : decode cX4_holds 1 = .ok (.aload_n 2, 1) := by decide +kernel
theorem dX4_holds_2 : decode cX4_holds 2 = .ok (.aload_n 0, 1) := by decide +kernel
theorem dX4_holds_3 : decode cX4_holds 3 = .ok (.getfield 22, 3) := by decide +kernel
theorem dX4_holds_6 : decode cX4_holds 6 = .ok (.iload_n 1, 1) := by decide +kernel
theorem dX4_holds_7 : decode cX4_holds 7 = .ok (.iaload, 1) := by decide +kernel
theorem dX4_holds_8 : decode cX4_holds 8 = .ok (.invokevirtual 38, 3) := by decide +kernel
theorem dX4_holds_11 : decode cX4_holds 11 = .ok (.lstore 4, 2) := by decide +kernel
theorem dX4_holds_13 : decode cX4_holds 13 = .ok (.aload_n 0, 1) := by decide +kernel
theorem dX4_holds_14 : decode cX4_holds 14 = .ok (.getfield 25, 3) := by decide +kernel
theorem dX4_holds_17 : decode cX4_holds 17 = .ok (.iload_n 1, 1) := by decide +kernel
theorem dX4_holds_18 : decode cX4_holds 18 = .ok (.iaload, 1) := by decide +kernel
theorem dX4_holds_19 : decode cX4_holds 19 = .ok (.i2l, 1) := by decide +kernel
theorem dX4_holds_20 : decode cX4_holds 20 = .ok (.aload_n 2, 1) := by decide +kernel
theorem dX4_holds_21 : decode cX4_holds 21 = .ok (.getfield 44, 3) := by decide +kernel
theorem dX4_holds_24 : decode cX4_holds 24 = .ok (.i2l, 1) := by decide +kernel
theorem dX4_holds_25 : decode cX4_holds 25 = .ok (.lmul, 1) := by decide +kernel
theorem dX4_holds_26 : decode cX4_holds 26 = .ok (.lload 4, 2) := by decide +kernel
theorem dX4_holds_28 : decode cX4_holds 28 = .ok (.lcmp, 1) := by decide +kernel
theorem dX4_holds_29 : decode cX4_holds 29 = .ok (.ifCond .gt 26, 3) := by decide +kernel
theorem dX4_holds_32 : decode cX4_holds 32 = .ok (.lload 4, 2) := by decide +kernel
theorem dX4_holds_34 : decode cX4_holds 34 = .ok (.aload_n 0, 1) := by decide +kernel
theorem dX4_holds_35 : decode cX4_holds 35 = .ok (.getfield 28, 3) := by decide +kernel
theorem dX4_holds_38 : decode cX4_holds 38 = .ok (.iload_n 1, 1) := by decide +kernel
theorem dX4_holds_39 : decode cX4_holds 39 = .ok (.iaload, 1) := by decide +kernel
theorem dX4_holds_40 : decode cX4_holds 40 = .ok (.i2l, 1) := by decide +kernel
theorem dX4_holds_41 : decode cX4_holds 41 = .ok (.aload_n 2, 1) := by decide +kernel
theorem dX4_holds_42 : decode cX4_holds 42 = .ok (.getfield 44, 3) := by decide +kernel
theorem dX4_holds_45 : decode cX4_holds 45 = .ok (.i2l, 1) := by decide +kernel
theorem dX4_holds_46 : decode cX4_holds 46 = .ok (.lmul, 1) := by decide +kernel
theorem dX4_holds_47 : decode cX4_holds 47 = .ok (.lcmp, 1) := by decide +kernel
theorem dX4_holds_48 : decode cX4_holds 48 = .ok (.ifCond .gt 7, 3) := by decide +kernel
theorem dX4_holds_51 : decode cX4_holds 51 = .ok (.iconst 1, 1) := by decide +kernel
theorem dX4_holds_52 : decode cX4_holds 52 = .ok (.goto 4, 3) := by decide +kernel
theorem dX4_holds_55 : decode cX4_holds 55 = .ok (.iconst 0, 1) := by decide +kernel
theorem dX4_holds_56 : decode cX4_holds 56 = .ok (.ireturn, 1) := by decide +kernel
def rmX4_holds : Room := { frames := 2, cells := 0, slots := 0, locals := 47 }
def fX4_holds  (a0 : Nat) (xp0 : Int32) (ap1 : Nat) (ap2 : Nat) (h0 : PH) : Option (Int32 × PH) :=
    bn (rdR 4 3 a0 h0) fun a1 =>
    bn (aldI 0 a1 xp0 h0) fun x2 =>
    bn (chk 7 ap2 h0) fun _ => bn2 (fX7_metalIn ap2 ap1 x2 h0) fun x4 h3 =>
    bn (rdR 4 4 a0 h3) fun a5 =>
    bn (aldI 0 a5 xp0 h3) fun x6 =>
    bn (rdI 5 1 ap1 h3) fun x7 =>
    if x4 < (x6.toInt64 * x7.toInt64) then (some ((0 : Int32), h3)) else
    bn (rdR 4 5 a0 h3) fun a8 =>
    bn (aldI 0 a8 xp0 h3) fun x9 =>
    bn (rdI 5 1 ap1 h3) fun x10 =>
    if (x9.toInt64 * x10.toInt64) < x4 then (some ((0 : Int32), h3)) else
    some ((1 : Int32), h3)
set_option maxHeartbeats 4000000 in
set_option maxRecDepth 100000 in
theorem vfX4_holds {p : Program} {l : Launch} {e : Env} {s : State} {m : MethodId} {args : Array Value} {below : List Frame} {meth : Method} {c : Code} {G : GX} (C : Cx p s m args meth c G cX4_holds 6 RX4) (hr : meth.sig.returnType = (some .boolean)) (a0 : Nat) (xp0 : Int32) (ap1 : Nat) (ap2 : Nat) (h0 : PH) : J p l e rmX4_holds s m args below meth c G 6 (qM below args s rvI G 0 0) 0 0 h0 0 [(0, .ref a0), (1, .int xp0), (2, .ref ap1), (3, .ref ap2)] [] (fX4_holds  a0 xp0 ap1 ap2 h0) := by
  unfold fX4_holds
  refine J_aload_n (pc := 0) C dX4_holds_0 rfl 3 rfl ?_
  refine J_aload_n (pc := 1) C dX4_holds_1 rfl 2 rfl ?_
  refine J_aload_n (pc := 2) C dX4_holds_2 rfl 0 rfl ?_
  refine J_getR (pc := 3) C flX4_22 dX4_holds_3 (fun a1 => ?_)
  refine J_iload_n (pc := 6) C dX4_holds_6 rfl 1 rfl ?_
  refine J_iald (pc := 7) C dX4_holds_7 (fun x2 => ?_)
  refine J_callVJ (pc := 8) (As := [.ref ap1, .int x2]) (rest := []) C (fun z hz => mX7_metalIn ap2 ap1 x2 h0 z hz) mwX7_metalIn csX7_metalIn mlX4_38 inX7_metalIn rfl dX4_holds_8 (by decide) rfl (Nat.le_of_ble_eq_true rfl) (by decide) (fun x4 h3 => ?_)
  refine J_lstore (pc := 11) (lv1 := [(4, .long x4), (0, .ref a0), (1, .int xp0), (2, .ref ap1), (3, .ref ap2)]) C dX4_holds_11 (by decide) rfl ?_
  refine J_aload_n (pc := 13) C dX4_holds_13 rfl 1 rfl ?_
  refine J_getR (pc := 14) C flX4_25 dX4_holds_14 (fun a5 => ?_)
  refine J_iload_n (pc := 17) C dX4_holds_17 rfl 2 rfl ?_
  refine J_iald (pc := 18) C dX4_holds_18 (fun x6 => ?_)
  refine J_i2l (pc := 19) C dX4_holds_19 ?_
  refine J_aload_n (pc := 20) C dX4_holds_20 rfl 3 rfl ?_
  refine J_getI (pc := 21) C flX4_44 dX4_holds_21 (fun x7 => ?_)
  refine J_i2l (pc := 24) C dX4_holds_24 ?_
  refine J_lmul (pc := 25) C dX4_holds_25 ?_
  refine J_lload (pc := 26) C dX4_holds_26 0 rfl ?_
  refine J_lcmp_gt (pc := 28) (tgt := 55) C dX4_holds_28 dX4_holds_29 (by decide) ?_ ?_
  · refine J_iconst (pc := 55) (v := 0) C dX4_holds_55 (by decide) ?_
    exact J_zret (pc := 56) C hr rfl dX4_holds_56
  · refine J_lload (pc := 32) C dX4_holds_32 0 rfl ?_
    refine J_aload_n (pc := 34) C dX4_holds_34 rfl 1 rfl ?_
    refine J_getR (pc := 35) C flX4_28 dX4_holds_35 (fun a8 => ?_)
    refine J_iload_n (pc := 38) C dX4_holds_38 rfl 2 rfl ?_
    refine J_iald (pc := 39) C dX4_holds_39 (fun x9 => ?_)
    refine J_i2l (pc := 40) C dX4_holds_40 ?_
    refine J_aload_n (pc := 41) C dX4_holds_41 rfl 3 rfl ?_
    refine J_getI (pc := 42) C flX4_44 dX4_holds_42 (fun x10 => ?_)
    refine J_i2l (pc := 45) C dX4_holds_45 ?_
    refine J_lmul (pc := 46) C dX4_holds_46 ?_
    refine J_lcmp_gt (pc := 47) (tgt := 55) C dX4_holds_47 dX4_holds_48 (by decide) ?_ ?_
    · refine J_iconst (pc := 55) (v := 0) C dX4_holds_55 (by decide) ?_
      exact J_zret (pc := 56) C hr rfl dX4_holds_56
    · refine J_iconst (pc := 51) (v := 1) C dX4_holds_51 (by decide) ?_
      refine J_goto (pc := 52) (tgt := 56) C dX4_holds_52 (by decide) ?_
      exact J_zret (pc := 56) C hr rfl dX4_holds_56
theorem mX4_holds {l : Launch} {G : GX} (a0 : Nat) (xp0 : Int32) (ap1 : Nat) (ap2 : Nat) (h0 : PH) : ∀ z, fX4_holds a0 xp0 ap1 ap2 h0 = some z → MC l G yX4_holds cX4_holds 6 (some .boolean) rmX4_holds [.ref a0, .int xp0, .ref ap1, .ref ap2] h0 (rvI z.1) z.2 :=
  Met_J (own := RX4) (by decide) rfl (Nat.le_of_ble_eq_true rfl) (fun p e s m args below meth c C hr hn => vfX4_holds C hr a0 xp0 ap1 ap2 h0)

