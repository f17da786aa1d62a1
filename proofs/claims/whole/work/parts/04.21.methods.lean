theorem dX10_missing_0 : decode cX10_missing 0 = .ok (.aload_n 0, 1) := by decide +kernel
theorem dX10_missing_1 : decode cX10_missing 1 = .ok (.iconst 0, 1) := by decide +kernel
theorem dX10_missing_2 : decode cX10_missing 2 = .ok (.putfield 90, 3) := by decide +kernel
theorem dX10_missing_5 : decode cX10_missing 5 = .ok (.iload_n 1, 1) := by decide +kernel
theorem dX10_missing_6 : decode cX10_missing 6 = .ok (.i2l, 1) := by decide +kernel
theorem dX10_missing_7 : decode cX10_missing 7 = .ok (.lconst 0, 1) := by decide +kernel
theorem dX10_missing_8 : decode cX10_missing 8 = .ok (.ldc2_w 239, 3) := by decide +kernel
theorem dX10_missing_11 : decode cX10_missing 11 = .ok (.invokestatic 99, 3) := by decide +kernel
theorem dX10_missing_14 : decode cX10_missing 14 = .ok (.ifCond .eq 10, 3) := by decide +kernel
theorem dX10_missing_17 : decode cX10_missing 17 = .ok (.iload_n 2, 1) := by decide +kernel
theorem dX10_missing_18 : decode cX10_missing 18 = .ok (.invokestatic 243, 3) := by decide +kernel
theorem dX10_missing_21 : decode cX10_missing 21 = .ok (.ifCond .ne 5, 3) := by decide +kernel
theorem dX10_missing_24 : decode cX10_missing 24 = .ok (.iconst (-1), 1) := by decide +kernel
theorem dX10_missing_25 : decode cX10_missing 25 = .ok (.ireturn, 1) := by decide +kernel
theorem dX10_missing_26 : decode cX10_missing 26 = .ok (.iconst (-1), 1) := by decide +kernel
theorem dX10_missing_27 : decode cX10_missing 27 = .ok (.istore_n 3, 1) := by decide +kernel
theorem dX10_missing_28 : decode cX10_missing 28 = .ok (.iconst 0, 1) := by decide +kernel
theorem dX10_missing_29 : decode cX10_missing 29 = .ok (.istore 4, 2) := by decide +kernel
theorem dX10_missing_31 : decode cX10_missing 31 = .ok (.iload 4, 2) := by decide +kernel
theorem dX10_missing_33 : decode cX10_missing 33 = .ok (.aload_n 0, 1) := by decide +kernel
theorem dX10_missing_34 : decode cX10_missing 34 = .ok (.getfield 256, 3) := by decide +kernel
theorem dX10_missing_37 : decode cX10_missing 37 = .ok (.if_icmp .ge 93, 3) := by decide +kernel
theorem dX10_missing_40 : decode cX10_missing 40 = .ok (.aload_n 0, 1) := by decide +kernel
theorem dX10_missing_41 : decode cX10_missing 41 = .ok (.getfield 81, 3) := by decide +kernel
theorem dX10_missing_44 : decode cX10_missing 44 = .ok (.iload 4, 2) := by decide +kernel
theorem dX10_missing_46 : decode cX10_missing 46 = .ok (.iaload, 1) := by decide +kernel
theorem dX10_missing_47 : decode cX10_missing 47 = .ok (.iload_n 1, 1) := by decide +kernel
theorem dX10_missing_48 : decode cX10_missing 48 = .ok (.if_icmp .ne 41, 3) := by decide +kernel
theorem dX10_missing_51 : decode cX10_missing 51 = .ok (.aload_n 0, 1) := by decide +kernel
theorem dX10_missing_52 : decode cX10_missing 52 = .ok (.getfield 84, 3) := by decide +kernel
theorem dX10_missing_55 : decode cX10_missing 55 = .ok (.iload 4, 2) := by decide +kernel
theorem dX10_missing_57 : decode cX10_missing 57 = .ok (.iaload, 1) := by decide +kernel
theorem dX10_missing_58 : decode cX10_missing 58 = .ok (.iload_n 2, 1) := by decide +kernel
theorem dX10_missing_59 : decode cX10_missing 59 = .ok (.if_icmp .gt 30, 3) := by decide +kernel
theorem dX10_missing_62 : decode cX10_missing 62 = .ok (.aload_n 0, 1) := by decide +kernel
theorem dX10_missing_63 : decode cX10_missing 63 = .ok (.getfield 87, 3) := by decide +kernel
theorem dX10_missing_66 : decode cX10_missing 66 = .ok (.iload 4, 2) := by decide +kernel
theorem dX10_missing_68 : decode cX10_missing 68 = .ok (.iaload, 1) := by decide +kernel
theorem dX10_missing_69 : decode cX10_missing 69 = .ok (.aload_n 0, 1) := by decide +kernel
theorem dX10_missing_70 : decode cX10_missing 70 = .ok (.iload_n 1, 1) := by decide +kernel
theorem dX10_missing_71 : decode cX10_missing 71 = .ok (.aload_n 0, 1) := by decide +kernel
theorem dX10_missing_72 : decode cX10_missing 72 = .ok (.getfield 84, 3) := by decide +kernel
theorem dX10_missing_75 : decode cX10_missing 75 = .ok (.iload 4, 2) := by decide +kernel
theorem dX10_missing_77 : decode cX10_missing 77 = .ok (.iaload, 1) := by decide +kernel
theorem dX10_missing_78 : decode cX10_missing 78 = .ok (.iload_n 2, 1) := by decide +kernel
theorem dX10_missing_79 : decode cX10_missing 79 = .ok (.invokevirtual 249, 3) := by decide +kernel
theorem dX10_missing_82 : decode cX10_missing 82 = .ok (.if_icmp .ge 7, 3) := by decide +kernel
theorem dX10_missing_85 : decode cX10_missing 85 = .ok (.iconst 1, 1) := by decide +kernel
theorem dX10_missing_86 : decode cX10_missing 86 = .ok (.goto 4, 3) := by decide +kernel
theorem dX10_missing_89 : decode cX10_missing 89 = .ok (.iconst 0, 1) := by decide +kernel
theorem dX10_missing_90 : decode cX10_missing 90 = .ok (.istore 5, 2) := by decide +kernel
theorem dX10_missing_92 : decode cX10_missing 92 = .ok (.iload 5, 2) := by decide +kernel
theorem dX10_missing_94 : decode cX10_missing 94 = .ok (.ifCond .eq 28, 3) := by decide +kernel
theorem dX10_missing_97 : decode cX10_missing 97 = .ok (.iload_n 3, 1) := by decide +kernel
theorem dX10_missing_98 : decode cX10_missing 98 = .ok (.ifCond .lt 14, 3) := by decide +kernel
theorem dX10_missing_101 : decode cX10_missing 101 = .ok (.aload_n 0, 1) := by decide +kernel
theorem dX10_missing_102 : decode cX10_missing 102 = .ok (.getfield 84, 3) := by decide +kernel
theorem dX10_missing_105 : decode cX10_missing 105 = .ok (.iload 4, 2) := by decide +kernel
theorem dX10_missing_107 : decode cX10_missing 107 = .ok (.iaload, 1) := by decide +kernel
theorem dX10_missing_108 : decode cX10_missing 108 = .ok (.iload_n 3, 1) := by decide +kernel
theorem dX10_missing_109 : decode cX10_missing 109 = .ok (.if_icmp .ge 13, 3) := by decide +kernel
theorem dX10_missing_112 : decode cX10_missing 112 = .ok (.aload_n 0, 1) := by decide +kernel
theorem dX10_missing_113 : decode cX10_missing 113 = .ok (.getfield 84, 3) := by decide +kernel
theorem dX10_missing_116 : decode cX10_missing 116 = .ok (.iload 4, 2) := by decide +kernel
theorem dX10_missing_118 : decode cX10_missing 118 = .ok (.iaload, 1) := by decide +kernel
theorem dX10_missing_119 : decode cX10_missing 119 = .ok (.goto 4, 3) := by decide +kernel
theorem dX10_missing_122 : decode cX10_missing 122 = .ok (.iload_n 3, 1) := by decide +kernel
theorem dX10_missing_123 : decode cX10_missing 123 = .ok (.istore_n 3, 1) := by decide +kernel
theorem dX10_missing_124 : decode cX10_missing 124 = .ok (.iinc 4 1, 3) := by decide +kernel
theorem dX10_missing_127 : decode cX10_missing 127 = .ok (.goto (-96), 3) := by decide +kernel
theorem dX10_missing_130 : decode cX10_missing 130 = .ok (.iload_n 3, 1) := by decide +kernel
theorem dX10_missing_131 : decode cX10_missing 131 = .ok (.ireturn, 1) := by decide +kernel
def rmX10_missing : Room := { frames := 2, cells := 0, slots := 0, locals := 45 }
def fX10_missing_123 (r31 : Nat → Int32 → Int32 → Int32 → Int32 → PH → Option (Int32 × PH)) (al0 : Nat) (xl1 : Int32) (xl2 : Int32) (xl4 : Int32) (xs0 : Int32) (h0 : PH) : Option (Int32 × PH) :=
    r31 al0 xl1 xl2 xs0 (xl4 + 1) h0
set_option maxHeartbeats 4000000 in
set_option maxRecDepth 100000 in
theorem vfX10_missing_123 {p : Program} {l : Launch} {e : Env} {s : State} {m : MethodId} {args : Array Value} {below : List Frame} {meth : Method} {c : Code} {G : GX} (C : Cx p s m args meth c G cX10_missing 6 RX10) (hr : meth.sig.returnType = (some .int)) {r31 : Nat → Int32 → Int32 → Int32 → Int32 → PH → Option (Int32 × PH)} (k31 : ∀ (al0 : Nat) (xl1 : Int32) (xl2 : Int32) (xl3 : Int32) (xl4 : Int32) (h0 : PH), J p l e rmX10_missing s m args below meth c G 6 (qM below args s rvI G 0 0) 0 0 h0 31 [(0, .ref al0), (1, .int xl1), (2, .int xl2), (3, .int xl3), (4, .int xl4)] [] (r31 al0 xl1 xl2 xl3 xl4 h0)) (al0 : Nat) (xl1 : Int32) (xl2 : Int32) (xl4 : Int32) (xs0 : Int32) (h0 : PH) : J p l e rmX10_missing s m args below meth c G 6 (qM below args s rvI G 0 0) 0 0 h0 123 [(0, .ref al0), (1, .int xl1), (2, .int xl2), (4, .int xl4)] [.int xs0] (fX10_missing_123 r31 al0 xl1 xl2 xl4 xs0 h0) := by
  unfold fX10_missing_123
  refine J_istore_n (pc := 123) (lv1 := [(3, .int xs0), (0, .ref al0), (1, .int xl1), (2, .int xl2), (4, .int xl4)]) C dX10_missing_123 rfl (by decide) rfl ?_
  refine J_iinc (pc := 124) (v := (xl4 + 1)) (lv1 := [(4, .int (xl4 + 1)), (3, .int xs0), (0, .ref al0), (1, .int xl1), (2, .int xl2)]) C dX10_missing_124 4 rfl rfl (by decide) rfl ?_
  refine J_goto (pc := 127) (tgt := 31) C dX10_missing_127 (by decide) ?_
  refine J_sub [2, 3, 4, 1, 0] rfl ?_
  exact k31 al0 xl1 xl2 xs0 (xl4 + 1) h0
def fX10_missing_122 (r31 : Nat → Int32 → Int32 → Int32 → Int32 → PH → Option (Int32 × PH)) (al0 : Nat) (xl1 : Int32) (xl2 : Int32) (xl3 : Int32) (xl4 : Int32) (h0 : PH) : Option (Int32 × PH) :=
    fX10_missing_123 r31 al0 xl1 xl2 xl4 xl3 h0
set_option maxHeartbeats 4000000 in
set_option maxRecDepth 100000 in
theorem vfX10_missing_122 {p : Program} {l : Launch} {e : Env} {s : State} {m : MethodId} {args : Array Value} {below : List Frame} {meth : Method} {c : Code} {G : GX} (C : Cx p s m args meth c G cX10_missing 6 RX10) (hr : meth.sig.returnType = (some .int)) {r31 : Nat → Int32 → Int32 → Int32 → Int32 → PH → Option (Int32 × PH)} (k31 : ∀ (al0 : Nat) (xl1 : Int32) (xl2 : Int32) (xl3 : Int32) (xl4 : Int32) (h0 : PH), J p l e rmX10_missing s m args below meth c G 6 (qM below args s rvI G 0 0) 0 0 h0 31 [(0, .ref al0), (1, .int xl1), (2, .int xl2), (3, .int xl3), (4, .int xl4)] [] (r31 al0 xl1 xl2 xl3 xl4 h0)) (al0 : Nat) (xl1 : Int32) (xl2 : Int32) (xl3 : Int32) (xl4 : Int32) (h0 : PH) : J p l e rmX10_missing s m args below meth c G 6 (qM below args s rvI G 0 0) 0 0 h0 122 [(0, .ref al0), (1, .int xl1), (2, .int xl2), (3, .int xl3), (4, .int xl4)] [] (fX10_missing_122 r31 al0 xl1 xl2 xl3 xl4 h0) := by
  unfold fX10_missing_122
  refine J_iload_n (pc := 122) C dX10_missing_122 rfl 3 rfl ?_
  refine J_sub [0, 1, 2, 4] rfl ?_
  exact vfX10_missing_123 C hr k31 al0 xl1 xl2 xl4 xl3 h0
def fX10_missing_112 (r31 : Nat → Int32 → Int32 → Int32 → Int32 → PH → Option (Int32 × PH)) (al0 : Nat) (xl1 : Int32) (xl2 : Int32) (xl4 : Int32) (h0 : PH) : Option (Int32 × PH) :=
    bn (rdR 10 42 al0 h0) fun a9 =>
    bn (aldI 0 a9 xl4 h0) fun x10 =>
    fX10_missing_123 r31 al0 xl1 xl2 xl4 x10 h0
set_option maxHeartbeats 4000000 in
set_option maxRecDepth 100000 in
theorem vfX10_missing_112 {p : Program} {l : Launch} {e : Env} {s : State} {m : MethodId} {args : Array Value} {below : List Frame} {meth : Method} {c : Code} {G : GX} (C : Cx p s m args meth c G cX10_missing 6 RX10) (hr : meth.sig.returnType = (some .int)) {r31 : Nat → Int32 → Int32 → Int32 → Int32 → PH → Option (Int32 × PH)} (k31 : ∀ (al0 : Nat) (xl1 : Int32) (xl2 : Int32) (xl3 : Int32) (xl4 : Int32) (h0 : PH), J p l e rmX10_missing s m args below meth c G 6 (qM below args s rvI G 0 0) 0 0 h0 31 [(0, .ref al0), (1, .int xl1), (2, .int xl2), (3, .int xl3), (4, .int xl4)] [] (r31 al0 xl1 xl2 xl3 xl4 h0)) (al0 : Nat) (xl1 : Int32) (xl2 : Int32) (xl4 : Int32) (h0 : PH) : J p l e rmX10_missing s m args below meth c G 6 (qM below args s rvI G 0 0) 0 0 h0 112 [(0, .ref al0), (1, .int xl1), (2, .int xl2), (4, .int xl4)] [] (fX10_missing_112 r31 al0 xl1 xl2 xl4 h0) := by
  unfold fX10_missing_112
  refine J_aload_n (pc := 112) C dX10_missing_112 rfl 0 rfl ?_
  refine J_getR (pc := 113) C flX10_84 dX10_missing_113 (fun a9 => ?_)
  refine J_iload (pc := 116) C dX10_missing_116 3 rfl ?_
  refine J_iald (pc := 118) C dX10_missing_118 (fun x10 => ?_)
  refine J_goto (pc := 119) (tgt := 123) C dX10_missing_119 (by decide) ?_
  exact vfX10_missing_123 C hr k31 al0 xl1 xl2 xl4 x10 h0
def fX10_missing_90 (r31 : Nat → Int32 → Int32 → Int32 → Int32 → PH → Option (Int32 × PH)) (al0 : Nat) (xl1 : Int32) (xl2 : Int32) (xl3 : Int32) (xl4 : Int32) (xs0 : Int32) (h0 : PH) : Option (Int32 × PH) :=
    if xs0 = 0 then (fX10_missing_122 r31 al0 xl1 xl2 xl3 xl4 h0) else
    if xl3 < 0 then (fX10_missing_112 r31 al0 xl1 xl2 xl4 h0) else
    bn (rdR 10 42 al0 h0) fun a11 =>
    bn (aldI 0 a11 xl4 h0) fun x12 =>
    if xl3 ≤ x12 then (fX10_missing_122 r31 al0 xl1 xl2 xl3 xl4 h0) else
    fX10_missing_112 r31 al0 xl1 xl2 xl4 h0
set_option maxHeartbeats 4000000 in
set_option maxRecDepth 100000 in
theorem vfX10_missing_90 {p : Program} {l : Launch} {e : Env} {s : State} {m : MethodId} {args : Array Value} {below : List Frame} {meth : Method} {c : Code} {G : GX} (C : Cx p s m args meth c G cX10_missing 6 RX10) (hr : meth.sig.returnType = (some .int)) {r31 : Nat → Int32 → Int32 → Int32 → Int32 → PH → Option (Int32 × PH)} (k31 : ∀ (al0 : Nat) (xl1 : Int32) (xl2 : Int32) (xl3 : Int32) (xl4 : Int32) (h0 : PH), J p l e rmX10_missing s m args below meth c G 6 (qM below args s rvI G 0 0) 0 0 h0 31 [(0, .ref al0), (1, .int xl1), (2, .int xl2), (3, .int xl3), (4, .int xl4)] [] (r31 al0 xl1 xl2 xl3 xl4 h0)) (al0 : Nat) (xl1 : Int32) (xl2 : Int32) (xl3 : Int32) (xl4 : Int32) (xs0 : Int32) (h0 : PH) : J p l e rmX10_missing s m args below meth c G 6 (qM below args s rvI G 0 0) 0 0 h0 90 [(0, .ref al0), (1, .int xl1), (2, .int xl2), (3, .int xl3), (4, .int xl4)] [.int xs0] (fX10_missing_90 r31 al0 xl1 xl2 xl3 xl4 xs0 h0) := by
  unfold fX10_missing_90
  refine J_istore (pc := 90) (lv1 := [(5, .int xs0), (0, .ref al0), (1, .int xl1), (2, .int xl2), (3, .int xl3), (4, .int xl4)]) C dX10_missing_90 (by decide) rfl ?_
  refine J_iload (pc := 92) C dX10_missing_92 0 rfl ?_
  refine J_if_eq (pc := 94) (tgt := 122) C dX10_missing_94 (by decide) ?_ ?_
  · refine J_sub [1, 2, 3, 4, 5] rfl ?_
    exact vfX10_missing_122 C hr k31 al0 xl1 xl2 xl3 xl4 h0
  · refine J_iload_n (pc := 97) C dX10_missing_97 rfl 4 rfl ?_
    refine J_if_lt (pc := 98) (tgt := 112) C dX10_missing_98 (by decide) ?_ ?_
    · refine J_sub [1, 2, 3, 5] rfl ?_
      exact vfX10_missing_112 C hr k31 al0 xl1 xl2 xl4 h0
    · refine J_aload_n (pc := 101) C dX10_missing_101 rfl 1 rfl ?_
      refine J_getR (pc := 102) C flX10_84 dX10_missing_102 (fun a11 => ?_)
      refine J_iload (pc := 105) C dX10_missing_105 5 rfl ?_
      refine J_iald (pc := 107) C dX10_missing_107 (fun x12 => ?_)
      refine J_iload_n (pc := 108) C dX10_missing_108 rfl 4 rfl ?_
      refine J_icmp_ge (pc := 109) (tgt := 122) C dX10_missing_109 (by decide) ?_ ?_
      · refine J_sub [1, 2, 3, 4, 5] rfl ?_
        exact vfX10_missing_122 C hr k31 al0 xl1 xl2 xl3 xl4 h0
      · refine J_sub [1, 2, 3, 5] rfl ?_
        exact vfX10_missing_112 C hr k31 al0 xl1 xl2 xl4 h0
def fX10_missing_89 (r31 : Nat → Int32 → Int32 → Int32 → Int32 → PH → Option (Int32 × PH)) (al0 : Nat) (xl1 : Int32) (xl2 : Int32) (xl3 : Int32) (xl4 : Int32) (h0 : PH) : Option (Int32 × PH) :=
    fX10_missing_90 r31 al0 xl1 xl2 xl3 xl4 (0 : Int32) h0
set_option maxHeartbeats 4000000 in
set_option maxRecDepth 100000 in
theorem vfX10_missing_89 {p : Program} {l : Launch} {e : Env} {s : State} {m : MethodId} {args : Array Value} {below : List Frame} {meth : Method} {c : Code} {G : GX} (C : Cx p s m args meth c G cX10_missing 6 RX10) (hr : meth.sig.returnType = (some .int)) {r31 : Nat → Int32 → Int32 → Int32 → Int32 → PH → Option (Int32 × PH)} (k31 : ∀ (al0 : Nat) (xl1 : Int32) (xl2 : Int32) (xl3 : Int32) (xl4 : Int32) (h0 : PH), J p l e rmX10_missing s m args below meth c G 6 (qM below args s rvI G 0 0) 0 0 h0 31 [(0, .ref al0), (1, .int xl1), (2, .int xl2), (3, .int xl3), (4, .int xl4)] [] (r31 al0 xl1 xl2 xl3 xl4 h0)) (al0 : Nat) (xl1 : Int32) (xl2 : Int32) (xl3 : Int32) (xl4 : Int32) (h0 : PH) : J p l e rmX10_missing s m args below meth c G 6 (qM below args s rvI G 0 0) 0 0 h0 89 [(0, .ref al0), (1, .int xl1), (2, .int xl2), (3, .int xl3), (4, .int xl4)] [] (fX10_missing_89 r31 al0 xl1 xl2 xl3 xl4 h0) := by
  unfold fX10_missing_89
  refine J_iconst (pc := 89) (v := 0) C dX10_missing_89 (by decide) ?_
  exact vfX10_missing_90 C hr k31 al0 xl1 xl2 xl3 xl4 (0 : Int32) h0
def fX10_missing_31  : Nat → Nat → Int32 → Int32 → Int32 → Int32 → PH → Option (Int32 × PH)
  | 0, _, _, _, _, _, _ => none
  | n + 1, al0, xl1, xl2, xl3, xl4, h0 =>
    bn (rdI 10 40 al0 h0) fun x6 =>
    if x6 ≤ xl4 then (some (xl3, h0)) else
    bn (rdR 10 41 al0 h0) fun a7 =>
    bn (aldI 0 a7 xl4 h0) fun x8 =>
    if x8 = xl1 then (bn (rdR 10 42 al0 h0) fun a13 =>
    bn (aldI 0 a13 xl4 h0) fun x14 =>
    if xl2 < x14 then (fX10_missing_89 (fX10_missing_31 n) al0 xl1 xl2 xl3 xl4 h0) else
    bn (rdR 10 43 al0 h0) fun a15 =>
    bn (aldI 0 a15 xl4 h0) fun x16 =>
    bn (rdR 10 42 al0 h0) fun a17 =>
    bn (aldI 0 a17 xl4 h0) fun x18 =>
    bn (chk 10 al0 h0) fun _ => bn2 (fX10_heldIn al0 xl1 x18 xl2 h0) fun x20 h19 =>
    if x20 ≤ x16 then (fX10_missing_89 (fX10_missing_31 n) al0 xl1 xl2 xl3 xl4 h19) else
    fX10_missing_90 (fX10_missing_31 n) al0 xl1 xl2 xl3 xl4 (1 : Int32) h19) else
    fX10_missing_89 (fX10_missing_31 n) al0 xl1 xl2 xl3 xl4 h0
set_option maxHeartbeats 4000000 in
set_option maxRecDepth 100000 in
theorem vfX10_missing_31 {p : Program} {l : Launch} {e : Env} {s : State} {m : MethodId} {args : Array Value} {below : List Frame} {meth : Method} {c : Code} {G : GX} (C : Cx p s m args meth c G cX10_missing 6 RX10) (hr : meth.sig.returnType = (some .int)) : ∀ (n : Nat) (al0 : Nat) (xl1 : Int32) (xl2 : Int32) (xl3 : Int32) (xl4 : Int32) (h0 : PH), J p l e rmX10_missing s m args below meth c G 6 (qM below args s rvI G 0 0) 0 0 h0 31 [(0, .ref al0), (1, .int xl1), (2, .int xl2), (3, .int xl3), (4, .int xl4)] [] (fX10_missing_31  n al0 xl1 xl2 xl3 xl4 h0) := by
  intro n
  induction n with
  | zero => exact fun al0 xl1 xl2 xl3 xl4 h0 => J_none C
  | succ n ih =>
    intro al0 xl1 xl2 xl3 xl4 h0
    unfold fX10_missing_31
    refine J_iload (pc := 31) C dX10_missing_31 4 rfl ?_
    refine J_aload_n (pc := 33) C dX10_missing_33 rfl 0 rfl ?_
    refine J_getI (pc := 34) C flX10_256 dX10_missing_34 (fun x6 => ?_)
    refine J_icmp_ge (pc := 37) (tgt := 130) C dX10_missing_37 (by decide) ?_ ?_
    · refine J_iload_n (pc := 130) C dX10_missing_130 rfl 3 rfl ?_
      exact J_iret (pc := 131) C hr dX10_missing_131
    · refine J_aload_n (pc := 40) C dX10_missing_40 rfl 0 rfl ?_
      refine J_getR (pc := 41) C flX10_81 dX10_missing_41 (fun a7 => ?_)
      refine J_iload (pc := 44) C dX10_missing_44 4 rfl ?_
      refine J_iald (pc := 46) C dX10_missing_46 (fun x8 => ?_)
      refine J_iload_n (pc := 47) C dX10_missing_47 rfl 1 rfl ?_
      refine J_icmp_ne (pc := 48) (tgt := 89) C dX10_missing_48 (by decide) ?_ ?_
      · exact vfX10_missing_89 C hr ih al0 xl1 xl2 xl3 xl4 h0
      · refine J_aload_n (pc := 51) C dX10_missing_51 rfl 0 rfl ?_
        refine J_getR (pc := 52) C flX10_84 dX10_missing_52 (fun a13 => ?_)
        refine J_iload (pc := 55) C dX10_missing_55 4 rfl ?_
        refine J_iald (pc := 57) C dX10_missing_57 (fun x14 => ?_)
        refine J_iload_n (pc := 58) C dX10_missing_58 rfl 2 rfl ?_
        refine J_icmp_gt (pc := 59) (tgt := 89) C dX10_missing_59 (by decide) ?_ ?_
        · exact vfX10_missing_89 C hr ih al0 xl1 xl2 xl3 xl4 h0
        · refine J_aload_n (pc := 62) C dX10_missing_62 rfl 0 rfl ?_
          refine J_getR (pc := 63) C flX10_87 dX10_missing_63 (fun a15 => ?_)
          refine J_iload (pc := 66) C dX10_missing_66 4 rfl ?_
          refine J_iald (pc := 68) C dX10_missing_68 (fun x16 => ?_)
          refine J_aload_n (pc := 69) C dX10_missing_69 rfl 0 rfl ?_
          refine J_iload_n (pc := 70) C dX10_missing_70 rfl 1 rfl ?_
          refine J_aload_n (pc := 71) C dX10_missing_71 rfl 0 rfl ?_
          refine J_getR (pc := 72) C flX10_84 dX10_missing_72 (fun a17 => ?_)
          refine J_iload (pc := 75) C dX10_missing_75 4 rfl ?_
          refine J_iald (pc := 77) C dX10_missing_77 (fun x18 => ?_)
          refine J_iload_n (pc := 78) C dX10_missing_78 rfl 2 rfl ?_
          refine J_callVI (pc := 79) (As := [.int xl1, .int x18, .int xl2]) (rest := [.int x16]) C (fun z hz => mX10_heldIn al0 xl1 x18 xl2 h0 z hz) mwX10_heldIn csX10_heldIn mlX10_249 inX10_heldIn rfl dX10_missing_79 (by decide) rfl (Nat.le_of_ble_eq_true rfl) (by decide) (fun x20 h19 => ?_)
          refine J_icmp_ge (pc := 82) (tgt := 89) C dX10_missing_82 (by decide) ?_ ?_
          · exact vfX10_missing_89 C hr ih al0 xl1 xl2 xl3 xl4 h19
          · refine J_iconst (pc := 85) (v := 1) C dX10_missing_85 (by decide) ?_
            refine J_goto (pc := 86) (tgt := 90) C dX10_missing_86 (by decide) ?_
            exact vfX10_missing_90 C hr ih al0 xl1 xl2 xl3 xl4 (1 : Int32) h19
def fX10_missing  (a0 : Nat) (xp0 : Int32) (xp1 : Int32) (h0 : PH) : Option (Int32 × PH) :=
    bn (wr 10 0 (.int (0 : Int32)) a0 h0) fun h1 =>
    bn2 (fX10_in xp0.toInt64 (0 : Int64) (3 : Int64) h1) fun x3 h2 =>
    if x3 = 0 then (some ((-1 : Int32), h2)) else
    bn2 (fX10_isHour xp1 h2) fun x5 h4 =>
    if x5 = 0 then (some ((-1 : Int32), h4)) else
    fX10_missing_31  FU a0 xp0 xp1 (-1 : Int32) (0 : Int32) h4
set_option maxHeartbeats 4000000 in
set_option maxRecDepth 100000 in
theorem vfX10_missing {p : Program} {l : Launch} {e : Env} {s : State} {m : MethodId} {args : Array Value} {below : List Frame} {meth : Method} {c : Code} {G : GX} (C : Cx p s m args meth c G cX10_missing 6 RX10) (hr : meth.sig.returnType = (some .int)) (a0 : Nat) (xp0 : Int32) (xp1 : Int32) (h0 : PH) : J p l e rmX10_missing s m args below meth c G 6 (qM below args s rvI G 0 0) 0 0 h0 0 [(0, .ref a0), (1, .int xp0), (2, .int xp1)] [] (fX10_missing  a0 xp0 xp1 h0) := by
  unfold fX10_missing
  refine J_aload_n (pc := 0) C dX10_missing_0 rfl 0 rfl ?_
  refine J_iconst (pc := 1) (v := 0) C dX10_missing_1 (by decide) ?_
  refine J_put (pc := 2) C flX10_90 cl10 ft10_0 rfl rfl dX10_missing_2 (fun h1 => ?_)
  refine J_iload_n (pc := 5) C dX10_missing_5 rfl 1 rfl ?_
  refine J_i2l (pc := 6) C dX10_missing_6 ?_
  refine J_lconst (pc := 7) (v := 0) C dX10_missing_7 (by decide) ?_
  refine J_ldc2 (pc := 8) C kjX10_239 dX10_missing_8 ?_
  refine J_callSI (pc := 11) (As := [.long xp0.toInt64, .long (0 : Int64), .long (3 : Int64)]) (rest := []) C (fun z hz => mX10_in xp0.toInt64 (0 : Int64) (3 : Int64) h1 z hz) mwX10_in mlX10_99 stX10_in rfl dX10_missing_11 (by decide) rfl (Nat.le_of_ble_eq_true rfl) (by decide) (fun x3 h2 => ?_)
  refine J_if_eq (pc := 14) (tgt := 24) C dX10_missing_14 (by decide) ?_ ?_
  · refine J_iconst (pc := 24) (v := -1) C dX10_missing_24 (by decide) ?_
    exact J_iret (pc := 25) C hr dX10_missing_25
  · refine J_iload_n (pc := 17) C dX10_missing_17 rfl 2 rfl ?_
    refine J_callSI (pc := 18) (As := [.int xp1]) (rest := []) C (fun z hz => mX10_isHour xp1 h2 z hz) mwX10_isHour mlX10_243 stX10_isHour rfl dX10_missing_18 (by decide) rfl (Nat.le_of_ble_eq_true rfl) (by decide) (fun x5 h4 => ?_)
    refine J_if_ne (pc := 21) (tgt := 26) C dX10_missing_21 (by decide) ?_ ?_
    · refine J_iconst (pc := 26) (v := -1) C dX10_missing_26 (by decide) ?_
      refine J_istore_n (pc := 27) (lv1 := [(3, .int (-1 : Int32)), (0, .ref a0), (1, .int xp0), (2, .int xp1)]) C dX10_missing_27 rfl (by decide) rfl ?_
      refine J_iconst (pc := 28) (v := 0) C dX10_missing_28 (by decide) ?_
      refine J_istore (pc := 29) (lv1 := [(4, .int (0 : Int32)), (3, .int (-1 : Int32)), (0, .ref a0), (1, .int xp0), (2, .int xp1)]) C dX10_missing_29 (by decide) rfl ?_
      refine J_sub [2, 3, 4, 1, 0] rfl ?_
      exact vfX10_missing_31 C hr  FU a0 xp0 xp1 (-1 : Int32) (0 : Int32) h4
    · refine J_iconst (pc := 24) (v := -1) C dX10_missing_24 (by decide) ?_
      exact J_iret (pc := 25) C hr dX10_missing_25
theorem mX10_missing {l : Launch} {G : GX} (a0 : Nat) (xp0 : Int32) (xp1 : Int32) (h0 : PH) : ∀ z, fX10_missing a0 xp0 xp1 h0 = some z → MC l G yX10_missing cX10_missing 6 (some .int) rmX10_missing [.ref a0, .int xp0, .int xp1] h0 (rvI z.1) z.2 :=
  Met_J (own := RX10) (by decide) rfl (Nat.le_of_ble_eq_true rfl) (fun p e s m args below meth c C hr hn => vfX10_missing C hr a0 xp0 xp1 h0)

theorem dX7_livingPieces_0 : decode cX7_livingPieces 0 = .ok (.iconst 0, 1) := by decide +kernel
theorem dX7_livingPieces_1 : decode cX7_livingPieces 1 = .ok (.istore_n 1, 1) := by decide +kernel
theorem dX7_livingPieces_2 : decode cX7_livingPieces 2 = .ok (.iconst 0, 1) := by decide +kernel
theorem dX7_livingPieces_3 : decode cX7_livingPieces 3 = .ok (.istore_n 2, 1) := by decide +kernel
theorem dX7_livingPieces_4 : decode cX7_livingPieces 4 = .ok (.iload_n 2, 1) := by decide +kernel
theorem dX7_livingPieces_5 : decode cX7_livingPieces 5 = .ok (.aload_n 0, 1) := by decide +kernel
theorem dX7_livingPieces_6 : decode cX7_livingPieces 6 = .ok (.getfield 30, 3) := by decide +kernel
theorem dX7_livingPieces_9 : decode cX7_livingPieces 9 = .ok (.if_icmp .ge 20, 3) := by decide +kernel
theorem dX7_livingPieces_12 : decode cX7_livingPieces 12 = .ok (.aload_n 0, 1) := by decide +kernel
theorem dX7_livingPieces_13 : decode cX7_livingPieces 13 = .ok (.iload_n 2, 1) := by decide +kernel
theorem dX7_livingPieces_14 : decode cX7_livingPieces 14 = .ok (.invokevirtual 54, 3) := by decide +kernel
theorem dX7_livingPieces_17 : decode cX7_livingPieces 17 = .ok (.ifnull 6, 3) := by decide +kernel
theorem dX7_livingPieces_20 : decode cX7_livingPieces 20 = .ok (.iinc 1 1, 3) := by decide +kernel
theorem dX7_livingPieces_23 : decode cX7_livingPieces 23 = .ok (.iinc 2 1, 3) := by decide +kernel
theorem dX7_livingPieces_26 : decode cX7_livingPieces 26 = .ok (.goto (-22), 3) := by decide +kernel
theorem dX7_livingPieces_29 : decode cX7_livingPieces 29 = .ok (.iload_n 1, 1) := by decide +kernel
theorem dX7_livingPieces_30 : decode cX7_livingPieces 30 = .ok (.ireturn, 1) := by decide +kernel
def rmX7_livingPieces : Room := { frames := 1, cells := 0, slots := 0, locals := 22 }
def fX7_livingPieces_23 (r4 : Nat → Int32 → Int32 → PH → Option (Int32 × PH)) (al0 : Nat) (xl1 : Int32) (xl2 : Int32) (h0 : PH) : Option (Int32 × PH) :=
    r4 al0 xl1 (xl2 + 1) h0
set_option maxHeartbeats 4000000 in
set_option maxRecDepth 100000 in
theorem vfX7_livingPieces_23 {p : Program} {l : Launch} {e : Env} {s : State} {m : MethodId} {args : Array Value} {below : List Frame} {meth : Method} {c : Code} {G : GX} (C : Cx p s m args meth c G cX7_livingPieces 3 RX7) (hr : meth.sig.returnType = (some .int)) {r4 : Nat → Int32 → Int32 → PH → Option (Int32 × PH)} (k4 : ∀ (al0 : Nat) (xl1 : Int32) (xl2 : Int32) (h0 : PH), J p l e rmX7_livingPieces s m args below meth c G 3 (qM below args s rvI G 0 0) 0 0 h0 4 [(0, .ref al0), (1, .int xl1), (2, .int xl2)] [] (r4 al0 xl1 xl2 h0)) (al0 : Nat) (xl1 : Int32) (xl2 : Int32) (h0 : PH) : J p l e rmX7_livingPieces s m args below meth c G 3 (qM below args s rvI G 0 0) 0 0 h0 23 [(0, .ref al0), (1, .int xl1), (2, .int xl2)] [] (fX7_livingPieces_23 r4 al0 xl1 xl2 h0) := by
  unfold fX7_livingPieces_23
  refine J_iinc (pc := 23) (v := (xl2 + 1)) (lv1 := [(2, .int (xl2 + 1)), (0, .ref al0), (1, .int xl1)]) C dX7_livingPieces_23 2 rfl rfl (by decide) rfl ?_
  refine J_goto (pc := 26) (tgt := 4) C dX7_livingPieces_26 (by decide) ?_
  refine J_sub [1, 2, 0] rfl ?_
  exact k4 al0 xl1 (xl2 + 1) h0
def fX7_livingPieces_4  : Nat → Nat → Int32 → Int32 → PH → Option (Int32 × PH)
  | 0, _, _, _, _ => none
  | n + 1, al0, xl1, xl2, h0 =>
    bn (rdI 7 4 al0 h0) fun x1 =>
    if x1 ≤ xl2 then (some (xl1, h0)) else
    bn (chk 7 al0 h0) fun _ => bn2 (fX7_living al0 xl2 h0) fun o3 h2 =>
    onul o3 (fX7_livingPieces_23 (fX7_livingPieces_4 n) al0 xl1 xl2 h2) fun a4 =>
    fX7_livingPieces_23 (fX7_livingPieces_4 n) al0 (xl1 + 1) xl2 h2
set_option maxHeartbeats 4000000 in
set_option maxRecDepth 100000 in
theorem vfX7_livingPieces_4 {p : Program} {l : Launch} {e : Env} {s : State} {m : MethodId} {args : Array Value} {below : List Frame} {meth : Method} {c : Code} {G : GX} (C : Cx p s m args meth c G cX7_livingPieces 3 RX7) (hr : meth.sig.returnType = (some .int)) : ∀ (n : Nat) (al0 : Nat) (xl1 : Int32) (xl2 : Int32) (h0 : PH), J p l e rmX7_livingPieces s m args below meth c G 3 (qM below args s rvI G 0 0) 0 0 h0 4 [(0, .ref al0), (1, .int xl1), (2, .int xl2)] [] (fX7_livingPieces_4  n al0 xl1 xl2 h0) := by
  intro n
  induction n with
  | zero => exact fun al0 xl1 xl2 h0 => J_none C
  | succ n ih =>
    intro al0 xl1 xl2 h0
    unfold fX7_livingPieces_4
    refine J_iload_n (pc := 4) C dX7_livingPieces_4 rfl 2 rfl ?_
    refine J_aload_n (pc := 5) C dX7_livingPieces_5 rfl 0 rfl ?_
    refine J_getI (pc := 6) C flX7_30 dX7_livingPieces_6 (fun x1 => ?_)
    refine J_icmp_ge (pc := 9) (tgt := 29) C dX7_livingPieces_9 (by decide) ?_ ?_
    · refine J_iload_n (pc := 29) C dX7_livingPieces_29 rfl 1 rfl ?_
      exact J_iret (pc := 30) C hr dX7_livingPieces_30
    · refine J_aload_n (pc := 12) C dX7_livingPieces_12 rfl 0 rfl ?_
      refine J_iload_n (pc := 13) C dX7_livingPieces_13 rfl 2 rfl ?_
      refine J_callVR (pc := 14) (As := [.int xl2]) (rest := []) C (fun z hz => mX7_living al0 xl2 h0 z hz) mwX7_living csX7_living mlX7_54 inX7_living rfl dX7_livingPieces_14 (by decide) rfl (Nat.le_of_ble_eq_true rfl) (by decide) (fun o3 h2 => ?_)
      refine J_onul (fun hx => ?_) (fun a4 hx => ?_)
      · subst hx
        refine J_ifnullN (pc := 17) (tgt := 23) C dX7_livingPieces_17 (by decide) ?_
        exact vfX7_livingPieces_23 C hr ih al0 xl1 xl2 h2
      · subst hx
        refine J_ifnull (pc := 17) C dX7_livingPieces_17 ?_
        refine J_iinc (pc := 20) (v := (xl1 + 1)) (lv1 := [(1, .int (xl1 + 1)), (0, .ref al0), (2, .int xl2)]) C dX7_livingPieces_20 1 rfl rfl (by decide) rfl ?_
        refine J_sub [1, 0, 2] rfl ?_
        exact vfX7_livingPieces_23 C hr ih al0 (xl1 + 1) xl2 h2
def fX7_livingPieces  (a0 : Nat) (h0 : PH) : Option (Int32 × PH) :=
    fX7_livingPieces_4  FU a0 (0 : Int32) (0 : Int32) h0
set_option maxHeartbeats 4000000 in
set_option maxRecDepth 100000 in
theorem vfX7_livingPieces {p : Program} {l : Launch} {e : Env} {s : State} {m : MethodId} {args : Array Value} {below : List Frame} {meth : Method} {c : Code} {G : GX} (C : Cx p s m args meth c G cX7_livingPieces 3 RX7) (hr : meth.sig.returnType = (some .int)) (a0 : Nat) (h0 : PH) : J p l e rmX7_livingPieces s m args below meth c G 3 (qM below args s rvI G 0 0) 0 0 h0 0 [(0, .ref a0)] [] (fX7_livingPieces  a0 h0) := by
  unfold fX7_livingPieces
  refine J_iconst (pc := 0) (v := 0) C dX7_livingPieces_0 (by decide) ?_
  refine J_istore_n (pc := 1) (lv1 := [(1, .int (0 : Int32)), (0, .ref a0)]) C dX7_livingPieces_1 rfl (by decide) rfl ?_
  refine J_iconst (pc := 2) (v := 0) C dX7_livingPieces_2 (by decide) ?_
  refine J_istore_n (pc := 3) (lv1 := [(2, .int (0 : Int32)), (1, .int (0 : Int32)), (0, .ref a0)]) C dX7_livingPieces_3 rfl (by decide) rfl ?_
  refine J_sub [2, 1, 0] rfl ?_
  exact vfX7_livingPieces_4 C hr  FU a0 (0 : Int32) (0 : Int32) h0
theorem mX7_livingPieces {l : Launch} {G : GX} (a0 : Nat) (h0 : PH) : ∀ z, fX7_livingPieces a0 h0 = some z → MC l G yX7_livingPieces cX7_livingPieces 3 (some .int) rmX7_livingPieces [.ref a0] h0 (rvI z.1) z.2 :=
  Met_J (own := RX7) (by decide) rfl (Nat.le_of_ble_eq_true rfl) (fun p e s m args below meth c C hr hn => vfX7_livingPieces C hr a0 h0)

theorem dX7_allGrains_0 : decode cX7_allGrains 0 = .ok (.iconst 0, 1) := by decide +kernel
theorem dX7_allGrains_1 : decode cX7_allGrains 1 = .ok (.istore_n 1, 1) := by decide +kernel
theorem dX7_allGrains_2 : decode cX7_allGrains 2 = .ok (.iconst 0, 1) := by decide +kernel
theorem dX7_allGrains_3 : decode cX7_allGrains 3 = .ok (.istore_n 2, 1) := by decide +kernel
theorem dX7_allGrains_4 : decode cX7_allGrains 4 = .ok (.iload_n 2, 1) := by decide +kernel
theorem dX7_allGrains_5 : decode cX7_allGrains 5 = .ok (.aload_n 0, 1) := by decide +kernel
theorem dX7_allGrains_6 : decode cX7_allGrains 6 = .ok (.getfield 30, 3) := by decide +kernel
theorem dX7_allGrains_9 : decode cX7_allGrains 9 = .ok (.if_icmp .ge 26, 3) := by decide +kernel
theorem dX7_allGrains_12 : decode cX7_allGrains 12 = .ok (.aload_n 0, 1) := by decide +kernel
theorem dX7_allGrains_13 : decode cX7_allGrains 13 = .ok (.iload_n 2, 1) := by decide +kernel
theorem dX7_allGrains_14 : decode cX7_allGrains 14 = .ok (.invokevirtual 54, 3) := by decide +kernel
theorem dX7_allGrains_17 : decode cX7_allGrains 17 = .ok (.astore_n 3, 1) := by decide +kernel
theorem dX7_allGrains_18 : decode cX7_allGrains 18 = .ok (.aload_n 3, 1) := by decide +kernel
theorem dX7_allGrains_19 : decode cX7_allGrains 19 = .ok (.ifnull 10, 3) := by decide +kernel
theorem dX7_allGrains_22 : decode cX7_allGrains 22 = .ok (.iload_n 1, 1) := by decide +kernel
theorem dX7_allGrains_23 : decode cX7_allGrains 23 = .ok (.aload_n 3, 1) := by decide +kernel
theorem dX7_allGrains_24 : decode cX7_allGrains 24 = .ok (.getfield 47, 3) := by decide +kernel
theorem dX7_allGrains_27 : decode cX7_allGrains 27 = .ok (.iadd, 1) := by decide +kernel
theorem dX7_allGrains_28 : decode cX7_allGrains 28 = .ok (.istore_n 1, 1) := by decide +kernel
theorem dX7_allGrains_29 : decode cX7_allGrains 29 = .ok (.iinc 2 1, 3) := by decide +kernel
theorem dX7_allGrains_32 : decode cX7_allGrains 32 = .ok (.goto (-28), 3) := by decide +kernel
theorem dX7_allGrains_35 : decode cX7_allGrains 35 = .ok (.iload_n 1, 1) := by decide +kernel
theorem dX7_allGrains_36 : decode cX7_allGrains 36 = .ok (.ireturn, 1) := by decide +kernel
def rmX7_allGrains : Room := { frames := 1, cells := 0, slots := 0, locals := 22 }
def fX7_allGrains_29 (r4 : Nat → Int32 → Int32 → PH → Option (Int32 × PH)) (al0 : Nat) (xl1 : Int32) (xl2 : Int32) (h0 : PH) : Option (Int32 × PH) :=
    r4 al0 xl1 (xl2 + 1) h0
set_option maxHeartbeats 4000000 in
set_option maxRecDepth 100000 in
theorem vfX7_allGrains_29 {p : Program} {l : Launch} {e : Env} {s : State} {m : MethodId} {args : Array Value} {below : List Frame} {meth : Method} {c : Code} {G : GX} (C : Cx p s m args meth c G cX7_allGrains 4 RX7) (hr : meth.sig.returnType = (some .int)) {r4 : Nat → Int32 → Int32 → PH → Option (Int32 × PH)} (k4 : ∀ (al0 : Nat) (xl1 : Int32) (xl2 : Int32) (h0 : PH), J p l e rmX7_allGrains s m args below meth c G 4 (qM below args s rvI G 0 0) 0 0 h0 4 [(0, .ref al0), (1, .int xl1), (2, .int xl2)] [] (r4 al0 xl1 xl2 h0)) (al0 : Nat) (xl1 : Int32) (xl2 : Int32) (h0 : PH) : J p l e rmX7_allGrains s m args below meth c G 4 (qM below args s rvI G 0 0) 0 0 h0 29 [(0, .ref al0), (1, .int xl1), (2, .int xl2)] [] (fX7_allGrains_29 r4 al0 xl1 xl2 h0) := by
  unfold fX7_allGrains_29
  refine J_iinc (pc := 29) (v := (xl2 + 1)) (lv1 := [(2, .int (xl2 + 1)), (0, .ref al0), (1, .int xl1)]) C dX7_allGrains_29 2 rfl rfl (by decide) rfl ?_
  refine J_goto (pc := 32) (tgt := 4) C dX7_allGrains_32 (by decide) ?_
  refine J_sub [1, 2, 0] rfl ?_
  exact k4 al0 xl1 (xl2 + 1) h0
def fX7_allGrains_4  : Nat → Nat → Int32 → Int32 → PH → Option (Int32 × PH)
  | 0, _, _, _, _ => none
  | n + 1, al0, xl1, xl2, h0 =>
    bn (rdI 7 4 al0 h0) fun x1 =>
    if x1 ≤ xl2 then (some (xl1, h0)) else
    bn (chk 7 al0 h0) fun _ => bn2 (fX7_living al0 xl2 h0) fun o3 h2 =>
    onul o3 (fX7_allGrains_29 (fX7_allGrains_4 n) al0 xl1 xl2 h2) fun a4 =>
    bn (rdI 5 1 a4 h2) fun x5 =>
    nm (xl1 + x5) fun x6 =>
    fX7_allGrains_29 (fX7_allGrains_4 n) al0 x6 xl2 h2
set_option maxHeartbeats 4000000 in
set_option maxRecDepth 100000 in
theorem vfX7_allGrains_4 {p : Program} {l : Launch} {e : Env} {s : State} {m : MethodId} {args : Array Value} {below : List Frame} {meth : Method} {c : Code} {G : GX} (C : Cx p s m args meth c G cX7_allGrains 4 RX7) (hr : meth.sig.returnType = (some .int)) : ∀ (n : Nat) (al0 : Nat) (xl1 : Int32) (xl2 : Int32) (h0 : PH), J p l e rmX7_allGrains s m args below meth c G 4 (qM below args s rvI G 0 0) 0 0 h0 4 [(0, .ref al0), (1, .int xl1), (2, .int xl2)] [] (fX7_allGrains_4  n al0 xl1 xl2 h0) := by
  intro n
  induction n with
  | zero => exact fun al0 xl1 xl2 h0 => J_none C
  | succ n ih =>
    intro al0 xl1 xl2 h0
    unfold fX7_allGrains_4
    refine J_iload_n (pc := 4) C dX7_allGrains_4 rfl 2 rfl ?_
    refine J_aload_n (pc := 5) C dX7_allGrains_5 rfl 0 rfl ?_
    refine J_getI (pc := 6) C flX7_30 dX7_allGrains_6 (fun x1 => ?_)
    refine J_icmp_ge (pc := 9) (tgt := 35) C dX7_allGrains_9 (by decide) ?_ ?_
    · refine J_iload_n (pc := 35) C dX7_allGrains_35 rfl 1 rfl ?_
      exact J_iret (pc := 36) C hr dX7_allGrains_36
    · refine J_aload_n (pc := 12) C dX7_allGrains_12 rfl 0 rfl ?_
      refine J_iload_n (pc := 13) C dX7_allGrains_13 rfl 2 rfl ?_
      refine J_callVR (pc := 14) (As := [.int xl2]) (rest := []) C (fun z hz => mX7_living al0 xl2 h0 z hz) mwX7_living csX7_living mlX7_54 inX7_living rfl dX7_allGrains_14 (by decide) rfl (Nat.le_of_ble_eq_true rfl) (by decide) (fun o3 h2 => ?_)
      refine J_astore_nQ (pc := 17) (x := o3) (lv1 := [(3, va_rf o3), (0, .ref al0), (1, .int xl1), (2, .int xl2)]) C dX7_allGrains_17 rfl (by decide) rfl ?_
      refine J_aload_nQ (pc := 18) (x := o3) C dX7_allGrains_18 rfl 0 rfl ?_
      refine J_onul (fun hx => ?_) (fun a4 hx => ?_)
      · subst hx
        refine J_ifnullN (pc := 19) (tgt := 29) C dX7_allGrains_19 (by decide) ?_
        refine J_sub [1, 2, 3] rfl ?_
        exact vfX7_allGrains_29 C hr ih al0 xl1 xl2 h2
      · subst hx
        refine J_ifnull (pc := 19) C dX7_allGrains_19 ?_
        refine J_iload_n (pc := 22) C dX7_allGrains_22 rfl 2 rfl ?_
        refine J_aload_n (pc := 23) C dX7_allGrains_23 rfl 0 rfl ?_
        refine J_getI (pc := 24) C flX7_47 dX7_allGrains_24 (fun x5 => ?_)
        refine J_iadd (pc := 27) C dX7_allGrains_27 ?_
        refine J_nm (fv := .int) (fun x6 => ?_)
        refine J_istore_n (pc := 28) (lv1 := [(1, .int x6), (3, .ref a4), (0, .ref al0), (2, .int xl2)]) C dX7_allGrains_28 rfl (by decide) rfl ?_
        refine J_sub [2, 0, 3] rfl ?_
        exact vfX7_allGrains_29 C hr ih al0 x6 xl2 h2
def fX7_allGrains  (a0 : Nat) (h0 : PH) : Option (Int32 × PH) :=
    fX7_allGrains_4  FU a0 (0 : Int32) (0 : Int32) h0
set_option maxHeartbeats 4000000 in
set_option maxRecDepth 100000 in
theorem vfX7_allGrains {p : Program} {l : Launch} {e : Env} {s : State} {m : MethodId} {args : Array Value} {below : List Frame} {meth : Method} {c : Code} {G : GX} (C : Cx p s m args meth c G cX7_allGrains 4 RX7) (hr : meth.sig.returnType = (some .int)) (a0 : Nat) (h0 : PH) : J p l e rmX7_allGrains s m args below meth c G 4 (qM below args s rvI G 0 0) 0 0 h0 0 [(0, .ref a0)] [] (fX7_allGrains  a0 h0) := by
  unfold fX7_allGrains
  refine J_iconst (pc := 0) (v := 0) C dX7_allGrains_0 (by decide) ?_
  refine J_istore_n (pc := 1) (lv1 := [(1, .int (0 : Int32)), (0, .ref a0)]) C dX7_allGrains_1 rfl (by decide) rfl ?_
  refine J_iconst (pc := 2) (v := 0) C dX7_allGrains_2 (by decide) ?_
  refine J_istore_n (pc := 3) (lv1 := [(2, .int (0 : Int32)), (1, .int (0 : Int32)), (0, .ref a0)]) C dX7_allGrains_3 rfl (by decide) rfl ?_
  refine J_sub [2, 1, 0] rfl ?_
  exact vfX7_allGrains_4 C hr  FU a0 (0 : Int32) (0 : Int32) h0
theorem mX7_allGrains {l : Launch} {G : GX} (a0 : Nat) (h0 : PH) : ∀ z, fX7_allGrains a0 h0 = some z → MC l G yX7_allGrains cX7_allGrains 4 (some .int) rmX7_allGrains [.ref a0] h0 (rvI z.1) z.2 :=
  Met_J (own := RX7) (by decide) rfl (Nat.le_of_ble_eq_true rfl) (fun p e s m args below meth c C hr hn => vfX7_allGrains C hr a0 h0)

theorem dX9_count_0 : decode cX9_count 0 = .ok (.iload_n 1, 1) := by decide +kernel
theorem dX9_count_1 : decode cX9_count 1 = .ok (.tableswitch 123 0 8 #[51, 59, 67, 75, 83, 91, 99, 107, 115], 51) := by decide +kernel
theorem dX9_count_52 : decode cX9_count 52 = .ok (.aload_n 0, 1) := by decide +kernel
theorem dX9_count_53 : decode cX9_count 53 = .ok (.getfield 10, 3) := by decide +kernel
theorem dX9_count_56 : decode cX9_count 56 = .ok (.getfield 90, 3) := by decide +kernel
theorem dX9_count_59 : decode cX9_count 59 = .ok (.ireturn, 1) := by decide +kernel
theorem dX9_count_60 : decode cX9_count 60 = .ok (.aload_n 0, 1) := by decide +kernel
theorem dX9_count_61 : decode cX9_count 61 = .ok (.getfield 10, 3) := by decide +kernel
theorem dX9_count_64 : decode cX9_count 64 = .ok (.invokevirtual 215, 3) := by decide +kernel
theorem dX9_count_67 : decode cX9_count 67 = .ok (.ireturn, 1) := by decide +kernel
theorem dX9_count_68 : decode cX9_count 68 = .ok (.aload_n 0, 1) := by decide +kernel
theorem dX9_count_69 : decode cX9_count 69 = .ok (.getfield 10, 3) := by decide +kernel
theorem dX9_count_72 : decode cX9_count 72 = .ok (.getfield 219, 3) := by decide +kernel
theorem dX9_count_75 : decode cX9_count 75 = .ok (.ireturn, 1) := by decide +kernel
theorem dX9_count_76 : decode cX9_count 76 = .ok (.aload_n 0, 1) := by decide +kernel
theorem dX9_count_77 : decode cX9_count 77 = .ok (.getfield 19, 3) := by decide +kernel
theorem dX9_count_80 : decode cX9_count 80 = .ok (.getfield 222, 3) := by decide +kernel
theorem dX9_count_83 : decode cX9_count 83 = .ok (.ireturn, 1) := by decide +kernel
theorem dX9_count_84 : decode cX9_count 84 = .ok (.aload_n 0, 1) := by decide +kernel
theorem dX9_count_85 : decode cX9_count 85 = .ok (.getfield 19, 3) := by decide +kernel
theorem dX9_count_88 : decode cX9_count 88 = .ok (.getfield 225, 3) := by decide +kernel
theorem dX9_count_91 : decode cX9_count 91 = .ok (.ireturn, 1) := by decide +kernel
theorem dX9_count_92 : decode cX9_count 92 = .ok (.aload_n 0, 1) := by decide +kernel
theorem dX9_count_93 : decode cX9_count 93 = .ok (.getfield 38, 3) := by decide +kernel
theorem dX9_count_96 : decode cX9_count 96 = .ok (.getfield 228, 3) := by decide +kernel
theorem dX9_count_99 : decode cX9_count 99 = .ok (.ireturn, 1) := by decide +kernel
theorem dX9_count_100 : decode cX9_count 100 = .ok (.aload_n 0, 1) := by decide +kernel
theorem dX9_count_101 : decode cX9_count 101 = .ok (.getfield 52, 3) := by decide +kernel
theorem dX9_count_104 : decode cX9_count 104 = .ok (.getfield 123, 3) := by decide +kernel
theorem dX9_count_107 : decode cX9_count 107 = .ok (.ireturn, 1) := by decide +kernel
theorem dX9_count_108 : decode cX9_count 108 = .ok (.aload_n 0, 1) := by decide +kernel
theorem dX9_count_109 : decode cX9_count 109 = .ok (.getfield 10, 3) := by decide +kernel
theorem dX9_count_112 : decode cX9_count 112 = .ok (.invokevirtual 229, 3) := by decide +kernel
theorem dX9_count_115 : decode cX9_count 115 = .ok (.ireturn, 1) := by decide +kernel
theorem dX9_count_116 : decode cX9_count 116 = .ok (.aload_n 0, 1) := by decide +kernel
theorem dX9_count_117 : decode cX9_count 117 = .ok (.getfield 34, 3) := by decide +kernel
theorem dX9_count_120 : decode cX9_count 120 = .ok (.getfield 107, 3) := by decide +kernel
theorem dX9_count_123 : decode cX9_count 123 = .ok (.ireturn, 1) := by decide +kernel
theorem dX9_count_124 : decode cX9_count 124 = .ok (.iconst (-1), 1) := by decide +kernel
theorem dX9_count_125 : decode cX9_count 125 = .ok (.ireturn, 1) := by decide +kernel
def rmX9_count : Room := { frames := 2, cells := 0, slots := 0, locals := 45 }
def fX9_count  (a0 : Nat) (xp0 : Int32) (h0 : PH) : Option (Int32 × PH) :=
    if xp0 = 0 then bn (rdR 9 0 a0 h0) fun a1 =>
    bn (rdI 7 3 a1 h0) fun x2 =>
    some (x2, h0) else
    if xp0 = 1 then bn (rdR 9 0 a0 h0) fun a3 =>
    bn (chk 7 a3 h0) fun _ => bn2 (fX7_livingPieces a3 h0) fun x5 h4 =>
    some (x5, h4) else
    if xp0 = 2 then bn (rdR 9 0 a0 h0) fun a6 =>
    bn (rdI 7 4 a6 h0) fun x7 =>
    some (x7, h0) else
    if xp0 = 3 then bn (rdR 9 1 a0 h0) fun a8 =>
    bn (rdI 0 0 a8 h0) fun x9 =>
    some (x9, h0) else
    if xp0 = 4 then bn (rdR 9 1 a0 h0) fun a10 =>
    bn (rdI 0 1 a10 h0) fun x11 =>
    some (x11, h0) else
    if xp0 = 5 then bn (rdR 9 4 a0 h0) fun a12 =>
    bn (rdI 6 4 a12 h0) fun x13 =>
    some (x13, h0) else
    if xp0 = 6 then bn (rdR 9 6 a0 h0) fun a14 =>
    bn (rdI 4 0 a14 h0) fun x15 =>
    some (x15, h0) else
    if xp0 = 7 then bn (rdR 9 0 a0 h0) fun a16 =>
    bn (chk 7 a16 h0) fun _ => bn2 (fX7_allGrains a16 h0) fun x18 h17 =>
    some (x18, h17) else
    if xp0 = 8 then bn (rdR 9 3 a0 h0) fun a19 =>
    bn (rdI 8 1 a19 h0) fun x20 =>
    some (x20, h0) else
    if xp0.toInt < 0 ∨ 8 < xp0.toInt then some ((-1 : Int32), h0) else none
set_option maxHeartbeats 4000000 in
set_option maxRecDepth 100000 in
theorem vfX9_count {p : Program} {l : Launch} {e : Env} {s : State} {m : MethodId} {args : Array Value} {below : List Frame} {meth : Method} {c : Code} {G : GX} (C : Cx p s m args meth c G cX9_count 2 RX9) (hr : meth.sig.returnType = (some .int)) (a0 : Nat) (xp0 : Int32) (h0 : PH) : J p l e rmX9_count s m args below meth c G 2 (qM below args s rvI G 0 0) 0 0 h0 0 [(0, .ref a0), (1, .int xp0)] [] (fX9_count  a0 xp0 h0) := by
  unfold fX9_count
  refine J_iload_n (pc := 0) C dX9_count_0 rfl 1 rfl ?_
  refine J_tableIn (pc := 1) (off := 51) (tgt := 52) C 0 dX9_count_1 (by decide) (by decide) rfl (by decide) ?_ ?_
  · refine J_aload_n (pc := 52) C dX9_count_52 rfl 0 rfl ?_
    refine J_getR (pc := 53) C flX9_10 dX9_count_53 (fun a1 => ?_)
    refine J_getI (pc := 56) C flX9_90 dX9_count_56 (fun x2 => ?_)
    exact J_iret (pc := 59) C hr dX9_count_59
  refine J_tableIn (pc := 1) (off := 59) (tgt := 60) C 1 dX9_count_1 (by decide) (by decide) rfl (by decide) ?_ ?_
  · refine J_aload_n (pc := 60) C dX9_count_60 rfl 0 rfl ?_
    refine J_getR (pc := 61) C flX9_10 dX9_count_61 (fun a3 => ?_)
    refine J_callVI (pc := 64) (As := []) (rest := []) C (fun z hz => mX7_livingPieces a3 h0 z hz) mwX7_livingPieces csX7_livingPieces mlX9_215 inX7_livingPieces rfl dX9_count_64 (by decide) rfl (Nat.le_of_ble_eq_true rfl) (by decide) (fun x5 h4 => ?_)
    exact J_iret (pc := 67) C hr dX9_count_67
  refine J_tableIn (pc := 1) (off := 67) (tgt := 68) C 2 dX9_count_1 (by decide) (by decide) rfl (by decide) ?_ ?_
  · refine J_aload_n (pc := 68) C dX9_count_68 rfl 0 rfl ?_
    refine J_getR (pc := 69) C flX9_10 dX9_count_69 (fun a6 => ?_)
    refine J_getI (pc := 72) C flX9_219 dX9_count_72 (fun x7 => ?_)
    exact J_iret (pc := 75) C hr dX9_count_75
  refine J_tableIn (pc := 1) (off := 75) (tgt := 76) C 3 dX9_count_1 (by decide) (by decide) rfl (by decide) ?_ ?_
  · refine J_aload_n (pc := 76) C dX9_count_76 rfl 0 rfl ?_
    refine J_getR (pc := 77) C flX9_19 dX9_count_77 (fun a8 => ?_)
    refine J_getI (pc := 80) C flX9_222 dX9_count_80 (fun x9 => ?_)
    exact J_iret (pc := 83) C hr dX9_count_83
  refine J_tableIn (pc := 1) (off := 83) (tgt := 84) C 4 dX9_count_1 (by decide) (by decide) rfl (by decide) ?_ ?_
  · refine J_aload_n (pc := 84) C dX9_count_84 rfl 0 rfl ?_
    refine J_getR (pc := 85) C flX9_19 dX9_count_85 (fun a10 => ?_)
    refine J_getI (pc := 88) C flX9_225 dX9_count_88 (fun x11 => ?_)
    exact J_iret (pc := 91) C hr dX9_count_91
  refine J_tableIn (pc := 1) (off := 91) (tgt := 92) C 5 dX9_count_1 (by decide) (by decide) rfl (by decide) ?_ ?_
  · refine J_aload_n (pc := 92) C dX9_count_92 rfl 0 rfl ?_
    refine J_getR (pc := 93) C flX9_38 dX9_count_93 (fun a12 => ?_)
    refine J_getI (pc := 96) C flX9_228 dX9_count_96 (fun x13 => ?_)
    exact J_iret (pc := 99) C hr dX9_count_99
  refine J_tableIn (pc := 1) (off := 99) (tgt := 100) C 6 dX9_count_1 (by decide) (by decide) rfl (by decide) ?_ ?_
  · refine J_aload_n (pc := 100) C dX9_count_100 rfl 0 rfl ?_
    refine J_getR (pc := 101) C flX9_52 dX9_count_101 (fun a14 => ?_)
    refine J_getI (pc := 104) C flX9_123 dX9_count_104 (fun x15 => ?_)
    exact J_iret (pc := 107) C hr dX9_count_107
  refine J_tableIn (pc := 1) (off := 107) (tgt := 108) C 7 dX9_count_1 (by decide) (by decide) rfl (by decide) ?_ ?_
  · refine J_aload_n (pc := 108) C dX9_count_108 rfl 0 rfl ?_
    refine J_getR (pc := 109) C flX9_10 dX9_count_109 (fun a16 => ?_)
    refine J_callVI (pc := 112) (As := []) (rest := []) C (fun z hz => mX7_allGrains a16 h0 z hz) mwX7_allGrains csX7_allGrains mlX9_229 inX7_allGrains rfl dX9_count_112 (by decide) rfl (Nat.le_of_ble_eq_true rfl) (by decide) (fun x18 h17 => ?_)
    exact J_iret (pc := 115) C hr dX9_count_115
  refine J_tableIn (pc := 1) (off := 115) (tgt := 116) C 8 dX9_count_1 (by decide) (by decide) rfl (by decide) ?_ ?_
  · refine J_aload_n (pc := 116) C dX9_count_116 rfl 0 rfl ?_
    refine J_getR (pc := 117) C flX9_34 dX9_count_117 (fun a19 => ?_)
    refine J_getI (pc := 120) C flX9_107 dX9_count_120 (fun x20 => ?_)
    exact J_iret (pc := 123) C hr dX9_count_123
  refine J_tableOut (pc := 1) (tgt := 124) C dX9_count_1 (by decide) ?_
  refine J_iconst (pc := 124) (v := -1) C dX9_count_124 (by decide) ?_
  exact J_iret (pc := 125) C hr dX9_count_125
theorem mX9_count {l : Launch} {G : GX} (a0 : Nat) (xp0 : Int32) (h0 : PH) : ∀ z, fX9_count a0 xp0 h0 = some z → MC l G yX9_count cX9_count 2 (some .int) rmX9_count [.ref a0, .int xp0] h0 (rvI z.1) z.2 :=
  Met_J (own := RX9) (by decide) rfl (Nat.le_of_ble_eq_true rfl) (fun p e s m args below meth c C hr hn => vfX9_count C hr a0 xp0 h0)

theorem dX10_count_0 : decode cX10_count 0 = .ok (.aload_n 0, 1) := by decide +kernel
theorem dX10_count_1 : decode cX10_count 1 = .ok (.iconst 0, 1) := by decide +kernel
theorem dX10_count_2 : decode cX10_count 2 = .ok (.putfield 90, 3) := by decide +kernel
theorem dX10_count_5 : decode cX10_count 5 = .ok (.iconst 0, 1) := by decide +kernel
theorem dX10_count_6 : decode cX10_count 6 = .ok (.istore_n 2, 1) := by decide +kernel
theorem dX10_count_7 : decode cX10_count 7 = .ok (.iload_n 1, 1) := by decide +kernel
theorem dX10_count_8 : decode cX10_count 8 = .ok (.tableswitch 161 0 8 #[52, 57, 92, 97, 102, 107, 112, 117, 156], 52) := by decide +kernel
theorem dX10_count_60 : decode cX10_count 60 = .ok (.aload_n 0, 1) := by decide +kernel
theorem dX10_count_61 : decode cX10_count 61 = .ok (.getfield 111, 3) := by decide +kernel
theorem dX10_count_64 : decode cX10_count 64 = .ok (.ireturn, 1) := by decide +kernel
theorem dX10_count_65 : decode cX10_count 65 = .ok (.iconst 0, 1) := by decide +kernel
theorem dX10_count_66 : decode cX10_count 66 = .ok (.istore_n 3, 1) := by decide +kernel
theorem dX10_count_67 : decode cX10_count 67 = .ok (.iload_n 3, 1) := by decide +kernel
theorem dX10_count_68 : decode cX10_count 68 = .ok (.aload_n 0, 1) := by decide +kernel
theorem dX10_count_69 : decode cX10_count 69 = .ok (.getfield 96, 3) := by decide +kernel
theorem dX10_count_72 : decode cX10_count 72 = .ok (.if_icmp .ge 26, 3) := by decide +kernel
theorem dX10_count_75 : decode cX10_count 75 = .ok (.iload_n 2, 1) := by decide +kernel
theorem dX10_count_76 : decode cX10_count 76 = .ok (.aload_n 0, 1) := by decide +kernel
theorem dX10_count_77 : decode cX10_count 77 = .ok (.getfield 13, 3) := by decide +kernel
theorem dX10_count_80 : decode cX10_count 80 = .ok (.iload_n 3, 1) := by decide +kernel
theorem dX10_count_81 : decode cX10_count 81 = .ok (.baload, 1) := by decide +kernel
theorem dX10_count_82 : decode cX10_count 82 = .ok (.ifCond .eq 7, 3) := by decide +kernel
theorem dX10_count_85 : decode cX10_count 85 = .ok (.iconst 0, 1) := by decide +kernel
theorem dX10_count_86 : decode cX10_count 86 = .ok (.goto 4, 3) := by decide +kernel
theorem dX10_count_89 : decode cX10_count 89 = .ok (.iconst 1, 1) := by decide +kernel
theorem dX10_count_90 : decode cX10_count 90 = .ok (.iadd, 1) := by decide +kernel
theorem dX10_count_91 : decode cX10_count 91 = .ok (.istore_n 2, 1) := by decide +kernel
theorem dX10_count_92 : decode cX10_count 92 = .ok (.iinc 3 1, 3) := by decide +kernel
theorem dX10_count_95 : decode cX10_count 95 = .ok (.goto (-28), 3) := by decide +kernel
theorem dX10_count_98 : decode cX10_count 98 = .ok (.iload_n 2, 1) := by decide +kernel
theorem dX10_count_99 : decode cX10_count 99 = .ok (.ireturn, 1) := by decide +kernel
theorem dX10_count_100 : decode cX10_count 100 = .ok (.aload_n 0, 1) := by decide +kernel
theorem dX10_count_101 : decode cX10_count 101 = .ok (.getfield 96, 3) := by decide +kernel
theorem dX10_count_104 : decode cX10_count 104 = .ok (.ireturn, 1) := by decide +kernel
theorem dX10_count_105 : decode cX10_count 105 = .ok (.aload_n 0, 1) := by decide +kernel
theorem dX10_count_106 : decode cX10_count 106 = .ok (.getfield 225, 3) := by decide +kernel
theorem dX10_count_109 : decode cX10_count 109 = .ok (.ireturn, 1) := by decide +kernel
theorem dX10_count_110 : decode cX10_count 110 = .ok (.aload_n 0, 1) := by decide +kernel
theorem dX10_count_111 : decode cX10_count 111 = .ok (.getfield 230, 3) := by decide +kernel
theorem dX10_count_114 : decode cX10_count 114 = .ok (.ireturn, 1) := by decide +kernel
theorem dX10_count_115 : decode cX10_count 115 = .ok (.aload_n 0, 1) := by decide +kernel
theorem dX10_count_116 : decode cX10_count 116 = .ok (.getfield 210, 3) := by decide +kernel
theorem dX10_count_119 : decode cX10_count 119 = .ok (.ireturn, 1) := by decide +kernel
theorem dX10_count_120 : decode cX10_count 120 = .ok (.aload_n 0, 1) := by decide +kernel
theorem dX10_count_121 : decode cX10_count 121 = .ok (.getfield 207, 3) := by decide +kernel
theorem dX10_count_124 : decode cX10_count 124 = .ok (.ireturn, 1) := by decide +kernel
theorem dX10_count_125 : decode cX10_count 125 = .ok (.iconst 0, 1) := by decide +kernel
theorem dX10_count_126 : decode cX10_count 126 = .ok (.istore_n 3, 1) := by decide +kernel
theorem dX10_count_127 : decode cX10_count 127 = .ok (.iload_n 3, 1) := by decide +kernel
theorem dX10_count_128 : decode cX10_count 128 = .ok (.aload_n 0, 1) := by decide +kernel
theorem dX10_count_129 : decode cX10_count 129 = .ok (.getfield 96, 3) := by decide +kernel
theorem dX10_count_132 : decode cX10_count 132 = .ok (.if_icmp .ge 30, 3) := by decide +kernel
theorem dX10_count_135 : decode cX10_count 135 = .ok (.iload_n 2, 1) := by decide +kernel
theorem dX10_count_136 : decode cX10_count 136 = .ok (.aload_n 0, 1) := by decide +kernel
theorem dX10_count_137 : decode cX10_count 137 = .ok (.getfield 13, 3) := by decide +kernel
theorem dX10_count_140 : decode cX10_count 140 = .ok (.iload_n 3, 1) := by decide +kernel
theorem dX10_count_141 : decode cX10_count 141 = .ok (.baload, 1) := by decide +kernel
theorem dX10_count_142 : decode cX10_count 142 = .ok (.ifCond .eq 7, 3) := by decide +kernel
theorem dX10_count_145 : decode cX10_count 145 = .ok (.iconst 0, 1) := by decide +kernel
theorem dX10_count_146 : decode cX10_count 146 = .ok (.goto 8, 3) := by decide +kernel
theorem dX10_count_149 : decode cX10_count 149 = .ok (.aload_n 0, 1) := by decide +kernel
theorem dX10_count_150 : decode cX10_count 150 = .ok (.iload_n 3, 1) := by decide +kernel
theorem dX10_count_151 : decode cX10_count 151 = .ok (.invokevirtual 121, 3) := by decide +kernel
theorem dX10_count_154 : decode cX10_count 154 = .ok (.iadd, 1) := by decide +kernel
theorem dX10_count_155 : decode cX10_count 155 = .ok (.istore_n 2, 1) := by decide +kernel
theorem dX10_count_156 : decode cX10_count 156 = .ok (.iinc 3 1, 3) := by decide +kernel
theorem dX10_count_159 : decode cX10_count 159 = .ok (.goto (-32), 3) := by decide +kernel
theorem dX10_count_162 : decode cX10_count 162 = .ok (.iload_n 2, 1) := by decide +kernel
theorem dX10_count_163 : decode cX10_count 163 = .ok (.ireturn, 1) := by decide +kernel
theorem dX10_count_164 : decode cX10_count 164 = .ok (.aload_n 0, 1) := by decide +kernel
theorem dX10_count_165 : decode cX10_count 165 = .ok (.getfield 135, 3) := by decide +kernel
theorem dX10_count_168 : decode cX10_count 168 = .ok (.ireturn, 1) := by decide +kernel
theorem dX10_count_169 : decode cX10_count 169 = .ok (.iconst (-1), 1) := by decide +kernel
theorem dX10_count_170 : decode cX10_count 170 = .ok (.ireturn, 1) := by decide +kernel
def rmX10_count : Room := { frames := 1, cells := 0, slots := 0, locals := 23 }
def fX10_count_90 (r67 : Nat → Int32 → Int32 → PH → Option (Int32 × PH)) (al0 : Nat) (xl3 : Int32) (xs0 : Int32) (xs1 : Int32) (h0 : PH) : Option (Int32 × PH) :=
    nm (xs1 + xs0) fun x6 =>
    r67 al0 x6 (xl3 + 1) h0
set_option maxHeartbeats 4000000 in
set_option maxRecDepth 100000 in
theorem vfX10_count_90 {p : Program} {l : Launch} {e : Env} {s : State} {m : MethodId} {args : Array Value} {below : List Frame} {meth : Method} {c : Code} {G : GX} (C : Cx p s m args meth c G cX10_count 4 RX10) (hr : meth.sig.returnType = (some .int)) {r67 : Nat → Int32 → Int32 → PH → Option (Int32 × PH)} (k67 : ∀ (al0 : Nat) (xl2 : Int32) (xl3 : Int32) (h0 : PH), J p l e rmX10_count s m args below meth c G 4 (qM below args s rvI G 0 0) 0 0 h0 67 [(0, .ref al0), (2, .int xl2), (3, .int xl3)] [] (r67 al0 xl2 xl3 h0)) (al0 : Nat) (xl3 : Int32) (xs0 : Int32) (xs1 : Int32) (h0 : PH) : J p l e rmX10_count s m args below meth c G 4 (qM below args s rvI G 0 0) 0 0 h0 90 [(0, .ref al0), (3, .int xl3)] [.int xs0, .int xs1] (fX10_count_90 r67 al0 xl3 xs0 xs1 h0) := by
  unfold fX10_count_90
  refine J_iadd (pc := 90) C dX10_count_90 ?_
  refine J_nm (fv := .int) (fun x6 => ?_)
  refine J_istore_n (pc := 91) (lv1 := [(2, .int x6), (0, .ref al0), (3, .int xl3)]) C dX10_count_91 rfl (by decide) rfl ?_
  refine J_iinc (pc := 92) (v := (xl3 + 1)) (lv1 := [(3, .int (xl3 + 1)), (2, .int x6), (0, .ref al0)]) C dX10_count_92 2 rfl rfl (by decide) rfl ?_
  refine J_goto (pc := 95) (tgt := 67) C dX10_count_95 (by decide) ?_
  refine J_sub [2, 1, 0] rfl ?_
  exact k67 al0 x6 (xl3 + 1) h0
def fX10_count_67  : Nat → Nat → Int32 → Int32 → PH → Option (Int32 × PH)
  | 0, _, _, _, _ => none
  | n + 1, al0, xl2, xl3, h0 =>
    bn (rdI 10 4 al0 h0) fun x3 =>
    if x3 ≤ xl3 then (some (xl2, h0)) else
    bn (rdR 10 5 al0 h0) fun a4 =>
    bn (aldI 1 a4 xl3 h0) fun x5 =>
    if x5 = 0 then (fX10_count_90 (fX10_count_67 n) al0 xl3 (1 : Int32) xl2 h0) else
    fX10_count_90 (fX10_count_67 n) al0 xl3 (0 : Int32) xl2 h0
set_option maxHeartbeats 4000000 in
set_option maxRecDepth 100000 in
theorem vfX10_count_67 {p : Program} {l : Launch} {e : Env} {s : State} {m : MethodId} {args : Array Value} {below : List Frame} {meth : Method} {c : Code} {G : GX} (C : Cx p s m args meth c G cX10_count 4 RX10) (hr : meth.sig.returnType = (some .int)) : ∀ (n : Nat) (al0 : Nat) (xl2 : Int32) (xl3 : Int32) (h0 : PH), J p l e rmX10_count s m args below meth c G 4 (qM below args s rvI G 0 0) 0 0 h0 67 [(0, .ref al0), (2, .int xl2), (3, .int xl3)] [] (fX10_count_67  n al0 xl2 xl3 h0) := by
  intro n
  induction n with
  | zero => exact fun al0 xl2 xl3 h0 => J_none C
  | succ n ih =>
    intro al0 xl2 xl3 h0
    unfold fX10_count_67
    refine J_iload_n (pc := 67) C dX10_count_67 rfl 2 rfl ?_
    refine J_aload_n (pc := 68) C dX10_count_68 rfl 0 rfl ?_
    refine J_getI (pc := 69) C flX10_96 dX10_count_69 (fun x3 => ?_)
    refine J_icmp_ge (pc := 72) (tgt := 98) C dX10_count_72 (by decide) ?_ ?_
    · refine J_iload_n (pc := 98) C dX10_count_98 rfl 1 rfl ?_
      exact J_iret (pc := 99) C hr dX10_count_99
    · refine J_iload_n (pc := 75) C dX10_count_75 rfl 1 rfl ?_
      refine J_aload_n (pc := 76) C dX10_count_76 rfl 0 rfl ?_
      refine J_getR (pc := 77) C flX10_13 dX10_count_77 (fun a4 => ?_)
      refine J_iload_n (pc := 80) C dX10_count_80 rfl 2 rfl ?_
      refine J_zald (pc := 81) C dX10_count_81 (fun x5 => ?_)
      refine J_if_eq (pc := 82) (tgt := 89) C dX10_count_82 (by decide) ?_ ?_
      · refine J_iconst (pc := 89) (v := 1) C dX10_count_89 (by decide) ?_
        refine J_sub [0, 2] rfl ?_
        exact vfX10_count_90 C hr ih al0 xl3 (1 : Int32) xl2 h0
      · refine J_iconst (pc := 85) (v := 0) C dX10_count_85 (by decide) ?_
        refine J_goto (pc := 86) (tgt := 90) C dX10_count_86 (by decide) ?_
        refine J_sub [0, 2] rfl ?_
        exact vfX10_count_90 C hr ih al0 xl3 (0 : Int32) xl2 h0
def fX10_count_154 (r127 : Nat → Int32 → Int32 → PH → Option (Int32 × PH)) (al0 : Nat) (xl3 : Int32) (xs0 : Int32) (xs1 : Int32) (h0 : PH) : Option (Int32 × PH) :=
    nm (xs1 + xs0) fun x17 =>
    r127 al0 x17 (xl3 + 1) h0
set_option maxHeartbeats 4000000 in
set_option maxRecDepth 100000 in
theorem vfX10_count_154 {p : Program} {l : Launch} {e : Env} {s : State} {m : MethodId} {args : Array Value} {below : List Frame} {meth : Method} {c : Code} {G : GX} (C : Cx p s m args meth c G cX10_count 4 RX10) (hr : meth.sig.returnType = (some .int)) {r127 : Nat → Int32 → Int32 → PH → Option (Int32 × PH)} (k127 : ∀ (al0 : Nat) (xl2 : Int32) (xl3 : Int32) (h0 : PH), J p l e rmX10_count s m args below meth c G 4 (qM below args s rvI G 0 0) 0 0 h0 127 [(0, .ref al0), (2, .int xl2), (3, .int xl3)] [] (r127 al0 xl2 xl3 h0)) (al0 : Nat) (xl3 : Int32) (xs0 : Int32) (xs1 : Int32) (h0 : PH) : J p l e rmX10_count s m args below meth c G 4 (qM below args s rvI G 0 0) 0 0 h0 154 [(0, .ref al0), (3, .int xl3)] [.int xs0, .int xs1] (fX10_count_154 r127 al0 xl3 xs0 xs1 h0) := by
  unfold fX10_count_154
  refine J_iadd (pc := 154) C dX10_count_154 ?_
  refine J_nm (fv := .int) (fun x17 => ?_)
  refine J_istore_n (pc := 155) (lv1 := [(2, .int x17), (0, .ref al0), (3, .int xl3)]) C dX10_count_155 rfl (by decide) rfl ?_
  refine J_iinc (pc := 156) (v := (xl3 + 1)) (lv1 := [(3, .int (xl3 + 1)), (2, .int x17), (0, .ref al0)]) C dX10_count_156 2 rfl rfl (by decide) rfl ?_
  refine J_goto (pc := 159) (tgt := 127) C dX10_count_159 (by decide) ?_
  refine J_sub [2, 1, 0] rfl ?_
  exact k127 al0 x17 (xl3 + 1) h0
def fX10_count_127  : Nat → Nat → Int32 → Int32 → PH → Option (Int32 × PH)
  | 0, _, _, _, _ => none
  | n + 1, al0, xl2, xl3, h0 =>
    bn (rdI 10 4 al0 h0) fun x12 =>
    if x12 ≤ xl3 then (some (xl2, h0)) else
    bn (rdR 10 5 al0 h0) fun a13 =>
    bn (aldI 1 a13 xl3 h0) fun x14 =>
    if x14 = 0 then (bn (chk 10 al0 h0) fun _ => bn2 (fX10_weightOf al0 xl3 h0) fun x16 h15 =>
    fX10_count_154 (fX10_count_127 n) al0 xl3 x16 xl2 h15) else
    fX10_count_154 (fX10_count_127 n) al0 xl3 (0 : Int32) xl2 h0
set_option maxHeartbeats 4000000 in
set_option maxRecDepth 100000 in
theorem vfX10_count_127 {p : Program} {l : Launch} {e : Env} {s : State} {m : MethodId} {args : Array Value} {below : List Frame} {meth : Method} {c : Code} {G : GX} (C : Cx p s m args meth c G cX10_count 4 RX10) (hr : meth.sig.returnType = (some .int)) : ∀ (n : Nat) (al0 : Nat) (xl2 : Int32) (xl3 : Int32) (h0 : PH), J p l e rmX10_count s m args below meth c G 4 (qM below args s rvI G 0 0) 0 0 h0 127 [(0, .ref al0), (2, .int xl2), (3, .int xl3)] [] (fX10_count_127  n al0 xl2 xl3 h0) := by
  intro n
  induction n with
  | zero => exact fun al0 xl2 xl3 h0 => J_none C
  | succ n ih =>
    intro al0 xl2 xl3 h0
    unfold fX10_count_127
    refine J_iload_n (pc := 127) C dX10_count_127 rfl 2 rfl ?_
    refine J_aload_n (pc := 128) C dX10_count_128 rfl 0 rfl ?_
    refine J_getI (pc := 129) C flX10_96 dX10_count_129 (fun x12 => ?_)
    refine J_icmp_ge (pc := 132) (tgt := 162) C dX10_count_132 (by decide) ?_ ?_
    · refine J_iload_n (pc := 162) C dX10_count_162 rfl 1 rfl ?_
      exact J_iret (pc := 163) C hr dX10_count_163
    · refine J_iload_n (pc := 135) C dX10_count_135 rfl 1 rfl ?_
      refine J_aload_n (pc := 136) C dX10_count_136 rfl 0 rfl ?_
      refine J_getR (pc := 137) C flX10_13 dX10_count_137 (fun a13 => ?_)
      refine J_iload_n (pc := 140) C dX10_count_140 rfl 2 rfl ?_
      refine J_zald (pc := 141) C dX10_count_141 (fun x14 => ?_)
      refine J_if_eq (pc := 142) (tgt := 149) C dX10_count_142 (by decide) ?_ ?_
      · refine J_aload_n (pc := 149) C dX10_count_149 rfl 0 rfl ?_
        refine J_iload_n (pc := 150) C dX10_count_150 rfl 2 rfl ?_
        refine J_callVI (pc := 151) (As := [.int xl3]) (rest := [.int xl2]) C (fun z hz => mX10_weightOf al0 xl3 h0 z hz) mwX10_weightOf csX10_weightOf mlX10_121 inX10_weightOf rfl dX10_count_151 (by decide) rfl (Nat.le_of_ble_eq_true rfl) (by decide) (fun x16 h15 => ?_)
        refine J_sub [0, 2] rfl ?_
        exact vfX10_count_154 C hr ih al0 xl3 x16 xl2 h15
      · refine J_iconst (pc := 145) (v := 0) C dX10_count_145 (by decide) ?_
        refine J_goto (pc := 146) (tgt := 154) C dX10_count_146 (by decide) ?_
        refine J_sub [0, 2] rfl ?_
        exact vfX10_count_154 C hr ih al0 xl3 (0 : Int32) xl2 h0
def fX10_count  (a0 : Nat) (xp0 : Int32) (h0 : PH) : Option (Int32 × PH) :=
    bn (wr 10 0 (.int (0 : Int32)) a0 h0) fun h1 =>
    if xp0 = 0 then bn (rdI 10 2 a0 h1) fun x2 =>
    some (x2, h1) else
    if xp0 = 1 then fX10_count_67  FU a0 (0 : Int32) (0 : Int32) h1 else
    if xp0 = 2 then bn (rdI 10 4 a0 h1) fun x7 =>
    some (x7, h1) else
    if xp0 = 3 then bn (rdI 10 34 a0 h1) fun x8 =>
    some (x8, h1) else
    if xp0 = 4 then bn (rdI 10 9 a0 h1) fun x9 =>
    some (x9, h1) else
    if xp0 = 5 then bn (rdI 10 27 a0 h1) fun x10 =>
    some (x10, h1) else
    if xp0 = 6 then bn (rdI 10 10 a0 h1) fun x11 =>
    some (x11, h1) else
    if xp0 = 7 then fX10_count_127  FU a0 (0 : Int32) (0 : Int32) h1 else
    if xp0 = 8 then bn (rdI 10 20 a0 h1) fun x18 =>
    some (x18, h1) else
    if xp0.toInt < 0 ∨ 8 < xp0.toInt then some ((-1 : Int32), h1) else none
set_option maxHeartbeats 4000000 in
set_option maxRecDepth 100000 in
theorem vfX10_count {p : Program} {l : Launch} {e : Env} {s : State} {m : MethodId} {args : Array Value} {below : List Frame} {meth : Method} {c : Code} {G : GX} (C : Cx p s m args meth c G cX10_count 4 RX10) (hr : meth.sig.returnType = (some .int)) (a0 : Nat) (xp0 : Int32) (h0 : PH) : J p l e rmX10_count s m args below meth c G 4 (qM below args s rvI G 0 0) 0 0 h0 0 [(0, .ref a0), (1, .int xp0)] [] (fX10_count  a0 xp0 h0) := by
  unfold fX10_count
  refine J_aload_n (pc := 0) C dX10_count_0 rfl 0 rfl ?_
  refine J_iconst (pc := 1) (v := 0) C dX10_count_1 (by decide) ?_
  refine J_put (pc := 2) C flX10_90 cl10 ft10_0 rfl rfl dX10_count_2 (fun h1 => ?_)
  refine J_iconst (pc := 5) (v := 0) C dX10_count_5 (by decide) ?_
  refine J_istore_n (pc := 6) (lv1 := [(2, .int (0 : Int32)), (0, .ref a0), (1, .int xp0)]) C dX10_count_6 rfl (by decide) rfl ?_
  refine J_iload_n (pc := 7) C dX10_count_7 rfl 2 rfl ?_
  refine J_tableIn (pc := 8) (off := 52) (tgt := 60) C 0 dX10_count_8 (by decide) (by decide) rfl (by decide) ?_ ?_
  · refine J_aload_n (pc := 60) C dX10_count_60 rfl 1 rfl ?_
    refine J_getI (pc := 61) C flX10_111 dX10_count_61 (fun x2 => ?_)
    exact J_iret (pc := 64) C hr dX10_count_64
  refine J_tableIn (pc := 8) (off := 57) (tgt := 65) C 1 dX10_count_8 (by decide) (by decide) rfl (by decide) ?_ ?_
  · refine J_iconst (pc := 65) (v := 0) C dX10_count_65 (by decide) ?_
    refine J_istore_n (pc := 66) (lv1 := [(3, .int (0 : Int32)), (2, .int (0 : Int32)), (0, .ref a0), (1, .int xp0)]) C dX10_count_66 rfl (by decide) rfl ?_
    refine J_sub [2, 1, 0] rfl ?_
    exact vfX10_count_67 C hr  FU a0 (0 : Int32) (0 : Int32) h1
  refine J_tableIn (pc := 8) (off := 92) (tgt := 100) C 2 dX10_count_8 (by decide) (by decide) rfl (by decide) ?_ ?_
  · refine J_aload_n (pc := 100) C dX10_count_100 rfl 1 rfl ?_
    refine J_getI (pc := 101) C flX10_96 dX10_count_101 (fun x7 => ?_)
    exact J_iret (pc := 104) C hr dX10_count_104
  refine J_tableIn (pc := 8) (off := 97) (tgt := 105) C 3 dX10_count_8 (by decide) (by decide) rfl (by decide) ?_ ?_
  · refine J_aload_n (pc := 105) C dX10_count_105 rfl 1 rfl ?_
    refine J_getI (pc := 106) C flX10_225 dX10_count_106 (fun x8 => ?_)
    exact J_iret (pc := 109) C hr dX10_count_109
  refine J_tableIn (pc := 8) (off := 102) (tgt := 110) C 4 dX10_count_8 (by decide) (by decide) rfl (by decide) ?_ ?_
  · refine J_aload_n (pc := 110) C dX10_count_110 rfl 1 rfl ?_
    refine J_getI (pc := 111) C flX10_230 dX10_count_111 (fun x9 => ?_)
    exact J_iret (pc := 114) C hr dX10_count_114
  refine J_tableIn (pc := 8) (off := 107) (tgt := 115) C 5 dX10_count_8 (by decide) (by decide) rfl (by decide) ?_ ?_
  · refine J_aload_n (pc := 115) C dX10_count_115 rfl 1 rfl ?_
    refine J_getI (pc := 116) C flX10_210 dX10_count_116 (fun x10 => ?_)
    exact J_iret (pc := 119) C hr dX10_count_119
  refine J_tableIn (pc := 8) (off := 112) (tgt := 120) C 6 dX10_count_8 (by decide) (by decide) rfl (by decide) ?_ ?_
  · refine J_aload_n (pc := 120) C dX10_count_120 rfl 1 rfl ?_
    refine J_getI (pc := 121) C flX10_207 dX10_count_121 (fun x11 => ?_)
    exact J_iret (pc := 124) C hr dX10_count_124
  refine J_tableIn (pc := 8) (off := 117) (tgt := 125) C 7 dX10_count_8 (by decide) (by decide) rfl (by decide) ?_ ?_
  · refine J_iconst (pc := 125) (v := 0) C dX10_count_125 (by decide) ?_
    refine J_istore_n (pc := 126) (lv1 := [(3, .int (0 : Int32)), (2, .int (0 : Int32)), (0, .ref a0), (1, .int xp0)]) C dX10_count_126 rfl (by decide) rfl ?_
    refine J_sub [2, 1, 0] rfl ?_
    exact vfX10_count_127 C hr  FU a0 (0 : Int32) (0 : Int32) h1
  refine J_tableIn (pc := 8) (off := 156) (tgt := 164) C 8 dX10_count_8 (by decide) (by decide) rfl (by decide) ?_ ?_
  · refine J_aload_n (pc := 164) C dX10_count_164 rfl 1 rfl ?_
    refine J_getI (pc := 165) C flX10_135 dX10_count_165 (fun x18 => ?_)
    exact J_iret (pc := 168) C hr dX10_count_168
  refine J_tableOut (pc := 8) (tgt := 169) C dX10_count_8 (by decide) ?_
  refine J_iconst (pc := 169) (v := -1) C dX10_count_169 (by decide) ?_
  exact J_iret (pc := 170) C hr dX10_count_170
theorem mX10_count {l : Launch} {G : GX} (a0 : Nat) (xp0 : Int32) (h0 : PH) : ∀ z, fX10_count a0 xp0 h0 = some z → MC l G yX10_count cX10_count 4 (some .int) rmX10_count [.ref a0, .int xp0] h0 (rvI z.1) z.2 :=
  Met_J (own := RX10) (by decide) rfl (Nat.le_of_ble_eq_true rfl) (fun p e s m args below meth c C hr hn => vfX10_count C hr a0 xp0 h0)

theorem dX9_status_0 : decode cX9_status 0 = .ok (.aload_n 0, 1) := by decide +kernel
theorem dX9_status_1 : decode cX9_status 1 = .ok (.getfield 63, 3) := by decide +kernel
theorem dX9_status_4 : decode cX9_status 4 = .ok (.ireturn, 1) := by decide +kernel
def rmX9_status : Room := { frames := 0, cells := 0, slots := 0, locals := 0 }
def fX9_status  (a0 : Nat) (h0 : PH) : Option (Int32 × PH) :=
    bn (rdI 9 9 a0 h0) fun x1 =>
    some (x1, h0)
set_option maxHeartbeats 4000000 in
set_option maxRecDepth 100000 in
theorem vfX9_status {p : Program} {l : Launch} {e : Env} {s : State} {m : MethodId} {args : Array Value} {below : List Frame} {meth : Method} {c : Code} {G : GX} (C : Cx p s m args meth c G cX9_status 1 RX9) (hr : meth.sig.returnType = (some .int)) (a0 : Nat) (h0 : PH) : J p l e rmX9_status s m args below meth c G 1 (qM below args s rvI G 0 0) 0 0 h0 0 [(0, .ref a0)] [] (fX9_status  a0 h0) := by
  unfold fX9_status
  refine J_aload_n (pc := 0) C dX9_status_0 rfl 0 rfl ?_
  refine J_getI (pc := 1) C flX9_63 dX9_status_1 (fun x1 => ?_)
  exact J_iret (pc := 4) C hr dX9_status_4
theorem mX9_status {l : Launch} {G : GX} (a0 : Nat) (h0 : PH) : ∀ z, fX9_status a0 h0 = some z → MC l G yX9_status cX9_status 1 (some .int) rmX9_status [.ref a0] h0 (rvI z.1) z.2 :=
  Met_J (own := RX9) (by decide) rfl (Nat.le_of_ble_eq_true rfl) (fun p e s m args below meth c C hr hn => vfX9_status C hr a0 h0)

theorem dX10_status_0 : decode cX10_status 0 = .ok (.aload_n 0, 1) := by decide +kernel
theorem dX10_status_1 : decode cX10_status 1 = .ok (.iconst 0, 1) := by decide +kernel
theorem dX10_status_2 : decode cX10_status 2 = .ok (.putfield 90, 3) := by decide +kernel
theorem dX10_status_5 : decode cX10_status 5 = .ok (.aload_n 0, 1) := by decide +kernel
theorem dX10_status_6 : decode cX10_status 6 = .ok (.getfield 93, 3) := by decide +kernel
theorem dX10_status_9 : decode cX10_status 9 = .ok (.ireturn, 1) := by decide +kernel
def rmX10_status : Room := { frames := 0, cells := 0, slots := 0, locals := 0 }
def fX10_status  (a0 : Nat) (h0 : PH) : Option (Int32 × PH) :=
    bn (wr 10 0 (.int (0 : Int32)) a0 h0) fun h1 =>
    bn (rdI 10 1 a0 h1) fun x2 =>
    some (x2, h1)
set_option maxHeartbeats 4000000 in
set_option maxRecDepth 100000 in
theorem vfX10_status {p : Program} {l : Launch} {e : Env} {s : State} {m : MethodId} {args : Array Value} {below : List Frame} {meth : Method} {c : Code} {G : GX} (C : Cx p s m args meth c G cX10_status 1 RX10) (hr : meth.sig.returnType = (some .int)) (a0 : Nat) (h0 : PH) : J p l e rmX10_status s m args below meth c G 1 (qM below args s rvI G 0 0) 0 0 h0 0 [(0, .ref a0)] [] (fX10_status  a0 h0) := by
  unfold fX10_status
  refine J_aload_n (pc := 0) C dX10_status_0 rfl 0 rfl ?_
  refine J_iconst (pc := 1) (v := 0) C dX10_status_1 (by decide) ?_
  refine J_put (pc := 2) C flX10_90 cl10 ft10_0 rfl rfl dX10_status_2 (fun h1 => ?_)
  refine J_aload_n (pc := 5) C dX10_status_5 rfl 0 rfl ?_
  refine J_getI (pc := 6) C flX10_93 dX10_status_6 (fun x2 => ?_)
  exact J_iret (pc := 9) C hr dX10_status_9
theorem mX10_status {l : Launch} {G : GX} (a0 : Nat) (h0 : PH) : ∀ z, fX10_status a0 h0 = some z → MC l G yX10_status cX10_status 1 (some .int) rmX10_status [.ref a0] h0 (rvI z.1) z.2 :=
  Met_J (own := RX10) (by decide) rfl (Nat.le_of_ble_eq_true rfl) (fun p e s m args below meth c C hr hn => vfX10_status C hr a0 h0)

