theorem dX10_heldIn_0 : decode cX10_heldIn 0 = .ok (.iconst 0, 1) := by decide +kernel
theorem dX10_heldIn_1 : decode cX10_heldIn 1 = .ok (.istore 4, 2) := by decide +kernel
theorem dX10_heldIn_3 : decode cX10_heldIn 3 = .ok (.iconst 0, 1) := by decide +kernel
theorem dX10_heldIn_4 : decode cX10_heldIn 4 = .ok (.istore 5, 2) := by decide +kernel
theorem dX10_heldIn_6 : decode cX10_heldIn 6 = .ok (.iload 5, 2) := by decide +kernel
theorem dX10_heldIn_8 : decode cX10_heldIn 8 = .ok (.aload_n 0, 1) := by decide +kernel
theorem dX10_heldIn_9 : decode cX10_heldIn 9 = .ok (.getfield 246, 3) := by decide +kernel
theorem dX10_heldIn_12 : decode cX10_heldIn 12 = .ok (.if_icmp .ge 82, 3) := by decide +kernel
theorem dX10_heldIn_15 : decode cX10_heldIn 15 = .ok (.aload_n 0, 1) := by decide +kernel
theorem dX10_heldIn_16 : decode cX10_heldIn 16 = .ok (.getfield 75, 3) := by decide +kernel
theorem dX10_heldIn_19 : decode cX10_heldIn 19 = .ok (.iload 5, 2) := by decide +kernel
theorem dX10_heldIn_21 : decode cX10_heldIn 21 = .ok (.iaload, 1) := by decide +kernel
theorem dX10_heldIn_22 : decode cX10_heldIn 22 = .ok (.iload_n 2, 1) := by decide +kernel
theorem dX10_heldIn_23 : decode cX10_heldIn 23 = .ok (.if_icmp .gt 65, 3) := by decide +kernel
theorem dX10_heldIn_26 : decode cX10_heldIn 26 = .ok (.aload_n 0, 1) := by decide +kernel
theorem dX10_heldIn_27 : decode cX10_heldIn 27 = .ok (.getfield 78, 3) := by decide +kernel
theorem dX10_heldIn_30 : decode cX10_heldIn 30 = .ok (.iload 5, 2) := by decide +kernel
theorem dX10_heldIn_32 : decode cX10_heldIn 32 = .ok (.iaload, 1) := by decide +kernel
theorem dX10_heldIn_33 : decode cX10_heldIn 33 = .ok (.iload_n 3, 1) := by decide +kernel
theorem dX10_heldIn_34 : decode cX10_heldIn 34 = .ok (.if_icmp .gt 54, 3) := by decide +kernel
theorem dX10_heldIn_37 : decode cX10_heldIn 37 = .ok (.iload 4, 2) := by decide +kernel
theorem dX10_heldIn_39 : decode cX10_heldIn 39 = .ok (.aload_n 0, 1) := by decide +kernel
theorem dX10_heldIn_40 : decode cX10_heldIn 40 = .ok (.getfield 69, 3) := by decide +kernel
theorem dX10_heldIn_43 : decode cX10_heldIn 43 = .ok (.iload 5, 2) := by decide +kernel
theorem dX10_heldIn_45 : decode cX10_heldIn 45 = .ok (.iaload, 1) := by decide +kernel
theorem dX10_heldIn_46 : decode cX10_heldIn 46 = .ok (.iload_n 1, 1) := by decide +kernel
theorem dX10_heldIn_47 : decode cX10_heldIn 47 = .ok (.if_icmp .ne 13, 3) := by decide +kernel
theorem dX10_heldIn_50 : decode cX10_heldIn 50 = .ok (.aload_n 0, 1) := by decide +kernel
theorem dX10_heldIn_51 : decode cX10_heldIn 51 = .ok (.getfield 72, 3) := by decide +kernel
theorem dX10_heldIn_54 : decode cX10_heldIn 54 = .ok (.iload 5, 2) := by decide +kernel
theorem dX10_heldIn_56 : decode cX10_heldIn 56 = .ok (.iaload, 1) := by decide +kernel
theorem dX10_heldIn_57 : decode cX10_heldIn 57 = .ok (.goto 28, 3) := by decide +kernel
theorem dX10_heldIn_60 : decode cX10_heldIn 60 = .ok (.aload_n 0, 1) := by decide +kernel
theorem dX10_heldIn_61 : decode cX10_heldIn 61 = .ok (.getfield 69, 3) := by decide +kernel
theorem dX10_heldIn_64 : decode cX10_heldIn 64 = .ok (.iload 5, 2) := by decide +kernel
theorem dX10_heldIn_66 : decode cX10_heldIn 66 = .ok (.iaload, 1) := by decide +kernel
theorem dX10_heldIn_67 : decode cX10_heldIn 67 = .ok (.iload_n 1, 1) := by decide +kernel
theorem dX10_heldIn_68 : decode cX10_heldIn 68 = .ok (.iconst 1, 1) := by decide +kernel
theorem dX10_heldIn_69 : decode cX10_heldIn 69 = .ok (.iadd, 1) := by decide +kernel
theorem dX10_heldIn_70 : decode cX10_heldIn 70 = .ok (.if_icmp .ne 14, 3) := by decide +kernel
theorem dX10_heldIn_73 : decode cX10_heldIn 73 = .ok (.aload_n 0, 1) := by decide +kernel
theorem dX10_heldIn_74 : decode cX10_heldIn 74 = .ok (.getfield 72, 3) := by decide +kernel
theorem dX10_heldIn_77 : decode cX10_heldIn 77 = .ok (.iload 5, 2) := by decide +kernel
theorem dX10_heldIn_79 : decode cX10_heldIn 79 = .ok (.iaload, 1) := by decide +kernel
theorem dX10_heldIn_80 : decode cX10_heldIn 80 = .ok (.ineg, 1) := by decide +kernel
theorem dX10_heldIn_81 : decode cX10_heldIn 81 = .ok (.goto 4, 3) := by decide +kernel
theorem dX10_heldIn_84 : decode cX10_heldIn 84 = .ok (.iconst 0, 1) := by decide +kernel
theorem dX10_heldIn_85 : decode cX10_heldIn 85 = .ok (.iadd, 1) := by decide +kernel
theorem dX10_heldIn_86 : decode cX10_heldIn 86 = .ok (.istore 4, 2) := by decide +kernel
theorem dX10_heldIn_88 : decode cX10_heldIn 88 = .ok (.iinc 5 1, 3) := by decide +kernel
theorem dX10_heldIn_91 : decode cX10_heldIn 91 = .ok (.goto (-85), 3) := by decide +kernel
theorem dX10_heldIn_94 : decode cX10_heldIn 94 = .ok (.iload 4, 2) := by decide +kernel
theorem dX10_heldIn_96 : decode cX10_heldIn 96 = .ok (.ireturn, 1) := by decide +kernel
def rmX10_heldIn : Room := { frames := 0, cells := 0, slots := 0, locals := 0 }
def fX10_heldIn_88 (r6 : Nat → Int32 → Int32 → Int32 → Int32 → Int32 → PH → Option (Int32 × PH)) (al0 : Nat) (xl1 : Int32) (xl2 : Int32) (xl3 : Int32) (xl4 : Int32) (xl5 : Int32) (h0 : PH) : Option (Int32 × PH) :=
    r6 al0 xl1 xl2 xl3 xl4 (xl5 + 1) h0
set_option maxHeartbeats 4000000 in
set_option maxRecDepth 100000 in
theorem vfX10_heldIn_88 {p : Program} {l : Launch} {e : Env} {s : State} {m : MethodId} {args : Array Value} {below : List Frame} {meth : Method} {c : Code} {G : GX} (C : Cx p s m args meth c G cX10_heldIn 6 RX10) (hr : meth.sig.returnType = (some .int)) {r6 : Nat → Int32 → Int32 → Int32 → Int32 → Int32 → PH → Option (Int32 × PH)} (k6 : ∀ (al0 : Nat) (xl1 : Int32) (xl2 : Int32) (xl3 : Int32) (xl4 : Int32) (xl5 : Int32) (h0 : PH), J p l e rmX10_heldIn s m args below meth c G 6 (qM below args s rvI G 0 0) 0 0 h0 6 [(0, .ref al0), (1, .int xl1), (2, .int xl2), (3, .int xl3), (4, .int xl4), (5, .int xl5)] [] (r6 al0 xl1 xl2 xl3 xl4 xl5 h0)) (al0 : Nat) (xl1 : Int32) (xl2 : Int32) (xl3 : Int32) (xl4 : Int32) (xl5 : Int32) (h0 : PH) : J p l e rmX10_heldIn s m args below meth c G 6 (qM below args s rvI G 0 0) 0 0 h0 88 [(0, .ref al0), (1, .int xl1), (2, .int xl2), (3, .int xl3), (4, .int xl4), (5, .int xl5)] [] (fX10_heldIn_88 r6 al0 xl1 xl2 xl3 xl4 xl5 h0) := by
  unfold fX10_heldIn_88
  refine J_iinc (pc := 88) (v := (xl5 + 1)) (lv1 := [(5, .int (xl5 + 1)), (0, .ref al0), (1, .int xl1), (2, .int xl2), (3, .int xl3), (4, .int xl4)]) C dX10_heldIn_88 5 rfl rfl (by decide) rfl ?_
  refine J_goto (pc := 91) (tgt := 6) C dX10_heldIn_91 (by decide) ?_
  refine J_sub [1, 2, 3, 4, 5, 0] rfl ?_
  exact k6 al0 xl1 xl2 xl3 xl4 (xl5 + 1) h0
def fX10_heldIn_85 (r6 : Nat → Int32 → Int32 → Int32 → Int32 → Int32 → PH → Option (Int32 × PH)) (al0 : Nat) (xl1 : Int32) (xl2 : Int32) (xl3 : Int32) (xl5 : Int32) (xs0 : Int32) (xs1 : Int32) (h0 : PH) : Option (Int32 × PH) :=
    nm (xs1 + xs0) fun x10 =>
    fX10_heldIn_88 r6 al0 xl1 xl2 xl3 x10 xl5 h0
set_option maxHeartbeats 4000000 in
set_option maxRecDepth 100000 in
theorem vfX10_heldIn_85 {p : Program} {l : Launch} {e : Env} {s : State} {m : MethodId} {args : Array Value} {below : List Frame} {meth : Method} {c : Code} {G : GX} (C : Cx p s m args meth c G cX10_heldIn 6 RX10) (hr : meth.sig.returnType = (some .int)) {r6 : Nat → Int32 → Int32 → Int32 → Int32 → Int32 → PH → Option (Int32 × PH)} (k6 : ∀ (al0 : Nat) (xl1 : Int32) (xl2 : Int32) (xl3 : Int32) (xl4 : Int32) (xl5 : Int32) (h0 : PH), J p l e rmX10_heldIn s m args below meth c G 6 (qM below args s rvI G 0 0) 0 0 h0 6 [(0, .ref al0), (1, .int xl1), (2, .int xl2), (3, .int xl3), (4, .int xl4), (5, .int xl5)] [] (r6 al0 xl1 xl2 xl3 xl4 xl5 h0)) (al0 : Nat) (xl1 : Int32) (xl2 : Int32) (xl3 : Int32) (xl5 : Int32) (xs0 : Int32) (xs1 : Int32) (h0 : PH) : J p l e rmX10_heldIn s m args below meth c G 6 (qM below args s rvI G 0 0) 0 0 h0 85 [(0, .ref al0), (1, .int xl1), (2, .int xl2), (3, .int xl3), (5, .int xl5)] [.int xs0, .int xs1] (fX10_heldIn_85 r6 al0 xl1 xl2 xl3 xl5 xs0 xs1 h0) := by
  unfold fX10_heldIn_85
  refine J_iadd (pc := 85) C dX10_heldIn_85 ?_
  refine J_nm (fv := .int) (fun x10 => ?_)
  refine J_istore (pc := 86) (lv1 := [(4, .int x10), (0, .ref al0), (1, .int xl1), (2, .int xl2), (3, .int xl3), (5, .int xl5)]) C dX10_heldIn_86 (by decide) rfl ?_
  refine J_sub [1, 2, 3, 4, 0, 5] rfl ?_
  exact vfX10_heldIn_88 C hr k6 al0 xl1 xl2 xl3 x10 xl5 h0
def fX10_heldIn_6  : Nat → Nat → Int32 → Int32 → Int32 → Int32 → Int32 → PH → Option (Int32 × PH)
  | 0, _, _, _, _, _, _, _ => none
  | n + 1, al0, xl1, xl2, xl3, xl4, xl5, h0 =>
    bn (rdI 10 35 al0 h0) fun x1 =>
    if x1 ≤ xl5 then (some (xl4, h0)) else
    bn (rdR 10 38 al0 h0) fun a2 =>
    bn (aldI 0 a2 xl5 h0) fun x3 =>
    if xl2 < x3 then (fX10_heldIn_88 (fX10_heldIn_6 n) al0 xl1 xl2 xl3 xl4 xl5 h0) else
    bn (rdR 10 39 al0 h0) fun a4 =>
    bn (aldI 0 a4 xl5 h0) fun x5 =>
    if xl3 < x5 then (fX10_heldIn_88 (fX10_heldIn_6 n) al0 xl1 xl2 xl3 xl4 xl5 h0) else
    bn (rdR 10 36 al0 h0) fun a6 =>
    bn (aldI 0 a6 xl5 h0) fun x7 =>
    if x7 = xl1 then (bn (rdR 10 37 al0 h0) fun a13 =>
    bn (aldI 0 a13 xl5 h0) fun x14 =>
    fX10_heldIn_85 (fX10_heldIn_6 n) al0 xl1 xl2 xl3 xl5 x14 xl4 h0) else
    bn (rdR 10 36 al0 h0) fun a8 =>
    bn (aldI 0 a8 xl5 h0) fun x9 =>
    if x9 = (xl1 + (1 : Int32)) then (bn (rdR 10 37 al0 h0) fun a11 =>
    bn (aldI 0 a11 xl5 h0) fun x12 =>
    fX10_heldIn_85 (fX10_heldIn_6 n) al0 xl1 xl2 xl3 xl5 (-x12) xl4 h0) else
    fX10_heldIn_85 (fX10_heldIn_6 n) al0 xl1 xl2 xl3 xl5 (0 : Int32) xl4 h0
set_option maxHeartbeats 4000000 in
set_option maxRecDepth 100000 in
theorem vfX10_heldIn_6 {p : Program} {l : Launch} {e : Env} {s : State} {m : MethodId} {args : Array Value} {below : List Frame} {meth : Method} {c : Code} {G : GX} (C : Cx p s m args meth c G cX10_heldIn 6 RX10) (hr : meth.sig.returnType = (some .int)) : ∀ (n : Nat) (al0 : Nat) (xl1 : Int32) (xl2 : Int32) (xl3 : Int32) (xl4 : Int32) (xl5 : Int32) (h0 : PH), J p l e rmX10_heldIn s m args below meth c G 6 (qM below args s rvI G 0 0) 0 0 h0 6 [(0, .ref al0), (1, .int xl1), (2, .int xl2), (3, .int xl3), (4, .int xl4), (5, .int xl5)] [] (fX10_heldIn_6  n al0 xl1 xl2 xl3 xl4 xl5 h0) := by
  intro n
  induction n with
  | zero => exact fun al0 xl1 xl2 xl3 xl4 xl5 h0 => J_none C
  | succ n ih =>
    intro al0 xl1 xl2 xl3 xl4 xl5 h0
    unfold fX10_heldIn_6
    refine J_iload (pc := 6) C dX10_heldIn_6 5 rfl ?_
    refine J_aload_n (pc := 8) C dX10_heldIn_8 rfl 0 rfl ?_
    refine J_getI (pc := 9) C flX10_246 dX10_heldIn_9 (fun x1 => ?_)
    refine J_icmp_ge (pc := 12) (tgt := 94) C dX10_heldIn_12 (by decide) ?_ ?_
    · refine J_iload (pc := 94) C dX10_heldIn_94 4 rfl ?_
      exact J_iret (pc := 96) C hr dX10_heldIn_96
    · refine J_aload_n (pc := 15) C dX10_heldIn_15 rfl 0 rfl ?_
      refine J_getR (pc := 16) C flX10_75 dX10_heldIn_16 (fun a2 => ?_)
      refine J_iload (pc := 19) C dX10_heldIn_19 5 rfl ?_
      refine J_iald (pc := 21) C dX10_heldIn_21 (fun x3 => ?_)
      refine J_iload_n (pc := 22) C dX10_heldIn_22 rfl 2 rfl ?_
      refine J_icmp_gt (pc := 23) (tgt := 88) C dX10_heldIn_23 (by decide) ?_ ?_
      · exact vfX10_heldIn_88 C hr ih al0 xl1 xl2 xl3 xl4 xl5 h0
      · refine J_aload_n (pc := 26) C dX10_heldIn_26 rfl 0 rfl ?_
        refine J_getR (pc := 27) C flX10_78 dX10_heldIn_27 (fun a4 => ?_)
        refine J_iload (pc := 30) C dX10_heldIn_30 5 rfl ?_
        refine J_iald (pc := 32) C dX10_heldIn_32 (fun x5 => ?_)
        refine J_iload_n (pc := 33) C dX10_heldIn_33 rfl 3 rfl ?_
        refine J_icmp_gt (pc := 34) (tgt := 88) C dX10_heldIn_34 (by decide) ?_ ?_
        · exact vfX10_heldIn_88 C hr ih al0 xl1 xl2 xl3 xl4 xl5 h0
        · refine J_iload (pc := 37) C dX10_heldIn_37 4 rfl ?_
          refine J_aload_n (pc := 39) C dX10_heldIn_39 rfl 0 rfl ?_
          refine J_getR (pc := 40) C flX10_69 dX10_heldIn_40 (fun a6 => ?_)
          refine J_iload (pc := 43) C dX10_heldIn_43 5 rfl ?_
          refine J_iald (pc := 45) C dX10_heldIn_45 (fun x7 => ?_)
          refine J_iload_n (pc := 46) C dX10_heldIn_46 rfl 1 rfl ?_
          refine J_icmp_ne (pc := 47) (tgt := 60) C dX10_heldIn_47 (by decide) ?_ ?_
          · refine J_aload_n (pc := 60) C dX10_heldIn_60 rfl 0 rfl ?_
            refine J_getR (pc := 61) C flX10_69 dX10_heldIn_61 (fun a8 => ?_)
            refine J_iload (pc := 64) C dX10_heldIn_64 5 rfl ?_
            refine J_iald (pc := 66) C dX10_heldIn_66 (fun x9 => ?_)
            refine J_iload_n (pc := 67) C dX10_heldIn_67 rfl 1 rfl ?_
            refine J_iconst (pc := 68) (v := 1) C dX10_heldIn_68 (by decide) ?_
            refine J_iadd (pc := 69) C dX10_heldIn_69 ?_
            refine J_icmp_ne (pc := 70) (tgt := 84) C dX10_heldIn_70 (by decide) ?_ ?_
            · refine J_iconst (pc := 84) (v := 0) C dX10_heldIn_84 (by decide) ?_
              refine J_sub [0, 1, 2, 3, 5] rfl ?_
              exact vfX10_heldIn_85 C hr ih al0 xl1 xl2 xl3 xl5 (0 : Int32) xl4 h0
            · refine J_aload_n (pc := 73) C dX10_heldIn_73 rfl 0 rfl ?_
              refine J_getR (pc := 74) C flX10_72 dX10_heldIn_74 (fun a11 => ?_)
              refine J_iload (pc := 77) C dX10_heldIn_77 5 rfl ?_
              refine J_iald (pc := 79) C dX10_heldIn_79 (fun x12 => ?_)
              refine J_ineg (pc := 80) C dX10_heldIn_80 ?_
              refine J_goto (pc := 81) (tgt := 85) C dX10_heldIn_81 (by decide) ?_
              refine J_sub [0, 1, 2, 3, 5] rfl ?_
              exact vfX10_heldIn_85 C hr ih al0 xl1 xl2 xl3 xl5 (-x12) xl4 h0
          · refine J_aload_n (pc := 50) C dX10_heldIn_50 rfl 0 rfl ?_
            refine J_getR (pc := 51) C flX10_72 dX10_heldIn_51 (fun a13 => ?_)
            refine J_iload (pc := 54) C dX10_heldIn_54 5 rfl ?_
            refine J_iald (pc := 56) C dX10_heldIn_56 (fun x14 => ?_)
            refine J_goto (pc := 57) (tgt := 85) C dX10_heldIn_57 (by decide) ?_
            refine J_sub [0, 1, 2, 3, 5] rfl ?_
            exact vfX10_heldIn_85 C hr ih al0 xl1 xl2 xl3 xl5 x14 xl4 h0
def fX10_heldIn  (a0 : Nat) (xp0 : Int32) (xp1 : Int32) (xp2 : Int32) (h0 : PH) : Option (Int32 × PH) :=
    fX10_heldIn_6  FU a0 xp0 xp1 xp2 (0 : Int32) (0 : Int32) h0
set_option maxHeartbeats 4000000 in
set_option maxRecDepth 100000 in
theorem vfX10_heldIn {p : Program} {l : Launch} {e : Env} {s : State} {m : MethodId} {args : Array Value} {below : List Frame} {meth : Method} {c : Code} {G : GX} (C : Cx p s m args meth c G cX10_heldIn 6 RX10) (hr : meth.sig.returnType = (some .int)) (a0 : Nat) (xp0 : Int32) (xp1 : Int32) (xp2 : Int32) (h0 : PH) : J p l e rmX10_heldIn s m args below meth c G 6 (qM below args s rvI G 0 0) 0 0 h0 0 [(0, .ref a0), (1, .int xp0), (2, .int xp1), (3, .int xp2)] [] (fX10_heldIn  a0 xp0 xp1 xp2 h0) := by
  unfold fX10_heldIn
  refine J_iconst (pc := 0) (v := 0) C dX10_heldIn_0 (by decide) ?_
  refine J_istore (pc := 1) (lv1 := [(4, .int (0 : Int32)), (0, .ref a0), (1, .int xp0), (2, .int xp1), (3, .int xp2)]) C dX10_heldIn_1 (by decide) rfl ?_
  refine J_iconst (pc := 3) (v := 0) C dX10_heldIn_3 (by decide) ?_
  refine J_istore (pc := 4) (lv1 := [(5, .int (0 : Int32)), (4, .int (0 : Int32)), (0, .ref a0), (1, .int xp0), (2, .int xp1), (3, .int xp2)]) C dX10_heldIn_4 (by decide) rfl ?_
  refine J_sub [2, 3, 4, 5, 1, 0] rfl ?_
  exact vfX10_heldIn_6 C hr  FU a0 xp0 xp1 xp2 (0 : Int32) (0 : Int32) h0
theorem mX10_heldIn {l : Launch} {G : GX} (a0 : Nat) (xp0 : Int32) (xp1 : Int32) (xp2 : Int32) (h0 : PH) : ∀ z, fX10_heldIn a0 xp0 xp1 xp2 h0 = some z → MC l G yX10_heldIn cX10_heldIn 6 (some .int) rmX10_heldIn [.ref a0, .int xp0, .int xp1, .int xp2] h0 (rvI z.1) z.2 :=
  Met_J (own := RX10) (by decide) rfl (Nat.le_of_ble_eq_true rfl) (fun p e s m args below meth c C hr hn => vfX10_heldIn C hr a0 xp0 xp1 xp2 h0)

theorem dX10_held_0 : decode cX10_held 0 = .ok (.aload_n 0, 1) := by decide +kernel
theorem dX10_held_1 : decode cX10_held 1 = .ok (.iconst 0, 1) := by decide +kernel
theorem dX10_held_2 : decode cX10_held 2 = .ok (.putfield 90, 3) := by decide +kernel
theorem dX10_held_5 : decode cX10_held 5 = .ok (.iload_n 1, 1) := by decide +kernel
theorem dX10_held_6 : decode cX10_held 6 = .ok (.i2l, 1) := by decide +kernel
theorem dX10_held_7 : decode cX10_held 7 = .ok (.lconst 0, 1) := by decide +kernel
theorem dX10_held_8 : decode cX10_held 8 = .ok (.ldc2_w 239, 3) := by decide +kernel
theorem dX10_held_11 : decode cX10_held 11 = .ok (.invokestatic 99, 3) := by decide +kernel
theorem dX10_held_14 : decode cX10_held 14 = .ok (.ifCond .eq 27, 3) := by decide +kernel
theorem dX10_held_17 : decode cX10_held 17 = .ok (.iload_n 2, 1) := by decide +kernel
theorem dX10_held_18 : decode cX10_held 18 = .ok (.invokestatic 243, 3) := by decide +kernel
theorem dX10_held_21 : decode cX10_held 21 = .ok (.ifCond .eq 20, 3) := by decide +kernel
theorem dX10_held_24 : decode cX10_held 24 = .ok (.iload_n 3, 1) := by decide +kernel
theorem dX10_held_25 : decode cX10_held 25 = .ok (.invokestatic 243, 3) := by decide +kernel
theorem dX10_held_28 : decode cX10_held 28 = .ok (.ifCond .eq 13, 3) := by decide +kernel
theorem dX10_held_31 : decode cX10_held 31 = .ok (.aload_n 0, 1) := by decide +kernel
theorem dX10_held_32 : decode cX10_held 32 = .ok (.iload_n 1, 1) := by decide +kernel
theorem dX10_held_33 : decode cX10_held 33 = .ok (.iload_n 2, 1) := by decide +kernel
theorem dX10_held_34 : decode cX10_held 34 = .ok (.iload_n 3, 1) := by decide +kernel
theorem dX10_held_35 : decode cX10_held 35 = .ok (.invokevirtual 249, 3) := by decide +kernel
theorem dX10_held_38 : decode cX10_held 38 = .ok (.goto 5, 3) := by decide +kernel
theorem dX10_held_41 : decode cX10_held 41 = .ok (.ldc 253, 2) := by decide +kernel
theorem dX10_held_43 : decode cX10_held 43 = .ok (.ireturn, 1) := by decide +kernel
def rmX10_held : Room := { frames := 2, cells := 0, slots := 0, locals := 45 }
def fX10_held  (a0 : Nat) (xp0 : Int32) (xp1 : Int32) (xp2 : Int32) (h0 : PH) : Option (Int32 × PH) :=
    bn (wr 10 0 (.int (0 : Int32)) a0 h0) fun h1 =>
    bn2 (fX10_in xp0.toInt64 (0 : Int64) (3 : Int64) h1) fun x3 h2 =>
    if x3 = 0 then (some ((-1000000000 : Int32), h2)) else
    bn2 (fX10_isHour xp1 h2) fun x5 h4 =>
    if x5 = 0 then (some ((-1000000000 : Int32), h4)) else
    bn2 (fX10_isHour xp2 h4) fun x7 h6 =>
    if x7 = 0 then (some ((-1000000000 : Int32), h6)) else
    bn (chk 10 a0 h6) fun _ => bn2 (fX10_heldIn a0 xp0 xp1 xp2 h6) fun x9 h8 =>
    some (x9, h8)
set_option maxHeartbeats 4000000 in
set_option maxRecDepth 100000 in
theorem vfX10_held {p : Program} {l : Launch} {e : Env} {s : State} {m : MethodId} {args : Array Value} {below : List Frame} {meth : Method} {c : Code} {G : GX} (C : Cx p s m args meth c G cX10_held 4 RX10) (hr : meth.sig.returnType = (some .int)) (a0 : Nat) (xp0 : Int32) (xp1 : Int32) (xp2 : Int32) (h0 : PH) : J p l e rmX10_held s m args below meth c G 4 (qM below args s rvI G 0 0) 0 0 h0 0 [(0, .ref a0), (1, .int xp0), (2, .int xp1), (3, .int xp2)] [] (fX10_held  a0 xp0 xp1 xp2 h0) := by
  unfold fX10_held
  refine J_aload_n (pc := 0) C dX10_held_0 rfl 0 rfl ?_
  refine J_iconst (pc := 1) (v := 0) C dX10_held_1 (by decide) ?_
  refine J_put (pc := 2) C flX10_90 cl10 ft10_0 rfl rfl dX10_held_2 (fun h1 => ?_)
  refine J_iload_n (pc := 5) C dX10_held_5 rfl 1 rfl ?_
  refine J_i2l (pc := 6) C dX10_held_6 ?_
  refine J_lconst (pc := 7) (v := 0) C dX10_held_7 (by decide) ?_
  refine J_ldc2 (pc := 8) C kjX10_239 dX10_held_8 ?_
  refine J_callSI (pc := 11) (As := [.long xp0.toInt64, .long (0 : Int64), .long (3 : Int64)]) (rest := []) C (fun z hz => mX10_in xp0.toInt64 (0 : Int64) (3 : Int64) h1 z hz) mwX10_in mlX10_99 stX10_in rfl dX10_held_11 (by decide) rfl (Nat.le_of_ble_eq_true rfl) (by decide) (fun x3 h2 => ?_)
  refine J_if_eq (pc := 14) (tgt := 41) C dX10_held_14 (by decide) ?_ ?_
  · refine J_ldc (pc := 41) C kkX10_253 dX10_held_41 ?_
    exact J_iret (pc := 43) C hr dX10_held_43
  · refine J_iload_n (pc := 17) C dX10_held_17 rfl 2 rfl ?_
    refine J_callSI (pc := 18) (As := [.int xp1]) (rest := []) C (fun z hz => mX10_isHour xp1 h2 z hz) mwX10_isHour mlX10_243 stX10_isHour rfl dX10_held_18 (by decide) rfl (Nat.le_of_ble_eq_true rfl) (by decide) (fun x5 h4 => ?_)
    refine J_if_eq (pc := 21) (tgt := 41) C dX10_held_21 (by decide) ?_ ?_
    · refine J_ldc (pc := 41) C kkX10_253 dX10_held_41 ?_
      exact J_iret (pc := 43) C hr dX10_held_43
    · refine J_iload_n (pc := 24) C dX10_held_24 rfl 3 rfl ?_
      refine J_callSI (pc := 25) (As := [.int xp2]) (rest := []) C (fun z hz => mX10_isHour xp2 h4 z hz) mwX10_isHour mlX10_243 stX10_isHour rfl dX10_held_25 (by decide) rfl (Nat.le_of_ble_eq_true rfl) (by decide) (fun x7 h6 => ?_)
      refine J_if_eq (pc := 28) (tgt := 41) C dX10_held_28 (by decide) ?_ ?_
      · refine J_ldc (pc := 41) C kkX10_253 dX10_held_41 ?_
        exact J_iret (pc := 43) C hr dX10_held_43
      · refine J_aload_n (pc := 31) C dX10_held_31 rfl 0 rfl ?_
        refine J_iload_n (pc := 32) C dX10_held_32 rfl 1 rfl ?_
        refine J_iload_n (pc := 33) C dX10_held_33 rfl 2 rfl ?_
        refine J_iload_n (pc := 34) C dX10_held_34 rfl 3 rfl ?_
        refine J_callVI (pc := 35) (As := [.int xp0, .int xp1, .int xp2]) (rest := []) C (fun z hz => mX10_heldIn a0 xp0 xp1 xp2 h6 z hz) mwX10_heldIn csX10_heldIn mlX10_249 inX10_heldIn rfl dX10_held_35 (by decide) rfl (Nat.le_of_ble_eq_true rfl) (by decide) (fun x9 h8 => ?_)
        refine J_goto (pc := 38) (tgt := 43) C dX10_held_38 (by decide) ?_
        exact J_iret (pc := 43) C hr dX10_held_43
theorem mX10_held {l : Launch} {G : GX} (a0 : Nat) (xp0 : Int32) (xp1 : Int32) (xp2 : Int32) (h0 : PH) : ∀ z, fX10_held a0 xp0 xp1 xp2 h0 = some z → MC l G yX10_held cX10_held 4 (some .int) rmX10_held [.ref a0, .int xp0, .int xp1, .int xp2] h0 (rvI z.1) z.2 :=
  Met_J (own := RX10) (by decide) rfl (Nat.le_of_ble_eq_true rfl) (fun p e s m args below meth c C hr hn => vfX10_held C hr a0 xp0 xp1 xp2 h0)

theorem dX2_addFound_0 : decode cX2_addFound 0 = .ok (.iload_n 1, 1) := by decide +kernel
theorem dX2_addFound_1 : decode cX2_addFound 1 = .ok (.iconst 0, 1) := by decide +kernel
theorem dX2_addFound_2 : decode cX2_addFound 2 = .ok (.iconst 3, 1) := by decide +kernel
theorem dX2_addFound_3 : decode cX2_addFound 3 = .ok (.invokestatic 40, 3) := by decide +kernel
theorem dX2_addFound_6 : decode cX2_addFound 6 = .ok (.ifCond .eq 20, 3) := by decide +kernel
theorem dX2_addFound_9 : decode cX2_addFound 9 = .ok (.iload_n 2, 1) := by decide +kernel
theorem dX2_addFound_10 : decode cX2_addFound 10 = .ok (.invokestatic 46, 3) := by decide +kernel
theorem dX2_addFound_13 : decode cX2_addFound 13 = .ok (.ifCond .eq 13, 3) := by decide +kernel
theorem dX2_addFound_16 : decode cX2_addFound 16 = .ok (.iload_n 3, 1) := by decide +kernel
theorem dX2_addFound_17 : decode cX2_addFound 17 = .ok (.iconst 0, 1) := by decide +kernel
theorem dX2_addFound_18 : decode cX2_addFound 18 = .ok (.ldc 50, 2) := by decide +kernel
theorem dX2_addFound_20 : decode cX2_addFound 20 = .ok (.invokestatic 40, 3) := by decide +kernel
theorem dX2_addFound_23 : decode cX2_addFound 23 = .ok (.ifCond .ne 5, 3) := by decide +kernel
theorem dX2_addFound_26 : decode cX2_addFound 26 = .ok (.iconst (-1), 1) := by decide +kernel
theorem dX2_addFound_27 : decode cX2_addFound 27 = .ok (.ireturn, 1) := by decide +kernel
theorem dX2_addFound_28 : decode cX2_addFound 28 = .ok (.aload_n 0, 1) := by decide +kernel
theorem dX2_addFound_29 : decode cX2_addFound 29 = .ok (.getfield 37, 3) := by decide +kernel
theorem dX2_addFound_32 : decode cX2_addFound 32 = .ok (.bipush 60, 2) := by decide +kernel
theorem dX2_addFound_34 : decode cX2_addFound 34 = .ok (.if_icmp .lt 6, 3) := by decide +kernel
theorem dX2_addFound_37 : decode cX2_addFound 37 = .ok (.bipush (-5), 2) := by decide +kernel
theorem dX2_addFound_39 : decode cX2_addFound 39 = .ok (.ireturn, 1) := by decide +kernel
theorem dX2_addFound_40 : decode cX2_addFound 40 = .ok (.aload_n 0, 1) := by decide +kernel
theorem dX2_addFound_41 : decode cX2_addFound 41 = .ok (.getfield 28, 3) := by decide +kernel
theorem dX2_addFound_44 : decode cX2_addFound 44 = .ok (.aload_n 0, 1) := by decide +kernel
theorem dX2_addFound_45 : decode cX2_addFound 45 = .ok (.getfield 37, 3) := by decide +kernel
theorem dX2_addFound_48 : decode cX2_addFound 48 = .ok (.iload_n 1, 1) := by decide +kernel
theorem dX2_addFound_49 : decode cX2_addFound 49 = .ok (.iastore, 1) := by decide +kernel
theorem dX2_addFound_50 : decode cX2_addFound 50 = .ok (.aload_n 0, 1) := by decide +kernel
theorem dX2_addFound_51 : decode cX2_addFound 51 = .ok (.getfield 31, 3) := by decide +kernel
theorem dX2_addFound_54 : decode cX2_addFound 54 = .ok (.aload_n 0, 1) := by decide +kernel
theorem dX2_addFound_55 : decode cX2_addFound 55 = .ok (.getfield 37, 3) := by decide +kernel
theorem dX2_addFound_58 : decode cX2_addFound 58 = .ok (.iload_n 2, 1) := by decide +kernel
theorem dX2_addFound_59 : decode cX2_addFound 59 = .ok (.iastore, 1) := by decide +kernel
theorem dX2_addFound_60 : decode cX2_addFound 60 = .ok (.aload_n 0, 1) := by decide +kernel
theorem dX2_addFound_61 : decode cX2_addFound 61 = .ok (.getfield 34, 3) := by decide +kernel
theorem dX2_addFound_64 : decode cX2_addFound 64 = .ok (.aload_n 0, 1) := by decide +kernel
theorem dX2_addFound_65 : decode cX2_addFound 65 = .ok (.getfield 37, 3) := by decide +kernel
theorem dX2_addFound_68 : decode cX2_addFound 68 = .ok (.iload_n 3, 1) := by decide +kernel
theorem dX2_addFound_69 : decode cX2_addFound 69 = .ok (.iastore, 1) := by decide +kernel
theorem dX2_addFound_70 : decode cX2_addFound 70 = .ok (.aload_n 0, 1) := by decide +kernel
theorem dX2_addFound_71 : decode cX2_addFound 71 = .ok (.dup, 1) := by decide +kernel
theorem dX2_addFound_72 : decode cX2_addFound 72 = .ok (.getfield 37, 3) := by decide +kernel
theorem dX2_addFound_75 : decode cX2_addFound 75 = .ok (.iconst 1, 1) := by decide +kernel
theorem dX2_addFound_76 : decode cX2_addFound 76 = .ok (.iadd, 1) := by decide +kernel
theorem dX2_addFound_77 : decode cX2_addFound 77 = .ok (.putfield 37, 3) := by decide +kernel
theorem dX2_addFound_80 : decode cX2_addFound 80 = .ok (.aload_n 0, 1) := by decide +kernel
theorem dX2_addFound_81 : decode cX2_addFound 81 = .ok (.getfield 37, 3) := by decide +kernel
theorem dX2_addFound_84 : decode cX2_addFound 84 = .ok (.ireturn, 1) := by decide +kernel
def rmX2_addFound : Room := { frames := 2, cells := 0, slots := 0, locals := 42 }
def fX2_addFound  (a0 : Nat) (xp0 : Int32) (xp1 : Int32) (xp2 : Int32) (h0 : PH) : Option (Int32 × PH) :=
    bn2 (fX9_within xp0 (0 : Int32) (3 : Int32) h0) fun x2 h1 =>
    if x2 = 0 then (some ((-1 : Int32), h1)) else
    bn2 (fX9_isHour xp1 h1) fun x4 h3 =>
    if x4 = 0 then (some ((-1 : Int32), h3)) else
    bn2 (fX9_within xp2 (0 : Int32) (100000000 : Int32) h3) fun x6 h5 =>
    if x6 = 0 then (some ((-1 : Int32), h5)) else
    bn (rdI 2 8 a0 h5) fun x7 =>
    if x7 < (60 : Int32) then (bn (rdR 2 5 a0 h5) fun a8 =>
    bn (rdI 2 8 a0 h5) fun x9 =>
    bn (astI a8 x9 xp0 h5) fun h10 =>
    bn (rdR 2 6 a0 h10) fun a11 =>
    bn (rdI 2 8 a0 h10) fun x12 =>
    bn (astI a11 x12 xp1 h10) fun h13 =>
    bn (rdR 2 7 a0 h13) fun a14 =>
    bn (rdI 2 8 a0 h13) fun x15 =>
    bn (astI a14 x15 xp2 h13) fun h16 =>
    bn (rdI 2 8 a0 h16) fun x17 =>
    bn (wr 2 8 (.int (x17 + (1 : Int32))) a0 h16) fun h18 =>
    bn (rdI 2 8 a0 h18) fun x19 =>
    some (x19, h18)) else
    some ((-5 : Int32), h5)
set_option maxHeartbeats 4000000 in
set_option maxRecDepth 100000 in
theorem vfX2_addFound {p : Program} {l : Launch} {e : Env} {s : State} {m : MethodId} {args : Array Value} {below : List Frame} {meth : Method} {c : Code} {G : GX} (C : Cx p s m args meth c G cX2_addFound 4 RX2) (hr : meth.sig.returnType = (some .int)) (a0 : Nat) (xp0 : Int32) (xp1 : Int32) (xp2 : Int32) (h0 : PH) : J p l e rmX2_addFound s m args below meth c G 4 (qM below args s rvI G 0 0) 0 0 h0 0 [(0, .ref a0), (1, .int xp0), (2, .int xp1), (3, .int xp2)] [] (fX2_addFound  a0 xp0 xp1 xp2 h0) := by
  unfold fX2_addFound
  refine J_iload_n (pc := 0) C dX2_addFound_0 rfl 1 rfl ?_
  refine J_iconst (pc := 1) (v := 0) C dX2_addFound_1 (by decide) ?_
  refine J_iconst (pc := 2) (v := 3) C dX2_addFound_2 (by decide) ?_
  refine J_callSNI (pc := 3) (As := [.int xp0, .int (0 : Int32), .int (3 : Int32)]) (rest := []) C (fun z hz => mX9_within xp0 (0 : Int32) (3 : Int32) h0 z hz) mwX9_within "GoldLeaves" (by decide +kernel) stX9_within rfl dX2_addFound_3 (by decide) rfl (Nat.le_of_ble_eq_true rfl) (by decide) (fun x2 h1 => ?_)
  refine J_if_eq (pc := 6) (tgt := 26) C dX2_addFound_6 (by decide) ?_ ?_
  · refine J_iconst (pc := 26) (v := -1) C dX2_addFound_26 (by decide) ?_
    exact J_iret (pc := 27) C hr dX2_addFound_27
  · refine J_iload_n (pc := 9) C dX2_addFound_9 rfl 2 rfl ?_
    refine J_callSNI (pc := 10) (As := [.int xp1]) (rest := []) C (fun z hz => mX9_isHour xp1 h1 z hz) mwX9_isHour "GoldLeaves" (by decide +kernel) stX9_isHour rfl dX2_addFound_10 (by decide) rfl (Nat.le_of_ble_eq_true rfl) (by decide) (fun x4 h3 => ?_)
    refine J_if_eq (pc := 13) (tgt := 26) C dX2_addFound_13 (by decide) ?_ ?_
    · refine J_iconst (pc := 26) (v := -1) C dX2_addFound_26 (by decide) ?_
      exact J_iret (pc := 27) C hr dX2_addFound_27
    · refine J_iload_n (pc := 16) C dX2_addFound_16 rfl 3 rfl ?_
      refine J_iconst (pc := 17) (v := 0) C dX2_addFound_17 (by decide) ?_
      refine J_ldc (pc := 18) C kkX2_50 dX2_addFound_18 ?_
      refine J_callSNI (pc := 20) (As := [.int xp2, .int (0 : Int32), .int (100000000 : Int32)]) (rest := []) C (fun z hz => mX9_within xp2 (0 : Int32) (100000000 : Int32) h3 z hz) mwX9_within "GoldLeaves" (by decide +kernel) stX9_within rfl dX2_addFound_20 (by decide) rfl (Nat.le_of_ble_eq_true rfl) (by decide) (fun x6 h5 => ?_)
      refine J_if_ne (pc := 23) (tgt := 28) C dX2_addFound_23 (by decide) ?_ ?_
      · refine J_aload_n (pc := 28) C dX2_addFound_28 rfl 0 rfl ?_
        refine J_getI (pc := 29) C flX2_37 dX2_addFound_29 (fun x7 => ?_)
        refine J_bipush (pc := 32) (v := 60) C dX2_addFound_32 (by decide) ?_
        refine J_icmp_lt (pc := 34) (tgt := 40) C dX2_addFound_34 (by decide) ?_ ?_
        · refine J_aload_n (pc := 40) C dX2_addFound_40 rfl 0 rfl ?_
          refine J_getR (pc := 41) C flX2_28 dX2_addFound_41 (fun a8 => ?_)
          refine J_aload_n (pc := 44) C dX2_addFound_44 rfl 0 rfl ?_
          refine J_getI (pc := 45) C flX2_37 dX2_addFound_45 (fun x9 => ?_)
          refine J_iload_n (pc := 48) C dX2_addFound_48 rfl 1 rfl ?_
          refine J_iast (pc := 49) C dX2_addFound_49 (fun h10 => ?_)
          refine J_aload_n (pc := 50) C dX2_addFound_50 rfl 0 rfl ?_
          refine J_getR (pc := 51) C flX2_31 dX2_addFound_51 (fun a11 => ?_)
          refine J_aload_n (pc := 54) C dX2_addFound_54 rfl 0 rfl ?_
          refine J_getI (pc := 55) C flX2_37 dX2_addFound_55 (fun x12 => ?_)
          refine J_iload_n (pc := 58) C dX2_addFound_58 rfl 2 rfl ?_
          refine J_iast (pc := 59) C dX2_addFound_59 (fun h13 => ?_)
          refine J_aload_n (pc := 60) C dX2_addFound_60 rfl 0 rfl ?_
          refine J_getR (pc := 61) C flX2_34 dX2_addFound_61 (fun a14 => ?_)
          refine J_aload_n (pc := 64) C dX2_addFound_64 rfl 0 rfl ?_
          refine J_getI (pc := 65) C flX2_37 dX2_addFound_65 (fun x15 => ?_)
          refine J_iload_n (pc := 68) C dX2_addFound_68 rfl 3 rfl ?_
          refine J_iast (pc := 69) C dX2_addFound_69 (fun h16 => ?_)
          refine J_aload_n (pc := 70) C dX2_addFound_70 rfl 0 rfl ?_
          refine J_dup (pc := 71) C dX2_addFound_71 rfl ?_
          refine J_getI (pc := 72) C flX2_37 dX2_addFound_72 (fun x17 => ?_)
          refine J_iconst (pc := 75) (v := 1) C dX2_addFound_75 (by decide) ?_
          refine J_iadd (pc := 76) C dX2_addFound_76 ?_
          refine J_put (pc := 77) C flX2_37 cl2 ft2_8 rfl rfl dX2_addFound_77 (fun h18 => ?_)
          refine J_aload_n (pc := 80) C dX2_addFound_80 rfl 0 rfl ?_
          refine J_getI (pc := 81) C flX2_37 dX2_addFound_81 (fun x19 => ?_)
          exact J_iret (pc := 84) C hr dX2_addFound_84
        · refine J_bipush (pc := 37) (v := -5) C dX2_addFound_37 (by decide) ?_
          exact J_iret (pc := 39) C hr dX2_addFound_39
      · refine J_iconst (pc := 26) (v := -1) C dX2_addFound_26 (by decide) ?_
        exact J_iret (pc := 27) C hr dX2_addFound_27
theorem mX2_addFound {l : Launch} {G : GX} (a0 : Nat) (xp0 : Int32) (xp1 : Int32) (xp2 : Int32) (h0 : PH) : ∀ z, fX2_addFound a0 xp0 xp1 xp2 h0 = some z → MC l G yX2_addFound cX2_addFound 4 (some .int) rmX2_addFound [.ref a0, .int xp0, .int xp1, .int xp2] h0 (rvI z.1) z.2 :=
  Met_J (own := RX2) (by decide) rfl (Nat.le_of_ble_eq_true rfl) (fun p e s m args below meth c C hr hn => vfX2_addFound C hr a0 xp0 xp1 xp2 h0)

theorem dX9_find_0 : decode cX9_find 0 = .ok (.aload_n 0, 1) := by decide +kernel
theorem dX9_find_1 : decode cX9_find 1 = .ok (.aload_n 0, 1) := by decide +kernel
theorem dX9_find_2 : decode cX9_find 2 = .ok (.getfield 45, 3) := by decide +kernel
theorem dX9_find_5 : decode cX9_find 5 = .ok (.iload_n 1, 1) := by decide +kernel
theorem dX9_find_6 : decode cX9_find 6 = .ok (.iload_n 2, 1) := by decide +kernel
theorem dX9_find_7 : decode cX9_find 7 = .ok (.iload_n 3, 1) := by decide +kernel
theorem dX9_find_8 : decode cX9_find 8 = .ok (.invokevirtual 209, 3) := by decide +kernel
theorem dX9_find_11 : decode cX9_find 11 = .ok (.invokevirtual 70, 3) := by decide +kernel
theorem dX9_find_14 : decode cX9_find 14 = .ok (.ireturn, 1) := by decide +kernel
def rmX9_find : Room := { frames := 3, cells := 0, slots := 0, locals := 65 }
def fX9_find  (a0 : Nat) (xp0 : Int32) (xp1 : Int32) (xp2 : Int32) (h0 : PH) : Option (Int32 × PH) :=
    bn (rdR 9 5 a0 h0) fun a1 =>
    bn (chk 2 a1 h0) fun _ => bn2 (fX2_addFound a1 xp0 xp1 xp2 h0) fun x3 h2 =>
    bn (chk 9 a0 h2) fun _ => bn2 (fX9_noted a0 x3 h2) fun x5 h4 =>
    some (x5, h4)
set_option maxHeartbeats 4000000 in
set_option maxRecDepth 100000 in
theorem vfX9_find {p : Program} {l : Launch} {e : Env} {s : State} {m : MethodId} {args : Array Value} {below : List Frame} {meth : Method} {c : Code} {G : GX} (C : Cx p s m args meth c G cX9_find 4 RX9) (hr : meth.sig.returnType = (some .int)) (a0 : Nat) (xp0 : Int32) (xp1 : Int32) (xp2 : Int32) (h0 : PH) : J p l e rmX9_find s m args below meth c G 4 (qM below args s rvI G 0 0) 0 0 h0 0 [(0, .ref a0), (1, .int xp0), (2, .int xp1), (3, .int xp2)] [] (fX9_find  a0 xp0 xp1 xp2 h0) := by
  unfold fX9_find
  refine J_aload_n (pc := 0) C dX9_find_0 rfl 0 rfl ?_
  refine J_aload_n (pc := 1) C dX9_find_1 rfl 0 rfl ?_
  refine J_getR (pc := 2) C flX9_45 dX9_find_2 (fun a1 => ?_)
  refine J_iload_n (pc := 5) C dX9_find_5 rfl 1 rfl ?_
  refine J_iload_n (pc := 6) C dX9_find_6 rfl 2 rfl ?_
  refine J_iload_n (pc := 7) C dX9_find_7 rfl 3 rfl ?_
  refine J_callVI (pc := 8) (As := [.int xp0, .int xp1, .int xp2]) (rest := [.ref a0]) C (fun z hz => mX2_addFound a1 xp0 xp1 xp2 h0 z hz) mwX2_addFound csX2_addFound mlX9_209 inX2_addFound rfl dX9_find_8 (by decide) rfl (Nat.le_of_ble_eq_true rfl) (by decide) (fun x3 h2 => ?_)
  refine J_callVI (pc := 11) (As := [.int x3]) (rest := []) C (fun z hz => mX9_noted a0 x3 h2 z hz) mwX9_noted csX9_noted mlX9_70 inX9_noted rfl dX9_find_11 (by decide) rfl (Nat.le_of_ble_eq_true rfl) (by decide) (fun x5 h4 => ?_)
  exact J_iret (pc := 14) C hr dX9_find_14
theorem mX9_find {l : Launch} {G : GX} (a0 : Nat) (xp0 : Int32) (xp1 : Int32) (xp2 : Int32) (h0 : PH) : ∀ z, fX9_find a0 xp0 xp1 xp2 h0 = some z → MC l G yX9_find cX9_find 4 (some .int) rmX9_find [.ref a0, .int xp0, .int xp1, .int xp2] h0 (rvI z.1) z.2 :=
  Met_J (own := RX9) (by decide) rfl (Nat.le_of_ble_eq_true rfl) (fun p e s m args below meth c C hr hn => vfX9_find C hr a0 xp0 xp1 xp2 h0)

theorem dX10_find_0 : decode cX10_find 0 = .ok (.aload_n 0, 1) := by decide +kernel
theorem dX10_find_1 : decode cX10_find 1 = .ok (.iconst 0, 1) := by decide +kernel
theorem dX10_find_2 : decode cX10_find 2 = .ok (.putfield 90, 3) := by decide +kernel
theorem dX10_find_5 : decode cX10_find 5 = .ok (.iload_n 1, 1) := by decide +kernel
theorem dX10_find_6 : decode cX10_find 6 = .ok (.i2l, 1) := by decide +kernel
theorem dX10_find_7 : decode cX10_find 7 = .ok (.lconst 0, 1) := by decide +kernel
theorem dX10_find_8 : decode cX10_find 8 = .ok (.ldc2_w 239, 3) := by decide +kernel
theorem dX10_find_11 : decode cX10_find 11 = .ok (.invokestatic 99, 3) := by decide +kernel
theorem dX10_find_14 : decode cX10_find 14 = .ok (.ifCond .eq 22, 3) := by decide +kernel
theorem dX10_find_17 : decode cX10_find 17 = .ok (.iload_n 2, 1) := by decide +kernel
theorem dX10_find_18 : decode cX10_find 18 = .ok (.invokestatic 243, 3) := by decide +kernel
theorem dX10_find_21 : decode cX10_find 21 = .ok (.ifCond .eq 15, 3) := by decide +kernel
theorem dX10_find_24 : decode cX10_find 24 = .ok (.iload_n 3, 1) := by decide +kernel
theorem dX10_find_25 : decode cX10_find 25 = .ok (.i2l, 1) := by decide +kernel
theorem dX10_find_26 : decode cX10_find 26 = .ok (.lconst 0, 1) := by decide +kernel
theorem dX10_find_27 : decode cX10_find 27 = .ok (.ldc2_w 254, 3) := by decide +kernel
theorem dX10_find_30 : decode cX10_find 30 = .ok (.invokestatic 99, 3) := by decide +kernel
theorem dX10_find_33 : decode cX10_find 33 = .ok (.ifCond .ne 9, 3) := by decide +kernel
theorem dX10_find_36 : decode cX10_find 36 = .ok (.aload_n 0, 1) := by decide +kernel
theorem dX10_find_37 : decode cX10_find 37 = .ok (.iconst (-1), 1) := by decide +kernel
theorem dX10_find_38 : decode cX10_find 38 = .ok (.invokevirtual 107, 3) := by decide +kernel
theorem dX10_find_41 : decode cX10_find 41 = .ok (.ireturn, 1) := by decide +kernel
theorem dX10_find_42 : decode cX10_find 42 = .ok (.aload_n 0, 1) := by decide +kernel
theorem dX10_find_43 : decode cX10_find 43 = .ok (.getfield 256, 3) := by decide +kernel
theorem dX10_find_46 : decode cX10_find 46 = .ok (.bipush 60, 2) := by decide +kernel
theorem dX10_find_48 : decode cX10_find 48 = .ok (.if_icmp .ne 10, 3) := by decide +kernel
theorem dX10_find_51 : decode cX10_find 51 = .ok (.aload_n 0, 1) := by decide +kernel
theorem dX10_find_52 : decode cX10_find 52 = .ok (.bipush (-5), 2) := by decide +kernel
theorem dX10_find_54 : decode cX10_find 54 = .ok (.invokevirtual 107, 3) := by decide +kernel
theorem dX10_find_57 : decode cX10_find 57 = .ok (.ireturn, 1) := by decide +kernel
theorem dX10_find_58 : decode cX10_find 58 = .ok (.aload_n 0, 1) := by decide +kernel
theorem dX10_find_59 : decode cX10_find 59 = .ok (.getfield 81, 3) := by decide +kernel
theorem dX10_find_62 : decode cX10_find 62 = .ok (.aload_n 0, 1) := by decide +kernel
theorem dX10_find_63 : decode cX10_find 63 = .ok (.getfield 256, 3) := by decide +kernel
theorem dX10_find_66 : decode cX10_find 66 = .ok (.iload_n 1, 1) := by decide +kernel
theorem dX10_find_67 : decode cX10_find 67 = .ok (.iastore, 1) := by decide +kernel
theorem dX10_find_68 : decode cX10_find 68 = .ok (.aload_n 0, 1) := by decide +kernel
theorem dX10_find_69 : decode cX10_find 69 = .ok (.getfield 84, 3) := by decide +kernel
theorem dX10_find_72 : decode cX10_find 72 = .ok (.aload_n 0, 1) := by decide +kernel
theorem dX10_find_73 : decode cX10_find 73 = .ok (.getfield 256, 3) := by decide +kernel
theorem dX10_find_76 : decode cX10_find 76 = .ok (.iload_n 2, 1) := by decide +kernel
theorem dX10_find_77 : decode cX10_find 77 = .ok (.iastore, 1) := by decide +kernel
theorem dX10_find_78 : decode cX10_find 78 = .ok (.aload_n 0, 1) := by decide +kernel
theorem dX10_find_79 : decode cX10_find 79 = .ok (.getfield 87, 3) := by decide +kernel
theorem dX10_find_82 : decode cX10_find 82 = .ok (.aload_n 0, 1) := by decide +kernel
theorem dX10_find_83 : decode cX10_find 83 = .ok (.getfield 256, 3) := by decide +kernel
theorem dX10_find_86 : decode cX10_find 86 = .ok (.iload_n 3, 1) := by decide +kernel
theorem dX10_find_87 : decode cX10_find 87 = .ok (.iastore, 1) := by decide +kernel
theorem dX10_find_88 : decode cX10_find 88 = .ok (.aload_n 0, 1) := by decide +kernel
theorem dX10_find_89 : decode cX10_find 89 = .ok (.dup, 1) := by decide +kernel
theorem dX10_find_90 : decode cX10_find 90 = .ok (.getfield 256, 3) := by decide +kernel
theorem dX10_find_93 : decode cX10_find 93 = .ok (.iconst 1, 1) := by decide +kernel
theorem dX10_find_94 : decode cX10_find 94 = .ok (.iadd, 1) := by decide +kernel
theorem dX10_find_95 : decode cX10_find 95 = .ok (.putfield 256, 3) := by decide +kernel
theorem dX10_find_98 : decode cX10_find 98 = .ok (.aload_n 0, 1) := by decide +kernel
theorem dX10_find_99 : decode cX10_find 99 = .ok (.aload_n 0, 1) := by decide +kernel
theorem dX10_find_100 : decode cX10_find 100 = .ok (.getfield 256, 3) := by decide +kernel
theorem dX10_find_103 : decode cX10_find 103 = .ok (.invokevirtual 107, 3) := by decide +kernel
theorem dX10_find_106 : decode cX10_find 106 = .ok (.ireturn, 1) := by decide +kernel
def rmX10_find : Room := { frames := 2, cells := 0, slots := 0, locals := 45 }
def fX10_find  (a0 : Nat) (xp0 : Int32) (xp1 : Int32) (xp2 : Int32) (h0 : PH) : Option (Int32 × PH) :=
    bn (wr 10 0 (.int (0 : Int32)) a0 h0) fun h1 =>
    bn2 (fX10_in xp0.toInt64 (0 : Int64) (3 : Int64) h1) fun x3 h2 =>
    if x3 = 0 then (bn (chk 10 a0 h2) fun _ => bn2 (fX10_told a0 (-1 : Int32) h2) fun x5 h4 =>
    some (x5, h4)) else
    bn2 (fX10_isHour xp1 h2) fun x7 h6 =>
    if x7 = 0 then (bn (chk 10 a0 h6) fun _ => bn2 (fX10_told a0 (-1 : Int32) h6) fun x9 h8 =>
    some (x9, h8)) else
    bn2 (fX10_in xp2.toInt64 (0 : Int64) (100000000 : Int64) h6) fun x11 h10 =>
    if x11 = 0 then (bn (chk 10 a0 h10) fun _ => bn2 (fX10_told a0 (-1 : Int32) h10) fun x30 h29 =>
    some (x30, h29)) else
    bn (rdI 10 40 a0 h10) fun x12 =>
    if x12 = (60 : Int32) then (bn (chk 10 a0 h10) fun _ => bn2 (fX10_told a0 (-5 : Int32) h10) fun x28 h27 =>
    some (x28, h27)) else
    bn (rdR 10 41 a0 h10) fun a13 =>
    bn (rdI 10 40 a0 h10) fun x14 =>
    bn (astI a13 x14 xp0 h10) fun h15 =>
    bn (rdR 10 42 a0 h15) fun a16 =>
    bn (rdI 10 40 a0 h15) fun x17 =>
    bn (astI a16 x17 xp1 h15) fun h18 =>
    bn (rdR 10 43 a0 h18) fun a19 =>
    bn (rdI 10 40 a0 h18) fun x20 =>
    bn (astI a19 x20 xp2 h18) fun h21 =>
    bn (rdI 10 40 a0 h21) fun x22 =>
    bn (wr 10 40 (.int (x22 + (1 : Int32))) a0 h21) fun h23 =>
    bn (rdI 10 40 a0 h23) fun x24 =>
    bn (chk 10 a0 h23) fun _ => bn2 (fX10_told a0 x24 h23) fun x26 h25 =>
    some (x26, h25)
set_option maxHeartbeats 4000000 in
set_option maxRecDepth 100000 in
theorem vfX10_find {p : Program} {l : Launch} {e : Env} {s : State} {m : MethodId} {args : Array Value} {below : List Frame} {meth : Method} {c : Code} {G : GX} (C : Cx p s m args meth c G cX10_find 4 RX10) (hr : meth.sig.returnType = (some .int)) (a0 : Nat) (xp0 : Int32) (xp1 : Int32) (xp2 : Int32) (h0 : PH) : J p l e rmX10_find s m args below meth c G 4 (qM below args s rvI G 0 0) 0 0 h0 0 [(0, .ref a0), (1, .int xp0), (2, .int xp1), (3, .int xp2)] [] (fX10_find  a0 xp0 xp1 xp2 h0) := by
  unfold fX10_find
  refine J_aload_n (pc := 0) C dX10_find_0 rfl 0 rfl ?_
  refine J_iconst (pc := 1) (v := 0) C dX10_find_1 (by decide) ?_
  refine J_put (pc := 2) C flX10_90 cl10 ft10_0 rfl rfl dX10_find_2 (fun h1 => ?_)
  refine J_iload_n (pc := 5) C dX10_find_5 rfl 1 rfl ?_
  refine J_i2l (pc := 6) C dX10_find_6 ?_
  refine J_lconst (pc := 7) (v := 0) C dX10_find_7 (by decide) ?_
  refine J_ldc2 (pc := 8) C kjX10_239 dX10_find_8 ?_
  refine J_callSI (pc := 11) (As := [.long xp0.toInt64, .long (0 : Int64), .long (3 : Int64)]) (rest := []) C (fun z hz => mX10_in xp0.toInt64 (0 : Int64) (3 : Int64) h1 z hz) mwX10_in mlX10_99 stX10_in rfl dX10_find_11 (by decide) rfl (Nat.le_of_ble_eq_true rfl) (by decide) (fun x3 h2 => ?_)
  refine J_if_eq (pc := 14) (tgt := 36) C dX10_find_14 (by decide) ?_ ?_
  · refine J_aload_n (pc := 36) C dX10_find_36 rfl 0 rfl ?_
    refine J_iconst (pc := 37) (v := -1) C dX10_find_37 (by decide) ?_
    refine J_callVI (pc := 38) (As := [.int (-1 : Int32)]) (rest := []) C (fun z hz => mX10_told a0 (-1 : Int32) h2 z hz) mwX10_told csX10_told mlX10_107 inX10_told rfl dX10_find_38 (by decide) rfl (Nat.le_of_ble_eq_true rfl) (by decide) (fun x5 h4 => ?_)
    exact J_iret (pc := 41) C hr dX10_find_41
  · refine J_iload_n (pc := 17) C dX10_find_17 rfl 2 rfl ?_
    refine J_callSI (pc := 18) (As := [.int xp1]) (rest := []) C (fun z hz => mX10_isHour xp1 h2 z hz) mwX10_isHour mlX10_243 stX10_isHour rfl dX10_find_18 (by decide) rfl (Nat.le_of_ble_eq_true rfl) (by decide) (fun x7 h6 => ?_)
    refine J_if_eq (pc := 21) (tgt := 36) C dX10_find_21 (by decide) ?_ ?_
    · refine J_aload_n (pc := 36) C dX10_find_36 rfl 0 rfl ?_
      refine J_iconst (pc := 37) (v := -1) C dX10_find_37 (by decide) ?_
      refine J_callVI (pc := 38) (As := [.int (-1 : Int32)]) (rest := []) C (fun z hz => mX10_told a0 (-1 : Int32) h6 z hz) mwX10_told csX10_told mlX10_107 inX10_told rfl dX10_find_38 (by decide) rfl (Nat.le_of_ble_eq_true rfl) (by decide) (fun x9 h8 => ?_)
      exact J_iret (pc := 41) C hr dX10_find_41
    · refine J_iload_n (pc := 24) C dX10_find_24 rfl 3 rfl ?_
      refine J_i2l (pc := 25) C dX10_find_25 ?_
      refine J_lconst (pc := 26) (v := 0) C dX10_find_26 (by decide) ?_
      refine J_ldc2 (pc := 27) C kjX10_254 dX10_find_27 ?_
      refine J_callSI (pc := 30) (As := [.long xp2.toInt64, .long (0 : Int64), .long (100000000 : Int64)]) (rest := []) C (fun z hz => mX10_in xp2.toInt64 (0 : Int64) (100000000 : Int64) h6 z hz) mwX10_in mlX10_99 stX10_in rfl dX10_find_30 (by decide) rfl (Nat.le_of_ble_eq_true rfl) (by decide) (fun x11 h10 => ?_)
      refine J_if_ne (pc := 33) (tgt := 42) C dX10_find_33 (by decide) ?_ ?_
      · refine J_aload_n (pc := 42) C dX10_find_42 rfl 0 rfl ?_
        refine J_getI (pc := 43) C flX10_256 dX10_find_43 (fun x12 => ?_)
        refine J_bipush (pc := 46) (v := 60) C dX10_find_46 (by decide) ?_
        refine J_icmp_ne (pc := 48) (tgt := 58) C dX10_find_48 (by decide) ?_ ?_
        · refine J_aload_n (pc := 58) C dX10_find_58 rfl 0 rfl ?_
          refine J_getR (pc := 59) C flX10_81 dX10_find_59 (fun a13 => ?_)
          refine J_aload_n (pc := 62) C dX10_find_62 rfl 0 rfl ?_
          refine J_getI (pc := 63) C flX10_256 dX10_find_63 (fun x14 => ?_)
          refine J_iload_n (pc := 66) C dX10_find_66 rfl 1 rfl ?_
          refine J_iast (pc := 67) C dX10_find_67 (fun h15 => ?_)
          refine J_aload_n (pc := 68) C dX10_find_68 rfl 0 rfl ?_
          refine J_getR (pc := 69) C flX10_84 dX10_find_69 (fun a16 => ?_)
          refine J_aload_n (pc := 72) C dX10_find_72 rfl 0 rfl ?_
          refine J_getI (pc := 73) C flX10_256 dX10_find_73 (fun x17 => ?_)
          refine J_iload_n (pc := 76) C dX10_find_76 rfl 2 rfl ?_
          refine J_iast (pc := 77) C dX10_find_77 (fun h18 => ?_)
          refine J_aload_n (pc := 78) C dX10_find_78 rfl 0 rfl ?_
          refine J_getR (pc := 79) C flX10_87 dX10_find_79 (fun a19 => ?_)
          refine J_aload_n (pc := 82) C dX10_find_82 rfl 0 rfl ?_
          refine J_getI (pc := 83) C flX10_256 dX10_find_83 (fun x20 => ?_)
          refine J_iload_n (pc := 86) C dX10_find_86 rfl 3 rfl ?_
          refine J_iast (pc := 87) C dX10_find_87 (fun h21 => ?_)
          refine J_aload_n (pc := 88) C dX10_find_88 rfl 0 rfl ?_
          refine J_dup (pc := 89) C dX10_find_89 rfl ?_
          refine J_getI (pc := 90) C flX10_256 dX10_find_90 (fun x22 => ?_)
          refine J_iconst (pc := 93) (v := 1) C dX10_find_93 (by decide) ?_
          refine J_iadd (pc := 94) C dX10_find_94 ?_
          refine J_put (pc := 95) C flX10_256 cl10 ft10_40 rfl rfl dX10_find_95 (fun h23 => ?_)
          refine J_aload_n (pc := 98) C dX10_find_98 rfl 0 rfl ?_
          refine J_aload_n (pc := 99) C dX10_find_99 rfl 0 rfl ?_
          refine J_getI (pc := 100) C flX10_256 dX10_find_100 (fun x24 => ?_)
          refine J_callVI (pc := 103) (As := [.int x24]) (rest := []) C (fun z hz => mX10_told a0 x24 h23 z hz) mwX10_told csX10_told mlX10_107 inX10_told rfl dX10_find_103 (by decide) rfl (Nat.le_of_ble_eq_true rfl) (by decide) (fun x26 h25 => ?_)
          exact J_iret (pc := 106) C hr dX10_find_106
        · refine J_aload_n (pc := 51) C dX10_find_51 rfl 0 rfl ?_
          refine J_bipush (pc := 52) (v := -5) C dX10_find_52 (by decide) ?_
          refine J_callVI (pc := 54) (As := [.int (-5 : Int32)]) (rest := []) C (fun z hz => mX10_told a0 (-5 : Int32) h10 z hz) mwX10_told csX10_told mlX10_107 inX10_told rfl dX10_find_54 (by decide) rfl (Nat.le_of_ble_eq_true rfl) (by decide) (fun x28 h27 => ?_)
          exact J_iret (pc := 57) C hr dX10_find_57
      · refine J_aload_n (pc := 36) C dX10_find_36 rfl 0 rfl ?_
        refine J_iconst (pc := 37) (v := -1) C dX10_find_37 (by decide) ?_
        refine J_callVI (pc := 38) (As := [.int (-1 : Int32)]) (rest := []) C (fun z hz => mX10_told a0 (-1 : Int32) h10 z hz) mwX10_told csX10_told mlX10_107 inX10_told rfl dX10_find_38 (by decide) rfl (Nat.le_of_ble_eq_true rfl) (by decide) (fun x30 h29 => ?_)
        exact J_iret (pc := 41) C hr dX10_find_41
theorem mX10_find {l : Launch} {G : GX} (a0 : Nat) (xp0 : Int32) (xp1 : Int32) (xp2 : Int32) (h0 : PH) : ∀ z, fX10_find a0 xp0 xp1 xp2 h0 = some z → MC l G yX10_find cX10_find 4 (some .int) rmX10_find [.ref a0, .int xp0, .int xp1, .int xp2] h0 (rvI z.1) z.2 :=
  Met_J (own := RX10) (by decide) rfl (Nat.le_of_ble_eq_true rfl) (fun p e s m args below meth c C hr hn => vfX10_find C hr a0 xp0 xp1 xp2 h0)

theorem dX2_firstMissing_0 : decode cX2_firstMissing 0 = .ok (.iconst (-1), 1) := by decide +kernel
theorem dX2_firstMissing_1 : decode cX2_firstMissing 1 = .ok (.istore_n 3, 1) := by decide +kernel
theorem dX2_firstMissing_2 : decode cX2_firstMissing 2 = .ok (.iconst 0, 1) := by decide +kernel
theorem dX2_firstMissing_3 : decode cX2_firstMissing 3 = .ok (.istore 4, 2) := by decide +kernel
theorem dX2_firstMissing_5 : decode cX2_firstMissing 5 = .ok (.iload 4, 2) := by decide +kernel
theorem dX2_firstMissing_7 : decode cX2_firstMissing 7 = .ok (.aload_n 0, 1) := by decide +kernel
theorem dX2_firstMissing_8 : decode cX2_firstMissing 8 = .ok (.getfield 37, 3) := by decide +kernel
theorem dX2_firstMissing_11 : decode cX2_firstMissing 11 = .ok (.if_icmp .ge 67, 3) := by decide +kernel
theorem dX2_firstMissing_14 : decode cX2_firstMissing 14 = .ok (.aload_n 0, 1) := by decide +kernel
theorem dX2_firstMissing_15 : decode cX2_firstMissing 15 = .ok (.getfield 31, 3) := by decide +kernel
theorem dX2_firstMissing_18 : decode cX2_firstMissing 18 = .ok (.iload 4, 2) := by decide +kernel
theorem dX2_firstMissing_20 : decode cX2_firstMissing 20 = .ok (.iaload, 1) := by decide +kernel
theorem dX2_firstMissing_21 : decode cX2_firstMissing 21 = .ok (.istore 5, 2) := by decide +kernel
theorem dX2_firstMissing_23 : decode cX2_firstMissing 23 = .ok (.aload_n 0, 1) := by decide +kernel
theorem dX2_firstMissing_24 : decode cX2_firstMissing 24 = .ok (.getfield 28, 3) := by decide +kernel
theorem dX2_firstMissing_27 : decode cX2_firstMissing 27 = .ok (.iload 4, 2) := by decide +kernel
theorem dX2_firstMissing_29 : decode cX2_firstMissing 29 = .ok (.iaload, 1) := by decide +kernel
theorem dX2_firstMissing_30 : decode cX2_firstMissing 30 = .ok (.iload_n 1, 1) := by decide +kernel
theorem dX2_firstMissing_31 : decode cX2_firstMissing 31 = .ok (.if_icmp .ne 41, 3) := by decide +kernel
theorem dX2_firstMissing_34 : decode cX2_firstMissing 34 = .ok (.iload 5, 2) := by decide +kernel
theorem dX2_firstMissing_36 : decode cX2_firstMissing 36 = .ok (.iload_n 2, 1) := by decide +kernel
theorem dX2_firstMissing_37 : decode cX2_firstMissing 37 = .ok (.if_icmp .gt 35, 3) := by decide +kernel
theorem dX2_firstMissing_40 : decode cX2_firstMissing 40 = .ok (.iload_n 3, 1) := by decide +kernel
theorem dX2_firstMissing_41 : decode cX2_firstMissing 41 = .ok (.iconst (-1), 1) := by decide +kernel
theorem dX2_firstMissing_42 : decode cX2_firstMissing 42 = .ok (.if_icmp .eq 9, 3) := by decide +kernel
theorem dX2_firstMissing_45 : decode cX2_firstMissing 45 = .ok (.iload 5, 2) := by decide +kernel
theorem dX2_firstMissing_47 : decode cX2_firstMissing 47 = .ok (.iload_n 3, 1) := by decide +kernel
theorem dX2_firstMissing_48 : decode cX2_firstMissing 48 = .ok (.if_icmp .ge 24, 3) := by decide +kernel
theorem dX2_firstMissing_51 : decode cX2_firstMissing 51 = .ok (.aload_n 0, 1) := by decide +kernel
theorem dX2_firstMissing_52 : decode cX2_firstMissing 52 = .ok (.getfield 34, 3) := by decide +kernel
theorem dX2_firstMissing_55 : decode cX2_firstMissing 55 = .ok (.iload 4, 2) := by decide +kernel
theorem dX2_firstMissing_57 : decode cX2_firstMissing 57 = .ok (.iaload, 1) := by decide +kernel
theorem dX2_firstMissing_58 : decode cX2_firstMissing 58 = .ok (.aload_n 0, 1) := by decide +kernel
theorem dX2_firstMissing_59 : decode cX2_firstMissing 59 = .ok (.iload_n 1, 1) := by decide +kernel
theorem dX2_firstMissing_60 : decode cX2_firstMissing 60 = .ok (.iload 5, 2) := by decide +kernel
theorem dX2_firstMissing_62 : decode cX2_firstMissing 62 = .ok (.iload_n 2, 1) := by decide +kernel
theorem dX2_firstMissing_63 : decode cX2_firstMissing 63 = .ok (.invokevirtual 55, 3) := by decide +kernel
theorem dX2_firstMissing_66 : decode cX2_firstMissing 66 = .ok (.if_icmp .ge 6, 3) := by decide +kernel
theorem dX2_firstMissing_69 : decode cX2_firstMissing 69 = .ok (.iload 5, 2) := by decide +kernel
theorem dX2_firstMissing_71 : decode cX2_firstMissing 71 = .ok (.istore_n 3, 1) := by decide +kernel
theorem dX2_firstMissing_72 : decode cX2_firstMissing 72 = .ok (.iinc 4 1, 3) := by decide +kernel
theorem dX2_firstMissing_75 : decode cX2_firstMissing 75 = .ok (.goto (-70), 3) := by decide +kernel
theorem dX2_firstMissing_78 : decode cX2_firstMissing 78 = .ok (.iload_n 3, 1) := by decide +kernel
theorem dX2_firstMissing_79 : decode cX2_firstMissing 79 = .ok (.ireturn, 1) := by decide +kernel
def rmX2_firstMissing : Room := { frames := 2, cells := 0, slots := 0, locals := 48 }
def fX2_firstMissing_72 (r5 : Nat → Int32 → Int32 → Int32 → Int32 → PH → Option (Int32 × PH)) (al0 : Nat) (xl1 : Int32) (xl2 : Int32) (xl3 : Int32) (xl4 : Int32) (h0 : PH) : Option (Int32 × PH) :=
    r5 al0 xl1 xl2 xl3 (xl4 + 1) h0
set_option maxHeartbeats 4000000 in
set_option maxRecDepth 100000 in
theorem vfX2_firstMissing_72 {p : Program} {l : Launch} {e : Env} {s : State} {m : MethodId} {args : Array Value} {below : List Frame} {meth : Method} {c : Code} {G : GX} (C : Cx p s m args meth c G cX2_firstMissing 6 RX2) (hr : meth.sig.returnType = (some .int)) {r5 : Nat → Int32 → Int32 → Int32 → Int32 → PH → Option (Int32 × PH)} (k5 : ∀ (al0 : Nat) (xl1 : Int32) (xl2 : Int32) (xl3 : Int32) (xl4 : Int32) (h0 : PH), J p l e rmX2_firstMissing s m args below meth c G 6 (qM below args s rvI G 0 0) 0 0 h0 5 [(0, .ref al0), (1, .int xl1), (2, .int xl2), (3, .int xl3), (4, .int xl4)] [] (r5 al0 xl1 xl2 xl3 xl4 h0)) (al0 : Nat) (xl1 : Int32) (xl2 : Int32) (xl3 : Int32) (xl4 : Int32) (h0 : PH) : J p l e rmX2_firstMissing s m args below meth c G 6 (qM below args s rvI G 0 0) 0 0 h0 72 [(0, .ref al0), (1, .int xl1), (2, .int xl2), (3, .int xl3), (4, .int xl4)] [] (fX2_firstMissing_72 r5 al0 xl1 xl2 xl3 xl4 h0) := by
  unfold fX2_firstMissing_72
  refine J_iinc (pc := 72) (v := (xl4 + 1)) (lv1 := [(4, .int (xl4 + 1)), (0, .ref al0), (1, .int xl1), (2, .int xl2), (3, .int xl3)]) C dX2_firstMissing_72 4 rfl rfl (by decide) rfl ?_
  refine J_goto (pc := 75) (tgt := 5) C dX2_firstMissing_75 (by decide) ?_
  refine J_sub [1, 2, 3, 4, 0] rfl ?_
  exact k5 al0 xl1 xl2 xl3 (xl4 + 1) h0
def fX2_firstMissing_51 (r5 : Nat → Int32 → Int32 → Int32 → Int32 → PH → Option (Int32 × PH)) (al0 : Nat) (xl1 : Int32) (xl2 : Int32) (xl3 : Int32) (xl4 : Int32) (xl5 : Int32) (h0 : PH) : Option (Int32 × PH) :=
    bn (rdR 2 7 al0 h0) fun a6 =>
    bn (aldI 0 a6 xl4 h0) fun x7 =>
    bn (chk 2 al0 h0) fun _ => bn2 (fX2_inRoom al0 xl1 xl5 xl2 h0) fun x9 h8 =>
    if x9 ≤ x7 then (fX2_firstMissing_72 r5 al0 xl1 xl2 xl3 xl4 h8) else
    fX2_firstMissing_72 r5 al0 xl1 xl2 xl5 xl4 h8
set_option maxHeartbeats 4000000 in
set_option maxRecDepth 100000 in
theorem vfX2_firstMissing_51 {p : Program} {l : Launch} {e : Env} {s : State} {m : MethodId} {args : Array Value} {below : List Frame} {meth : Method} {c : Code} {G : GX} (C : Cx p s m args meth c G cX2_firstMissing 6 RX2) (hr : meth.sig.returnType = (some .int)) {r5 : Nat → Int32 → Int32 → Int32 → Int32 → PH → Option (Int32 × PH)} (k5 : ∀ (al0 : Nat) (xl1 : Int32) (xl2 : Int32) (xl3 : Int32) (xl4 : Int32) (h0 : PH), J p l e rmX2_firstMissing s m args below meth c G 6 (qM below args s rvI G 0 0) 0 0 h0 5 [(0, .ref al0), (1, .int xl1), (2, .int xl2), (3, .int xl3), (4, .int xl4)] [] (r5 al0 xl1 xl2 xl3 xl4 h0)) (al0 : Nat) (xl1 : Int32) (xl2 : Int32) (xl3 : Int32) (xl4 : Int32) (xl5 : Int32) (h0 : PH) : J p l e rmX2_firstMissing s m args below meth c G 6 (qM below args s rvI G 0 0) 0 0 h0 51 [(0, .ref al0), (1, .int xl1), (2, .int xl2), (3, .int xl3), (4, .int xl4), (5, .int xl5)] [] (fX2_firstMissing_51 r5 al0 xl1 xl2 xl3 xl4 xl5 h0) := by
  unfold fX2_firstMissing_51
  refine J_aload_n (pc := 51) C dX2_firstMissing_51 rfl 0 rfl ?_
  refine J_getR (pc := 52) C flX2_34 dX2_firstMissing_52 (fun a6 => ?_)
  refine J_iload (pc := 55) C dX2_firstMissing_55 4 rfl ?_
  refine J_iald (pc := 57) C dX2_firstMissing_57 (fun x7 => ?_)
  refine J_aload_n (pc := 58) C dX2_firstMissing_58 rfl 0 rfl ?_
  refine J_iload_n (pc := 59) C dX2_firstMissing_59 rfl 1 rfl ?_
  refine J_iload (pc := 60) C dX2_firstMissing_60 5 rfl ?_
  refine J_iload_n (pc := 62) C dX2_firstMissing_62 rfl 2 rfl ?_
  refine J_callVI (pc := 63) (As := [.int xl1, .int xl5, .int xl2]) (rest := [.int x7]) C (fun z hz => mX2_inRoom al0 xl1 xl5 xl2 h0 z hz) mwX2_inRoom csX2_inRoom mlX2_55 inX2_inRoom rfl dX2_firstMissing_63 (by decide) rfl (Nat.le_of_ble_eq_true rfl) (by decide) (fun x9 h8 => ?_)
  refine J_icmp_ge (pc := 66) (tgt := 72) C dX2_firstMissing_66 (by decide) ?_ ?_
  · refine J_sub [0, 1, 2, 3, 4] rfl ?_
    exact vfX2_firstMissing_72 C hr k5 al0 xl1 xl2 xl3 xl4 h8
  · refine J_iload (pc := 69) C dX2_firstMissing_69 5 rfl ?_
    refine J_istore_n (pc := 71) (lv1 := [(3, .int xl5), (0, .ref al0), (1, .int xl1), (2, .int xl2), (4, .int xl4), (5, .int xl5)]) C dX2_firstMissing_71 rfl (by decide) rfl ?_
    refine J_sub [1, 2, 3, 0, 4] rfl ?_
    exact vfX2_firstMissing_72 C hr k5 al0 xl1 xl2 xl5 xl4 h8
def fX2_firstMissing_5  : Nat → Nat → Int32 → Int32 → Int32 → Int32 → PH → Option (Int32 × PH)
  | 0, _, _, _, _, _, _ => none
  | n + 1, al0, xl1, xl2, xl3, xl4, h0 =>
    bn (rdI 2 8 al0 h0) fun x1 =>
    if x1 ≤ xl4 then (some (xl3, h0)) else
    bn (rdR 2 6 al0 h0) fun a2 =>
    bn (aldI 0 a2 xl4 h0) fun x3 =>
    bn (rdR 2 5 al0 h0) fun a4 =>
    bn (aldI 0 a4 xl4 h0) fun x5 =>
    if x5 = xl1 then (if xl2 < x3 then (fX2_firstMissing_72 (fX2_firstMissing_5 n) al0 xl1 xl2 xl3 xl4 h0) else
    if xl3 = (-1 : Int32) then (fX2_firstMissing_51 (fX2_firstMissing_5 n) al0 xl1 xl2 xl3 xl4 x3 h0) else
    if xl3 ≤ x3 then (fX2_firstMissing_72 (fX2_firstMissing_5 n) al0 xl1 xl2 xl3 xl4 h0) else
    fX2_firstMissing_51 (fX2_firstMissing_5 n) al0 xl1 xl2 xl3 xl4 x3 h0) else
    fX2_firstMissing_72 (fX2_firstMissing_5 n) al0 xl1 xl2 xl3 xl4 h0
set_option maxHeartbeats 4000000 in
set_option maxRecDepth 100000 in
theorem vfX2_firstMissing_5 {p : Program} {l : Launch} {e : Env} {s : State} {m : MethodId} {args : Array Value} {below : List Frame} {meth : Method} {c : Code} {G : GX} (C : Cx p s m args meth c G cX2_firstMissing 6 RX2) (hr : meth.sig.returnType = (some .int)) : ∀ (n : Nat) (al0 : Nat) (xl1 : Int32) (xl2 : Int32) (xl3 : Int32) (xl4 : Int32) (h0 : PH), J p l e rmX2_firstMissing s m args below meth c G 6 (qM below args s rvI G 0 0) 0 0 h0 5 [(0, .ref al0), (1, .int xl1), (2, .int xl2), (3, .int xl3), (4, .int xl4)] [] (fX2_firstMissing_5  n al0 xl1 xl2 xl3 xl4 h0) := by
  intro n
  induction n with
  | zero => exact fun al0 xl1 xl2 xl3 xl4 h0 => J_none C
  | succ n ih =>
    intro al0 xl1 xl2 xl3 xl4 h0
    unfold fX2_firstMissing_5
    refine J_iload (pc := 5) C dX2_firstMissing_5 4 rfl ?_
    refine J_aload_n (pc := 7) C dX2_firstMissing_7 rfl 0 rfl ?_
    refine J_getI (pc := 8) C flX2_37 dX2_firstMissing_8 (fun x1 => ?_)
    refine J_icmp_ge (pc := 11) (tgt := 78) C dX2_firstMissing_11 (by decide) ?_ ?_
    · refine J_iload_n (pc := 78) C dX2_firstMissing_78 rfl 3 rfl ?_
      exact J_iret (pc := 79) C hr dX2_firstMissing_79
    · refine J_aload_n (pc := 14) C dX2_firstMissing_14 rfl 0 rfl ?_
      refine J_getR (pc := 15) C flX2_31 dX2_firstMissing_15 (fun a2 => ?_)
      refine J_iload (pc := 18) C dX2_firstMissing_18 4 rfl ?_
      refine J_iald (pc := 20) C dX2_firstMissing_20 (fun x3 => ?_)
      refine J_istore (pc := 21) (lv1 := [(5, .int x3), (0, .ref al0), (1, .int xl1), (2, .int xl2), (3, .int xl3), (4, .int xl4)]) C dX2_firstMissing_21 (by decide) rfl ?_
      refine J_aload_n (pc := 23) C dX2_firstMissing_23 rfl 1 rfl ?_
      refine J_getR (pc := 24) C flX2_28 dX2_firstMissing_24 (fun a4 => ?_)
      refine J_iload (pc := 27) C dX2_firstMissing_27 5 rfl ?_
      refine J_iald (pc := 29) C dX2_firstMissing_29 (fun x5 => ?_)
      refine J_iload_n (pc := 30) C dX2_firstMissing_30 rfl 2 rfl ?_
      refine J_icmp_ne (pc := 31) (tgt := 72) C dX2_firstMissing_31 (by decide) ?_ ?_
      · refine J_sub [1, 2, 3, 4, 5] rfl ?_
        exact vfX2_firstMissing_72 C hr ih al0 xl1 xl2 xl3 xl4 h0
      · refine J_iload (pc := 34) C dX2_firstMissing_34 0 rfl ?_
        refine J_iload_n (pc := 36) C dX2_firstMissing_36 rfl 3 rfl ?_
        refine J_icmp_gt (pc := 37) (tgt := 72) C dX2_firstMissing_37 (by decide) ?_ ?_
        · refine J_sub [1, 2, 3, 4, 5] rfl ?_
          exact vfX2_firstMissing_72 C hr ih al0 xl1 xl2 xl3 xl4 h0
        · refine J_iload_n (pc := 40) C dX2_firstMissing_40 rfl 4 rfl ?_
          refine J_iconst (pc := 41) (v := -1) C dX2_firstMissing_41 (by decide) ?_
          refine J_icmp_eq (pc := 42) (tgt := 51) C dX2_firstMissing_42 (by decide) ?_ ?_
          · refine J_sub [1, 2, 3, 4, 5, 0] rfl ?_
            exact vfX2_firstMissing_51 C hr ih al0 xl1 xl2 xl3 xl4 x3 h0
          · refine J_iload (pc := 45) C dX2_firstMissing_45 0 rfl ?_
            refine J_iload_n (pc := 47) C dX2_firstMissing_47 rfl 4 rfl ?_
            refine J_icmp_ge (pc := 48) (tgt := 72) C dX2_firstMissing_48 (by decide) ?_ ?_
            · refine J_sub [1, 2, 3, 4, 5] rfl ?_
              exact vfX2_firstMissing_72 C hr ih al0 xl1 xl2 xl3 xl4 h0
            · refine J_sub [1, 2, 3, 4, 5, 0] rfl ?_
              exact vfX2_firstMissing_51 C hr ih al0 xl1 xl2 xl3 xl4 x3 h0
def fX2_firstMissing  (a0 : Nat) (xp0 : Int32) (xp1 : Int32) (h0 : PH) : Option (Int32 × PH) :=
    fX2_firstMissing_5  FU a0 xp0 xp1 (-1 : Int32) (0 : Int32) h0
set_option maxHeartbeats 4000000 in
set_option maxRecDepth 100000 in
theorem vfX2_firstMissing {p : Program} {l : Launch} {e : Env} {s : State} {m : MethodId} {args : Array Value} {below : List Frame} {meth : Method} {c : Code} {G : GX} (C : Cx p s m args meth c G cX2_firstMissing 6 RX2) (hr : meth.sig.returnType = (some .int)) (a0 : Nat) (xp0 : Int32) (xp1 : Int32) (h0 : PH) : J p l e rmX2_firstMissing s m args below meth c G 6 (qM below args s rvI G 0 0) 0 0 h0 0 [(0, .ref a0), (1, .int xp0), (2, .int xp1)] [] (fX2_firstMissing  a0 xp0 xp1 h0) := by
  unfold fX2_firstMissing
  refine J_iconst (pc := 0) (v := -1) C dX2_firstMissing_0 (by decide) ?_
  refine J_istore_n (pc := 1) (lv1 := [(3, .int (-1 : Int32)), (0, .ref a0), (1, .int xp0), (2, .int xp1)]) C dX2_firstMissing_1 rfl (by decide) rfl ?_
  refine J_iconst (pc := 2) (v := 0) C dX2_firstMissing_2 (by decide) ?_
  refine J_istore (pc := 3) (lv1 := [(4, .int (0 : Int32)), (3, .int (-1 : Int32)), (0, .ref a0), (1, .int xp0), (2, .int xp1)]) C dX2_firstMissing_3 (by decide) rfl ?_
  refine J_sub [2, 3, 4, 1, 0] rfl ?_
  exact vfX2_firstMissing_5 C hr  FU a0 xp0 xp1 (-1 : Int32) (0 : Int32) h0
theorem mX2_firstMissing {l : Launch} {G : GX} (a0 : Nat) (xp0 : Int32) (xp1 : Int32) (h0 : PH) : ∀ z, fX2_firstMissing a0 xp0 xp1 h0 = some z → MC l G yX2_firstMissing cX2_firstMissing 6 (some .int) rmX2_firstMissing [.ref a0, .int xp0, .int xp1] h0 (rvI z.1) z.2 :=
  Met_J (own := RX2) (by decide) rfl (Nat.le_of_ble_eq_true rfl) (fun p e s m args below meth c C hr hn => vfX2_firstMissing C hr a0 xp0 xp1 h0)

theorem dX9_missing_0 : decode cX9_missing 0 = .ok (.iload_n 1, 1) := by decide +kernel
theorem dX9_missing_1 : decode cX9_missing 1 = .ok (.iconst 0, 1) := by decide +kernel
theorem dX9_missing_2 : decode cX9_missing 2 = .ok (.iconst 3, 1) := by decide +kernel
theorem dX9_missing_3 : decode cX9_missing 3 = .ok (.invokestatic 97, 3) := by decide +kernel
theorem dX9_missing_6 : decode cX9_missing 6 = .ok (.ifCond .eq 10, 3) := by decide +kernel
theorem dX9_missing_9 : decode cX9_missing 9 = .ok (.iload_n 2, 1) := by decide +kernel
theorem dX9_missing_10 : decode cX9_missing 10 = .ok (.invokestatic 202, 3) := by decide +kernel
theorem dX9_missing_13 : decode cX9_missing 13 = .ok (.ifCond .ne 5, 3) := by decide +kernel
theorem dX9_missing_16 : decode cX9_missing 16 = .ok (.iconst (-1), 1) := by decide +kernel
theorem dX9_missing_17 : decode cX9_missing 17 = .ok (.ireturn, 1) := by decide +kernel
theorem dX9_missing_18 : decode cX9_missing 18 = .ok (.aload_n 0, 1) := by decide +kernel
theorem dX9_missing_19 : decode cX9_missing 19 = .ok (.getfield 45, 3) := by decide +kernel
theorem dX9_missing_22 : decode cX9_missing 22 = .ok (.iload_n 1, 1) := by decide +kernel
theorem dX9_missing_23 : decode cX9_missing 23 = .ok (.iload_n 2, 1) := by decide +kernel
theorem dX9_missing_24 : decode cX9_missing 24 = .ok (.invokevirtual 212, 3) := by decide +kernel
theorem dX9_missing_27 : decode cX9_missing 27 = .ok (.ireturn, 1) := by decide +kernel
def rmX9_missing : Room := { frames := 3, cells := 0, slots := 0, locals := 73 }
def fX9_missing  (a0 : Nat) (xp0 : Int32) (xp1 : Int32) (h0 : PH) : Option (Int32 × PH) :=
    bn2 (fX9_within xp0 (0 : Int32) (3 : Int32) h0) fun x2 h1 =>
    if x2 = 0 then (some ((-1 : Int32), h1)) else
    bn2 (fX9_isHour xp1 h1) fun x4 h3 =>
    if x4 = 0 then (some ((-1 : Int32), h3)) else
    bn (rdR 9 5 a0 h3) fun a5 =>
    bn (chk 2 a5 h3) fun _ => bn2 (fX2_firstMissing a5 xp0 xp1 h3) fun x7 h6 =>
    some (x7, h6)
set_option maxHeartbeats 4000000 in
set_option maxRecDepth 100000 in
theorem vfX9_missing {p : Program} {l : Launch} {e : Env} {s : State} {m : MethodId} {args : Array Value} {below : List Frame} {meth : Method} {c : Code} {G : GX} (C : Cx p s m args meth c G cX9_missing 3 RX9) (hr : meth.sig.returnType = (some .int)) (a0 : Nat) (xp0 : Int32) (xp1 : Int32) (h0 : PH) : J p l e rmX9_missing s m args below meth c G 3 (qM below args s rvI G 0 0) 0 0 h0 0 [(0, .ref a0), (1, .int xp0), (2, .int xp1)] [] (fX9_missing  a0 xp0 xp1 h0) := by
  unfold fX9_missing
  refine J_iload_n (pc := 0) C dX9_missing_0 rfl 1 rfl ?_
  refine J_iconst (pc := 1) (v := 0) C dX9_missing_1 (by decide) ?_
  refine J_iconst (pc := 2) (v := 3) C dX9_missing_2 (by decide) ?_
  refine J_callSI (pc := 3) (As := [.int xp0, .int (0 : Int32), .int (3 : Int32)]) (rest := []) C (fun z hz => mX9_within xp0 (0 : Int32) (3 : Int32) h0 z hz) mwX9_within mlX9_97 stX9_within rfl dX9_missing_3 (by decide) rfl (Nat.le_of_ble_eq_true rfl) (by decide) (fun x2 h1 => ?_)
  refine J_if_eq (pc := 6) (tgt := 16) C dX9_missing_6 (by decide) ?_ ?_
  · refine J_iconst (pc := 16) (v := -1) C dX9_missing_16 (by decide) ?_
    exact J_iret (pc := 17) C hr dX9_missing_17
  · refine J_iload_n (pc := 9) C dX9_missing_9 rfl 2 rfl ?_
    refine J_callSI (pc := 10) (As := [.int xp1]) (rest := []) C (fun z hz => mX9_isHour xp1 h1 z hz) mwX9_isHour mlX9_202 stX9_isHour rfl dX9_missing_10 (by decide) rfl (Nat.le_of_ble_eq_true rfl) (by decide) (fun x4 h3 => ?_)
    refine J_if_ne (pc := 13) (tgt := 18) C dX9_missing_13 (by decide) ?_ ?_
    · refine J_aload_n (pc := 18) C dX9_missing_18 rfl 0 rfl ?_
      refine J_getR (pc := 19) C flX9_45 dX9_missing_19 (fun a5 => ?_)
      refine J_iload_n (pc := 22) C dX9_missing_22 rfl 1 rfl ?_
      refine J_iload_n (pc := 23) C dX9_missing_23 rfl 2 rfl ?_
      refine J_callVI (pc := 24) (As := [.int xp0, .int xp1]) (rest := []) C (fun z hz => mX2_firstMissing a5 xp0 xp1 h3 z hz) mwX2_firstMissing csX2_firstMissing mlX9_212 inX2_firstMissing rfl dX9_missing_24 (by decide) rfl (Nat.le_of_ble_eq_true rfl) (by decide) (fun x7 h6 => ?_)
      exact J_iret (pc := 27) C hr dX9_missing_27
    · refine J_iconst (pc := 16) (v := -1) C dX9_missing_16 (by decide) ?_
      exact J_iret (pc := 17) C hr dX9_missing_17
theorem mX9_missing {l : Launch} {G : GX} (a0 : Nat) (xp0 : Int32) (xp1 : Int32) (h0 : PH) : ∀ z, fX9_missing a0 xp0 xp1 h0 = some z → MC l G yX9_missing cX9_missing 3 (some .int) rmX9_missing [.ref a0, .int xp0, .int xp1] h0 (rvI z.1) z.2 :=
  Met_J (own := RX9) (by decide) rfl (Nat.le_of_ble_eq_true rfl) (fun p e s m args below meth c C hr hn => vfX9_missing C hr a0 xp0 xp1 h0)

