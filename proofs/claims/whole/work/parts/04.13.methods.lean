theorem dX4_allHold_0 : decode cX4_allHold 0 = .ok (.iconst 0, 1) := by decide +kernel
theorem dX4_allHold_1 : decode cX4_allHold 1 = .ok (.istore 4, 2) := by decide +kernel
theorem dX4_allHold_3 : decode cX4_allHold 3 = .ok (.iload 4, 2) := by decide +kernel
theorem dX4_allHold_5 : decode cX4_allHold 5 = .ok (.aload_n 0, 1) := by decide +kernel
theorem dX4_allHold_6 : decode cX4_allHold 6 = .ok (.getfield 15, 3) := by decide +kernel
theorem dX4_allHold_9 : decode cX4_allHold 9 = .ok (.if_icmp .ge 33, 3) := by decide +kernel
theorem dX4_allHold_12 : decode cX4_allHold 12 = .ok (.aload_n 0, 1) := by decide +kernel
theorem dX4_allHold_13 : decode cX4_allHold 13 = .ok (.getfield 18, 3) := by decide +kernel
theorem dX4_allHold_16 : decode cX4_allHold 16 = .ok (.iload 4, 2) := by decide +kernel
theorem dX4_allHold_18 : decode cX4_allHold 18 = .ok (.iaload, 1) := by decide +kernel
theorem dX4_allHold_19 : decode cX4_allHold 19 = .ok (.iload_n 1, 1) := by decide +kernel
theorem dX4_allHold_20 : decode cX4_allHold 20 = .ok (.if_icmp .ne 16, 3) := by decide +kernel
theorem dX4_allHold_23 : decode cX4_allHold 23 = .ok (.aload_n 0, 1) := by decide +kernel
theorem dX4_allHold_24 : decode cX4_allHold 24 = .ok (.iload 4, 2) := by decide +kernel
theorem dX4_allHold_26 : decode cX4_allHold 26 = .ok (.aload_n 2, 1) := by decide +kernel
theorem dX4_allHold_27 : decode cX4_allHold 27 = .ok (.aload_n 3, 1) := by decide +kernel
theorem dX4_allHold_28 : decode cX4_allHold 28 = .ok (.invokevirtual 35, 3) := by decide +kernel
theorem dX4_allHold_31 : decode cX4_allHold 31 = .ok (.ifCond .ne 5, 3) := by decide +kernel
theorem dX4_allHold_34 : decode cX4_allHold 34 = .ok (.iconst 0, 1) := by decide +kernel
theorem dX4_allHold_35 : decode cX4_allHold 35 = .ok (.ireturn, 1) := by decide +kernel
theorem dX4_allHold_36 : decode cX4_allHold 36 = .ok (.iinc 4 1, 3) := by decide +kernel
theorem dX4_allHold_39 : decode cX4_allHold 39 = .ok (.goto (-36), 3) := by decide +kernel
theorem dX4_allHold_42 : decode cX4_allHold 42 = .ok (.iconst 1, 1) := by decide +kernel
theorem dX4_allHold_43 : decode cX4_allHold 43 = .ok (.ireturn, 1) := by decide +kernel
def rmX4_allHold : Room := { frames := 3, cells := 0, slots := 0, locals := 72 }
def fX4_allHold_36 (r3 : Nat → Int32 → Nat → Nat → Int32 → PH → Option (Int32 × PH)) (al0 : Nat) (xl1 : Int32) (al2 : Nat) (al3 : Nat) (xl4 : Int32) (h0 : PH) : Option (Int32 × PH) :=
    r3 al0 xl1 al2 al3 (xl4 + 1) h0
set_option maxHeartbeats 4000000 in
set_option maxRecDepth 100000 in
theorem vfX4_allHold_36 {p : Program} {l : Launch} {e : Env} {s : State} {m : MethodId} {args : Array Value} {below : List Frame} {meth : Method} {c : Code} {G : GX} (C : Cx p s m args meth c G cX4_allHold 5 RX4) (hr : meth.sig.returnType = (some .boolean)) {r3 : Nat → Int32 → Nat → Nat → Int32 → PH → Option (Int32 × PH)} (k3 : ∀ (al0 : Nat) (xl1 : Int32) (al2 : Nat) (al3 : Nat) (xl4 : Int32) (h0 : PH), J p l e rmX4_allHold s m args below meth c G 5 (qM below args s rvI G 0 0) 0 0 h0 3 [(0, .ref al0), (1, .int xl1), (2, .ref al2), (3, .ref al3), (4, .int xl4)] [] (r3 al0 xl1 al2 al3 xl4 h0)) (al0 : Nat) (xl1 : Int32) (al2 : Nat) (al3 : Nat) (xl4 : Int32) (h0 : PH) : J p l e rmX4_allHold s m args below meth c G 5 (qM below args s rvI G 0 0) 0 0 h0 36 [(0, .ref al0), (1, .int xl1), (2, .ref al2), (3, .ref al3), (4, .int xl4)] [] (fX4_allHold_36 r3 al0 xl1 al2 al3 xl4 h0) := by
  unfold fX4_allHold_36
  refine J_iinc (pc := 36) (v := (xl4 + 1)) (lv1 := [(4, .int (xl4 + 1)), (0, .ref al0), (1, .int xl1), (2, .ref al2), (3, .ref al3)]) C dX4_allHold_36 4 rfl rfl (by decide) rfl ?_
  refine J_goto (pc := 39) (tgt := 3) C dX4_allHold_39 (by decide) ?_
  refine J_sub [1, 2, 3, 4, 0] rfl ?_
  exact k3 al0 xl1 al2 al3 (xl4 + 1) h0
def fX4_allHold_3  : Nat → Nat → Int32 → Nat → Nat → Int32 → PH → Option (Int32 × PH)
  | 0, _, _, _, _, _, _ => none
  | n + 1, al0, xl1, al2, al3, xl4, h0 =>
    bn (rdI 4 1 al0 h0) fun x1 =>
    if x1 ≤ xl4 then (some ((1 : Int32), h0)) else
    bn (rdR 4 2 al0 h0) fun a2 =>
    bn (aldI 0 a2 xl4 h0) fun x3 =>
    if x3 = xl1 then (bn (chk 4 al0 h0) fun _ => bn2 (fX4_holds al0 xl4 al2 al3 h0) fun x5 h4 =>
    if x5 = 0 then (some ((0 : Int32), h4)) else
    fX4_allHold_36 (fX4_allHold_3 n) al0 xl1 al2 al3 xl4 h4) else
    fX4_allHold_36 (fX4_allHold_3 n) al0 xl1 al2 al3 xl4 h0
set_option maxHeartbeats 4000000 in
set_option maxRecDepth 100000 in
theorem vfX4_allHold_3 {p : Program} {l : Launch} {e : Env} {s : State} {m : MethodId} {args : Array Value} {below : List Frame} {meth : Method} {c : Code} {G : GX} (C : Cx p s m args meth c G cX4_allHold 5 RX4) (hr : meth.sig.returnType = (some .boolean)) : ∀ (n : Nat) (al0 : Nat) (xl1 : Int32) (al2 : Nat) (al3 : Nat) (xl4 : Int32) (h0 : PH), J p l e rmX4_allHold s m args below meth c G 5 (qM below args s rvI G 0 0) 0 0 h0 3 [(0, .ref al0), (1, .int xl1), (2, .ref al2), (3, .ref al3), (4, .int xl4)] [] (fX4_allHold_3  n al0 xl1 al2 al3 xl4 h0) := by
  intro n
  induction n with
  | zero => exact fun al0 xl1 al2 al3 xl4 h0 => J_none C
  | succ n ih =>
    intro al0 xl1 al2 al3 xl4 h0
    unfold fX4_allHold_3
    refine J_iload (pc := 3) C dX4_allHold_3 4 rfl ?_
    refine J_aload_n (pc := 5) C dX4_allHold_5 rfl 0 rfl ?_
    refine J_getI (pc := 6) C flX4_15 dX4_allHold_6 (fun x1 => ?_)
    refine J_icmp_ge (pc := 9) (tgt := 42) C dX4_allHold_9 (by decide) ?_ ?_
    · refine J_iconst (pc := 42) (v := 1) C dX4_allHold_42 (by decide) ?_
      exact J_zret (pc := 43) C hr rfl dX4_allHold_43
    · refine J_aload_n (pc := 12) C dX4_allHold_12 rfl 0 rfl ?_
      refine J_getR (pc := 13) C flX4_18 dX4_allHold_13 (fun a2 => ?_)
      refine J_iload (pc := 16) C dX4_allHold_16 4 rfl ?_
      refine J_iald (pc := 18) C dX4_allHold_18 (fun x3 => ?_)
      refine J_iload_n (pc := 19) C dX4_allHold_19 rfl 1 rfl ?_
      refine J_icmp_ne (pc := 20) (tgt := 36) C dX4_allHold_20 (by decide) ?_ ?_
      · exact vfX4_allHold_36 C hr ih al0 xl1 al2 al3 xl4 h0
      · refine J_aload_n (pc := 23) C dX4_allHold_23 rfl 0 rfl ?_
        refine J_iload (pc := 24) C dX4_allHold_24 4 rfl ?_
        refine J_aload_n (pc := 26) C dX4_allHold_26 rfl 2 rfl ?_
        refine J_aload_n (pc := 27) C dX4_allHold_27 rfl 3 rfl ?_
        refine J_callVI (pc := 28) (As := [.int xl4, .ref al2, .ref al3]) (rest := []) C (fun z hz => mX4_holds al0 xl4 al2 al3 h0 z hz) mwX4_holds csX4_holds mlX4_35 inX4_holds rfl dX4_allHold_28 (by decide) rfl (Nat.le_of_ble_eq_true rfl) (by decide) (fun x5 h4 => ?_)
        refine J_if_ne (pc := 31) (tgt := 36) C dX4_allHold_31 (by decide) ?_ ?_
        · exact vfX4_allHold_36 C hr ih al0 xl1 al2 al3 xl4 h4
        · refine J_iconst (pc := 34) (v := 0) C dX4_allHold_34 (by decide) ?_
          exact J_zret (pc := 35) C hr rfl dX4_allHold_35
def fX4_allHold  (a0 : Nat) (xp0 : Int32) (ap1 : Nat) (ap2 : Nat) (h0 : PH) : Option (Int32 × PH) :=
    fX4_allHold_3  FU a0 xp0 ap1 ap2 (0 : Int32) h0
set_option maxHeartbeats 4000000 in
set_option maxRecDepth 100000 in
theorem vfX4_allHold {p : Program} {l : Launch} {e : Env} {s : State} {m : MethodId} {args : Array Value} {below : List Frame} {meth : Method} {c : Code} {G : GX} (C : Cx p s m args meth c G cX4_allHold 5 RX4) (hr : meth.sig.returnType = (some .boolean)) (a0 : Nat) (xp0 : Int32) (ap1 : Nat) (ap2 : Nat) (h0 : PH) : J p l e rmX4_allHold s m args below meth c G 5 (qM below args s rvI G 0 0) 0 0 h0 0 [(0, .ref a0), (1, .int xp0), (2, .ref ap1), (3, .ref ap2)] [] (fX4_allHold  a0 xp0 ap1 ap2 h0) := by
  unfold fX4_allHold
  refine J_iconst (pc := 0) (v := 0) C dX4_allHold_0 (by decide) ?_
  refine J_istore (pc := 1) (lv1 := [(4, .int (0 : Int32)), (0, .ref a0), (1, .int xp0), (2, .ref ap1), (3, .ref ap2)]) C dX4_allHold_1 (by decide) rfl ?_
  refine J_sub [1, 2, 3, 4, 0] rfl ?_
  exact vfX4_allHold_3 C hr  FU a0 xp0 ap1 ap2 (0 : Int32) h0
theorem mX4_allHold {l : Launch} {G : GX} (a0 : Nat) (xp0 : Int32) (ap1 : Nat) (ap2 : Nat) (h0 : PH) : ∀ z, fX4_allHold a0 xp0 ap1 ap2 h0 = some z → MC l G yX4_allHold cX4_allHold 5 (some .boolean) rmX4_allHold [.ref a0, .int xp0, .ref ap1, .ref ap2] h0 (rvI z.1) z.2 :=
  Met_J (own := RX4) (by decide) rfl (Nat.le_of_ble_eq_true rfl) (fun p e s m args below meth c C hr hn => vfX4_allHold C hr a0 xp0 ap1 ap2 h0)

theorem dX4_firstThatSuits_0 : decode cX4_firstThatSuits 0 = .ok (.iconst 0, 1) := by decide +kernel
theorem dX4_firstThatSuits_1 : decode cX4_firstThatSuits 1 = .ok (.istore_n 3, 1) := by decide +kernel
theorem dX4_firstThatSuits_2 : decode cX4_firstThatSuits 2 = .ok (.iload_n 3, 1) := by decide +kernel
theorem dX4_firstThatSuits_3 : decode cX4_firstThatSuits 3 = .ok (.aload_n 0, 1) := by decide +kernel
theorem dX4_firstThatSuits_4 : decode cX4_firstThatSuits 4 = .ok (.getfield 9, 3) := by decide +kernel
theorem dX4_firstThatSuits_7 : decode cX4_firstThatSuits 7 = .ok (.if_icmp .ge 21, 3) := by decide +kernel
theorem dX4_firstThatSuits_10 : decode cX4_firstThatSuits 10 = .ok (.aload_n 0, 1) := by decide +kernel
theorem dX4_firstThatSuits_11 : decode cX4_firstThatSuits 11 = .ok (.iload_n 3, 1) := by decide +kernel
theorem dX4_firstThatSuits_12 : decode cX4_firstThatSuits 12 = .ok (.aload_n 1, 1) := by decide +kernel
theorem dX4_firstThatSuits_13 : decode cX4_firstThatSuits 13 = .ok (.aload_n 2, 1) := by decide +kernel
theorem dX4_firstThatSuits_14 : decode cX4_firstThatSuits 14 = .ok (.invokevirtual 31, 3) := by decide +kernel
theorem dX4_firstThatSuits_17 : decode cX4_firstThatSuits 17 = .ok (.ifCond .eq 5, 3) := by decide +kernel
theorem dX4_firstThatSuits_20 : decode cX4_firstThatSuits 20 = .ok (.iload_n 3, 1) := by decide +kernel
theorem dX4_firstThatSuits_21 : decode cX4_firstThatSuits 21 = .ok (.ireturn, 1) := by decide +kernel
theorem dX4_firstThatSuits_22 : decode cX4_firstThatSuits 22 = .ok (.iinc 3 1, 3) := by decide +kernel
theorem dX4_firstThatSuits_25 : decode cX4_firstThatSuits 25 = .ok (.goto (-23), 3) := by decide +kernel
theorem dX4_firstThatSuits_28 : decode cX4_firstThatSuits 28 = .ok (.iconst (-1), 1) := by decide +kernel
theorem dX4_firstThatSuits_29 : decode cX4_firstThatSuits 29 = .ok (.ireturn, 1) := by decide +kernel
def rmX4_firstThatSuits : Room := { frames := 4, cells := 0, slots := 0, locals := 96 }
def fX4_firstThatSuits_2  : Nat → Nat → Nat → Nat → Int32 → PH → Option (Int32 × PH)
  | 0, _, _, _, _, _ => none
  | n + 1, al0, al1, al2, xl3, h0 =>
    bn (rdI 4 0 al0 h0) fun x1 =>
    if x1 ≤ xl3 then (some ((-1 : Int32), h0)) else
    bn (chk 4 al0 h0) fun _ => bn2 (fX4_allHold al0 xl3 al1 al2 h0) fun x3 h2 =>
    if x3 = 0 then ((fX4_firstThatSuits_2 n) al0 al1 al2 (xl3 + 1) h2) else
    some (xl3, h2)
set_option maxHeartbeats 4000000 in
set_option maxRecDepth 100000 in
theorem vfX4_firstThatSuits_2 {p : Program} {l : Launch} {e : Env} {s : State} {m : MethodId} {args : Array Value} {below : List Frame} {meth : Method} {c : Code} {G : GX} (C : Cx p s m args meth c G cX4_firstThatSuits 4 RX4) (hr : meth.sig.returnType = (some .int)) : ∀ (n : Nat) (al0 : Nat) (al1 : Nat) (al2 : Nat) (xl3 : Int32) (h0 : PH), J p l e rmX4_firstThatSuits s m args below meth c G 4 (qM below args s rvI G 0 0) 0 0 h0 2 [(0, .ref al0), (1, .ref al1), (2, .ref al2), (3, .int xl3)] [] (fX4_firstThatSuits_2  n al0 al1 al2 xl3 h0) := by
  intro n
  induction n with
  | zero => exact fun al0 al1 al2 xl3 h0 => J_none C
  | succ n ih =>
    intro al0 al1 al2 xl3 h0
    unfold fX4_firstThatSuits_2
    refine J_iload_n (pc := 2) C dX4_firstThatSuits_2 rfl 3 rfl ?_
    refine J_aload_n (pc := 3) C dX4_firstThatSuits_3 rfl 0 rfl ?_
    refine J_getI (pc := 4) C flX4_9 dX4_firstThatSuits_4 (fun x1 => ?_)
    refine J_icmp_ge (pc := 7) (tgt := 28) C dX4_firstThatSuits_7 (by decide) ?_ ?_
    · refine J_iconst (pc := 28) (v := -1) C dX4_firstThatSuits_28 (by decide) ?_
      exact J_iret (pc := 29) C hr dX4_firstThatSuits_29
    · refine J_aload_n (pc := 10) C dX4_firstThatSuits_10 rfl 0 rfl ?_
      refine J_iload_n (pc := 11) C dX4_firstThatSuits_11 rfl 3 rfl ?_
      refine J_aload_n (pc := 12) C dX4_firstThatSuits_12 rfl 1 rfl ?_
      refine J_aload_n (pc := 13) C dX4_firstThatSuits_13 rfl 2 rfl ?_
      refine J_callVI (pc := 14) (As := [.int xl3, .ref al1, .ref al2]) (rest := []) C (fun z hz => mX4_allHold al0 xl3 al1 al2 h0 z hz) mwX4_allHold csX4_allHold mlX4_31 inX4_allHold rfl dX4_firstThatSuits_14 (by decide) rfl (Nat.le_of_ble_eq_true rfl) (by decide) (fun x3 h2 => ?_)
      refine J_if_eq (pc := 17) (tgt := 22) C dX4_firstThatSuits_17 (by decide) ?_ ?_
      · refine J_iinc (pc := 22) (v := (xl3 + 1)) (lv1 := [(3, .int (xl3 + 1)), (0, .ref al0), (1, .ref al1), (2, .ref al2)]) C dX4_firstThatSuits_22 3 rfl rfl (by decide) rfl ?_
        refine J_goto (pc := 25) (tgt := 2) C dX4_firstThatSuits_25 (by decide) ?_
        refine J_sub [1, 2, 3, 0] rfl ?_
        exact ih al0 al1 al2 (xl3 + 1) h2
      · refine J_iload_n (pc := 20) C dX4_firstThatSuits_20 rfl 3 rfl ?_
        exact J_iret (pc := 21) C hr dX4_firstThatSuits_21
def fX4_firstThatSuits  (a0 : Nat) (ap0 : Nat) (ap1 : Nat) (h0 : PH) : Option (Int32 × PH) :=
    fX4_firstThatSuits_2  FU a0 ap0 ap1 (0 : Int32) h0
set_option maxHeartbeats 4000000 in
set_option maxRecDepth 100000 in
theorem vfX4_firstThatSuits {p : Program} {l : Launch} {e : Env} {s : State} {m : MethodId} {args : Array Value} {below : List Frame} {meth : Method} {c : Code} {G : GX} (C : Cx p s m args meth c G cX4_firstThatSuits 4 RX4) (hr : meth.sig.returnType = (some .int)) (a0 : Nat) (ap0 : Nat) (ap1 : Nat) (h0 : PH) : J p l e rmX4_firstThatSuits s m args below meth c G 4 (qM below args s rvI G 0 0) 0 0 h0 0 [(0, .ref a0), (1, .ref ap0), (2, .ref ap1)] [] (fX4_firstThatSuits  a0 ap0 ap1 h0) := by
  unfold fX4_firstThatSuits
  refine J_iconst (pc := 0) (v := 0) C dX4_firstThatSuits_0 (by decide) ?_
  refine J_istore_n (pc := 1) (lv1 := [(3, .int (0 : Int32)), (0, .ref a0), (1, .ref ap0), (2, .ref ap1)]) C dX4_firstThatSuits_1 rfl (by decide) rfl ?_
  refine J_sub [1, 2, 3, 0] rfl ?_
  exact vfX4_firstThatSuits_2 C hr  FU a0 ap0 ap1 (0 : Int32) h0
theorem mX4_firstThatSuits {l : Launch} {G : GX} (a0 : Nat) (ap0 : Nat) (ap1 : Nat) (h0 : PH) : ∀ z, fX4_firstThatSuits a0 ap0 ap1 h0 = some z → MC l G yX4_firstThatSuits cX4_firstThatSuits 4 (some .int) rmX4_firstThatSuits [.ref a0, .ref ap0, .ref ap1] h0 (rvI z.1) z.2 :=
  Met_J (own := RX4) (by decide) rfl (Nat.le_of_ble_eq_true rfl) (fun p e s m args below meth c C hr hn => vfX4_firstThatSuits C hr a0 ap0 ap1 h0)

theorem dX9_colour_0 : decode cX9_colour 0 = .ok (.aload_n 0, 1) := by decide +kernel
theorem dX9_colour_1 : decode cX9_colour 1 = .ok (.getfield 10, 3) := by decide +kernel
theorem dX9_colour_4 : decode cX9_colour 4 = .ok (.iload_n 1, 1) := by decide +kernel
theorem dX9_colour_5 : decode cX9_colour 5 = .ok (.invokevirtual 81, 3) := by decide +kernel
theorem dX9_colour_8 : decode cX9_colour 8 = .ok (.astore_n 2, 1) := by decide +kernel
theorem dX9_colour_9 : decode cX9_colour 9 = .ok (.aload_n 2, 1) := by decide +kernel
theorem dX9_colour_10 : decode cX9_colour 10 = .ok (.ifnonnull 7, 3) := by decide +kernel
theorem dX9_colour_13 : decode cX9_colour 13 = .ok (.iconst (-1), 1) := by decide +kernel
theorem dX9_colour_14 : decode cX9_colour 14 = .ok (.goto 15, 3) := by decide +kernel
theorem dX9_colour_17 : decode cX9_colour 17 = .ok (.aload_n 0, 1) := by decide +kernel
theorem dX9_colour_18 : decode cX9_colour 18 = .ok (.getfield 52, 3) := by decide +kernel
theorem dX9_colour_21 : decode cX9_colour 21 = .ok (.aload_n 2, 1) := by decide +kernel
theorem dX9_colour_22 : decode cX9_colour 22 = .ok (.aload_n 0, 1) := by decide +kernel
theorem dX9_colour_23 : decode cX9_colour 23 = .ok (.getfield 10, 3) := by decide +kernel
theorem dX9_colour_26 : decode cX9_colour 26 = .ok (.invokevirtual 126, 3) := by decide +kernel
theorem dX9_colour_29 : decode cX9_colour 29 = .ok (.ireturn, 1) := by decide +kernel
def rmX9_colour : Room := { frames := 5, cells := 0, slots := 0, locals := 119 }
def fX9_colour  (a0 : Nat) (xp0 : Int32) (h0 : PH) : Option (Int32 × PH) :=
    bn (rdR 9 0 a0 h0) fun a1 =>
    bn (chk 7 a1 h0) fun _ => bn2 (fX7_living a1 xp0 h0) fun o3 h2 =>
    onul o3 (some ((-1 : Int32), h2)) fun a4 =>
    bn (rdR 9 6 a0 h2) fun a5 =>
    bn (rdR 9 0 a0 h2) fun a6 =>
    bn (chk 4 a5 h2) fun _ => bn2 (fX4_firstThatSuits a5 a4 a6 h2) fun x8 h7 =>
    some (x8, h7)
set_option maxHeartbeats 4000000 in
set_option maxRecDepth 100000 in
theorem vfX9_colour {p : Program} {l : Launch} {e : Env} {s : State} {m : MethodId} {args : Array Value} {below : List Frame} {meth : Method} {c : Code} {G : GX} (C : Cx p s m args meth c G cX9_colour 3 RX9) (hr : meth.sig.returnType = (some .int)) (a0 : Nat) (xp0 : Int32) (h0 : PH) : J p l e rmX9_colour s m args below meth c G 3 (qM below args s rvI G 0 0) 0 0 h0 0 [(0, .ref a0), (1, .int xp0)] [] (fX9_colour  a0 xp0 h0) := by
  unfold fX9_colour
  refine J_aload_n (pc := 0) C dX9_colour_0 rfl 0 rfl ?_
  refine J_getR (pc := 1) C flX9_10 dX9_colour_1 (fun a1 => ?_)
  refine J_iload_n (pc := 4) C dX9_colour_4 rfl 1 rfl ?_
  refine J_callVR (pc := 5) (As := [.int xp0]) (rest := []) C (fun z hz => mX7_living a1 xp0 h0 z hz) mwX7_living csX7_living mlX9_81 inX7_living rfl dX9_colour_5 (by decide) rfl (Nat.le_of_ble_eq_true rfl) (by decide) (fun o3 h2 => ?_)
  refine J_astore_nQ (pc := 8) (x := o3) (lv1 := [(2, va_rf o3), (0, .ref a0), (1, .int xp0)]) C dX9_colour_8 rfl (by decide) rfl ?_
  refine J_aload_nQ (pc := 9) (x := o3) C dX9_colour_9 rfl 0 rfl ?_
  refine J_onul (fun hx => ?_) (fun a4 hx => ?_)
  · subst hx
    refine J_ifnonnullN (pc := 10) C dX9_colour_10 ?_
    refine J_iconst (pc := 13) (v := -1) C dX9_colour_13 (by decide) ?_
    refine J_goto (pc := 14) (tgt := 29) C dX9_colour_14 (by decide) ?_
    exact J_iret (pc := 29) C hr dX9_colour_29
  · subst hx
    refine J_ifnonnull (pc := 10) (tgt := 17) C dX9_colour_10 (by decide) ?_
    refine J_aload_n (pc := 17) C dX9_colour_17 rfl 1 rfl ?_
    refine J_getR (pc := 18) C flX9_52 dX9_colour_18 (fun a5 => ?_)
    refine J_aload_n (pc := 21) C dX9_colour_21 rfl 0 rfl ?_
    refine J_aload_n (pc := 22) C dX9_colour_22 rfl 1 rfl ?_
    refine J_getR (pc := 23) C flX9_10 dX9_colour_23 (fun a6 => ?_)
    refine J_callVI (pc := 26) (As := [.ref a4, .ref a6]) (rest := []) C (fun z hz => mX4_firstThatSuits a5 a4 a6 h2 z hz) mwX4_firstThatSuits csX4_firstThatSuits mlX9_126 inX4_firstThatSuits rfl dX9_colour_26 (by decide) rfl (Nat.le_of_ble_eq_true rfl) (by decide) (fun x8 h7 => ?_)
    exact J_iret (pc := 29) C hr dX9_colour_29
theorem mX9_colour {l : Launch} {G : GX} (a0 : Nat) (xp0 : Int32) (h0 : PH) : ∀ z, fX9_colour a0 xp0 h0 = some z → MC l G yX9_colour cX9_colour 3 (some .int) rmX9_colour [.ref a0, .int xp0] h0 (rvI z.1) z.2 :=
  Met_J (own := RX9) (by decide) rfl (Nat.le_of_ble_eq_true rfl) (fun p e s m args below meth c C hr hn => vfX9_colour C hr a0 xp0 h0)

theorem dX10_colour_0 : decode cX10_colour 0 = .ok (.aload_n 0, 1) := by decide +kernel
theorem dX10_colour_1 : decode cX10_colour 1 = .ok (.iconst 0, 1) := by decide +kernel
theorem dX10_colour_2 : decode cX10_colour 2 = .ok (.putfield 90, 3) := by decide +kernel
theorem dX10_colour_5 : decode cX10_colour 5 = .ok (.aload_n 0, 1) := by decide +kernel
theorem dX10_colour_6 : decode cX10_colour 6 = .ok (.iload_n 1, 1) := by decide +kernel
theorem dX10_colour_7 : decode cX10_colour 7 = .ok (.invokevirtual 117, 3) := by decide +kernel
theorem dX10_colour_10 : decode cX10_colour 10 = .ok (.ifCond .ne 5, 3) := by decide +kernel
theorem dX10_colour_13 : decode cX10_colour 13 = .ok (.iconst (-1), 1) := by decide +kernel
theorem dX10_colour_14 : decode cX10_colour 14 = .ok (.ireturn, 1) := by decide +kernel
theorem dX10_colour_15 : decode cX10_colour 15 = .ok (.aload_n 0, 1) := by decide +kernel
theorem dX10_colour_16 : decode cX10_colour 16 = .ok (.iload_n 1, 1) := by decide +kernel
theorem dX10_colour_17 : decode cX10_colour 17 = .ok (.invokevirtual 121, 3) := by decide +kernel
theorem dX10_colour_20 : decode cX10_colour 20 = .ok (.i2l, 1) := by decide +kernel
theorem dX10_colour_21 : decode cX10_colour 21 = .ok (.lstore_n 2, 1) := by decide +kernel
theorem dX10_colour_22 : decode cX10_colour 22 = .ok (.iconst 0, 1) := by decide +kernel
theorem dX10_colour_23 : decode cX10_colour 23 = .ok (.istore 4, 2) := by decide +kernel
theorem dX10_colour_25 : decode cX10_colour 25 = .ok (.iload 4, 2) := by decide +kernel
theorem dX10_colour_27 : decode cX10_colour 27 = .ok (.aload_n 0, 1) := by decide +kernel
theorem dX10_colour_28 : decode cX10_colour 28 = .ok (.getfield 207, 3) := by decide +kernel
theorem dX10_colour_31 : decode cX10_colour 31 = .ok (.if_icmp .ge 117, 3) := by decide +kernel
theorem dX10_colour_34 : decode cX10_colour 34 = .ok (.iconst 1, 1) := by decide +kernel
theorem dX10_colour_35 : decode cX10_colour 35 = .ok (.istore 5, 2) := by decide +kernel
theorem dX10_colour_37 : decode cX10_colour 37 = .ok (.aload_n 0, 1) := by decide +kernel
theorem dX10_colour_38 : decode cX10_colour 38 = .ok (.getfield 26, 3) := by decide +kernel
theorem dX10_colour_41 : decode cX10_colour 41 = .ok (.iload 4, 2) := by decide +kernel
theorem dX10_colour_43 : decode cX10_colour 43 = .ok (.iaload, 1) := by decide +kernel
theorem dX10_colour_44 : decode cX10_colour 44 = .ok (.istore 6, 2) := by decide +kernel
theorem dX10_colour_46 : decode cX10_colour 46 = .ok (.iload 6, 2) := by decide +kernel
theorem dX10_colour_48 : decode cX10_colour 48 = .ok (.aload_n 0, 1) := by decide +kernel
theorem dX10_colour_49 : decode cX10_colour 49 = .ok (.getfield 26, 3) := by decide +kernel
theorem dX10_colour_52 : decode cX10_colour 52 = .ok (.iload 4, 2) := by decide +kernel
theorem dX10_colour_54 : decode cX10_colour 54 = .ok (.iconst 1, 1) := by decide +kernel
theorem dX10_colour_55 : decode cX10_colour 55 = .ok (.iadd, 1) := by decide +kernel
theorem dX10_colour_56 : decode cX10_colour 56 = .ok (.iaload, 1) := by decide +kernel
theorem dX10_colour_57 : decode cX10_colour 57 = .ok (.if_icmp .ge 77, 3) := by decide +kernel
theorem dX10_colour_60 : decode cX10_colour 60 = .ok (.aload_n 0, 1) := by decide +kernel
theorem dX10_colour_61 : decode cX10_colour 61 = .ok (.iload_n 1, 1) := by decide +kernel
theorem dX10_colour_62 : decode cX10_colour 62 = .ok (.aload_n 0, 1) := by decide +kernel
theorem dX10_colour_63 : decode cX10_colour 63 = .ok (.getfield 29, 3) := by decide +kernel
theorem dX10_colour_66 : decode cX10_colour 66 = .ok (.iconst 3, 1) := by decide +kernel
theorem dX10_colour_67 : decode cX10_colour 67 = .ok (.iload 6, 2) := by decide +kernel
theorem dX10_colour_69 : decode cX10_colour 69 = .ok (.imul, 1) := by decide +kernel
theorem dX10_colour_70 : decode cX10_colour 70 = .ok (.iaload, 1) := by decide +kernel
theorem dX10_colour_71 : decode cX10_colour 71 = .ok (.invokevirtual 129, 3) := by decide +kernel
theorem dX10_colour_74 : decode cX10_colour 74 = .ok (.lstore 7, 2) := by decide +kernel
theorem dX10_colour_76 : decode cX10_colour 76 = .ok (.iload 5, 2) := by decide +kernel
theorem dX10_colour_78 : decode cX10_colour 78 = .ok (.ifCond .eq 47, 3) := by decide +kernel
theorem dX10_colour_81 : decode cX10_colour 81 = .ok (.aload_n 0, 1) := by decide +kernel
theorem dX10_colour_82 : decode cX10_colour 82 = .ok (.getfield 29, 3) := by decide +kernel
theorem dX10_colour_85 : decode cX10_colour 85 = .ok (.iconst 3, 1) := by decide +kernel
theorem dX10_colour_86 : decode cX10_colour 86 = .ok (.iload 6, 2) := by decide +kernel
theorem dX10_colour_88 : decode cX10_colour 88 = .ok (.imul, 1) := by decide +kernel
theorem dX10_colour_89 : decode cX10_colour 89 = .ok (.iconst 1, 1) := by decide +kernel
theorem dX10_colour_90 : decode cX10_colour 90 = .ok (.iadd, 1) := by decide +kernel
theorem dX10_colour_91 : decode cX10_colour 91 = .ok (.iaload, 1) := by decide +kernel
theorem dX10_colour_92 : decode cX10_colour 92 = .ok (.i2l, 1) := by decide +kernel
theorem dX10_colour_93 : decode cX10_colour 93 = .ok (.lload_n 2, 1) := by decide +kernel
theorem dX10_colour_94 : decode cX10_colour 94 = .ok (.lmul, 1) := by decide +kernel
theorem dX10_colour_95 : decode cX10_colour 95 = .ok (.lload 7, 2) := by decide +kernel
theorem dX10_colour_97 : decode cX10_colour 97 = .ok (.lcmp, 1) := by decide +kernel
theorem dX10_colour_98 : decode cX10_colour 98 = .ok (.ifCond .gt 27, 3) := by decide +kernel
theorem dX10_colour_101 : decode cX10_colour 101 = .ok (.lload 7, 2) := by decide +kernel
theorem dX10_colour_103 : decode cX10_colour 103 = .ok (.aload_n 0, 1) := by decide +kernel
theorem dX10_colour_104 : decode cX10_colour 104 = .ok (.getfield 29, 3) := by decide +kernel
theorem dX10_colour_107 : decode cX10_colour 107 = .ok (.iconst 3, 1) := by decide +kernel
theorem dX10_colour_108 : decode cX10_colour 108 = .ok (.iload 6, 2) := by decide +kernel
theorem dX10_colour_110 : decode cX10_colour 110 = .ok (.imul, 1) := by decide +kernel
theorem dX10_colour_111 : decode cX10_colour 111 = .ok (.iconst 2, 1) := by decide +kernel
theorem dX10_colour_112 : decode cX10_colour 112 = .ok (.iadd, 1) := by decide +kernel
theorem dX10_colour_113 : decode cX10_colour 113 = .ok (.iaload, 1) := by decide +kernel
theorem dX10_colour_114 : decode cX10_colour 114 = .ok (.i2l, 1) := by decide +kernel
theorem dX10_colour_115 : decode cX10_colour 115 = .ok (.lload_n 2, 1) := by decide +kernel
theorem dX10_colour_116 : decode cX10_colour 116 = .ok (.lmul, 1) := by decide +kernel
theorem dX10_colour_117 : decode cX10_colour 117 = .ok (.lcmp, 1) := by decide +kernel
theorem dX10_colour_118 : decode cX10_colour 118 = .ok (.ifCond .gt 7, 3) := by decide +kernel
theorem dX10_colour_121 : decode cX10_colour 121 = .ok (.iconst 1, 1) := by decide +kernel
theorem dX10_colour_122 : decode cX10_colour 122 = .ok (.goto 4, 3) := by decide +kernel
theorem dX10_colour_125 : decode cX10_colour 125 = .ok (.iconst 0, 1) := by decide +kernel
theorem dX10_colour_126 : decode cX10_colour 126 = .ok (.istore 5, 2) := by decide +kernel
theorem dX10_colour_128 : decode cX10_colour 128 = .ok (.iinc 6 1, 3) := by decide +kernel
theorem dX10_colour_131 : decode cX10_colour 131 = .ok (.goto (-85), 3) := by decide +kernel
theorem dX10_colour_134 : decode cX10_colour 134 = .ok (.iload 5, 2) := by decide +kernel
theorem dX10_colour_136 : decode cX10_colour 136 = .ok (.ifCond .eq 6, 3) := by decide +kernel
theorem dX10_colour_139 : decode cX10_colour 139 = .ok (.iload 4, 2) := by decide +kernel
theorem dX10_colour_141 : decode cX10_colour 141 = .ok (.ireturn, 1) := by decide +kernel
theorem dX10_colour_142 : decode cX10_colour 142 = .ok (.iinc 4 1, 3) := by decide +kernel
theorem dX10_colour_145 : decode cX10_colour 145 = .ok (.goto (-120), 3) := by decide +kernel
theorem dX10_colour_148 : decode cX10_colour 148 = .ok (.iconst (-1), 1) := by decide +kernel
theorem dX10_colour_149 : decode cX10_colour 149 = .ok (.ireturn, 1) := by decide +kernel
def rmX10_colour : Room := { frames := 2, cells := 0, slots := 0, locals := 46 }
def fX10_colour_126 (r25 : Nat → Int32 → Int64 → Int32 → PH → Option (Int32 × PH)) (r46 : Nat → Int32 → Int64 → Int32 → Int32 → Int32 → PH → Option (Int32 × PH)) (al0 : Nat) (xl1 : Int32) (xl2 : Int64) (xl4 : Int32) (xl6 : Int32) (xs0 : Int32) (h0 : PH) : Option (Int32 × PH) :=
    r46 al0 xl1 xl2 xl4 xs0 (xl6 + 1) h0
set_option maxHeartbeats 4000000 in
set_option maxRecDepth 100000 in
theorem vfX10_colour_126 {p : Program} {l : Launch} {e : Env} {s : State} {m : MethodId} {args : Array Value} {below : List Frame} {meth : Method} {c : Code} {G : GX} (C : Cx p s m args meth c G cX10_colour 9 RX10) (hr : meth.sig.returnType = (some .int)) {r25 : Nat → Int32 → Int64 → Int32 → PH → Option (Int32 × PH)} (k25 : ∀ (al0 : Nat) (xl1 : Int32) (xl2 : Int64) (xl4 : Int32) (h0 : PH), J p l e rmX10_colour s m args below meth c G 9 (qM below args s rvI G 0 0) 0 0 h0 25 [(0, .ref al0), (1, .int xl1), (2, .long xl2), (4, .int xl4)] [] (r25 al0 xl1 xl2 xl4 h0)) {r46 : Nat → Int32 → Int64 → Int32 → Int32 → Int32 → PH → Option (Int32 × PH)} (k46 : ∀ (al0 : Nat) (xl1 : Int32) (xl2 : Int64) (xl4 : Int32) (xl5 : Int32) (xl6 : Int32) (h0 : PH), J p l e rmX10_colour s m args below meth c G 9 (qM below args s rvI G 0 0) 0 0 h0 46 [(0, .ref al0), (1, .int xl1), (2, .long xl2), (4, .int xl4), (5, .int xl5), (6, .int xl6)] [] (r46 al0 xl1 xl2 xl4 xl5 xl6 h0)) (al0 : Nat) (xl1 : Int32) (xl2 : Int64) (xl4 : Int32) (xl6 : Int32) (xs0 : Int32) (h0 : PH) : J p l e rmX10_colour s m args below meth c G 9 (qM below args s rvI G 0 0) 0 0 h0 126 [(0, .ref al0), (1, .int xl1), (2, .long xl2), (4, .int xl4), (6, .int xl6)] [.int xs0] (fX10_colour_126 r25 r46 al0 xl1 xl2 xl4 xl6 xs0 h0) := by
  unfold fX10_colour_126
  refine J_istore (pc := 126) (lv1 := [(5, .int xs0), (0, .ref al0), (1, .int xl1), (2, .long xl2), (4, .int xl4), (6, .int xl6)]) C dX10_colour_126 (by decide) rfl ?_
  refine J_iinc (pc := 128) (v := (xl6 + 1)) (lv1 := [(6, .int (xl6 + 1)), (5, .int xs0), (0, .ref al0), (1, .int xl1), (2, .long xl2), (4, .int xl4)]) C dX10_colour_128 5 rfl rfl (by decide) rfl ?_
  refine J_goto (pc := 131) (tgt := 46) C dX10_colour_131 (by decide) ?_
  refine J_sub [2, 3, 4, 5, 1, 0] rfl ?_
  exact k46 al0 xl1 xl2 xl4 xs0 (xl6 + 1) h0
def fX10_colour_125 (r25 : Nat → Int32 → Int64 → Int32 → PH → Option (Int32 × PH)) (r46 : Nat → Int32 → Int64 → Int32 → Int32 → Int32 → PH → Option (Int32 × PH)) (al0 : Nat) (xl1 : Int32) (xl2 : Int64) (xl4 : Int32) (xl6 : Int32) (h0 : PH) : Option (Int32 × PH) :=
    fX10_colour_126 r25 r46 al0 xl1 xl2 xl4 xl6 (0 : Int32) h0
set_option maxHeartbeats 4000000 in
set_option maxRecDepth 100000 in
theorem vfX10_colour_125 {p : Program} {l : Launch} {e : Env} {s : State} {m : MethodId} {args : Array Value} {below : List Frame} {meth : Method} {c : Code} {G : GX} (C : Cx p s m args meth c G cX10_colour 9 RX10) (hr : meth.sig.returnType = (some .int)) {r25 : Nat → Int32 → Int64 → Int32 → PH → Option (Int32 × PH)} (k25 : ∀ (al0 : Nat) (xl1 : Int32) (xl2 : Int64) (xl4 : Int32) (h0 : PH), J p l e rmX10_colour s m args below meth c G 9 (qM below args s rvI G 0 0) 0 0 h0 25 [(0, .ref al0), (1, .int xl1), (2, .long xl2), (4, .int xl4)] [] (r25 al0 xl1 xl2 xl4 h0)) {r46 : Nat → Int32 → Int64 → Int32 → Int32 → Int32 → PH → Option (Int32 × PH)} (k46 : ∀ (al0 : Nat) (xl1 : Int32) (xl2 : Int64) (xl4 : Int32) (xl5 : Int32) (xl6 : Int32) (h0 : PH), J p l e rmX10_colour s m args below meth c G 9 (qM below args s rvI G 0 0) 0 0 h0 46 [(0, .ref al0), (1, .int xl1), (2, .long xl2), (4, .int xl4), (5, .int xl5), (6, .int xl6)] [] (r46 al0 xl1 xl2 xl4 xl5 xl6 h0)) (al0 : Nat) (xl1 : Int32) (xl2 : Int64) (xl4 : Int32) (xl6 : Int32) (h0 : PH) : J p l e rmX10_colour s m args below meth c G 9 (qM below args s rvI G 0 0) 0 0 h0 125 [(0, .ref al0), (1, .int xl1), (2, .long xl2), (4, .int xl4), (6, .int xl6)] [] (fX10_colour_125 r25 r46 al0 xl1 xl2 xl4 xl6 h0) := by
  unfold fX10_colour_125
  refine J_iconst (pc := 125) (v := 0) C dX10_colour_125 (by decide) ?_
  exact vfX10_colour_126 C hr k25 k46 al0 xl1 xl2 xl4 xl6 (0 : Int32) h0
def fX10_colour_46 (r25 : Nat → Int32 → Int64 → Int32 → PH → Option (Int32 × PH)) : Nat → Nat → Int32 → Int64 → Int32 → Int32 → Int32 → PH → Option (Int32 × PH)
  | 0, _, _, _, _, _, _, _ => none
  | n + 1, al0, xl1, xl2, xl4, xl5, xl6, h0 =>
    bn (rdR 10 11 al0 h0) fun a9 =>
    bn (aldI 0 a9 (xl4 + (1 : Int32)) h0) fun x10 =>
    if x10 ≤ xl6 then (if xl5 = 0 then (r25 al0 xl1 xl2 (xl4 + 1) h0) else
    some (xl4, h0)) else
    bn (rdR 10 12 al0 h0) fun a11 =>
    bn (aldI 0 a11 ((3 : Int32) * xl6) h0) fun x12 =>
    bn (chk 10 al0 h0) fun _ => bn2 (fX10_partOf al0 xl1 x12 h0) fun x14 h13 =>
    if xl5 = 0 then (fX10_colour_125 r25 (fX10_colour_46 r25 n) al0 xl1 xl2 xl4 xl6 h13) else
    bn (rdR 10 12 al0 h13) fun a15 =>
    bn (aldI 0 a15 (((3 : Int32) * xl6) + (1 : Int32)) h13) fun x16 =>
    if x14 < (x16.toInt64 * xl2) then (fX10_colour_125 r25 (fX10_colour_46 r25 n) al0 xl1 xl2 xl4 xl6 h13) else
    bn (rdR 10 12 al0 h13) fun a17 =>
    bn (aldI 0 a17 (((3 : Int32) * xl6) + (2 : Int32)) h13) fun x18 =>
    if (x18.toInt64 * xl2) < x14 then (fX10_colour_125 r25 (fX10_colour_46 r25 n) al0 xl1 xl2 xl4 xl6 h13) else
    fX10_colour_126 r25 (fX10_colour_46 r25 n) al0 xl1 xl2 xl4 xl6 (1 : Int32) h13
set_option maxHeartbeats 4000000 in
set_option maxRecDepth 100000 in
theorem vfX10_colour_46 {p : Program} {l : Launch} {e : Env} {s : State} {m : MethodId} {args : Array Value} {below : List Frame} {meth : Method} {c : Code} {G : GX} (C : Cx p s m args meth c G cX10_colour 9 RX10) (hr : meth.sig.returnType = (some .int)) {r25 : Nat → Int32 → Int64 → Int32 → PH → Option (Int32 × PH)} (k25 : ∀ (al0 : Nat) (xl1 : Int32) (xl2 : Int64) (xl4 : Int32) (h0 : PH), J p l e rmX10_colour s m args below meth c G 9 (qM below args s rvI G 0 0) 0 0 h0 25 [(0, .ref al0), (1, .int xl1), (2, .long xl2), (4, .int xl4)] [] (r25 al0 xl1 xl2 xl4 h0)) : ∀ (n : Nat) (al0 : Nat) (xl1 : Int32) (xl2 : Int64) (xl4 : Int32) (xl5 : Int32) (xl6 : Int32) (h0 : PH), J p l e rmX10_colour s m args below meth c G 9 (qM below args s rvI G 0 0) 0 0 h0 46 [(0, .ref al0), (1, .int xl1), (2, .long xl2), (4, .int xl4), (5, .int xl5), (6, .int xl6)] [] (fX10_colour_46 r25 n al0 xl1 xl2 xl4 xl5 xl6 h0) := by
  intro n
  induction n with
  | zero => exact fun al0 xl1 xl2 xl4 xl5 xl6 h0 => J_none C
  | succ n ih =>
    intro al0 xl1 xl2 xl4 xl5 xl6 h0
    unfold fX10_colour_46
    refine J_iload (pc := 46) C dX10_colour_46 5 rfl ?_
    refine J_aload_n (pc := 48) C dX10_colour_48 rfl 0 rfl ?_
    refine J_getR (pc := 49) C flX10_26 dX10_colour_49 (fun a9 => ?_)
    refine J_iload (pc := 52) C dX10_colour_52 3 rfl ?_
    refine J_iconst (pc := 54) (v := 1) C dX10_colour_54 (by decide) ?_
    refine J_iadd (pc := 55) C dX10_colour_55 ?_
    refine J_iald (pc := 56) C dX10_colour_56 (fun x10 => ?_)
    refine J_icmp_ge (pc := 57) (tgt := 134) C dX10_colour_57 (by decide) ?_ ?_
    · refine J_iload (pc := 134) C dX10_colour_134 4 rfl ?_
      refine J_if_eq (pc := 136) (tgt := 142) C dX10_colour_136 (by decide) ?_ ?_
      · refine J_iinc (pc := 142) (v := (xl4 + 1)) (lv1 := [(4, .int (xl4 + 1)), (0, .ref al0), (1, .int xl1), (2, .long xl2), (5, .int xl5), (6, .int xl6)]) C dX10_colour_142 3 rfl rfl (by decide) rfl ?_
        refine J_goto (pc := 145) (tgt := 25) C dX10_colour_145 (by decide) ?_
        refine J_sub [1, 2, 3, 0] rfl ?_
        exact k25 al0 xl1 xl2 (xl4 + 1) h0
      · refine J_iload (pc := 139) C dX10_colour_139 3 rfl ?_
        exact J_iret (pc := 141) C hr dX10_colour_141
    · refine J_aload_n (pc := 60) C dX10_colour_60 rfl 0 rfl ?_
      refine J_iload_n (pc := 61) C dX10_colour_61 rfl 1 rfl ?_
      refine J_aload_n (pc := 62) C dX10_colour_62 rfl 0 rfl ?_
      refine J_getR (pc := 63) C flX10_29 dX10_colour_63 (fun a11 => ?_)
      refine J_iconst (pc := 66) (v := 3) C dX10_colour_66 (by decide) ?_
      refine J_iload (pc := 67) C dX10_colour_67 5 rfl ?_
      refine J_imul (pc := 69) C dX10_colour_69 ?_
      refine J_iald (pc := 70) C dX10_colour_70 (fun x12 => ?_)
      refine J_callVJ (pc := 71) (As := [.int xl1, .int x12]) (rest := []) C (fun z hz => mX10_partOf al0 xl1 x12 h0 z hz) mwX10_partOf csX10_partOf mlX10_129 inX10_partOf rfl dX10_colour_71 (by decide) rfl (Nat.le_of_ble_eq_true rfl) (by decide) (fun x14 h13 => ?_)
      refine J_lstore (pc := 74) (lv1 := [(7, .long x14), (0, .ref al0), (1, .int xl1), (2, .long xl2), (4, .int xl4), (5, .int xl5), (6, .int xl6)]) C dX10_colour_74 (by decide) rfl ?_
      refine J_iload (pc := 76) C dX10_colour_76 5 rfl ?_
      refine J_if_eq (pc := 78) (tgt := 125) C dX10_colour_78 (by decide) ?_ ?_
      · refine J_sub [1, 2, 3, 4, 6] rfl ?_
        exact vfX10_colour_125 C hr k25 ih al0 xl1 xl2 xl4 xl6 h13
      · refine J_aload_n (pc := 81) C dX10_colour_81 rfl 1 rfl ?_
        refine J_getR (pc := 82) C flX10_29 dX10_colour_82 (fun a15 => ?_)
        refine J_iconst (pc := 85) (v := 3) C dX10_colour_85 (by decide) ?_
        refine J_iload (pc := 86) C dX10_colour_86 6 rfl ?_
        refine J_imul (pc := 88) C dX10_colour_88 ?_
        refine J_iconst (pc := 89) (v := 1) C dX10_colour_89 (by decide) ?_
        refine J_iadd (pc := 90) C dX10_colour_90 ?_
        refine J_iald (pc := 91) C dX10_colour_91 (fun x16 => ?_)
        refine J_i2l (pc := 92) C dX10_colour_92 ?_
        refine J_lload_n (pc := 93) C dX10_colour_93 rfl 3 rfl ?_
        refine J_lmul (pc := 94) C dX10_colour_94 ?_
        refine J_lload (pc := 95) C dX10_colour_95 0 rfl ?_
        refine J_lcmp_gt (pc := 97) (tgt := 125) C dX10_colour_97 dX10_colour_98 (by decide) ?_ ?_
        · refine J_sub [1, 2, 3, 4, 6] rfl ?_
          exact vfX10_colour_125 C hr k25 ih al0 xl1 xl2 xl4 xl6 h13
        · refine J_lload (pc := 101) C dX10_colour_101 0 rfl ?_
          refine J_aload_n (pc := 103) C dX10_colour_103 rfl 1 rfl ?_
          refine J_getR (pc := 104) C flX10_29 dX10_colour_104 (fun a17 => ?_)
          refine J_iconst (pc := 107) (v := 3) C dX10_colour_107 (by decide) ?_
          refine J_iload (pc := 108) C dX10_colour_108 6 rfl ?_
          refine J_imul (pc := 110) C dX10_colour_110 ?_
          refine J_iconst (pc := 111) (v := 2) C dX10_colour_111 (by decide) ?_
          refine J_iadd (pc := 112) C dX10_colour_112 ?_
          refine J_iald (pc := 113) C dX10_colour_113 (fun x18 => ?_)
          refine J_i2l (pc := 114) C dX10_colour_114 ?_
          refine J_lload_n (pc := 115) C dX10_colour_115 rfl 3 rfl ?_
          refine J_lmul (pc := 116) C dX10_colour_116 ?_
          refine J_lcmp_gt (pc := 117) (tgt := 125) C dX10_colour_117 dX10_colour_118 (by decide) ?_ ?_
          · refine J_sub [1, 2, 3, 4, 6] rfl ?_
            exact vfX10_colour_125 C hr k25 ih al0 xl1 xl2 xl4 xl6 h13
          · refine J_iconst (pc := 121) (v := 1) C dX10_colour_121 (by decide) ?_
            refine J_goto (pc := 122) (tgt := 126) C dX10_colour_122 (by decide) ?_
            refine J_sub [1, 2, 3, 4, 6] rfl ?_
            exact vfX10_colour_126 C hr k25 ih al0 xl1 xl2 xl4 xl6 (1 : Int32) h13
def fX10_colour_25  : Nat → Nat → Int32 → Int64 → Int32 → PH → Option (Int32 × PH)
  | 0, _, _, _, _, _ => none
  | n + 1, al0, xl1, xl2, xl4, h0 =>
    bn (rdI 10 10 al0 h0) fun x6 =>
    if x6 ≤ xl4 then (some ((-1 : Int32), h0)) else
    bn (rdR 10 11 al0 h0) fun a7 =>
    bn (aldI 0 a7 xl4 h0) fun x8 =>
    fX10_colour_46 (fX10_colour_25 n) FU al0 xl1 xl2 xl4 (1 : Int32) x8 h0
set_option maxHeartbeats 4000000 in
set_option maxRecDepth 100000 in
theorem vfX10_colour_25 {p : Program} {l : Launch} {e : Env} {s : State} {m : MethodId} {args : Array Value} {below : List Frame} {meth : Method} {c : Code} {G : GX} (C : Cx p s m args meth c G cX10_colour 9 RX10) (hr : meth.sig.returnType = (some .int)) : ∀ (n : Nat) (al0 : Nat) (xl1 : Int32) (xl2 : Int64) (xl4 : Int32) (h0 : PH), J p l e rmX10_colour s m args below meth c G 9 (qM below args s rvI G 0 0) 0 0 h0 25 [(0, .ref al0), (1, .int xl1), (2, .long xl2), (4, .int xl4)] [] (fX10_colour_25  n al0 xl1 xl2 xl4 h0) := by
  intro n
  induction n with
  | zero => exact fun al0 xl1 xl2 xl4 h0 => J_none C
  | succ n ih =>
    intro al0 xl1 xl2 xl4 h0
    unfold fX10_colour_25
    refine J_iload (pc := 25) C dX10_colour_25 3 rfl ?_
    refine J_aload_n (pc := 27) C dX10_colour_27 rfl 0 rfl ?_
    refine J_getI (pc := 28) C flX10_207 dX10_colour_28 (fun x6 => ?_)
    refine J_icmp_ge (pc := 31) (tgt := 148) C dX10_colour_31 (by decide) ?_ ?_
    · refine J_iconst (pc := 148) (v := -1) C dX10_colour_148 (by decide) ?_
      exact J_iret (pc := 149) C hr dX10_colour_149
    · refine J_iconst (pc := 34) (v := 1) C dX10_colour_34 (by decide) ?_
      refine J_istore (pc := 35) (lv1 := [(5, .int (1 : Int32)), (0, .ref al0), (1, .int xl1), (2, .long xl2), (4, .int xl4)]) C dX10_colour_35 (by decide) rfl ?_
      refine J_aload_n (pc := 37) C dX10_colour_37 rfl 1 rfl ?_
      refine J_getR (pc := 38) C flX10_26 dX10_colour_38 (fun a7 => ?_)
      refine J_iload (pc := 41) C dX10_colour_41 4 rfl ?_
      refine J_iald (pc := 43) C dX10_colour_43 (fun x8 => ?_)
      refine J_istore (pc := 44) (lv1 := [(6, .int x8), (5, .int (1 : Int32)), (0, .ref al0), (1, .int xl1), (2, .long xl2), (4, .int xl4)]) C dX10_colour_44 (by decide) rfl ?_
      refine J_sub [2, 3, 4, 5, 1, 0] rfl ?_
      exact vfX10_colour_46 C hr ih FU al0 xl1 xl2 xl4 (1 : Int32) x8 h0
def fX10_colour  (a0 : Nat) (xp0 : Int32) (h0 : PH) : Option (Int32 × PH) :=
    bn (wr 10 0 (.int (0 : Int32)) a0 h0) fun h1 =>
    bn (chk 10 a0 h1) fun _ => bn2 (fX10_isPiece a0 xp0 h1) fun x3 h2 =>
    if x3 = 0 then (some ((-1 : Int32), h2)) else
    bn (chk 10 a0 h2) fun _ => bn2 (fX10_weightOf a0 xp0 h2) fun x5 h4 =>
    fX10_colour_25  FU a0 xp0 x5.toInt64 (0 : Int32) h4
set_option maxHeartbeats 4000000 in
set_option maxRecDepth 100000 in
theorem vfX10_colour {p : Program} {l : Launch} {e : Env} {s : State} {m : MethodId} {args : Array Value} {below : List Frame} {meth : Method} {c : Code} {G : GX} (C : Cx p s m args meth c G cX10_colour 9 RX10) (hr : meth.sig.returnType = (some .int)) (a0 : Nat) (xp0 : Int32) (h0 : PH) : J p l e rmX10_colour s m args below meth c G 9 (qM below args s rvI G 0 0) 0 0 h0 0 [(0, .ref a0), (1, .int xp0)] [] (fX10_colour  a0 xp0 h0) := by
  unfold fX10_colour
  refine J_aload_n (pc := 0) C dX10_colour_0 rfl 0 rfl ?_
  refine J_iconst (pc := 1) (v := 0) C dX10_colour_1 (by decide) ?_
  refine J_put (pc := 2) C flX10_90 cl10 ft10_0 rfl rfl dX10_colour_2 (fun h1 => ?_)
  refine J_aload_n (pc := 5) C dX10_colour_5 rfl 0 rfl ?_
  refine J_iload_n (pc := 6) C dX10_colour_6 rfl 1 rfl ?_
  refine J_callVI (pc := 7) (As := [.int xp0]) (rest := []) C (fun z hz => mX10_isPiece a0 xp0 h1 z hz) mwX10_isPiece csX10_isPiece mlX10_117 inX10_isPiece rfl dX10_colour_7 (by decide) rfl (Nat.le_of_ble_eq_true rfl) (by decide) (fun x3 h2 => ?_)
  refine J_if_ne (pc := 10) (tgt := 15) C dX10_colour_10 (by decide) ?_ ?_
  · refine J_aload_n (pc := 15) C dX10_colour_15 rfl 0 rfl ?_
    refine J_iload_n (pc := 16) C dX10_colour_16 rfl 1 rfl ?_
    refine J_callVI (pc := 17) (As := [.int xp0]) (rest := []) C (fun z hz => mX10_weightOf a0 xp0 h2 z hz) mwX10_weightOf csX10_weightOf mlX10_121 inX10_weightOf rfl dX10_colour_17 (by decide) rfl (Nat.le_of_ble_eq_true rfl) (by decide) (fun x5 h4 => ?_)
    refine J_i2l (pc := 20) C dX10_colour_20 ?_
    refine J_lstore_n (pc := 21) (lv1 := [(2, .long x5.toInt64), (0, .ref a0), (1, .int xp0)]) C dX10_colour_21 rfl (by decide) rfl ?_
    refine J_iconst (pc := 22) (v := 0) C dX10_colour_22 (by decide) ?_
    refine J_istore (pc := 23) (lv1 := [(4, .int (0 : Int32)), (2, .long x5.toInt64), (0, .ref a0), (1, .int xp0)]) C dX10_colour_23 (by decide) rfl ?_
    refine J_sub [2, 3, 1, 0] rfl ?_
    exact vfX10_colour_25 C hr  FU a0 xp0 x5.toInt64 (0 : Int32) h4
  · refine J_iconst (pc := 13) (v := -1) C dX10_colour_13 (by decide) ?_
    exact J_iret (pc := 14) C hr dX10_colour_14
theorem mX10_colour {l : Launch} {G : GX} (a0 : Nat) (xp0 : Int32) (h0 : PH) : ∀ z, fX10_colour a0 xp0 h0 = some z → MC l G yX10_colour cX10_colour 9 (some .int) rmX10_colour [.ref a0, .int xp0] h0 (rvI z.1) z.2 :=
  Met_J (own := RX10) (by decide) rfl (Nat.le_of_ble_eq_true rfl) (fun p e s m args below meth c C hr hn => vfX10_colour C hr a0 xp0 h0)

theorem dX6_addSkin_0 : decode cX6_addSkin 0 = .ok (.iload_n 1, 1) := by decide +kernel
theorem dX6_addSkin_1 : decode cX6_addSkin 1 = .ok (.iconst 0, 1) := by decide +kernel
theorem dX6_addSkin_2 : decode cX6_addSkin 2 = .ok (.bipush 100, 2) := by decide +kernel
theorem dX6_addSkin_4 : decode cX6_addSkin 4 = .ok (.invokestatic 33, 3) := by decide +kernel
theorem dX6_addSkin_7 : decode cX6_addSkin 7 = .ok (.ifCond .ne 5, 3) := by decide +kernel
theorem dX6_addSkin_10 : decode cX6_addSkin 10 = .ok (.iconst (-1), 1) := by decide +kernel
theorem dX6_addSkin_11 : decode cX6_addSkin 11 = .ok (.ireturn, 1) := by decide +kernel
theorem dX6_addSkin_12 : decode cX6_addSkin 12 = .ok (.aload_n 0, 1) := by decide +kernel
theorem dX6_addSkin_13 : decode cX6_addSkin 13 = .ok (.getfield 29, 3) := by decide +kernel
theorem dX6_addSkin_16 : decode cX6_addSkin 16 = .ok (.bipush 60, 2) := by decide +kernel
theorem dX6_addSkin_18 : decode cX6_addSkin 18 = .ok (.if_icmp .lt 6, 3) := by decide +kernel
theorem dX6_addSkin_21 : decode cX6_addSkin 21 = .ok (.bipush (-5), 2) := by decide +kernel
theorem dX6_addSkin_23 : decode cX6_addSkin 23 = .ok (.ireturn, 1) := by decide +kernel
theorem dX6_addSkin_24 : decode cX6_addSkin 24 = .ok (.aload_n 0, 1) := by decide +kernel
theorem dX6_addSkin_25 : decode cX6_addSkin 25 = .ok (.getfield 22, 3) := by decide +kernel
theorem dX6_addSkin_28 : decode cX6_addSkin 28 = .ok (.aload_n 0, 1) := by decide +kernel
theorem dX6_addSkin_29 : decode cX6_addSkin 29 = .ok (.getfield 29, 3) := by decide +kernel
theorem dX6_addSkin_32 : decode cX6_addSkin 32 = .ok (.iload_n 1, 1) := by decide +kernel
theorem dX6_addSkin_33 : decode cX6_addSkin 33 = .ok (.iastore, 1) := by decide +kernel
theorem dX6_addSkin_34 : decode cX6_addSkin 34 = .ok (.aload_n 0, 1) := by decide +kernel
theorem dX6_addSkin_35 : decode cX6_addSkin 35 = .ok (.dup, 1) := by decide +kernel
theorem dX6_addSkin_36 : decode cX6_addSkin 36 = .ok (.getfield 29, 3) := by decide +kernel
theorem dX6_addSkin_39 : decode cX6_addSkin 39 = .ok (.iconst 1, 1) := by decide +kernel
theorem dX6_addSkin_40 : decode cX6_addSkin 40 = .ok (.iadd, 1) := by decide +kernel
theorem dX6_addSkin_41 : decode cX6_addSkin 41 = .ok (.putfield 29, 3) := by decide +kernel
theorem dX6_addSkin_44 : decode cX6_addSkin 44 = .ok (.aload_n 0, 1) := by decide +kernel
theorem dX6_addSkin_45 : decode cX6_addSkin 45 = .ok (.getfield 29, 3) := by decide +kernel
theorem dX6_addSkin_48 : decode cX6_addSkin 48 = .ok (.iconst 1, 1) := by decide +kernel
theorem dX6_addSkin_49 : decode cX6_addSkin 49 = .ok (.isub, 1) := by decide +kernel
theorem dX6_addSkin_50 : decode cX6_addSkin 50 = .ok (.ireturn, 1) := by decide +kernel
def rmX6_addSkin : Room := { frames := 1, cells := 0, slots := 0, locals := 22 }
def fX6_addSkin  (a0 : Nat) (xp0 : Int32) (h0 : PH) : Option (Int32 × PH) :=
    bn2 (fX9_within xp0 (0 : Int32) (100 : Int32) h0) fun x2 h1 =>
    if x2 = 0 then (some ((-1 : Int32), h1)) else
    bn (rdI 6 4 a0 h1) fun x3 =>
    if x3 < (60 : Int32) then (bn (rdR 6 2 a0 h1) fun a4 =>
    bn (rdI 6 4 a0 h1) fun x5 =>
    bn (astI a4 x5 xp0 h1) fun h6 =>
    bn (rdI 6 4 a0 h6) fun x7 =>
    bn (wr 6 4 (.int (x7 + (1 : Int32))) a0 h6) fun h8 =>
    bn (rdI 6 4 a0 h8) fun x9 =>
    some ((x9 - (1 : Int32)), h8)) else
    some ((-5 : Int32), h1)
set_option maxHeartbeats 4000000 in
set_option maxRecDepth 100000 in
theorem vfX6_addSkin {p : Program} {l : Launch} {e : Env} {s : State} {m : MethodId} {args : Array Value} {below : List Frame} {meth : Method} {c : Code} {G : GX} (C : Cx p s m args meth c G cX6_addSkin 2 RX6) (hr : meth.sig.returnType = (some .int)) (a0 : Nat) (xp0 : Int32) (h0 : PH) : J p l e rmX6_addSkin s m args below meth c G 2 (qM below args s rvI G 0 0) 0 0 h0 0 [(0, .ref a0), (1, .int xp0)] [] (fX6_addSkin  a0 xp0 h0) := by
  unfold fX6_addSkin
  refine J_iload_n (pc := 0) C dX6_addSkin_0 rfl 1 rfl ?_
  refine J_iconst (pc := 1) (v := 0) C dX6_addSkin_1 (by decide) ?_
  refine J_bipush (pc := 2) (v := 100) C dX6_addSkin_2 (by decide) ?_
  refine J_callSNI (pc := 4) (As := [.int xp0, .int (0 : Int32), .int (100 : Int32)]) (rest := []) C (fun z hz => mX9_within xp0 (0 : Int32) (100 : Int32) h0 z hz) mwX9_within "GoldLeaves" (by decide +kernel) stX9_within rfl dX6_addSkin_4 (by decide) rfl (Nat.le_of_ble_eq_true rfl) (by decide) (fun x2 h1 => ?_)
  refine J_if_ne (pc := 7) (tgt := 12) C dX6_addSkin_7 (by decide) ?_ ?_
  · refine J_aload_n (pc := 12) C dX6_addSkin_12 rfl 0 rfl ?_
    refine J_getI (pc := 13) C flX6_29 dX6_addSkin_13 (fun x3 => ?_)
    refine J_bipush (pc := 16) (v := 60) C dX6_addSkin_16 (by decide) ?_
    refine J_icmp_lt (pc := 18) (tgt := 24) C dX6_addSkin_18 (by decide) ?_ ?_
    · refine J_aload_n (pc := 24) C dX6_addSkin_24 rfl 0 rfl ?_
      refine J_getR (pc := 25) C flX6_22 dX6_addSkin_25 (fun a4 => ?_)
      refine J_aload_n (pc := 28) C dX6_addSkin_28 rfl 0 rfl ?_
      refine J_getI (pc := 29) C flX6_29 dX6_addSkin_29 (fun x5 => ?_)
      refine J_iload_n (pc := 32) C dX6_addSkin_32 rfl 1 rfl ?_
      refine J_iast (pc := 33) C dX6_addSkin_33 (fun h6 => ?_)
      refine J_aload_n (pc := 34) C dX6_addSkin_34 rfl 0 rfl ?_
      refine J_dup (pc := 35) C dX6_addSkin_35 rfl ?_
      refine J_getI (pc := 36) C flX6_29 dX6_addSkin_36 (fun x7 => ?_)
      refine J_iconst (pc := 39) (v := 1) C dX6_addSkin_39 (by decide) ?_
      refine J_iadd (pc := 40) C dX6_addSkin_40 ?_
      refine J_put (pc := 41) C flX6_29 cl6 ft6_4 rfl rfl dX6_addSkin_41 (fun h8 => ?_)
      refine J_aload_n (pc := 44) C dX6_addSkin_44 rfl 0 rfl ?_
      refine J_getI (pc := 45) C flX6_29 dX6_addSkin_45 (fun x9 => ?_)
      refine J_iconst (pc := 48) (v := 1) C dX6_addSkin_48 (by decide) ?_
      refine J_isub (pc := 49) C dX6_addSkin_49 ?_
      exact J_iret (pc := 50) C hr dX6_addSkin_50
    · refine J_bipush (pc := 21) (v := -5) C dX6_addSkin_21 (by decide) ?_
      exact J_iret (pc := 23) C hr dX6_addSkin_23
  · refine J_iconst (pc := 10) (v := -1) C dX6_addSkin_10 (by decide) ?_
    exact J_iret (pc := 11) C hr dX6_addSkin_11
theorem mX6_addSkin {l : Launch} {G : GX} (a0 : Nat) (xp0 : Int32) (h0 : PH) : ∀ z, fX6_addSkin a0 xp0 h0 = some z → MC l G yX6_addSkin cX6_addSkin 2 (some .int) rmX6_addSkin [.ref a0, .int xp0] h0 (rvI z.1) z.2 :=
  Met_J (own := RX6) (by decide) rfl (Nat.le_of_ble_eq_true rfl) (fun p e s m args below meth c C hr hn => vfX6_addSkin C hr a0 xp0 h0)

theorem dX9_skin_0 : decode cX9_skin 0 = .ok (.aload_n 0, 1) := by decide +kernel
theorem dX9_skin_1 : decode cX9_skin 1 = .ok (.aload_n 0, 1) := by decide +kernel
theorem dX9_skin_2 : decode cX9_skin 2 = .ok (.getfield 38, 3) := by decide +kernel
theorem dX9_skin_5 : decode cX9_skin 5 = .ok (.iload_n 1, 1) := by decide +kernel
theorem dX9_skin_6 : decode cX9_skin 6 = .ok (.invokevirtual 130, 3) := by decide +kernel
theorem dX9_skin_9 : decode cX9_skin 9 = .ok (.invokevirtual 70, 3) := by decide +kernel
theorem dX9_skin_12 : decode cX9_skin 12 = .ok (.ireturn, 1) := by decide +kernel
def rmX9_skin : Room := { frames := 2, cells := 0, slots := 0, locals := 43 }
def fX9_skin  (a0 : Nat) (xp0 : Int32) (h0 : PH) : Option (Int32 × PH) :=
    bn (rdR 9 4 a0 h0) fun a1 =>
    bn (chk 6 a1 h0) fun _ => bn2 (fX6_addSkin a1 xp0 h0) fun x3 h2 =>
    bn (chk 9 a0 h2) fun _ => bn2 (fX9_noted a0 x3 h2) fun x5 h4 =>
    some (x5, h4)
set_option maxHeartbeats 4000000 in
set_option maxRecDepth 100000 in
theorem vfX9_skin {p : Program} {l : Launch} {e : Env} {s : State} {m : MethodId} {args : Array Value} {below : List Frame} {meth : Method} {c : Code} {G : GX} (C : Cx p s m args meth c G cX9_skin 2 RX9) (hr : meth.sig.returnType = (some .int)) (a0 : Nat) (xp0 : Int32) (h0 : PH) : J p l e rmX9_skin s m args below meth c G 2 (qM below args s rvI G 0 0) 0 0 h0 0 [(0, .ref a0), (1, .int xp0)] [] (fX9_skin  a0 xp0 h0) := by
  unfold fX9_skin
  refine J_aload_n (pc := 0) C dX9_skin_0 rfl 0 rfl ?_
  refine J_aload_n (pc := 1) C dX9_skin_1 rfl 0 rfl ?_
  refine J_getR (pc := 2) C flX9_38 dX9_skin_2 (fun a1 => ?_)
  refine J_iload_n (pc := 5) C dX9_skin_5 rfl 1 rfl ?_
  refine J_callVI (pc := 6) (As := [.int xp0]) (rest := [.ref a0]) C (fun z hz => mX6_addSkin a1 xp0 h0 z hz) mwX6_addSkin csX6_addSkin mlX9_130 inX6_addSkin rfl dX9_skin_6 (by decide) rfl (Nat.le_of_ble_eq_true rfl) (by decide) (fun x3 h2 => ?_)
  refine J_callVI (pc := 9) (As := [.int x3]) (rest := []) C (fun z hz => mX9_noted a0 x3 h2 z hz) mwX9_noted csX9_noted mlX9_70 inX9_noted rfl dX9_skin_9 (by decide) rfl (Nat.le_of_ble_eq_true rfl) (by decide) (fun x5 h4 => ?_)
  exact J_iret (pc := 12) C hr dX9_skin_12
theorem mX9_skin {l : Launch} {G : GX} (a0 : Nat) (xp0 : Int32) (h0 : PH) : ∀ z, fX9_skin a0 xp0 h0 = some z → MC l G yX9_skin cX9_skin 2 (some .int) rmX9_skin [.ref a0, .int xp0] h0 (rvI z.1) z.2 :=
  Met_J (own := RX9) (by decide) rfl (Nat.le_of_ble_eq_true rfl) (fun p e s m args below meth c C hr hn => vfX9_skin C hr a0 xp0 h0)

theorem dX10_skin_0 : decode cX10_skin 0 = .ok (.aload_n 0, 1) := by decide +kernel
theorem dX10_skin_1 : decode cX10_skin 1 = .ok (.iconst 0, 1) := by decide +kernel
theorem dX10_skin_2 : decode cX10_skin 2 = .ok (.putfield 90, 3) := by decide +kernel
theorem dX10_skin_5 : decode cX10_skin 5 = .ok (.iload_n 1, 1) := by decide +kernel
theorem dX10_skin_6 : decode cX10_skin 6 = .ok (.i2l, 1) := by decide +kernel
theorem dX10_skin_7 : decode cX10_skin 7 = .ok (.lconst 0, 1) := by decide +kernel
theorem dX10_skin_8 : decode cX10_skin 8 = .ok (.ldc2_w 213, 3) := by decide +kernel
theorem dX10_skin_11 : decode cX10_skin 11 = .ok (.invokestatic 99, 3) := by decide +kernel
theorem dX10_skin_14 : decode cX10_skin 14 = .ok (.ifCond .ne 9, 3) := by decide +kernel
theorem dX10_skin_17 : decode cX10_skin 17 = .ok (.aload_n 0, 1) := by decide +kernel
theorem dX10_skin_18 : decode cX10_skin 18 = .ok (.iconst (-1), 1) := by decide +kernel
theorem dX10_skin_19 : decode cX10_skin 19 = .ok (.invokevirtual 107, 3) := by decide +kernel
theorem dX10_skin_22 : decode cX10_skin 22 = .ok (.ireturn, 1) := by decide +kernel
theorem dX10_skin_23 : decode cX10_skin 23 = .ok (.aload_n 0, 1) := by decide +kernel
theorem dX10_skin_24 : decode cX10_skin 24 = .ok (.getfield 210, 3) := by decide +kernel
theorem dX10_skin_27 : decode cX10_skin 27 = .ok (.bipush 60, 2) := by decide +kernel
theorem dX10_skin_29 : decode cX10_skin 29 = .ok (.if_icmp .ne 10, 3) := by decide +kernel
theorem dX10_skin_32 : decode cX10_skin 32 = .ok (.aload_n 0, 1) := by decide +kernel
theorem dX10_skin_33 : decode cX10_skin 33 = .ok (.bipush (-5), 2) := by decide +kernel
theorem dX10_skin_35 : decode cX10_skin 35 = .ok (.invokevirtual 107, 3) := by decide +kernel
theorem dX10_skin_38 : decode cX10_skin 38 = .ok (.ireturn, 1) := by decide +kernel
theorem dX10_skin_39 : decode cX10_skin 39 = .ok (.aload_n 0, 1) := by decide +kernel
theorem dX10_skin_40 : decode cX10_skin 40 = .ok (.getfield 51, 3) := by decide +kernel
theorem dX10_skin_43 : decode cX10_skin 43 = .ok (.aload_n 0, 1) := by decide +kernel
theorem dX10_skin_44 : decode cX10_skin 44 = .ok (.getfield 210, 3) := by decide +kernel
theorem dX10_skin_47 : decode cX10_skin 47 = .ok (.iload_n 1, 1) := by decide +kernel
theorem dX10_skin_48 : decode cX10_skin 48 = .ok (.iastore, 1) := by decide +kernel
theorem dX10_skin_49 : decode cX10_skin 49 = .ok (.aload_n 0, 1) := by decide +kernel
theorem dX10_skin_50 : decode cX10_skin 50 = .ok (.dup, 1) := by decide +kernel
theorem dX10_skin_51 : decode cX10_skin 51 = .ok (.getfield 210, 3) := by decide +kernel
theorem dX10_skin_54 : decode cX10_skin 54 = .ok (.iconst 1, 1) := by decide +kernel
theorem dX10_skin_55 : decode cX10_skin 55 = .ok (.iadd, 1) := by decide +kernel
theorem dX10_skin_56 : decode cX10_skin 56 = .ok (.putfield 210, 3) := by decide +kernel
theorem dX10_skin_59 : decode cX10_skin 59 = .ok (.aload_n 0, 1) := by decide +kernel
theorem dX10_skin_60 : decode cX10_skin 60 = .ok (.aload_n 0, 1) := by decide +kernel
theorem dX10_skin_61 : decode cX10_skin 61 = .ok (.getfield 210, 3) := by decide +kernel
theorem dX10_skin_64 : decode cX10_skin 64 = .ok (.iconst 1, 1) := by decide +kernel
theorem dX10_skin_65 : decode cX10_skin 65 = .ok (.isub, 1) := by decide +kernel
theorem dX10_skin_66 : decode cX10_skin 66 = .ok (.invokevirtual 107, 3) := by decide +kernel
theorem dX10_skin_69 : decode cX10_skin 69 = .ok (.ireturn, 1) := by decide +kernel
def rmX10_skin : Room := { frames := 1, cells := 0, slots := 0, locals := 25 }
def fX10_skin  (a0 : Nat) (xp0 : Int32) (h0 : PH) : Option (Int32 × PH) :=
    bn (wr 10 0 (.int (0 : Int32)) a0 h0) fun h1 =>
    bn2 (fX10_in xp0.toInt64 (0 : Int64) (100 : Int64) h1) fun x3 h2 =>
    if x3 = 0 then (bn (chk 10 a0 h2) fun _ => bn2 (fX10_told a0 (-1 : Int32) h2) fun x16 h15 =>
    some (x16, h15)) else
    bn (rdI 10 27 a0 h2) fun x4 =>
    if x4 = (60 : Int32) then (bn (chk 10 a0 h2) fun _ => bn2 (fX10_told a0 (-5 : Int32) h2) fun x14 h13 =>
    some (x14, h13)) else
    bn (rdR 10 28 a0 h2) fun a5 =>
    bn (rdI 10 27 a0 h2) fun x6 =>
    bn (astI a5 x6 xp0 h2) fun h7 =>
    bn (rdI 10 27 a0 h7) fun x8 =>
    bn (wr 10 27 (.int (x8 + (1 : Int32))) a0 h7) fun h9 =>
    bn (rdI 10 27 a0 h9) fun x10 =>
    bn (chk 10 a0 h9) fun _ => bn2 (fX10_told a0 (x10 - (1 : Int32)) h9) fun x12 h11 =>
    some (x12, h11)
set_option maxHeartbeats 4000000 in
set_option maxRecDepth 100000 in
theorem vfX10_skin {p : Program} {l : Launch} {e : Env} {s : State} {m : MethodId} {args : Array Value} {below : List Frame} {meth : Method} {c : Code} {G : GX} (C : Cx p s m args meth c G cX10_skin 2 RX10) (hr : meth.sig.returnType = (some .int)) (a0 : Nat) (xp0 : Int32) (h0 : PH) : J p l e rmX10_skin s m args below meth c G 2 (qM below args s rvI G 0 0) 0 0 h0 0 [(0, .ref a0), (1, .int xp0)] [] (fX10_skin  a0 xp0 h0) := by
  unfold fX10_skin
  refine J_aload_n (pc := 0) C dX10_skin_0 rfl 0 rfl ?_
  refine J_iconst (pc := 1) (v := 0) C dX10_skin_1 (by decide) ?_
  refine J_put (pc := 2) C flX10_90 cl10 ft10_0 rfl rfl dX10_skin_2 (fun h1 => ?_)
  refine J_iload_n (pc := 5) C dX10_skin_5 rfl 1 rfl ?_
  refine J_i2l (pc := 6) C dX10_skin_6 ?_
  refine J_lconst (pc := 7) (v := 0) C dX10_skin_7 (by decide) ?_
  refine J_ldc2 (pc := 8) C kjX10_213 dX10_skin_8 ?_
  refine J_callSI (pc := 11) (As := [.long xp0.toInt64, .long (0 : Int64), .long (100 : Int64)]) (rest := []) C (fun z hz => mX10_in xp0.toInt64 (0 : Int64) (100 : Int64) h1 z hz) mwX10_in mlX10_99 stX10_in rfl dX10_skin_11 (by decide) rfl (Nat.le_of_ble_eq_true rfl) (by decide) (fun x3 h2 => ?_)
  refine J_if_ne (pc := 14) (tgt := 23) C dX10_skin_14 (by decide) ?_ ?_
  · refine J_aload_n (pc := 23) C dX10_skin_23 rfl 0 rfl ?_
    refine J_getI (pc := 24) C flX10_210 dX10_skin_24 (fun x4 => ?_)
    refine J_bipush (pc := 27) (v := 60) C dX10_skin_27 (by decide) ?_
    refine J_icmp_ne (pc := 29) (tgt := 39) C dX10_skin_29 (by decide) ?_ ?_
    · refine J_aload_n (pc := 39) C dX10_skin_39 rfl 0 rfl ?_
      refine J_getR (pc := 40) C flX10_51 dX10_skin_40 (fun a5 => ?_)
      refine J_aload_n (pc := 43) C dX10_skin_43 rfl 0 rfl ?_
      refine J_getI (pc := 44) C flX10_210 dX10_skin_44 (fun x6 => ?_)
      refine J_iload_n (pc := 47) C dX10_skin_47 rfl 1 rfl ?_
      refine J_iast (pc := 48) C dX10_skin_48 (fun h7 => ?_)
      refine J_aload_n (pc := 49) C dX10_skin_49 rfl 0 rfl ?_
      refine J_dup (pc := 50) C dX10_skin_50 rfl ?_
      refine J_getI (pc := 51) C flX10_210 dX10_skin_51 (fun x8 => ?_)
      refine J_iconst (pc := 54) (v := 1) C dX10_skin_54 (by decide) ?_
      refine J_iadd (pc := 55) C dX10_skin_55 ?_
      refine J_put (pc := 56) C flX10_210 cl10 ft10_27 rfl rfl dX10_skin_56 (fun h9 => ?_)
      refine J_aload_n (pc := 59) C dX10_skin_59 rfl 0 rfl ?_
      refine J_aload_n (pc := 60) C dX10_skin_60 rfl 0 rfl ?_
      refine J_getI (pc := 61) C flX10_210 dX10_skin_61 (fun x10 => ?_)
      refine J_iconst (pc := 64) (v := 1) C dX10_skin_64 (by decide) ?_
      refine J_isub (pc := 65) C dX10_skin_65 ?_
      refine J_callVI (pc := 66) (As := [.int (x10 - (1 : Int32))]) (rest := []) C (fun z hz => mX10_told a0 (x10 - (1 : Int32)) h9 z hz) mwX10_told csX10_told mlX10_107 inX10_told rfl dX10_skin_66 (by decide) rfl (Nat.le_of_ble_eq_true rfl) (by decide) (fun x12 h11 => ?_)
      exact J_iret (pc := 69) C hr dX10_skin_69
    · refine J_aload_n (pc := 32) C dX10_skin_32 rfl 0 rfl ?_
      refine J_bipush (pc := 33) (v := -5) C dX10_skin_33 (by decide) ?_
      refine J_callVI (pc := 35) (As := [.int (-5 : Int32)]) (rest := []) C (fun z hz => mX10_told a0 (-5 : Int32) h2 z hz) mwX10_told csX10_told mlX10_107 inX10_told rfl dX10_skin_35 (by decide) rfl (Nat.le_of_ble_eq_true rfl) (by decide) (fun x14 h13 => ?_)
      exact J_iret (pc := 38) C hr dX10_skin_38
  · refine J_aload_n (pc := 17) C dX10_skin_17 rfl 0 rfl ?_
    refine J_iconst (pc := 18) (v := -1) C dX10_skin_18 (by decide) ?_
    refine J_callVI (pc := 19) (As := [.int (-1 : Int32)]) (rest := []) C (fun z hz => mX10_told a0 (-1 : Int32) h2 z hz) mwX10_told csX10_told mlX10_107 inX10_told rfl dX10_skin_19 (by decide) rfl (Nat.le_of_ble_eq_true rfl) (by decide) (fun x16 h15 => ?_)
    exact J_iret (pc := 22) C hr dX10_skin_22
theorem mX10_skin {l : Launch} {G : GX} (a0 : Nat) (xp0 : Int32) (h0 : PH) : ∀ z, fX10_skin a0 xp0 h0 = some z → MC l G yX10_skin cX10_skin 2 (some .int) rmX10_skin [.ref a0, .int xp0] h0 (rvI z.1) z.2 :=
  Met_J (own := RX10) (by decide) rfl (Nat.le_of_ble_eq_true rfl) (fun p e s m args below meth c C hr hn => vfX10_skin C hr a0 xp0 h0)

theorem dX6_has_0 : decode cX6_has 0 = .ok (.iload_n 1, 1) := by decide +kernel
theorem dX6_has_1 : decode cX6_has 1 = .ok (.ifCond .lt 15, 3) := by decide +kernel
theorem dX6_has_4 : decode cX6_has 4 = .ok (.iload_n 1, 1) := by decide +kernel
theorem dX6_has_5 : decode cX6_has 5 = .ok (.aload_n 0, 1) := by decide +kernel
theorem dX6_has_6 : decode cX6_has 6 = .ok (.getfield 29, 3) := by decide +kernel
theorem dX6_has_9 : decode cX6_has 9 = .ok (.if_icmp .ge 7, 3) := by decide +kernel
theorem dX6_has_12 : decode cX6_has 12 = .ok (.iconst 1, 1) := by decide +kernel
theorem dX6_has_13 : decode cX6_has 13 = .ok (.goto 4, 3) := by decide +kernel
theorem dX6_has_16 : decode cX6_has 16 = .ok (.iconst 0, 1) := by decide +kernel
theorem dX6_has_17 : decode cX6_has 17 = .ok (.ireturn, 1) := by decide +kernel
def rmX6_has : Room := { frames := 0, cells := 0, slots := 0, locals := 0 }
def fX6_has  (a0 : Nat) (xp0 : Int32) (h0 : PH) : Option (Int32 × PH) :=
    if xp0 < 0 then (some ((0 : Int32), h0)) else
    bn (rdI 6 4 a0 h0) fun x1 =>
    if x1 ≤ xp0 then (some ((0 : Int32), h0)) else
    some ((1 : Int32), h0)
set_option maxHeartbeats 4000000 in
set_option maxRecDepth 100000 in
theorem vfX6_has {p : Program} {l : Launch} {e : Env} {s : State} {m : MethodId} {args : Array Value} {below : List Frame} {meth : Method} {c : Code} {G : GX} (C : Cx p s m args meth c G cX6_has 2 RX6) (hr : meth.sig.returnType = (some .boolean)) (a0 : Nat) (xp0 : Int32) (h0 : PH) : J p l e rmX6_has s m args below meth c G 2 (qM below args s rvI G 0 0) 0 0 h0 0 [(0, .ref a0), (1, .int xp0)] [] (fX6_has  a0 xp0 h0) := by
  unfold fX6_has
  refine J_iload_n (pc := 0) C dX6_has_0 rfl 1 rfl ?_
  refine J_if_lt (pc := 1) (tgt := 16) C dX6_has_1 (by decide) ?_ ?_
  · refine J_iconst (pc := 16) (v := 0) C dX6_has_16 (by decide) ?_
    exact J_zret (pc := 17) C hr rfl dX6_has_17
  · refine J_iload_n (pc := 4) C dX6_has_4 rfl 1 rfl ?_
    refine J_aload_n (pc := 5) C dX6_has_5 rfl 0 rfl ?_
    refine J_getI (pc := 6) C flX6_29 dX6_has_6 (fun x1 => ?_)
    refine J_icmp_ge (pc := 9) (tgt := 16) C dX6_has_9 (by decide) ?_ ?_
    · refine J_iconst (pc := 16) (v := 0) C dX6_has_16 (by decide) ?_
      exact J_zret (pc := 17) C hr rfl dX6_has_17
    · refine J_iconst (pc := 12) (v := 1) C dX6_has_12 (by decide) ?_
      refine J_goto (pc := 13) (tgt := 17) C dX6_has_13 (by decide) ?_
      exact J_zret (pc := 17) C hr rfl dX6_has_17
theorem mX6_has {l : Launch} {G : GX} (a0 : Nat) (xp0 : Int32) (h0 : PH) : ∀ z, fX6_has a0 xp0 h0 = some z → MC l G yX6_has cX6_has 2 (some .boolean) rmX6_has [.ref a0, .int xp0] h0 (rvI z.1) z.2 :=
  Met_J (own := RX6) (by decide) rfl (Nat.le_of_ble_eq_true rfl) (fun p e s m args below meth c C hr hn => vfX6_has C hr a0 xp0 h0)

theorem dX6_changeDryness_0 : decode cX6_changeDryness 0 = .ok (.iload_n 2, 1) := by decide +kernel
theorem dX6_changeDryness_1 : decode cX6_changeDryness 1 = .ok (.iconst 0, 1) := by decide +kernel
theorem dX6_changeDryness_2 : decode cX6_changeDryness 2 = .ok (.bipush 100, 2) := by decide +kernel
theorem dX6_changeDryness_4 : decode cX6_changeDryness 4 = .ok (.invokestatic 33, 3) := by decide +kernel
theorem dX6_changeDryness_7 : decode cX6_changeDryness 7 = .ok (.ifCond .ne 5, 3) := by decide +kernel
theorem dX6_changeDryness_10 : decode cX6_changeDryness 10 = .ok (.iconst (-1), 1) := by decide +kernel
theorem dX6_changeDryness_11 : decode cX6_changeDryness 11 = .ok (.ireturn, 1) := by decide +kernel
theorem dX6_changeDryness_12 : decode cX6_changeDryness 12 = .ok (.aload_n 0, 1) := by decide +kernel
theorem dX6_changeDryness_13 : decode cX6_changeDryness 13 = .ok (.iload_n 1, 1) := by decide +kernel
theorem dX6_changeDryness_14 : decode cX6_changeDryness 14 = .ok (.invokevirtual 37, 3) := by decide +kernel
theorem dX6_changeDryness_17 : decode cX6_changeDryness 17 = .ok (.ifCond .ne 6, 3) := by decide +kernel
theorem dX6_changeDryness_20 : decode cX6_changeDryness 20 = .ok (.bipush (-2), 2) := by decide +kernel
theorem dX6_changeDryness_22 : decode cX6_changeDryness 22 = .ok (.ireturn, 1) := by decide +kernel
theorem dX6_changeDryness_23 : decode cX6_changeDryness 23 = .ok (.aload_n 0, 1) := by decide +kernel
theorem dX6_changeDryness_24 : decode cX6_changeDryness 24 = .ok (.getfield 22, 3) := by decide +kernel
theorem dX6_changeDryness_27 : decode cX6_changeDryness 27 = .ok (.iload_n 1, 1) := by decide +kernel
theorem dX6_changeDryness_28 : decode cX6_changeDryness 28 = .ok (.iaload, 1) := by decide +kernel
theorem dX6_changeDryness_29 : decode cX6_changeDryness 29 = .ok (.istore_n 3, 1) := by decide +kernel
theorem dX6_changeDryness_30 : decode cX6_changeDryness 30 = .ok (.aload_n 0, 1) := by decide +kernel
theorem dX6_changeDryness_31 : decode cX6_changeDryness 31 = .ok (.getfield 22, 3) := by decide +kernel
theorem dX6_changeDryness_34 : decode cX6_changeDryness 34 = .ok (.iload_n 1, 1) := by decide +kernel
theorem dX6_changeDryness_35 : decode cX6_changeDryness 35 = .ok (.iload_n 2, 1) := by decide +kernel
theorem dX6_changeDryness_36 : decode cX6_changeDryness 36 = .ok (.iastore, 1) := by decide +kernel
theorem dX6_changeDryness_37 : decode cX6_changeDryness 37 = .ok (.iload_n 3, 1) := by decide +kernel
theorem dX6_changeDryness_38 : decode cX6_changeDryness 38 = .ok (.ireturn, 1) := by decide +kernel
def rmX6_changeDryness : Room := { frames := 1, cells := 0, slots := 0, locals := 22 }
def fX6_changeDryness  (a0 : Nat) (xp0 : Int32) (xp1 : Int32) (h0 : PH) : Option (Int32 × PH) :=
    bn2 (fX9_within xp1 (0 : Int32) (100 : Int32) h0) fun x2 h1 =>
    if x2 = 0 then (some ((-1 : Int32), h1)) else
    bn (chk 6 a0 h1) fun _ => bn2 (fX6_has a0 xp0 h1) fun x4 h3 =>
    if x4 = 0 then (some ((-2 : Int32), h3)) else
    bn (rdR 6 2 a0 h3) fun a5 =>
    bn (aldI 0 a5 xp0 h3) fun x6 =>
    bn (rdR 6 2 a0 h3) fun a7 =>
    bn (astI a7 xp0 xp1 h3) fun h8 =>
    some (x6, h8)
set_option maxHeartbeats 4000000 in
set_option maxRecDepth 100000 in
theorem vfX6_changeDryness {p : Program} {l : Launch} {e : Env} {s : State} {m : MethodId} {args : Array Value} {below : List Frame} {meth : Method} {c : Code} {G : GX} (C : Cx p s m args meth c G cX6_changeDryness 4 RX6) (hr : meth.sig.returnType = (some .int)) (a0 : Nat) (xp0 : Int32) (xp1 : Int32) (h0 : PH) : J p l e rmX6_changeDryness s m args below meth c G 4 (qM below args s rvI G 0 0) 0 0 h0 0 [(0, .ref a0), (1, .int xp0), (2, .int xp1)] [] (fX6_changeDryness  a0 xp0 xp1 h0) := by
  unfold fX6_changeDryness
  refine J_iload_n (pc := 0) C dX6_changeDryness_0 rfl 2 rfl ?_
  refine J_iconst (pc := 1) (v := 0) C dX6_changeDryness_1 (by decide) ?_
  refine J_bipush (pc := 2) (v := 100) C dX6_changeDryness_2 (by decide) ?_
  refine J_callSNI (pc := 4) (As := [.int xp1, .int (0 : Int32), .int (100 : Int32)]) (rest := []) C (fun z hz => mX9_within xp1 (0 : Int32) (100 : Int32) h0 z hz) mwX9_within "GoldLeaves" (by decide +kernel) stX9_within rfl dX6_changeDryness_4 (by decide) rfl (Nat.le_of_ble_eq_true rfl) (by decide) (fun x2 h1 => ?_)
  refine J_if_ne (pc := 7) (tgt := 12) C dX6_changeDryness_7 (by decide) ?_ ?_
  · refine J_aload_n (pc := 12) C dX6_changeDryness_12 rfl 0 rfl ?_
    refine J_iload_n (pc := 13) C dX6_changeDryness_13 rfl 1 rfl ?_
    refine J_callVI (pc := 14) (As := [.int xp0]) (rest := []) C (fun z hz => mX6_has a0 xp0 h1 z hz) mwX6_has csX6_has mlX6_37 inX6_has rfl dX6_changeDryness_14 (by decide) rfl (Nat.le_of_ble_eq_true rfl) (by decide) (fun x4 h3 => ?_)
    refine J_if_ne (pc := 17) (tgt := 23) C dX6_changeDryness_17 (by decide) ?_ ?_
    · refine J_aload_n (pc := 23) C dX6_changeDryness_23 rfl 0 rfl ?_
      refine J_getR (pc := 24) C flX6_22 dX6_changeDryness_24 (fun a5 => ?_)
      refine J_iload_n (pc := 27) C dX6_changeDryness_27 rfl 1 rfl ?_
      refine J_iald (pc := 28) C dX6_changeDryness_28 (fun x6 => ?_)
      refine J_istore_n (pc := 29) (lv1 := [(3, .int x6), (0, .ref a0), (1, .int xp0), (2, .int xp1)]) C dX6_changeDryness_29 rfl (by decide) rfl ?_
      refine J_aload_n (pc := 30) C dX6_changeDryness_30 rfl 1 rfl ?_
      refine J_getR (pc := 31) C flX6_22 dX6_changeDryness_31 (fun a7 => ?_)
      refine J_iload_n (pc := 34) C dX6_changeDryness_34 rfl 2 rfl ?_
      refine J_iload_n (pc := 35) C dX6_changeDryness_35 rfl 3 rfl ?_
      refine J_iast (pc := 36) C dX6_changeDryness_36 (fun h8 => ?_)
      refine J_iload_n (pc := 37) C dX6_changeDryness_37 rfl 0 rfl ?_
      exact J_iret (pc := 38) C hr dX6_changeDryness_38
    · refine J_bipush (pc := 20) (v := -2) C dX6_changeDryness_20 (by decide) ?_
      exact J_iret (pc := 22) C hr dX6_changeDryness_22
  · refine J_iconst (pc := 10) (v := -1) C dX6_changeDryness_10 (by decide) ?_
    exact J_iret (pc := 11) C hr dX6_changeDryness_11
theorem mX6_changeDryness {l : Launch} {G : GX} (a0 : Nat) (xp0 : Int32) (xp1 : Int32) (h0 : PH) : ∀ z, fX6_changeDryness a0 xp0 xp1 h0 = some z → MC l G yX6_changeDryness cX6_changeDryness 4 (some .int) rmX6_changeDryness [.ref a0, .int xp0, .int xp1] h0 (rvI z.1) z.2 :=
  Met_J (own := RX6) (by decide) rfl (Nat.le_of_ble_eq_true rfl) (fun p e s m args below meth c C hr hn => vfX6_changeDryness C hr a0 xp0 xp1 h0)

