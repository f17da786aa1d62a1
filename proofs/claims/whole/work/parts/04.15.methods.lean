theorem dX6_suits_0 : decode cX6_suits 0 = .ok (.aload_n 0, 1) := by decide +kernel
theorem dX6_suits_1 : decode cX6_suits 1 = .ok (.getfield 18, 3) := by decide +kernel
theorem dX6_suits_4 : decode cX6_suits 4 = .ok (.iload_n 1, 1) := by decide +kernel
theorem dX6_suits_5 : decode cX6_suits 5 = .ok (.iaload, 1) := by decide +kernel
theorem dX6_suits_6 : decode cX6_suits 6 = .ok (.aload_n 2, 1) := by decide +kernel
theorem dX6_suits_7 : decode cX6_suits 7 = .ok (.getfield 63, 3) := by decide +kernel
theorem dX6_suits_10 : decode cX6_suits 10 = .ok (.aload_n 2, 1) := by decide +kernel
theorem dX6_suits_11 : decode cX6_suits 11 = .ok (.getfield 66, 3) := by decide +kernel
theorem dX6_suits_14 : decode cX6_suits 14 = .ok (.invokestatic 33, 3) := by decide +kernel
theorem dX6_suits_17 : decode cX6_suits 17 = .ok (.ifCond .eq 27, 3) := by decide +kernel
theorem dX6_suits_20 : decode cX6_suits 20 = .ok (.aload_n 0, 1) := by decide +kernel
theorem dX6_suits_21 : decode cX6_suits 21 = .ok (.getfield 22, 3) := by decide +kernel
theorem dX6_suits_24 : decode cX6_suits 24 = .ok (.iload_n 1, 1) := by decide +kernel
theorem dX6_suits_25 : decode cX6_suits 25 = .ok (.iaload, 1) := by decide +kernel
theorem dX6_suits_26 : decode cX6_suits 26 = .ok (.aload_n 2, 1) := by decide +kernel
theorem dX6_suits_27 : decode cX6_suits 27 = .ok (.getfield 69, 3) := by decide +kernel
theorem dX6_suits_30 : decode cX6_suits 30 = .ok (.aload_n 2, 1) := by decide +kernel
theorem dX6_suits_31 : decode cX6_suits 31 = .ok (.getfield 72, 3) := by decide +kernel
theorem dX6_suits_34 : decode cX6_suits 34 = .ok (.invokestatic 33, 3) := by decide +kernel
theorem dX6_suits_37 : decode cX6_suits 37 = .ok (.ifCond .eq 7, 3) := by decide +kernel
theorem dX6_suits_40 : decode cX6_suits 40 = .ok (.iconst 1, 1) := by decide +kernel
theorem dX6_suits_41 : decode cX6_suits 41 = .ok (.goto 4, 3) := by decide +kernel
theorem dX6_suits_44 : decode cX6_suits 44 = .ok (.iconst 0, 1) := by decide +kernel
theorem dX6_suits_45 : decode cX6_suits 45 = .ok (.ireturn, 1) := by decide +kernel
def rmX6_suits : Room := { frames := 1, cells := 0, slots := 0, locals := 22 }
def fX6_suits  (a0 : Nat) (xp0 : Int32) (ap1 : Nat) (h0 : PH) : Option (Int32 × PH) :=
    bn (rdR 6 1 a0 h0) fun a1 =>
    bn (aldI 0 a1 xp0 h0) fun x2 =>
    bn (rdI 3 1 ap1 h0) fun x3 =>
    bn (rdI 3 2 ap1 h0) fun x4 =>
    bn2 (fX9_within x2 x3 x4 h0) fun x6 h5 =>
    if x6 = 0 then (some ((0 : Int32), h5)) else
    bn (rdR 6 2 a0 h5) fun a7 =>
    bn (aldI 0 a7 xp0 h5) fun x8 =>
    bn (rdI 3 3 ap1 h5) fun x9 =>
    bn (rdI 3 4 ap1 h5) fun x10 =>
    bn2 (fX9_within x8 x9 x10 h5) fun x12 h11 =>
    if x12 = 0 then (some ((0 : Int32), h11)) else
    some ((1 : Int32), h11)
set_option maxHeartbeats 4000000 in
set_option maxRecDepth 100000 in
theorem vfX6_suits {p : Program} {l : Launch} {e : Env} {s : State} {m : MethodId} {args : Array Value} {below : List Frame} {meth : Method} {c : Code} {G : GX} (C : Cx p s m args meth c G cX6_suits 3 RX6) (hr : meth.sig.returnType = (some .boolean)) (a0 : Nat) (xp0 : Int32) (ap1 : Nat) (h0 : PH) : J p l e rmX6_suits s m args below meth c G 3 (qM below args s rvI G 0 0) 0 0 h0 0 [(0, .ref a0), (1, .int xp0), (2, .ref ap1)] [] (fX6_suits  a0 xp0 ap1 h0) := by
  unfold fX6_suits
  refine J_aload_n (pc := 0) C dX6_suits_0 rfl 0 rfl ?_
  refine J_getR (pc := 1) C flX6_18 dX6_suits_1 (fun a1 => ?_)
  refine J_iload_n (pc := 4) C dX6_suits_4 rfl 1 rfl ?_
  refine J_iald (pc := 5) C dX6_suits_5 (fun x2 => ?_)
  refine J_aload_n (pc := 6) C dX6_suits_6 rfl 2 rfl ?_
  refine J_getI (pc := 7) C flX6_63 dX6_suits_7 (fun x3 => ?_)
  refine J_aload_n (pc := 10) C dX6_suits_10 rfl 2 rfl ?_
  refine J_getI (pc := 11) C flX6_66 dX6_suits_11 (fun x4 => ?_)
  refine J_callSNI (pc := 14) (As := [.int x2, .int x3, .int x4]) (rest := []) C (fun z hz => mX9_within x2 x3 x4 h0 z hz) mwX9_within "GoldLeaves" (by decide +kernel) stX9_within rfl dX6_suits_14 (by decide) rfl (Nat.le_of_ble_eq_true rfl) (by decide) (fun x6 h5 => ?_)
  refine J_if_eq (pc := 17) (tgt := 44) C dX6_suits_17 (by decide) ?_ ?_
  · refine J_iconst (pc := 44) (v := 0) C dX6_suits_44 (by decide) ?_
    exact J_zret (pc := 45) C hr rfl dX6_suits_45
  · refine J_aload_n (pc := 20) C dX6_suits_20 rfl 0 rfl ?_
    refine J_getR (pc := 21) C flX6_22 dX6_suits_21 (fun a7 => ?_)
    refine J_iload_n (pc := 24) C dX6_suits_24 rfl 1 rfl ?_
    refine J_iald (pc := 25) C dX6_suits_25 (fun x8 => ?_)
    refine J_aload_n (pc := 26) C dX6_suits_26 rfl 2 rfl ?_
    refine J_getI (pc := 27) C flX6_69 dX6_suits_27 (fun x9 => ?_)
    refine J_aload_n (pc := 30) C dX6_suits_30 rfl 2 rfl ?_
    refine J_getI (pc := 31) C flX6_72 dX6_suits_31 (fun x10 => ?_)
    refine J_callSNI (pc := 34) (As := [.int x8, .int x9, .int x10]) (rest := []) C (fun z hz => mX9_within x8 x9 x10 h5 z hz) mwX9_within "GoldLeaves" (by decide +kernel) stX9_within rfl dX6_suits_34 (by decide) rfl (Nat.le_of_ble_eq_true rfl) (by decide) (fun x12 h11 => ?_)
    refine J_if_eq (pc := 37) (tgt := 44) C dX6_suits_37 (by decide) ?_ ?_
    · refine J_iconst (pc := 44) (v := 0) C dX6_suits_44 (by decide) ?_
      exact J_zret (pc := 45) C hr rfl dX6_suits_45
    · refine J_iconst (pc := 40) (v := 1) C dX6_suits_40 (by decide) ?_
      refine J_goto (pc := 41) (tgt := 45) C dX6_suits_41 (by decide) ?_
      exact J_zret (pc := 45) C hr rfl dX6_suits_45
theorem mX6_suits {l : Launch} {G : GX} (a0 : Nat) (xp0 : Int32) (ap1 : Nat) (h0 : PH) : ∀ z, fX6_suits a0 xp0 ap1 h0 = some z → MC l G yX6_suits cX6_suits 3 (some .boolean) rmX6_suits [.ref a0, .int xp0, .ref ap1] h0 (rvI z.1) z.2 :=
  Met_J (own := RX6) (by decide) rfl (Nat.le_of_ble_eq_true rfl) (fun p e s m args below meth c C hr hn => vfX6_suits C hr a0 xp0 ap1 h0)

theorem dX6_oldestFor_0 : decode cX6_oldestFor 0 = .ok (.iconst (-1), 1) := by decide +kernel
theorem dX6_oldestFor_1 : decode cX6_oldestFor 1 = .ok (.istore_n 2, 1) := by decide +kernel
theorem dX6_oldestFor_2 : decode cX6_oldestFor 2 = .ok (.iconst 0, 1) := by decide +kernel
theorem dX6_oldestFor_3 : decode cX6_oldestFor 3 = .ok (.istore_n 3, 1) := by decide +kernel
theorem dX6_oldestFor_4 : decode cX6_oldestFor 4 = .ok (.iload_n 3, 1) := by decide +kernel
theorem dX6_oldestFor_5 : decode cX6_oldestFor 5 = .ok (.aload_n 0, 1) := by decide +kernel
theorem dX6_oldestFor_6 : decode cX6_oldestFor 6 = .ok (.getfield 29, 3) := by decide +kernel
theorem dX6_oldestFor_9 : decode cX6_oldestFor 9 = .ok (.if_icmp .ge 49, 3) := by decide +kernel
theorem dX6_oldestFor_12 : decode cX6_oldestFor 12 = .ok (.aload_n 0, 1) := by decide +kernel
theorem dX6_oldestFor_13 : decode cX6_oldestFor 13 = .ok (.getfield 25, 3) := by decide +kernel
theorem dX6_oldestFor_16 : decode cX6_oldestFor 16 = .ok (.iload_n 3, 1) := by decide +kernel
theorem dX6_oldestFor_17 : decode cX6_oldestFor 17 = .ok (.baload, 1) := by decide +kernel
theorem dX6_oldestFor_18 : decode cX6_oldestFor 18 = .ok (.ifCond .ne 34, 3) := by decide +kernel
theorem dX6_oldestFor_21 : decode cX6_oldestFor 21 = .ok (.aload_n 0, 1) := by decide +kernel
theorem dX6_oldestFor_22 : decode cX6_oldestFor 22 = .ok (.iload_n 3, 1) := by decide +kernel
theorem dX6_oldestFor_23 : decode cX6_oldestFor 23 = .ok (.aload_n 1, 1) := by decide +kernel
theorem dX6_oldestFor_24 : decode cX6_oldestFor 24 = .ok (.invokevirtual 59, 3) := by decide +kernel
theorem dX6_oldestFor_27 : decode cX6_oldestFor 27 = .ok (.ifCond .eq 25, 3) := by decide +kernel
theorem dX6_oldestFor_30 : decode cX6_oldestFor 30 = .ok (.iload_n 2, 1) := by decide +kernel
theorem dX6_oldestFor_31 : decode cX6_oldestFor 31 = .ok (.iconst (-1), 1) := by decide +kernel
theorem dX6_oldestFor_32 : decode cX6_oldestFor 32 = .ok (.if_icmp .eq 18, 3) := by decide +kernel
theorem dX6_oldestFor_35 : decode cX6_oldestFor 35 = .ok (.aload_n 0, 1) := by decide +kernel
theorem dX6_oldestFor_36 : decode cX6_oldestFor 36 = .ok (.getfield 18, 3) := by decide +kernel
theorem dX6_oldestFor_39 : decode cX6_oldestFor 39 = .ok (.iload_n 3, 1) := by decide +kernel
theorem dX6_oldestFor_40 : decode cX6_oldestFor 40 = .ok (.iaload, 1) := by decide +kernel
theorem dX6_oldestFor_41 : decode cX6_oldestFor 41 = .ok (.aload_n 0, 1) := by decide +kernel
theorem dX6_oldestFor_42 : decode cX6_oldestFor 42 = .ok (.getfield 18, 3) := by decide +kernel
theorem dX6_oldestFor_45 : decode cX6_oldestFor 45 = .ok (.iload_n 2, 1) := by decide +kernel
theorem dX6_oldestFor_46 : decode cX6_oldestFor 46 = .ok (.iaload, 1) := by decide +kernel
theorem dX6_oldestFor_47 : decode cX6_oldestFor 47 = .ok (.if_icmp .le 5, 3) := by decide +kernel
theorem dX6_oldestFor_50 : decode cX6_oldestFor 50 = .ok (.iload_n 3, 1) := by decide +kernel
theorem dX6_oldestFor_51 : decode cX6_oldestFor 51 = .ok (.istore_n 2, 1) := by decide +kernel
theorem dX6_oldestFor_52 : decode cX6_oldestFor 52 = .ok (.iinc 3 1, 3) := by decide +kernel
theorem dX6_oldestFor_55 : decode cX6_oldestFor 55 = .ok (.goto (-51), 3) := by decide +kernel
theorem dX6_oldestFor_58 : decode cX6_oldestFor 58 = .ok (.iload_n 2, 1) := by decide +kernel
theorem dX6_oldestFor_59 : decode cX6_oldestFor 59 = .ok (.ireturn, 1) := by decide +kernel
def rmX6_oldestFor : Room := { frames := 2, cells := 0, slots := 0, locals := 44 }
def fX6_oldestFor_52 (r4 : Nat → Nat → Int32 → Int32 → PH → Option (Int32 × PH)) (al0 : Nat) (al1 : Nat) (xl2 : Int32) (xl3 : Int32) (h0 : PH) : Option (Int32 × PH) :=
    r4 al0 al1 xl2 (xl3 + 1) h0
set_option maxHeartbeats 4000000 in
set_option maxRecDepth 100000 in
theorem vfX6_oldestFor_52 {p : Program} {l : Launch} {e : Env} {s : State} {m : MethodId} {args : Array Value} {below : List Frame} {meth : Method} {c : Code} {G : GX} (C : Cx p s m args meth c G cX6_oldestFor 4 RX6) (hr : meth.sig.returnType = (some .int)) {r4 : Nat → Nat → Int32 → Int32 → PH → Option (Int32 × PH)} (k4 : ∀ (al0 : Nat) (al1 : Nat) (xl2 : Int32) (xl3 : Int32) (h0 : PH), J p l e rmX6_oldestFor s m args below meth c G 4 (qM below args s rvI G 0 0) 0 0 h0 4 [(0, .ref al0), (1, .ref al1), (2, .int xl2), (3, .int xl3)] [] (r4 al0 al1 xl2 xl3 h0)) (al0 : Nat) (al1 : Nat) (xl2 : Int32) (xl3 : Int32) (h0 : PH) : J p l e rmX6_oldestFor s m args below meth c G 4 (qM below args s rvI G 0 0) 0 0 h0 52 [(0, .ref al0), (1, .ref al1), (2, .int xl2), (3, .int xl3)] [] (fX6_oldestFor_52 r4 al0 al1 xl2 xl3 h0) := by
  unfold fX6_oldestFor_52
  refine J_iinc (pc := 52) (v := (xl3 + 1)) (lv1 := [(3, .int (xl3 + 1)), (0, .ref al0), (1, .ref al1), (2, .int xl2)]) C dX6_oldestFor_52 3 rfl rfl (by decide) rfl ?_
  refine J_goto (pc := 55) (tgt := 4) C dX6_oldestFor_55 (by decide) ?_
  refine J_sub [1, 2, 3, 0] rfl ?_
  exact k4 al0 al1 xl2 (xl3 + 1) h0
def fX6_oldestFor_50 (r4 : Nat → Nat → Int32 → Int32 → PH → Option (Int32 × PH)) (al0 : Nat) (al1 : Nat) (xl3 : Int32) (h0 : PH) : Option (Int32 × PH) :=
    fX6_oldestFor_52 r4 al0 al1 xl3 xl3 h0
set_option maxHeartbeats 4000000 in
set_option maxRecDepth 100000 in
theorem vfX6_oldestFor_50 {p : Program} {l : Launch} {e : Env} {s : State} {m : MethodId} {args : Array Value} {below : List Frame} {meth : Method} {c : Code} {G : GX} (C : Cx p s m args meth c G cX6_oldestFor 4 RX6) (hr : meth.sig.returnType = (some .int)) {r4 : Nat → Nat → Int32 → Int32 → PH → Option (Int32 × PH)} (k4 : ∀ (al0 : Nat) (al1 : Nat) (xl2 : Int32) (xl3 : Int32) (h0 : PH), J p l e rmX6_oldestFor s m args below meth c G 4 (qM below args s rvI G 0 0) 0 0 h0 4 [(0, .ref al0), (1, .ref al1), (2, .int xl2), (3, .int xl3)] [] (r4 al0 al1 xl2 xl3 h0)) (al0 : Nat) (al1 : Nat) (xl3 : Int32) (h0 : PH) : J p l e rmX6_oldestFor s m args below meth c G 4 (qM below args s rvI G 0 0) 0 0 h0 50 [(0, .ref al0), (1, .ref al1), (3, .int xl3)] [] (fX6_oldestFor_50 r4 al0 al1 xl3 h0) := by
  unfold fX6_oldestFor_50
  refine J_iload_n (pc := 50) C dX6_oldestFor_50 rfl 2 rfl ?_
  refine J_istore_n (pc := 51) (lv1 := [(2, .int xl3), (0, .ref al0), (1, .ref al1), (3, .int xl3)]) C dX6_oldestFor_51 rfl (by decide) rfl ?_
  refine J_sub [1, 2, 0, 3] rfl ?_
  exact vfX6_oldestFor_52 C hr k4 al0 al1 xl3 xl3 h0
def fX6_oldestFor_4  : Nat → Nat → Nat → Int32 → Int32 → PH → Option (Int32 × PH)
  | 0, _, _, _, _, _ => none
  | n + 1, al0, al1, xl2, xl3, h0 =>
    bn (rdI 6 4 al0 h0) fun x1 =>
    if x1 ≤ xl3 then (some (xl2, h0)) else
    bn (rdR 6 3 al0 h0) fun a2 =>
    bn (aldI 1 a2 xl3 h0) fun x3 =>
    if x3 = 0 then (bn (chk 6 al0 h0) fun _ => bn2 (fX6_suits al0 xl3 al1 h0) fun x5 h4 =>
    if x5 = 0 then (fX6_oldestFor_52 (fX6_oldestFor_4 n) al0 al1 xl2 xl3 h4) else
    if xl2 = (-1 : Int32) then (fX6_oldestFor_50 (fX6_oldestFor_4 n) al0 al1 xl3 h4) else
    bn (rdR 6 1 al0 h4) fun a6 =>
    bn (aldI 0 a6 xl3 h4) fun x7 =>
    bn (rdR 6 1 al0 h4) fun a8 =>
    bn (aldI 0 a8 xl2 h4) fun x9 =>
    if x7 ≤ x9 then (fX6_oldestFor_52 (fX6_oldestFor_4 n) al0 al1 xl2 xl3 h4) else
    fX6_oldestFor_50 (fX6_oldestFor_4 n) al0 al1 xl3 h4) else
    fX6_oldestFor_52 (fX6_oldestFor_4 n) al0 al1 xl2 xl3 h0
set_option maxHeartbeats 4000000 in
set_option maxRecDepth 100000 in
theorem vfX6_oldestFor_4 {p : Program} {l : Launch} {e : Env} {s : State} {m : MethodId} {args : Array Value} {below : List Frame} {meth : Method} {c : Code} {G : GX} (C : Cx p s m args meth c G cX6_oldestFor 4 RX6) (hr : meth.sig.returnType = (some .int)) : ∀ (n : Nat) (al0 : Nat) (al1 : Nat) (xl2 : Int32) (xl3 : Int32) (h0 : PH), J p l e rmX6_oldestFor s m args below meth c G 4 (qM below args s rvI G 0 0) 0 0 h0 4 [(0, .ref al0), (1, .ref al1), (2, .int xl2), (3, .int xl3)] [] (fX6_oldestFor_4  n al0 al1 xl2 xl3 h0) := by
  intro n
  induction n with
  | zero => exact fun al0 al1 xl2 xl3 h0 => J_none C
  | succ n ih =>
    intro al0 al1 xl2 xl3 h0
    unfold fX6_oldestFor_4
    refine J_iload_n (pc := 4) C dX6_oldestFor_4 rfl 3 rfl ?_
    refine J_aload_n (pc := 5) C dX6_oldestFor_5 rfl 0 rfl ?_
    refine J_getI (pc := 6) C flX6_29 dX6_oldestFor_6 (fun x1 => ?_)
    refine J_icmp_ge (pc := 9) (tgt := 58) C dX6_oldestFor_9 (by decide) ?_ ?_
    · refine J_iload_n (pc := 58) C dX6_oldestFor_58 rfl 2 rfl ?_
      exact J_iret (pc := 59) C hr dX6_oldestFor_59
    · refine J_aload_n (pc := 12) C dX6_oldestFor_12 rfl 0 rfl ?_
      refine J_getR (pc := 13) C flX6_25 dX6_oldestFor_13 (fun a2 => ?_)
      refine J_iload_n (pc := 16) C dX6_oldestFor_16 rfl 3 rfl ?_
      refine J_zald (pc := 17) C dX6_oldestFor_17 (fun x3 => ?_)
      refine J_if_ne (pc := 18) (tgt := 52) C dX6_oldestFor_18 (by decide) ?_ ?_
      · exact vfX6_oldestFor_52 C hr ih al0 al1 xl2 xl3 h0
      · refine J_aload_n (pc := 21) C dX6_oldestFor_21 rfl 0 rfl ?_
        refine J_iload_n (pc := 22) C dX6_oldestFor_22 rfl 3 rfl ?_
        refine J_aload_n (pc := 23) C dX6_oldestFor_23 rfl 1 rfl ?_
        refine J_callVI (pc := 24) (As := [.int xl3, .ref al1]) (rest := []) C (fun z hz => mX6_suits al0 xl3 al1 h0 z hz) mwX6_suits csX6_suits mlX6_59 inX6_suits rfl dX6_oldestFor_24 (by decide) rfl (Nat.le_of_ble_eq_true rfl) (by decide) (fun x5 h4 => ?_)
        refine J_if_eq (pc := 27) (tgt := 52) C dX6_oldestFor_27 (by decide) ?_ ?_
        · exact vfX6_oldestFor_52 C hr ih al0 al1 xl2 xl3 h4
        · refine J_iload_n (pc := 30) C dX6_oldestFor_30 rfl 2 rfl ?_
          refine J_iconst (pc := 31) (v := -1) C dX6_oldestFor_31 (by decide) ?_
          refine J_icmp_eq (pc := 32) (tgt := 50) C dX6_oldestFor_32 (by decide) ?_ ?_
          · refine J_sub [0, 1, 3] rfl ?_
            exact vfX6_oldestFor_50 C hr ih al0 al1 xl3 h4
          · refine J_aload_n (pc := 35) C dX6_oldestFor_35 rfl 0 rfl ?_
            refine J_getR (pc := 36) C flX6_18 dX6_oldestFor_36 (fun a6 => ?_)
            refine J_iload_n (pc := 39) C dX6_oldestFor_39 rfl 3 rfl ?_
            refine J_iald (pc := 40) C dX6_oldestFor_40 (fun x7 => ?_)
            refine J_aload_n (pc := 41) C dX6_oldestFor_41 rfl 0 rfl ?_
            refine J_getR (pc := 42) C flX6_18 dX6_oldestFor_42 (fun a8 => ?_)
            refine J_iload_n (pc := 45) C dX6_oldestFor_45 rfl 2 rfl ?_
            refine J_iald (pc := 46) C dX6_oldestFor_46 (fun x9 => ?_)
            refine J_icmp_le (pc := 47) (tgt := 52) C dX6_oldestFor_47 (by decide) ?_ ?_
            · exact vfX6_oldestFor_52 C hr ih al0 al1 xl2 xl3 h4
            · refine J_sub [0, 1, 3] rfl ?_
              exact vfX6_oldestFor_50 C hr ih al0 al1 xl3 h4
def fX6_oldestFor  (a0 : Nat) (ap0 : Nat) (h0 : PH) : Option (Int32 × PH) :=
    fX6_oldestFor_4  FU a0 ap0 (-1 : Int32) (0 : Int32) h0
set_option maxHeartbeats 4000000 in
set_option maxRecDepth 100000 in
theorem vfX6_oldestFor {p : Program} {l : Launch} {e : Env} {s : State} {m : MethodId} {args : Array Value} {below : List Frame} {meth : Method} {c : Code} {G : GX} (C : Cx p s m args meth c G cX6_oldestFor 4 RX6) (hr : meth.sig.returnType = (some .int)) (a0 : Nat) (ap0 : Nat) (h0 : PH) : J p l e rmX6_oldestFor s m args below meth c G 4 (qM below args s rvI G 0 0) 0 0 h0 0 [(0, .ref a0), (1, .ref ap0)] [] (fX6_oldestFor  a0 ap0 h0) := by
  unfold fX6_oldestFor
  refine J_iconst (pc := 0) (v := -1) C dX6_oldestFor_0 (by decide) ?_
  refine J_istore_n (pc := 1) (lv1 := [(2, .int (-1 : Int32)), (0, .ref a0), (1, .ref ap0)]) C dX6_oldestFor_1 rfl (by decide) rfl ?_
  refine J_iconst (pc := 2) (v := 0) C dX6_oldestFor_2 (by decide) ?_
  refine J_istore_n (pc := 3) (lv1 := [(3, .int (0 : Int32)), (2, .int (-1 : Int32)), (0, .ref a0), (1, .ref ap0)]) C dX6_oldestFor_3 rfl (by decide) rfl ?_
  refine J_sub [2, 3, 1, 0] rfl ?_
  exact vfX6_oldestFor_4 C hr  FU a0 ap0 (-1 : Int32) (0 : Int32) h0
theorem mX6_oldestFor {l : Launch} {G : GX} (a0 : Nat) (ap0 : Nat) (h0 : PH) : ∀ z, fX6_oldestFor a0 ap0 h0 = some z → MC l G yX6_oldestFor cX6_oldestFor 4 (some .int) rmX6_oldestFor [.ref a0, .ref ap0] h0 (rvI z.1) z.2 :=
  Met_J (own := RX6) (by decide) rfl (Nat.le_of_ble_eq_true rfl) (fun p e s m args below meth c C hr hn => vfX6_oldestFor C hr a0 ap0 h0)

theorem dX6_chooseFor_0 : decode cX6_chooseFor 0 = .ok (.iconst 0, 1) := by decide +kernel
theorem dX6_chooseFor_1 : decode cX6_chooseFor 1 = .ok (.istore_n 2, 1) := by decide +kernel
theorem dX6_chooseFor_2 : decode cX6_chooseFor 2 = .ok (.iload_n 2, 1) := by decide +kernel
theorem dX6_chooseFor_3 : decode cX6_chooseFor 3 = .ok (.bipush 60, 2) := by decide +kernel
theorem dX6_chooseFor_5 : decode cX6_chooseFor 5 = .ok (.if_icmp .ge 16, 3) := by decide +kernel
theorem dX6_chooseFor_8 : decode cX6_chooseFor 8 = .ok (.aload_n 0, 1) := by decide +kernel
theorem dX6_chooseFor_9 : decode cX6_chooseFor 9 = .ok (.getfield 25, 3) := by decide +kernel
theorem dX6_chooseFor_12 : decode cX6_chooseFor 12 = .ok (.iload_n 2, 1) := by decide +kernel
theorem dX6_chooseFor_13 : decode cX6_chooseFor 13 = .ok (.iconst 0, 1) := by decide +kernel
theorem dX6_chooseFor_14 : decode cX6_chooseFor 14 = .ok (.bastore, 1) := by decide +kernel
theorem dX6_chooseFor_15 : decode cX6_chooseFor 15 = .ok (.iinc 2 1, 3) := by decide +kernel
theorem dX6_chooseFor_18 : decode cX6_chooseFor 18 = .ok (.goto (-16), 3) := by decide +kernel
theorem dX6_chooseFor_21 : decode cX6_chooseFor 21 = .ok (.iconst 0, 1) := by decide +kernel
theorem dX6_chooseFor_22 : decode cX6_chooseFor 22 = .ok (.istore_n 2, 1) := by decide +kernel
theorem dX6_chooseFor_23 : decode cX6_chooseFor 23 = .ok (.iload_n 2, 1) := by decide +kernel
theorem dX6_chooseFor_24 : decode cX6_chooseFor 24 = .ok (.aload_n 1, 1) := by decide +kernel
theorem dX6_chooseFor_25 : decode cX6_chooseFor 25 = .ok (.getfield 52, 3) := by decide +kernel
theorem dX6_chooseFor_28 : decode cX6_chooseFor 28 = .ok (.if_icmp .ge 29, 3) := by decide +kernel
theorem dX6_chooseFor_31 : decode cX6_chooseFor 31 = .ok (.aload_n 0, 1) := by decide +kernel
theorem dX6_chooseFor_32 : decode cX6_chooseFor 32 = .ok (.aload_n 1, 1) := by decide +kernel
theorem dX6_chooseFor_33 : decode cX6_chooseFor 33 = .ok (.invokevirtual 55, 3) := by decide +kernel
theorem dX6_chooseFor_36 : decode cX6_chooseFor 36 = .ok (.istore_n 3, 1) := by decide +kernel
theorem dX6_chooseFor_37 : decode cX6_chooseFor 37 = .ok (.iload_n 3, 1) := by decide +kernel
theorem dX6_chooseFor_38 : decode cX6_chooseFor 38 = .ok (.iconst (-1), 1) := by decide +kernel
theorem dX6_chooseFor_39 : decode cX6_chooseFor 39 = .ok (.if_icmp .ne 5, 3) := by decide +kernel
theorem dX6_chooseFor_42 : decode cX6_chooseFor 42 = .ok (.iconst 0, 1) := by decide +kernel
theorem dX6_chooseFor_43 : decode cX6_chooseFor 43 = .ok (.ireturn, 1) := by decide +kernel
theorem dX6_chooseFor_44 : decode cX6_chooseFor 44 = .ok (.aload_n 0, 1) := by decide +kernel
theorem dX6_chooseFor_45 : decode cX6_chooseFor 45 = .ok (.getfield 25, 3) := by decide +kernel
theorem dX6_chooseFor_48 : decode cX6_chooseFor 48 = .ok (.iload_n 3, 1) := by decide +kernel
theorem dX6_chooseFor_49 : decode cX6_chooseFor 49 = .ok (.iconst 1, 1) := by decide +kernel
theorem dX6_chooseFor_50 : decode cX6_chooseFor 50 = .ok (.bastore, 1) := by decide +kernel
theorem dX6_chooseFor_51 : decode cX6_chooseFor 51 = .ok (.iinc 2 1, 3) := by decide +kernel
theorem dX6_chooseFor_54 : decode cX6_chooseFor 54 = .ok (.goto (-31), 3) := by decide +kernel
theorem dX6_chooseFor_57 : decode cX6_chooseFor 57 = .ok (.iconst 1, 1) := by decide +kernel
theorem dX6_chooseFor_58 : decode cX6_chooseFor 58 = .ok (.ireturn, 1) := by decide +kernel
def rmX6_chooseFor : Room := { frames := 3, cells := 0, slots := 0, locals := 67 }
def fX6_chooseFor_23  : Nat → Nat → Nat → Int32 → PH → Option (Int32 × PH)
  | 0, _, _, _, _ => none
  | n + 1, al0, al1, xl2, h0 =>
    bn (rdI 3 0 al1 h0) fun x1 =>
    if x1 ≤ xl2 then (some ((1 : Int32), h0)) else
    bn (chk 6 al0 h0) fun _ => bn2 (fX6_oldestFor al0 al1 h0) fun x3 h2 =>
    if x3 = (-1 : Int32) then (some ((0 : Int32), h2)) else
    bn (rdR 6 3 al0 h2) fun a4 =>
    bn (astZ a4 x3 (1 : Int32) h2) fun h5 =>
    (fX6_chooseFor_23 n) al0 al1 (xl2 + 1) h5
set_option maxHeartbeats 4000000 in
set_option maxRecDepth 100000 in
theorem vfX6_chooseFor_23 {p : Program} {l : Launch} {e : Env} {s : State} {m : MethodId} {args : Array Value} {below : List Frame} {meth : Method} {c : Code} {G : GX} (C : Cx p s m args meth c G cX6_chooseFor 4 RX6) (hr : meth.sig.returnType = (some .boolean)) : ∀ (n : Nat) (al0 : Nat) (al1 : Nat) (xl2 : Int32) (h0 : PH), J p l e rmX6_chooseFor s m args below meth c G 4 (qM below args s rvI G 0 0) 0 0 h0 23 [(0, .ref al0), (1, .ref al1), (2, .int xl2)] [] (fX6_chooseFor_23  n al0 al1 xl2 h0) := by
  intro n
  induction n with
  | zero => exact fun al0 al1 xl2 h0 => J_none C
  | succ n ih =>
    intro al0 al1 xl2 h0
    unfold fX6_chooseFor_23
    refine J_iload_n (pc := 23) C dX6_chooseFor_23 rfl 2 rfl ?_
    refine J_aload_n (pc := 24) C dX6_chooseFor_24 rfl 1 rfl ?_
    refine J_getI (pc := 25) C flX6_52 dX6_chooseFor_25 (fun x1 => ?_)
    refine J_icmp_ge (pc := 28) (tgt := 57) C dX6_chooseFor_28 (by decide) ?_ ?_
    · refine J_iconst (pc := 57) (v := 1) C dX6_chooseFor_57 (by decide) ?_
      exact J_zret (pc := 58) C hr rfl dX6_chooseFor_58
    · refine J_aload_n (pc := 31) C dX6_chooseFor_31 rfl 0 rfl ?_
      refine J_aload_n (pc := 32) C dX6_chooseFor_32 rfl 1 rfl ?_
      refine J_callVI (pc := 33) (As := [.ref al1]) (rest := []) C (fun z hz => mX6_oldestFor al0 al1 h0 z hz) mwX6_oldestFor csX6_oldestFor mlX6_55 inX6_oldestFor rfl dX6_chooseFor_33 (by decide) rfl (Nat.le_of_ble_eq_true rfl) (by decide) (fun x3 h2 => ?_)
      refine J_istore_n (pc := 36) (lv1 := [(3, .int x3), (0, .ref al0), (1, .ref al1), (2, .int xl2)]) C dX6_chooseFor_36 rfl (by decide) rfl ?_
      refine J_iload_n (pc := 37) C dX6_chooseFor_37 rfl 0 rfl ?_
      refine J_iconst (pc := 38) (v := -1) C dX6_chooseFor_38 (by decide) ?_
      refine J_icmp_ne (pc := 39) (tgt := 44) C dX6_chooseFor_39 (by decide) ?_ ?_
      · refine J_aload_n (pc := 44) C dX6_chooseFor_44 rfl 1 rfl ?_
        refine J_getR (pc := 45) C flX6_25 dX6_chooseFor_45 (fun a4 => ?_)
        refine J_iload_n (pc := 48) C dX6_chooseFor_48 rfl 0 rfl ?_
        refine J_iconst (pc := 49) (v := 1) C dX6_chooseFor_49 (by decide) ?_
        refine J_zast (pc := 50) C dX6_chooseFor_50 (fun h5 => ?_)
        refine J_iinc (pc := 51) (v := (xl2 + 1)) (lv1 := [(2, .int (xl2 + 1)), (3, .int x3), (0, .ref al0), (1, .ref al1)]) C dX6_chooseFor_51 3 rfl rfl (by decide) rfl ?_
        refine J_goto (pc := 54) (tgt := 23) C dX6_chooseFor_54 (by decide) ?_
        refine J_sub [2, 3, 0] rfl ?_
        exact ih al0 al1 (xl2 + 1) h5
      · refine J_iconst (pc := 42) (v := 0) C dX6_chooseFor_42 (by decide) ?_
        exact J_zret (pc := 43) C hr rfl dX6_chooseFor_43
def fX6_chooseFor_2  : Nat → Nat → Nat → Int32 → PH → Option (Int32 × PH)
  | 0, _, _, _, _ => none
  | n + 1, al0, al1, xl2, h0 =>
    if (60 : Int32) ≤ xl2 then (fX6_chooseFor_23  FU al0 al1 (0 : Int32) h0) else
    bn (rdR 6 3 al0 h0) fun a6 =>
    bn (astZ a6 xl2 (0 : Int32) h0) fun h7 =>
    (fX6_chooseFor_2 n) al0 al1 (xl2 + 1) h7
set_option maxHeartbeats 4000000 in
set_option maxRecDepth 100000 in
theorem vfX6_chooseFor_2 {p : Program} {l : Launch} {e : Env} {s : State} {m : MethodId} {args : Array Value} {below : List Frame} {meth : Method} {c : Code} {G : GX} (C : Cx p s m args meth c G cX6_chooseFor 4 RX6) (hr : meth.sig.returnType = (some .boolean)) : ∀ (n : Nat) (al0 : Nat) (al1 : Nat) (xl2 : Int32) (h0 : PH), J p l e rmX6_chooseFor s m args below meth c G 4 (qM below args s rvI G 0 0) 0 0 h0 2 [(0, .ref al0), (1, .ref al1), (2, .int xl2)] [] (fX6_chooseFor_2  n al0 al1 xl2 h0) := by
  intro n
  induction n with
  | zero => exact fun al0 al1 xl2 h0 => J_none C
  | succ n ih =>
    intro al0 al1 xl2 h0
    unfold fX6_chooseFor_2
    refine J_iload_n (pc := 2) C dX6_chooseFor_2 rfl 2 rfl ?_
    refine J_bipush (pc := 3) (v := 60) C dX6_chooseFor_3 (by decide) ?_
    refine J_icmp_ge (pc := 5) (tgt := 21) C dX6_chooseFor_5 (by decide) ?_ ?_
    · refine J_iconst (pc := 21) (v := 0) C dX6_chooseFor_21 (by decide) ?_
      refine J_istore_n (pc := 22) (lv1 := [(2, .int (0 : Int32)), (0, .ref al0), (1, .ref al1)]) C dX6_chooseFor_22 rfl (by decide) rfl ?_
      refine J_sub [1, 2, 0] rfl ?_
      exact vfX6_chooseFor_23 C hr  FU al0 al1 (0 : Int32) h0
    · refine J_aload_n (pc := 8) C dX6_chooseFor_8 rfl 0 rfl ?_
      refine J_getR (pc := 9) C flX6_25 dX6_chooseFor_9 (fun a6 => ?_)
      refine J_iload_n (pc := 12) C dX6_chooseFor_12 rfl 2 rfl ?_
      refine J_iconst (pc := 13) (v := 0) C dX6_chooseFor_13 (by decide) ?_
      refine J_zast (pc := 14) C dX6_chooseFor_14 (fun h7 => ?_)
      refine J_iinc (pc := 15) (v := (xl2 + 1)) (lv1 := [(2, .int (xl2 + 1)), (0, .ref al0), (1, .ref al1)]) C dX6_chooseFor_15 2 rfl rfl (by decide) rfl ?_
      refine J_goto (pc := 18) (tgt := 2) C dX6_chooseFor_18 (by decide) ?_
      refine J_sub [1, 2, 0] rfl ?_
      exact ih al0 al1 (xl2 + 1) h7
def fX6_chooseFor  (a0 : Nat) (ap0 : Nat) (h0 : PH) : Option (Int32 × PH) :=
    fX6_chooseFor_2  FU a0 ap0 (0 : Int32) h0
set_option maxHeartbeats 4000000 in
set_option maxRecDepth 100000 in
theorem vfX6_chooseFor {p : Program} {l : Launch} {e : Env} {s : State} {m : MethodId} {args : Array Value} {below : List Frame} {meth : Method} {c : Code} {G : GX} (C : Cx p s m args meth c G cX6_chooseFor 4 RX6) (hr : meth.sig.returnType = (some .boolean)) (a0 : Nat) (ap0 : Nat) (h0 : PH) : J p l e rmX6_chooseFor s m args below meth c G 4 (qM below args s rvI G 0 0) 0 0 h0 0 [(0, .ref a0), (1, .ref ap0)] [] (fX6_chooseFor  a0 ap0 h0) := by
  unfold fX6_chooseFor
  refine J_iconst (pc := 0) (v := 0) C dX6_chooseFor_0 (by decide) ?_
  refine J_istore_n (pc := 1) (lv1 := [(2, .int (0 : Int32)), (0, .ref a0), (1, .ref ap0)]) C dX6_chooseFor_1 rfl (by decide) rfl ?_
  refine J_sub [1, 2, 0] rfl ?_
  exact vfX6_chooseFor_2 C hr  FU a0 ap0 (0 : Int32) h0
theorem mX6_chooseFor {l : Launch} {G : GX} (a0 : Nat) (ap0 : Nat) (h0 : PH) : ∀ z, fX6_chooseFor a0 ap0 h0 = some z → MC l G yX6_chooseFor cX6_chooseFor 4 (some .boolean) rmX6_chooseFor [.ref a0, .ref ap0] h0 (rvI z.1) z.2 :=
  Met_J (own := RX6) (by decide) rfl (Nat.le_of_ble_eq_true rfl) (fun p e s m args below meth c C hr hn => vfX6_chooseFor C hr a0 ap0 h0)

theorem dX6_ageChosen_0 : decode cX6_ageChosen 0 = .ok (.iconst 0, 1) := by decide +kernel
theorem dX6_ageChosen_1 : decode cX6_ageChosen 1 = .ok (.istore_n 1, 1) := by decide +kernel
theorem dX6_ageChosen_2 : decode cX6_ageChosen 2 = .ok (.iload_n 1, 1) := by decide +kernel
theorem dX6_ageChosen_3 : decode cX6_ageChosen 3 = .ok (.aload_n 0, 1) := by decide +kernel
theorem dX6_ageChosen_4 : decode cX6_ageChosen 4 = .ok (.getfield 29, 3) := by decide +kernel
theorem dX6_ageChosen_7 : decode cX6_ageChosen 7 = .ok (.if_icmp .ge 28, 3) := by decide +kernel
theorem dX6_ageChosen_10 : decode cX6_ageChosen 10 = .ok (.aload_n 0, 1) := by decide +kernel
theorem dX6_ageChosen_11 : decode cX6_ageChosen 11 = .ok (.getfield 25, 3) := by decide +kernel
theorem dX6_ageChosen_14 : decode cX6_ageChosen 14 = .ok (.iload_n 1, 1) := by decide +kernel
theorem dX6_ageChosen_15 : decode cX6_ageChosen 15 = .ok (.baload, 1) := by decide +kernel
theorem dX6_ageChosen_16 : decode cX6_ageChosen 16 = .ok (.ifCond .eq 13, 3) := by decide +kernel
theorem dX6_ageChosen_19 : decode cX6_ageChosen 19 = .ok (.aload_n 0, 1) := by decide +kernel
theorem dX6_ageChosen_20 : decode cX6_ageChosen 20 = .ok (.getfield 18, 3) := by decide +kernel
theorem dX6_ageChosen_23 : decode cX6_ageChosen 23 = .ok (.iload_n 1, 1) := by decide +kernel
theorem dX6_ageChosen_24 : decode cX6_ageChosen 24 = .ok (.dup2, 1) := by decide +kernel
theorem dX6_ageChosen_25 : decode cX6_ageChosen 25 = .ok (.iaload, 1) := by decide +kernel
theorem dX6_ageChosen_26 : decode cX6_ageChosen 26 = .ok (.iconst 1, 1) := by decide +kernel
theorem dX6_ageChosen_27 : decode cX6_ageChosen 27 = .ok (.iadd, 1) := by decide +kernel
theorem dX6_ageChosen_28 : decode cX6_ageChosen 28 = .ok (.iastore, 1) := by decide +kernel
theorem dX6_ageChosen_29 : decode cX6_ageChosen 29 = .ok (.iinc 1 1, 3) := by decide +kernel
theorem dX6_ageChosen_32 : decode cX6_ageChosen 32 = .ok (.goto (-30), 3) := by decide +kernel
theorem dX6_ageChosen_35 : decode cX6_ageChosen 35 = .ok (.return_, 1) := by decide +kernel
def rmX6_ageChosen : Room := { frames := 0, cells := 0, slots := 0, locals := 0 }
def fX6_ageChosen_29 (r2 : Nat → Int32 → PH → Option (Unit × PH)) (al0 : Nat) (xl1 : Int32) (h0 : PH) : Option (Unit × PH) :=
    r2 al0 (xl1 + 1) h0
set_option maxHeartbeats 4000000 in
set_option maxRecDepth 100000 in
theorem vfX6_ageChosen_29 {p : Program} {l : Launch} {e : Env} {s : State} {m : MethodId} {args : Array Value} {below : List Frame} {meth : Method} {c : Code} {G : GX} (C : Cx p s m args meth c G cX6_ageChosen 2 RX6) (hr : meth.sig.returnType = none) {r2 : Nat → Int32 → PH → Option (Unit × PH)} (k2 : ∀ (al0 : Nat) (xl1 : Int32) (h0 : PH), J p l e rmX6_ageChosen s m args below meth c G 2 (qM below args s rvU G 0 0) 0 0 h0 2 [(0, .ref al0), (1, .int xl1)] [] (r2 al0 xl1 h0)) (al0 : Nat) (xl1 : Int32) (h0 : PH) : J p l e rmX6_ageChosen s m args below meth c G 2 (qM below args s rvU G 0 0) 0 0 h0 29 [(0, .ref al0), (1, .int xl1)] [] (fX6_ageChosen_29 r2 al0 xl1 h0) := by
  unfold fX6_ageChosen_29
  refine J_iinc (pc := 29) (v := (xl1 + 1)) (lv1 := [(1, .int (xl1 + 1)), (0, .ref al0)]) C dX6_ageChosen_29 1 rfl rfl (by decide) rfl ?_
  refine J_goto (pc := 32) (tgt := 2) C dX6_ageChosen_32 (by decide) ?_
  refine J_sub [1, 0] rfl ?_
  exact k2 al0 (xl1 + 1) h0
def fX6_ageChosen_2  : Nat → Nat → Int32 → PH → Option (Unit × PH)
  | 0, _, _, _ => none
  | n + 1, al0, xl1, h0 =>
    bn (rdI 6 4 al0 h0) fun x1 =>
    if x1 ≤ xl1 then (some ((), h0)) else
    bn (rdR 6 3 al0 h0) fun a2 =>
    bn (aldI 1 a2 xl1 h0) fun x3 =>
    if x3 = 0 then (fX6_ageChosen_29 (fX6_ageChosen_2 n) al0 xl1 h0) else
    bn (rdR 6 1 al0 h0) fun a4 =>
    bn (aldI 0 a4 xl1 h0) fun x5 =>
    bn (astI a4 xl1 (x5 + (1 : Int32)) h0) fun h6 =>
    fX6_ageChosen_29 (fX6_ageChosen_2 n) al0 xl1 h6
set_option maxHeartbeats 4000000 in
set_option maxRecDepth 100000 in
theorem vfX6_ageChosen_2 {p : Program} {l : Launch} {e : Env} {s : State} {m : MethodId} {args : Array Value} {below : List Frame} {meth : Method} {c : Code} {G : GX} (C : Cx p s m args meth c G cX6_ageChosen 2 RX6) (hr : meth.sig.returnType = none) : ∀ (n : Nat) (al0 : Nat) (xl1 : Int32) (h0 : PH), J p l e rmX6_ageChosen s m args below meth c G 2 (qM below args s rvU G 0 0) 0 0 h0 2 [(0, .ref al0), (1, .int xl1)] [] (fX6_ageChosen_2  n al0 xl1 h0) := by
  intro n
  induction n with
  | zero => exact fun al0 xl1 h0 => J_none C
  | succ n ih =>
    intro al0 xl1 h0
    unfold fX6_ageChosen_2
    refine J_iload_n (pc := 2) C dX6_ageChosen_2 rfl 1 rfl ?_
    refine J_aload_n (pc := 3) C dX6_ageChosen_3 rfl 0 rfl ?_
    refine J_getI (pc := 4) C flX6_29 dX6_ageChosen_4 (fun x1 => ?_)
    refine J_icmp_ge (pc := 7) (tgt := 35) C dX6_ageChosen_7 (by decide) ?_ ?_
    · exact J_vret (pc := 35) C hr dX6_ageChosen_35
    · refine J_aload_n (pc := 10) C dX6_ageChosen_10 rfl 0 rfl ?_
      refine J_getR (pc := 11) C flX6_25 dX6_ageChosen_11 (fun a2 => ?_)
      refine J_iload_n (pc := 14) C dX6_ageChosen_14 rfl 1 rfl ?_
      refine J_zald (pc := 15) C dX6_ageChosen_15 (fun x3 => ?_)
      refine J_if_eq (pc := 16) (tgt := 29) C dX6_ageChosen_16 (by decide) ?_ ?_
      · exact vfX6_ageChosen_29 C hr ih al0 xl1 h0
      · refine J_aload_n (pc := 19) C dX6_ageChosen_19 rfl 0 rfl ?_
        refine J_getR (pc := 20) C flX6_18 dX6_ageChosen_20 (fun a4 => ?_)
        refine J_iload_n (pc := 23) C dX6_ageChosen_23 rfl 1 rfl ?_
        refine J_dup2 (pc := 24) C dX6_ageChosen_24 rfl rfl ?_
        refine J_iald (pc := 25) C dX6_ageChosen_25 (fun x5 => ?_)
        refine J_iconst (pc := 26) (v := 1) C dX6_ageChosen_26 (by decide) ?_
        refine J_iadd (pc := 27) C dX6_ageChosen_27 ?_
        refine J_iast (pc := 28) C dX6_ageChosen_28 (fun h6 => ?_)
        exact vfX6_ageChosen_29 C hr ih al0 xl1 h6
def fX6_ageChosen  (a0 : Nat) (h0 : PH) : Option (Unit × PH) :=
    fX6_ageChosen_2  FU a0 (0 : Int32) h0
set_option maxHeartbeats 4000000 in
set_option maxRecDepth 100000 in
theorem vfX6_ageChosen {p : Program} {l : Launch} {e : Env} {s : State} {m : MethodId} {args : Array Value} {below : List Frame} {meth : Method} {c : Code} {G : GX} (C : Cx p s m args meth c G cX6_ageChosen 2 RX6) (hr : meth.sig.returnType = none) (a0 : Nat) (h0 : PH) : J p l e rmX6_ageChosen s m args below meth c G 2 (qM below args s rvU G 0 0) 0 0 h0 0 [(0, .ref a0)] [] (fX6_ageChosen  a0 h0) := by
  unfold fX6_ageChosen
  refine J_iconst (pc := 0) (v := 0) C dX6_ageChosen_0 (by decide) ?_
  refine J_istore_n (pc := 1) (lv1 := [(1, .int (0 : Int32)), (0, .ref a0)]) C dX6_ageChosen_1 rfl (by decide) rfl ?_
  refine J_sub [1, 0] rfl ?_
  exact vfX6_ageChosen_2 C hr  FU a0 (0 : Int32) h0
theorem mX6_ageChosen {l : Launch} {G : GX} (a0 : Nat) (h0 : PH) : ∀ z, fX6_ageChosen a0 h0 = some z → MC l G yX6_ageChosen cX6_ageChosen 2 none rmX6_ageChosen [.ref a0] h0 (rvU z.1) z.2 :=
  Met_J (own := RX6) (by decide) rfl (Nat.le_of_ble_eq_true rfl) (fun p e s m args below meth c C hr hn => vfX6_ageChosen C hr a0 h0)

theorem dX6_beatPacks_0 : decode cX6_beatPacks 0 = .ok (.aload_n 0, 1) := by decide +kernel
theorem dX6_beatPacks_1 : decode cX6_beatPacks 1 = .ok (.iload_n 1, 1) := by decide +kernel
theorem dX6_beatPacks_2 : decode cX6_beatPacks 2 = .ok (.invokevirtual 41, 3) := by decide +kernel
theorem dX6_beatPacks_5 : decode cX6_beatPacks 5 = .ok (.astore_n 3, 1) := by decide +kernel
theorem dX6_beatPacks_6 : decode cX6_beatPacks 6 = .ok (.aload_n 3, 1) := by decide +kernel
theorem dX6_beatPacks_7 : decode cX6_beatPacks 7 = .ok (.ifnull 13, 3) := by decide +kernel
theorem dX6_beatPacks_10 : decode cX6_beatPacks 10 = .ok (.iload_n 2, 1) := by decide +kernel
theorem dX6_beatPacks_11 : decode cX6_beatPacks 11 = .ok (.iconst 0, 1) := by decide +kernel
theorem dX6_beatPacks_12 : decode cX6_beatPacks 12 = .ok (.bipush 20, 2) := by decide +kernel
theorem dX6_beatPacks_14 : decode cX6_beatPacks 14 = .ok (.invokestatic 33, 3) := by decide +kernel
theorem dX6_beatPacks_17 : decode cX6_beatPacks 17 = .ok (.ifCond .ne 5, 3) := by decide +kernel
theorem dX6_beatPacks_20 : decode cX6_beatPacks 20 = .ok (.iconst (-1), 1) := by decide +kernel
theorem dX6_beatPacks_21 : decode cX6_beatPacks 21 = .ok (.ireturn, 1) := by decide +kernel
theorem dX6_beatPacks_22 : decode cX6_beatPacks 22 = .ok (.iconst 0, 1) := by decide +kernel
theorem dX6_beatPacks_23 : decode cX6_beatPacks 23 = .ok (.istore 4, 2) := by decide +kernel
theorem dX6_beatPacks_25 : decode cX6_beatPacks 25 = .ok (.iload 4, 2) := by decide +kernel
theorem dX6_beatPacks_27 : decode cX6_beatPacks 27 = .ok (.iload_n 2, 1) := by decide +kernel
theorem dX6_beatPacks_28 : decode cX6_beatPacks 28 = .ok (.if_icmp .ge 21, 3) := by decide +kernel
theorem dX6_beatPacks_31 : decode cX6_beatPacks 31 = .ok (.aload_n 0, 1) := by decide +kernel
theorem dX6_beatPacks_32 : decode cX6_beatPacks 32 = .ok (.aload_n 3, 1) := by decide +kernel
theorem dX6_beatPacks_33 : decode cX6_beatPacks 33 = .ok (.invokevirtual 45, 3) := by decide +kernel
theorem dX6_beatPacks_36 : decode cX6_beatPacks 36 = .ok (.ifCond .eq 13, 3) := by decide +kernel
theorem dX6_beatPacks_39 : decode cX6_beatPacks 39 = .ok (.aload_n 0, 1) := by decide +kernel
theorem dX6_beatPacks_40 : decode cX6_beatPacks 40 = .ok (.invokevirtual 49, 3) := by decide +kernel
theorem dX6_beatPacks_43 : decode cX6_beatPacks 43 = .ok (.iinc 4 1, 3) := by decide +kernel
theorem dX6_beatPacks_46 : decode cX6_beatPacks 46 = .ok (.goto (-21), 3) := by decide +kernel
theorem dX6_beatPacks_49 : decode cX6_beatPacks 49 = .ok (.iload 4, 2) := by decide +kernel
theorem dX6_beatPacks_51 : decode cX6_beatPacks 51 = .ok (.ireturn, 1) := by decide +kernel
def rmX6_beatPacks : Room := { frames := 4, cells := 0, slots := 0, locals := 90 }
def fX6_beatPacks_25  : Nat → Nat → Int32 → Nat → Int32 → PH → Option (Int32 × PH)
  | 0, _, _, _, _, _ => none
  | n + 1, al0, xl2, al3, xl4, h0 =>
    if xl2 ≤ xl4 then (some (xl4, h0)) else
    bn (chk 6 al0 h0) fun _ => bn2 (fX6_chooseFor al0 al3 h0) fun x7 h6 =>
    if x7 = 0 then (some (xl4, h6)) else
    bn (chk 6 al0 h6) fun _ => bn2 (fX6_ageChosen al0 h6) fun _ h8 =>
    (fX6_beatPacks_25 n) al0 xl2 al3 (xl4 + 1) h8
set_option maxHeartbeats 4000000 in
set_option maxRecDepth 100000 in
theorem vfX6_beatPacks_25 {p : Program} {l : Launch} {e : Env} {s : State} {m : MethodId} {args : Array Value} {below : List Frame} {meth : Method} {c : Code} {G : GX} (C : Cx p s m args meth c G cX6_beatPacks 5 RX6) (hr : meth.sig.returnType = (some .int)) : ∀ (n : Nat) (al0 : Nat) (xl2 : Int32) (al3 : Nat) (xl4 : Int32) (h0 : PH), J p l e rmX6_beatPacks s m args below meth c G 5 (qM below args s rvI G 0 0) 0 0 h0 25 [(0, .ref al0), (2, .int xl2), (3, .ref al3), (4, .int xl4)] [] (fX6_beatPacks_25  n al0 xl2 al3 xl4 h0) := by
  intro n
  induction n with
  | zero => exact fun al0 xl2 al3 xl4 h0 => J_none C
  | succ n ih =>
    intro al0 xl2 al3 xl4 h0
    unfold fX6_beatPacks_25
    refine J_iload (pc := 25) C dX6_beatPacks_25 3 rfl ?_
    refine J_iload_n (pc := 27) C dX6_beatPacks_27 rfl 1 rfl ?_
    refine J_icmp_ge (pc := 28) (tgt := 49) C dX6_beatPacks_28 (by decide) ?_ ?_
    · refine J_iload (pc := 49) C dX6_beatPacks_49 3 rfl ?_
      exact J_iret (pc := 51) C hr dX6_beatPacks_51
    · refine J_aload_n (pc := 31) C dX6_beatPacks_31 rfl 0 rfl ?_
      refine J_aload_n (pc := 32) C dX6_beatPacks_32 rfl 2 rfl ?_
      refine J_callVI (pc := 33) (As := [.ref al3]) (rest := []) C (fun z hz => mX6_chooseFor al0 al3 h0 z hz) mwX6_chooseFor csX6_chooseFor mlX6_45 inX6_chooseFor rfl dX6_beatPacks_33 (by decide) rfl (Nat.le_of_ble_eq_true rfl) (by decide) (fun x7 h6 => ?_)
      refine J_if_eq (pc := 36) (tgt := 49) C dX6_beatPacks_36 (by decide) ?_ ?_
      · refine J_iload (pc := 49) C dX6_beatPacks_49 3 rfl ?_
        exact J_iret (pc := 51) C hr dX6_beatPacks_51
      · refine J_aload_n (pc := 39) C dX6_beatPacks_39 rfl 0 rfl ?_
        refine J_callVU (pc := 40) (As := []) (rest := []) C (fun z hz => mX6_ageChosen al0 h6 z hz) mwX6_ageChosen csX6_ageChosen mlX6_49 inX6_ageChosen rfl dX6_beatPacks_40 (by decide) rfl (Nat.le_of_ble_eq_true rfl) (by decide) (fun _ h8 => ?_)
        refine J_iinc (pc := 43) (v := (xl4 + 1)) (lv1 := [(4, .int (xl4 + 1)), (0, .ref al0), (2, .int xl2), (3, .ref al3)]) C dX6_beatPacks_43 3 rfl rfl (by decide) rfl ?_
        refine J_goto (pc := 46) (tgt := 25) C dX6_beatPacks_46 (by decide) ?_
        refine J_sub [1, 2, 3, 0] rfl ?_
        exact ih al0 xl2 al3 (xl4 + 1) h8
def fX6_beatPacks  (a0 : Nat) (xp0 : Int32) (xp1 : Int32) (h0 : PH) : Option (Int32 × PH) :=
    bn (chk 6 a0 h0) fun _ => bn2 (fX6_needOf a0 xp0 h0) fun o2 h1 =>
    onul o2 (some ((-1 : Int32), h1)) fun a3 =>
    bn2 (fX9_within xp1 (0 : Int32) (20 : Int32) h1) fun x5 h4 =>
    if x5 = 0 then (some ((-1 : Int32), h4)) else
    fX6_beatPacks_25  FU a0 xp1 a3 (0 : Int32) h4
set_option maxHeartbeats 4000000 in
set_option maxRecDepth 100000 in
theorem vfX6_beatPacks {p : Program} {l : Launch} {e : Env} {s : State} {m : MethodId} {args : Array Value} {below : List Frame} {meth : Method} {c : Code} {G : GX} (C : Cx p s m args meth c G cX6_beatPacks 5 RX6) (hr : meth.sig.returnType = (some .int)) (a0 : Nat) (xp0 : Int32) (xp1 : Int32) (h0 : PH) : J p l e rmX6_beatPacks s m args below meth c G 5 (qM below args s rvI G 0 0) 0 0 h0 0 [(0, .ref a0), (1, .int xp0), (2, .int xp1)] [] (fX6_beatPacks  a0 xp0 xp1 h0) := by
  unfold fX6_beatPacks
  refine J_aload_n (pc := 0) C dX6_beatPacks_0 rfl 0 rfl ?_
  refine J_iload_n (pc := 1) C dX6_beatPacks_1 rfl 1 rfl ?_
  refine J_callVR (pc := 2) (As := [.int xp0]) (rest := []) C (fun z hz => mX6_needOf a0 xp0 h0 z hz) mwX6_needOf csX6_needOf mlX6_41 inX6_needOf rfl dX6_beatPacks_2 (by decide) rfl (Nat.le_of_ble_eq_true rfl) (by decide) (fun o2 h1 => ?_)
  refine J_astore_nQ (pc := 5) (x := o2) (lv1 := [(3, va_rf o2), (0, .ref a0), (1, .int xp0), (2, .int xp1)]) C dX6_beatPacks_5 rfl (by decide) rfl ?_
  refine J_aload_nQ (pc := 6) (x := o2) C dX6_beatPacks_6 rfl 0 rfl ?_
  refine J_onul (fun hx => ?_) (fun a3 hx => ?_)
  · subst hx
    refine J_ifnullN (pc := 7) (tgt := 20) C dX6_beatPacks_7 (by decide) ?_
    refine J_iconst (pc := 20) (v := -1) C dX6_beatPacks_20 (by decide) ?_
    exact J_iret (pc := 21) C hr dX6_beatPacks_21
  · subst hx
    refine J_ifnull (pc := 7) C dX6_beatPacks_7 ?_
    refine J_iload_n (pc := 10) C dX6_beatPacks_10 rfl 3 rfl ?_
    refine J_iconst (pc := 11) (v := 0) C dX6_beatPacks_11 (by decide) ?_
    refine J_bipush (pc := 12) (v := 20) C dX6_beatPacks_12 (by decide) ?_
    refine J_callSNI (pc := 14) (As := [.int xp1, .int (0 : Int32), .int (20 : Int32)]) (rest := []) C (fun z hz => mX9_within xp1 (0 : Int32) (20 : Int32) h1 z hz) mwX9_within "GoldLeaves" (by decide +kernel) stX9_within rfl dX6_beatPacks_14 (by decide) rfl (Nat.le_of_ble_eq_true rfl) (by decide) (fun x5 h4 => ?_)
    refine J_if_ne (pc := 17) (tgt := 22) C dX6_beatPacks_17 (by decide) ?_ ?_
    · refine J_iconst (pc := 22) (v := 0) C dX6_beatPacks_22 (by decide) ?_
      refine J_istore (pc := 23) (lv1 := [(4, .int (0 : Int32)), (3, .ref a3), (0, .ref a0), (1, .int xp0), (2, .int xp1)]) C dX6_beatPacks_23 (by decide) rfl ?_
      refine J_sub [2, 4, 1, 0] rfl ?_
      exact vfX6_beatPacks_25 C hr  FU a0 xp1 a3 (0 : Int32) h4
    · refine J_iconst (pc := 20) (v := -1) C dX6_beatPacks_20 (by decide) ?_
      exact J_iret (pc := 21) C hr dX6_beatPacks_21
theorem mX6_beatPacks {l : Launch} {G : GX} (a0 : Nat) (xp0 : Int32) (xp1 : Int32) (h0 : PH) : ∀ z, fX6_beatPacks a0 xp0 xp1 h0 = some z → MC l G yX6_beatPacks cX6_beatPacks 5 (some .int) rmX6_beatPacks [.ref a0, .int xp0, .int xp1] h0 (rvI z.1) z.2 :=
  Met_J (own := RX6) (by decide) rfl (Nat.le_of_ble_eq_true rfl) (fun p e s m args below meth c C hr hn => vfX6_beatPacks C hr a0 xp0 xp1 h0)

theorem dX9_beat_0 : decode cX9_beat 0 = .ok (.aload_n 0, 1) := by decide +kernel
theorem dX9_beat_1 : decode cX9_beat 1 = .ok (.aload_n 0, 1) := by decide +kernel
theorem dX9_beat_2 : decode cX9_beat 2 = .ok (.getfield 38, 3) := by decide +kernel
theorem dX9_beat_5 : decode cX9_beat 5 = .ok (.iload_n 1, 1) := by decide +kernel
theorem dX9_beat_6 : decode cX9_beat 6 = .ok (.iload_n 2, 1) := by decide +kernel
theorem dX9_beat_7 : decode cX9_beat 7 = .ok (.invokevirtual 167, 3) := by decide +kernel
theorem dX9_beat_10 : decode cX9_beat 10 = .ok (.invokevirtual 70, 3) := by decide +kernel
theorem dX9_beat_13 : decode cX9_beat 13 = .ok (.ireturn, 1) := by decide +kernel
def rmX9_beat : Room := { frames := 5, cells := 0, slots := 0, locals := 114 }
def fX9_beat  (a0 : Nat) (xp0 : Int32) (xp1 : Int32) (h0 : PH) : Option (Int32 × PH) :=
    bn (rdR 9 4 a0 h0) fun a1 =>
    bn (chk 6 a1 h0) fun _ => bn2 (fX6_beatPacks a1 xp0 xp1 h0) fun x3 h2 =>
    bn (chk 9 a0 h2) fun _ => bn2 (fX9_noted a0 x3 h2) fun x5 h4 =>
    some (x5, h4)
set_option maxHeartbeats 4000000 in
set_option maxRecDepth 100000 in
theorem vfX9_beat {p : Program} {l : Launch} {e : Env} {s : State} {m : MethodId} {args : Array Value} {below : List Frame} {meth : Method} {c : Code} {G : GX} (C : Cx p s m args meth c G cX9_beat 3 RX9) (hr : meth.sig.returnType = (some .int)) (a0 : Nat) (xp0 : Int32) (xp1 : Int32) (h0 : PH) : J p l e rmX9_beat s m args below meth c G 3 (qM below args s rvI G 0 0) 0 0 h0 0 [(0, .ref a0), (1, .int xp0), (2, .int xp1)] [] (fX9_beat  a0 xp0 xp1 h0) := by
  unfold fX9_beat
  refine J_aload_n (pc := 0) C dX9_beat_0 rfl 0 rfl ?_
  refine J_aload_n (pc := 1) C dX9_beat_1 rfl 0 rfl ?_
  refine J_getR (pc := 2) C flX9_38 dX9_beat_2 (fun a1 => ?_)
  refine J_iload_n (pc := 5) C dX9_beat_5 rfl 1 rfl ?_
  refine J_iload_n (pc := 6) C dX9_beat_6 rfl 2 rfl ?_
  refine J_callVI (pc := 7) (As := [.int xp0, .int xp1]) (rest := [.ref a0]) C (fun z hz => mX6_beatPacks a1 xp0 xp1 h0 z hz) mwX6_beatPacks csX6_beatPacks mlX9_167 inX6_beatPacks rfl dX9_beat_7 (by decide) rfl (Nat.le_of_ble_eq_true rfl) (by decide) (fun x3 h2 => ?_)
  refine J_callVI (pc := 10) (As := [.int x3]) (rest := []) C (fun z hz => mX9_noted a0 x3 h2 z hz) mwX9_noted csX9_noted mlX9_70 inX9_noted rfl dX9_beat_10 (by decide) rfl (Nat.le_of_ble_eq_true rfl) (by decide) (fun x5 h4 => ?_)
  exact J_iret (pc := 13) C hr dX9_beat_13
theorem mX9_beat {l : Launch} {G : GX} (a0 : Nat) (xp0 : Int32) (xp1 : Int32) (h0 : PH) : ∀ z, fX9_beat a0 xp0 xp1 h0 = some z → MC l G yX9_beat cX9_beat 3 (some .int) rmX9_beat [.ref a0, .int xp0, .int xp1] h0 (rvI z.1) z.2 :=
  Met_J (own := RX9) (by decide) rfl (Nat.le_of_ble_eq_true rfl) (fun p e s m args below meth c C hr hn => vfX9_beat C hr a0 xp0 xp1 h0)

