theorem dJ0_charAt_5068e_0 : decode cJ0_charAt_5068e 0 = .ok (.aload_n 0, 1) := by decide +kernel
theorem dJ0_charAt_5068e_1 : decode cJ0_charAt_5068e 1 = .ok (.invokevirtual 492, 3) := by decide +kernel
theorem dJ0_charAt_5068e_4 : decode cJ0_charAt_5068e 4 = .ok (.ifCond .eq 12, 3) := by decide +kernel
theorem dJ0_charAt_5068e_7 : decode cJ0_charAt_5068e 7 = .ok (.aload_n 0, 1) := by decide +kernel
theorem dJ0_charAt_5068e_8 : decode cJ0_charAt_5068e 8 = .ok (.getfield 9, 3) := by decide +kernel
theorem dJ0_charAt_5068e_11 : decode cJ0_charAt_5068e 11 = .ok (.iload_n 1, 1) := by decide +kernel
theorem dJ0_charAt_5068e_12 : decode cJ0_charAt_5068e 12 = .ok (.invokestatic 495, 3) := by decide +kernel
theorem dJ0_charAt_5068e_15 : decode cJ0_charAt_5068e 15 = .ok (.ireturn, 1) := by decide +kernel
theorem dJ0_charAt_5068e_16 : decode cJ0_charAt_5068e 16 = .ok (.aload_n 0, 1) := by decide +kernel
theorem dJ0_charAt_5068e_17 : decode cJ0_charAt_5068e 17 = .ok (.getfield 9, 3) := by decide +kernel
theorem dJ0_charAt_5068e_20 : decode cJ0_charAt_5068e 20 = .ok (.iload_n 1, 1) := by decide +kernel
theorem dJ0_charAt_5068e_21 : decode cJ0_charAt_5068e 21 = .ok (.invokestatic 498, 3) := by decide +kernel
def rmJ0_charAt_5068e : Room := { frames := 3, cells := 0, slots := 0, locals := 64 }
def fJ0_charAt_5068e  (w0 : Nat) (xp0 : Int32) (h0 : PH) : Option (Int32 × PH) :=
    bn (schk w0) fun _ => bn2 (fJ0_isLatin1_aae02 w0 h0) fun x2 h1 =>
    if x2 = 0 then (bn (schk w0) fun _ =>
    none) else
    bn (schk w0) fun _ =>
    bn2 (fJ1_charAt_3b067 w0 xp0 h1) fun x4 h3 =>
    if (x4.toUInt32 % 65536).toInt32 = x4 then some (x4, h3) else none
set_option maxHeartbeats 4000000 in
set_option maxRecDepth 100000 in
theorem vfJ0_charAt_5068e {p : Program} {l : Launch} {e : Env} {s : State} {m : MethodId} {args : Array Value} {below : List Frame} {meth : Method} {c : Code} {G : GX} (C : Cx p s m args meth c G cJ0_charAt_5068e 2 RJ0) (hr : meth.sig.returnType = (some .char)) (w0 : Nat) (xp0 : Int32) (h0 : PH) : J p l e rmJ0_charAt_5068e s m args below meth c G 2 (qM below args s rvI G 0 0) 0 0 h0 0 [(0, .ref (G.2.2.2.1 w0)), (1, .int xp0)] [] (fJ0_charAt_5068e  w0 xp0 h0) := by
  unfold fJ0_charAt_5068e
  refine J_aload_n (pc := 0) C dJ0_charAt_5068e_0 rfl 0 rfl ?_
  refine J_callVS (pc := 1) (As := []) (rest := []) C (fun z hz => mJ0_isLatin1_aae02 w0 h0 z hz) mwJ0_isLatin1_aae02 rfl seJ0_isLatin1_aae02 mlJ0_492 inJ0_isLatin1_aae02 rfl dJ0_charAt_5068e_1 (by decide) rfl (Nat.le_of_ble_eq_true rfl) (by decide) (fun x2 h1 => ?_)
  refine J_if_eq (pc := 4) (tgt := 16) C dJ0_charAt_5068e_4 (by decide) ?_ ?_
  · refine J_aload_n (pc := 16) C dJ0_charAt_5068e_16 rfl 0 rfl ?_
    refine J_sgetV (pc := 17) C dJ0_charAt_5068e_17 ?_
    refine J_iload_n (pc := 20) C dJ0_charAt_5068e_20 rfl 1 rfl ?_
    exact J_none C
  · refine J_aload_n (pc := 7) C dJ0_charAt_5068e_7 rfl 0 rfl ?_
    refine J_sgetV (pc := 8) C dJ0_charAt_5068e_8 ?_
    refine J_iload_n (pc := 11) C dJ0_charAt_5068e_11 rfl 1 rfl ?_
    refine J_callSI (pc := 12) (As := [.ref (G.2.2.2.2 w0), .int xp0]) (rest := []) C (fun z hz => mJ1_charAt_3b067 w0 xp0 h1 z hz) mwJ1_charAt_3b067 mlJ0_495 stJ1_charAt_3b067 rfl dJ0_charAt_5068e_12 (by decide) rfl (Nat.le_of_ble_eq_true rfl) (by decide) (fun x4 h3 => ?_)
    exact J_cretC (pc := 15) C hr dJ0_charAt_5068e_15
theorem mJ0_charAt_5068e {l : Launch} {G : GX} (w0 : Nat) (xp0 : Int32) (h0 : PH) : ∀ z, fJ0_charAt_5068e w0 xp0 h0 = some z → MC l G yJ0_charAt_5068e cJ0_charAt_5068e 2 (some .char) rmJ0_charAt_5068e [.ref (G.2.2.2.1 w0), .int xp0] h0 (rvI z.1) z.2 :=
  Met_J (own := RJ0) (by decide) rfl (Nat.le_of_ble_eq_true rfl) (fun p e s m args below meth c C hr hn => vfJ0_charAt_5068e C hr w0 xp0 h0)

theorem dX8_isWord_0 : decode cX8_isWord 0 = .ok (.aload_n 0, 1) := by decide +kernel
theorem dX8_isWord_1 : decode cX8_isWord 1 = .ok (.getfield 19, 3) := by decide +kernel
theorem dX8_isWord_4 : decode cX8_isWord 4 = .ok (.iconst 1, 1) := by decide +kernel
theorem dX8_isWord_5 : decode cX8_isWord 5 = .ok (.if_icmp .ne 19, 3) := by decide +kernel
theorem dX8_isWord_8 : decode cX8_isWord 8 = .ok (.aload_n 0, 1) := by decide +kernel
theorem dX8_isWord_9 : decode cX8_isWord 9 = .ok (.getfield 25, 3) := by decide +kernel
theorem dX8_isWord_12 : decode cX8_isWord 12 = .ok (.aload_n 0, 1) := by decide +kernel
theorem dX8_isWord_13 : decode cX8_isWord 13 = .ok (.getfield 22, 3) := by decide +kernel
theorem dX8_isWord_16 : decode cX8_isWord 16 = .ok (.isub, 1) := by decide +kernel
theorem dX8_isWord_17 : decode cX8_isWord 17 = .ok (.aload_n 1, 1) := by decide +kernel
theorem dX8_isWord_18 : decode cX8_isWord 18 = .ok (.invokevirtual 39, 3) := by decide +kernel
theorem dX8_isWord_21 : decode cX8_isWord 21 = .ok (.if_icmp .eq 5, 3) := by decide +kernel
theorem dX8_isWord_24 : decode cX8_isWord 24 = .ok (.iconst 0, 1) := by decide +kernel
theorem dX8_isWord_25 : decode cX8_isWord 25 = .ok (.ireturn, 1) := by decide +kernel
theorem dX8_isWord_26 : decode cX8_isWord 26 = .ok (.iconst 0, 1) := by decide +kernel
theorem dX8_isWord_27 : decode cX8_isWord 27 = .ok (.istore_n 2, 1) := by decide +kernel
theorem dX8_isWord_28 : decode cX8_isWord 28 = .ok (.iload_n 2, 1) := by decide +kernel
theorem dX8_isWord_29 : decode cX8_isWord 29 = .ok (.aload_n 1, 1) := by decide +kernel
theorem dX8_isWord_30 : decode cX8_isWord 30 = .ok (.invokevirtual 39, 3) := by decide +kernel
theorem dX8_isWord_33 : decode cX8_isWord 33 = .ok (.if_icmp .ge 30, 3) := by decide +kernel
theorem dX8_isWord_36 : decode cX8_isWord 36 = .ok (.aload_n 0, 1) := by decide +kernel
theorem dX8_isWord_37 : decode cX8_isWord 37 = .ok (.getfield 9, 3) := by decide +kernel
theorem dX8_isWord_40 : decode cX8_isWord 40 = .ok (.aload_n 0, 1) := by decide +kernel
theorem dX8_isWord_41 : decode cX8_isWord 41 = .ok (.getfield 22, 3) := by decide +kernel
theorem dX8_isWord_44 : decode cX8_isWord 44 = .ok (.iload_n 2, 1) := by decide +kernel
theorem dX8_isWord_45 : decode cX8_isWord 45 = .ok (.iadd, 1) := by decide +kernel
theorem dX8_isWord_46 : decode cX8_isWord 46 = .ok (.iaload, 1) := by decide +kernel
theorem dX8_isWord_47 : decode cX8_isWord 47 = .ok (.aload_n 1, 1) := by decide +kernel
theorem dX8_isWord_48 : decode cX8_isWord 48 = .ok (.iload_n 2, 1) := by decide +kernel
theorem dX8_isWord_49 : decode cX8_isWord 49 = .ok (.invokevirtual 44, 3) := by decide +kernel
theorem dX8_isWord_52 : decode cX8_isWord 52 = .ok (.if_icmp .eq 5, 3) := by decide +kernel
theorem dX8_isWord_55 : decode cX8_isWord 55 = .ok (.iconst 0, 1) := by decide +kernel
theorem dX8_isWord_56 : decode cX8_isWord 56 = .ok (.ireturn, 1) := by decide +kernel
theorem dX8_isWord_57 : decode cX8_isWord 57 = .ok (.iinc 2 1, 3) := by decide +kernel
theorem dX8_isWord_60 : decode cX8_isWord 60 = .ok (.goto (-32), 3) := by decide +kernel
theorem dX8_isWord_63 : decode cX8_isWord 63 = .ok (.iconst 1, 1) := by decide +kernel
theorem dX8_isWord_64 : decode cX8_isWord 64 = .ok (.ireturn, 1) := by decide +kernel
def rmX8_isWord : Room := { frames := 4, cells := 0, slots := 0, locals := 85 }
def fX8_isWord_28  : Nat → Nat → Nat → Int32 → PH → Option (Int32 × PH)
  | 0, _, _, _, _ => none
  | n + 1, al0, wl1, xl2, h0 =>
    bn (schk wl1) fun _ => bn2 (fJ0_length_8abf5 wl1 h0) fun x7 h6 =>
    if x7 ≤ xl2 then (some ((1 : Int32), h6)) else
    bn (rdR 8 0 al0 h6) fun a8 =>
    bn (rdI 8 3 al0 h6) fun x9 =>
    bn (aldI 0 a8 (x9 + xl2) h6) fun x10 =>
    bn (schk wl1) fun _ => bn2 (fJ0_charAt_5068e wl1 xl2 h6) fun x12 h11 =>
    if x10 = x12 then ((fX8_isWord_28 n) al0 wl1 (xl2 + 1) h11) else
    some ((0 : Int32), h11)
set_option maxHeartbeats 4000000 in
set_option maxRecDepth 100000 in
theorem vfX8_isWord_28 {p : Program} {l : Launch} {e : Env} {s : State} {m : MethodId} {args : Array Value} {below : List Frame} {meth : Method} {c : Code} {G : GX} (C : Cx p s m args meth c G cX8_isWord 3 RX8) (hr : meth.sig.returnType = (some .boolean)) : ∀ (n : Nat) (al0 : Nat) (wl1 : Nat) (xl2 : Int32) (h0 : PH), J p l e rmX8_isWord s m args below meth c G 3 (qM below args s rvI G 0 0) 0 0 h0 28 [(0, .ref al0), (1, .ref (G.2.2.2.1 wl1)), (2, .int xl2)] [] (fX8_isWord_28  n al0 wl1 xl2 h0) := by
  intro n
  induction n with
  | zero => exact fun al0 wl1 xl2 h0 => J_none C
  | succ n ih =>
    intro al0 wl1 xl2 h0
    unfold fX8_isWord_28
    refine J_iload_n (pc := 28) C dX8_isWord_28 rfl 2 rfl ?_
    refine J_aload_n (pc := 29) C dX8_isWord_29 rfl 1 rfl ?_
    refine J_callVS (pc := 30) (As := []) (rest := [.int xl2]) C (fun z hz => mJ0_length_8abf5 wl1 h0 z hz) mwJ0_length_8abf5 rfl seJ0_length_8abf5 mlX8_39 inJ0_length_8abf5 rfl dX8_isWord_30 (by decide) rfl (Nat.le_of_ble_eq_true rfl) (by decide) (fun x7 h6 => ?_)
    refine J_icmp_ge (pc := 33) (tgt := 63) C dX8_isWord_33 (by decide) ?_ ?_
    · refine J_iconst (pc := 63) (v := 1) C dX8_isWord_63 (by decide) ?_
      exact J_zret (pc := 64) C hr rfl dX8_isWord_64
    · refine J_aload_n (pc := 36) C dX8_isWord_36 rfl 0 rfl ?_
      refine J_getR (pc := 37) C flX8_9 dX8_isWord_37 (fun a8 => ?_)
      refine J_aload_n (pc := 40) C dX8_isWord_40 rfl 0 rfl ?_
      refine J_getI (pc := 41) C flX8_22 dX8_isWord_41 (fun x9 => ?_)
      refine J_iload_n (pc := 44) C dX8_isWord_44 rfl 2 rfl ?_
      refine J_iadd (pc := 45) C dX8_isWord_45 ?_
      refine J_iald (pc := 46) C dX8_isWord_46 (fun x10 => ?_)
      refine J_aload_n (pc := 47) C dX8_isWord_47 rfl 1 rfl ?_
      refine J_iload_n (pc := 48) C dX8_isWord_48 rfl 2 rfl ?_
      refine J_callVS (pc := 49) (As := [.int xl2]) (rest := [.int x10]) C (fun z hz => mJ0_charAt_5068e wl1 xl2 h6 z hz) mwJ0_charAt_5068e rfl seJ0_charAt_5068e mlX8_44 inJ0_charAt_5068e rfl dX8_isWord_49 (by decide) rfl (Nat.le_of_ble_eq_true rfl) (by decide) (fun x12 h11 => ?_)
      refine J_icmp_eq (pc := 52) (tgt := 57) C dX8_isWord_52 (by decide) ?_ ?_
      · refine J_iinc (pc := 57) (v := (xl2 + 1)) (lv1 := [(2, .int (xl2 + 1)), (0, .ref al0), (1, .ref (G.2.2.2.1 wl1))]) C dX8_isWord_57 2 rfl rfl (by decide) rfl ?_
        refine J_goto (pc := 60) (tgt := 28) C dX8_isWord_60 (by decide) ?_
        refine J_sub [1, 2, 0] rfl ?_
        exact ih al0 wl1 (xl2 + 1) h11
      · refine J_iconst (pc := 55) (v := 0) C dX8_isWord_55 (by decide) ?_
        exact J_zret (pc := 56) C hr rfl dX8_isWord_56
def fX8_isWord  (a0 : Nat) (wp0 : Nat) (h0 : PH) : Option (Int32 × PH) :=
    bn (rdI 8 2 a0 h0) fun x1 =>
    if x1 = (1 : Int32) then (bn (rdI 8 4 a0 h0) fun x2 =>
    bn (rdI 8 3 a0 h0) fun x3 =>
    bn (schk wp0) fun _ => bn2 (fJ0_length_8abf5 wp0 h0) fun x5 h4 =>
    if (x2 - x3) = x5 then (fX8_isWord_28  FU a0 wp0 (0 : Int32) h4) else
    some ((0 : Int32), h4)) else
    some ((0 : Int32), h0)
set_option maxHeartbeats 4000000 in
set_option maxRecDepth 100000 in
theorem vfX8_isWord {p : Program} {l : Launch} {e : Env} {s : State} {m : MethodId} {args : Array Value} {below : List Frame} {meth : Method} {c : Code} {G : GX} (C : Cx p s m args meth c G cX8_isWord 3 RX8) (hr : meth.sig.returnType = (some .boolean)) (a0 : Nat) (wp0 : Nat) (h0 : PH) : J p l e rmX8_isWord s m args below meth c G 3 (qM below args s rvI G 0 0) 0 0 h0 0 [(0, .ref a0), (1, .ref (G.2.2.2.1 wp0))] [] (fX8_isWord  a0 wp0 h0) := by
  unfold fX8_isWord
  refine J_aload_n (pc := 0) C dX8_isWord_0 rfl 0 rfl ?_
  refine J_getI (pc := 1) C flX8_19 dX8_isWord_1 (fun x1 => ?_)
  refine J_iconst (pc := 4) (v := 1) C dX8_isWord_4 (by decide) ?_
  refine J_icmp_ne (pc := 5) (tgt := 24) C dX8_isWord_5 (by decide) ?_ ?_
  · refine J_iconst (pc := 24) (v := 0) C dX8_isWord_24 (by decide) ?_
    exact J_zret (pc := 25) C hr rfl dX8_isWord_25
  · refine J_aload_n (pc := 8) C dX8_isWord_8 rfl 0 rfl ?_
    refine J_getI (pc := 9) C flX8_25 dX8_isWord_9 (fun x2 => ?_)
    refine J_aload_n (pc := 12) C dX8_isWord_12 rfl 0 rfl ?_
    refine J_getI (pc := 13) C flX8_22 dX8_isWord_13 (fun x3 => ?_)
    refine J_isub (pc := 16) C dX8_isWord_16 ?_
    refine J_aload_n (pc := 17) C dX8_isWord_17 rfl 1 rfl ?_
    refine J_callVS (pc := 18) (As := []) (rest := [.int (x2 - x3)]) C (fun z hz => mJ0_length_8abf5 wp0 h0 z hz) mwJ0_length_8abf5 rfl seJ0_length_8abf5 mlX8_39 inJ0_length_8abf5 rfl dX8_isWord_18 (by decide) rfl (Nat.le_of_ble_eq_true rfl) (by decide) (fun x5 h4 => ?_)
    refine J_icmp_eq (pc := 21) (tgt := 26) C dX8_isWord_21 (by decide) ?_ ?_
    · refine J_iconst (pc := 26) (v := 0) C dX8_isWord_26 (by decide) ?_
      refine J_istore_n (pc := 27) (lv1 := [(2, .int (0 : Int32)), (0, .ref a0), (1, .ref (G.2.2.2.1 wp0))]) C dX8_isWord_27 rfl (by decide) rfl ?_
      refine J_sub [1, 2, 0] rfl ?_
      exact vfX8_isWord_28 C hr  FU a0 wp0 (0 : Int32) h4
    · refine J_iconst (pc := 24) (v := 0) C dX8_isWord_24 (by decide) ?_
      exact J_zret (pc := 25) C hr rfl dX8_isWord_25
theorem mX8_isWord {l : Launch} {G : GX} (a0 : Nat) (wp0 : Nat) (h0 : PH) : ∀ z, fX8_isWord a0 wp0 h0 = some z → MC l G yX8_isWord cX8_isWord 3 (some .boolean) rmX8_isWord [.ref a0, .ref (G.2.2.2.1 wp0)] h0 (rvI z.1) z.2 :=
  Met_J (own := RX8) (by decide) rfl (Nat.le_of_ble_eq_true rfl) (fun p e s m args below meth c C hr hn => vfX8_isWord C hr a0 wp0 h0)

theorem dX1_metalTold_0 : decode cX1_metalTold 0 = .ok (.aload_n 0, 1) := by decide +kernel
theorem dX1_metalTold_1 : decode cX1_metalTold 1 = .ok (.getfield 12, 3) := by decide +kernel
theorem dX1_metalTold_4 : decode cX1_metalTold 4 = .ok (.ldc 92, 2) := by decide +kernel
theorem dX1_metalTold_6 : decode cX1_metalTold 6 = .ok (.invokevirtual 84, 3) := by decide +kernel
theorem dX1_metalTold_9 : decode cX1_metalTold 9 = .ok (.ifCond .eq 5, 3) := by decide +kernel
theorem dX1_metalTold_12 : decode cX1_metalTold 12 = .ok (.iconst 0, 1) := by decide +kernel
theorem dX1_metalTold_13 : decode cX1_metalTold 13 = .ok (.ireturn, 1) := by decide +kernel
theorem dX1_metalTold_14 : decode cX1_metalTold 14 = .ok (.aload_n 0, 1) := by decide +kernel
theorem dX1_metalTold_15 : decode cX1_metalTold 15 = .ok (.getfield 12, 3) := by decide +kernel
theorem dX1_metalTold_18 : decode cX1_metalTold 18 = .ok (.ldc 94, 2) := by decide +kernel
theorem dX1_metalTold_20 : decode cX1_metalTold 20 = .ok (.invokevirtual 84, 3) := by decide +kernel
theorem dX1_metalTold_23 : decode cX1_metalTold 23 = .ok (.ifCond .eq 5, 3) := by decide +kernel
theorem dX1_metalTold_26 : decode cX1_metalTold 26 = .ok (.iconst 1, 1) := by decide +kernel
theorem dX1_metalTold_27 : decode cX1_metalTold 27 = .ok (.ireturn, 1) := by decide +kernel
theorem dX1_metalTold_28 : decode cX1_metalTold 28 = .ok (.aload_n 0, 1) := by decide +kernel
theorem dX1_metalTold_29 : decode cX1_metalTold 29 = .ok (.getfield 12, 3) := by decide +kernel
theorem dX1_metalTold_32 : decode cX1_metalTold 32 = .ok (.ldc 96, 2) := by decide +kernel
theorem dX1_metalTold_34 : decode cX1_metalTold 34 = .ok (.invokevirtual 84, 3) := by decide +kernel
theorem dX1_metalTold_37 : decode cX1_metalTold 37 = .ok (.ifCond .eq 7, 3) := by decide +kernel
theorem dX1_metalTold_40 : decode cX1_metalTold 40 = .ok (.iconst 2, 1) := by decide +kernel
theorem dX1_metalTold_41 : decode cX1_metalTold 41 = .ok (.goto 4, 3) := by decide +kernel
theorem dX1_metalTold_44 : decode cX1_metalTold 44 = .ok (.iconst (-1), 1) := by decide +kernel
theorem dX1_metalTold_45 : decode cX1_metalTold 45 = .ok (.ireturn, 1) := by decide +kernel
def rmX1_metalTold : Room := { frames := 5, cells := 0, slots := 0, locals := 107 }
def fX1_metalTold  (a0 : Nat) (h0 : PH) : Option (Int32 × PH) :=
    bn (rdR 1 0 a0 h0) fun a1 =>
    bn (chk 8 a1 h0) fun _ => bn2 (fX8_isWord a1 0 h0) fun x3 h2 =>
    if x3 = 0 then (bn (rdR 1 0 a0 h2) fun a4 =>
    bn (chk 8 a4 h2) fun _ => bn2 (fX8_isWord a4 1 h2) fun x6 h5 =>
    if x6 = 0 then (bn (rdR 1 0 a0 h5) fun a7 =>
    bn (chk 8 a7 h5) fun _ => bn2 (fX8_isWord a7 2 h5) fun x9 h8 =>
    if x9 = 0 then (some ((-1 : Int32), h8)) else
    some ((2 : Int32), h8)) else
    some ((1 : Int32), h5)) else
    some ((0 : Int32), h2)
set_option maxHeartbeats 4000000 in
set_option maxRecDepth 100000 in
theorem vfX1_metalTold {p : Program} {l : Launch} {e : Env} {s : State} {m : MethodId} {args : Array Value} {below : List Frame} {meth : Method} {c : Code} {G : GX} (C : Cx p s m args meth c G cX1_metalTold 1 RX1) (hr : meth.sig.returnType = (some .int)) (a0 : Nat) (h0 : PH) : J p l e rmX1_metalTold s m args below meth c G 1 (qM below args s rvI G 0 0) 0 0 h0 0 [(0, .ref a0)] [] (fX1_metalTold  a0 h0) := by
  unfold fX1_metalTold
  refine J_aload_n (pc := 0) C dX1_metalTold_0 rfl 0 rfl ?_
  refine J_getR (pc := 1) C flX1_12 dX1_metalTold_1 (fun a1 => ?_)
  refine J_ldcS0 (pc := 4) C dX1_metalTold_4 ?_
  refine J_callVI (pc := 6) (As := [.ref (G.2.2.2.1 0)]) (rest := []) C (fun z hz => mX8_isWord a1 0 h0 z hz) mwX8_isWord csX8_isWord mlX1_84 inX8_isWord rfl dX1_metalTold_6 (by decide) rfl (Nat.le_of_ble_eq_true rfl) (by decide) (fun x3 h2 => ?_)
  refine J_if_eq (pc := 9) (tgt := 14) C dX1_metalTold_9 (by decide) ?_ ?_
  · refine J_aload_n (pc := 14) C dX1_metalTold_14 rfl 0 rfl ?_
    refine J_getR (pc := 15) C flX1_12 dX1_metalTold_15 (fun a4 => ?_)
    refine J_ldcS1 (pc := 18) C dX1_metalTold_18 ?_
    refine J_callVI (pc := 20) (As := [.ref (G.2.2.2.1 1)]) (rest := []) C (fun z hz => mX8_isWord a4 1 h2 z hz) mwX8_isWord csX8_isWord mlX1_84 inX8_isWord rfl dX1_metalTold_20 (by decide) rfl (Nat.le_of_ble_eq_true rfl) (by decide) (fun x6 h5 => ?_)
    refine J_if_eq (pc := 23) (tgt := 28) C dX1_metalTold_23 (by decide) ?_ ?_
    · refine J_aload_n (pc := 28) C dX1_metalTold_28 rfl 0 rfl ?_
      refine J_getR (pc := 29) C flX1_12 dX1_metalTold_29 (fun a7 => ?_)
      refine J_ldcS2 (pc := 32) C dX1_metalTold_32 ?_
      refine J_callVI (pc := 34) (As := [.ref (G.2.2.2.1 2)]) (rest := []) C (fun z hz => mX8_isWord a7 2 h5 z hz) mwX8_isWord csX8_isWord mlX1_84 inX8_isWord rfl dX1_metalTold_34 (by decide) rfl (Nat.le_of_ble_eq_true rfl) (by decide) (fun x9 h8 => ?_)
      refine J_if_eq (pc := 37) (tgt := 44) C dX1_metalTold_37 (by decide) ?_ ?_
      · refine J_iconst (pc := 44) (v := -1) C dX1_metalTold_44 (by decide) ?_
        exact J_iret (pc := 45) C hr dX1_metalTold_45
      · refine J_iconst (pc := 40) (v := 2) C dX1_metalTold_40 (by decide) ?_
        refine J_goto (pc := 41) (tgt := 45) C dX1_metalTold_41 (by decide) ?_
        exact J_iret (pc := 45) C hr dX1_metalTold_45
    · refine J_iconst (pc := 26) (v := 1) C dX1_metalTold_26 (by decide) ?_
      exact J_iret (pc := 27) C hr dX1_metalTold_27
  · refine J_iconst (pc := 12) (v := 0) C dX1_metalTold_12 (by decide) ?_
    exact J_iret (pc := 13) C hr dX1_metalTold_13
theorem mX1_metalTold {l : Launch} {G : GX} (a0 : Nat) (h0 : PH) : ∀ z, fX1_metalTold a0 h0 = some z → MC l G yX1_metalTold cX1_metalTold 1 (some .int) rmX1_metalTold [.ref a0] h0 (rvI z.1) z.2 :=
  Met_J (own := RX1) (by decide) rfl (Nat.le_of_ble_eq_true rfl) (fun p e s m args below meth c C hr hn => vfX1_metalTold C hr a0 h0)

theorem dX4_hasRoomForTest_0 : decode cX4_hasRoomForTest 0 = .ok (.aload_n 0, 1) := by decide +kernel
theorem dX4_hasRoomForTest_1 : decode cX4_hasRoomForTest 1 = .ok (.getfield 15, 3) := by decide +kernel
theorem dX4_hasRoomForTest_4 : decode cX4_hasRoomForTest 4 = .ok (.bipush 30, 2) := by decide +kernel
theorem dX4_hasRoomForTest_6 : decode cX4_hasRoomForTest 6 = .ok (.if_icmp .ge 7, 3) := by decide +kernel
theorem dX4_hasRoomForTest_9 : decode cX4_hasRoomForTest 9 = .ok (.iconst 1, 1) := by decide +kernel
theorem dX4_hasRoomForTest_10 : decode cX4_hasRoomForTest 10 = .ok (.goto 4, 3) := by decide +kernel
theorem dX4_hasRoomForTest_13 : decode cX4_hasRoomForTest 13 = .ok (.iconst 0, 1) := by decide +kernel
theorem dX4_hasRoomForTest_14 : decode cX4_hasRoomForTest 14 = .ok (.ireturn, 1) := by decide +kernel
def rmX4_hasRoomForTest : Room := { frames := 0, cells := 0, slots := 0, locals := 0 }
def fX4_hasRoomForTest  (a0 : Nat) (h0 : PH) : Option (Int32 × PH) :=
    bn (rdI 4 1 a0 h0) fun x1 =>
    if (30 : Int32) ≤ x1 then (some ((0 : Int32), h0)) else
    some ((1 : Int32), h0)
set_option maxHeartbeats 4000000 in
set_option maxRecDepth 100000 in
theorem vfX4_hasRoomForTest {p : Program} {l : Launch} {e : Env} {s : State} {m : MethodId} {args : Array Value} {below : List Frame} {meth : Method} {c : Code} {G : GX} (C : Cx p s m args meth c G cX4_hasRoomForTest 1 RX4) (hr : meth.sig.returnType = (some .boolean)) (a0 : Nat) (h0 : PH) : J p l e rmX4_hasRoomForTest s m args below meth c G 1 (qM below args s rvI G 0 0) 0 0 h0 0 [(0, .ref a0)] [] (fX4_hasRoomForTest  a0 h0) := by
  unfold fX4_hasRoomForTest
  refine J_aload_n (pc := 0) C dX4_hasRoomForTest_0 rfl 0 rfl ?_
  refine J_getI (pc := 1) C flX4_15 dX4_hasRoomForTest_1 (fun x1 => ?_)
  refine J_bipush (pc := 4) (v := 30) C dX4_hasRoomForTest_4 (by decide) ?_
  refine J_icmp_ge (pc := 6) (tgt := 13) C dX4_hasRoomForTest_6 (by decide) ?_ ?_
  · refine J_iconst (pc := 13) (v := 0) C dX4_hasRoomForTest_13 (by decide) ?_
    exact J_zret (pc := 14) C hr rfl dX4_hasRoomForTest_14
  · refine J_iconst (pc := 9) (v := 1) C dX4_hasRoomForTest_9 (by decide) ?_
    refine J_goto (pc := 10) (tgt := 14) C dX4_hasRoomForTest_10 (by decide) ?_
    exact J_zret (pc := 14) C hr rfl dX4_hasRoomForTest_14
theorem mX4_hasRoomForTest {l : Launch} {G : GX} (a0 : Nat) (h0 : PH) : ∀ z, fX4_hasRoomForTest a0 h0 = some z → MC l G yX4_hasRoomForTest cX4_hasRoomForTest 1 (some .boolean) rmX4_hasRoomForTest [.ref a0] h0 (rvI z.1) z.2 :=
  Met_J (own := RX4) (by decide) rfl (Nat.le_of_ble_eq_true rfl) (fun p e s m args below meth c C hr hn => vfX4_hasRoomForTest C hr a0 h0)

theorem dX8_numberToThousand_0 : decode cX8_numberToThousand 0 = .ok (.aload_n 0, 1) := by decide +kernel
theorem dX8_numberToThousand_1 : decode cX8_numberToThousand 1 = .ok (.getfield 19, 3) := by decide +kernel
theorem dX8_numberToThousand_4 : decode cX8_numberToThousand 4 = .ok (.iconst 2, 1) := by decide +kernel
theorem dX8_numberToThousand_5 : decode cX8_numberToThousand 5 = .ok (.if_icmp .eq 5, 3) := by decide +kernel
theorem dX8_numberToThousand_8 : decode cX8_numberToThousand 8 = .ok (.iconst (-1), 1) := by decide +kernel
theorem dX8_numberToThousand_9 : decode cX8_numberToThousand 9 = .ok (.ireturn, 1) := by decide +kernel
theorem dX8_numberToThousand_10 : decode cX8_numberToThousand 10 = .ok (.iconst 0, 1) := by decide +kernel
theorem dX8_numberToThousand_11 : decode cX8_numberToThousand 11 = .ok (.istore_n 1, 1) := by decide +kernel
theorem dX8_numberToThousand_12 : decode cX8_numberToThousand 12 = .ok (.aload_n 0, 1) := by decide +kernel
theorem dX8_numberToThousand_13 : decode cX8_numberToThousand 13 = .ok (.getfield 22, 3) := by decide +kernel
theorem dX8_numberToThousand_16 : decode cX8_numberToThousand 16 = .ok (.istore_n 2, 1) := by decide +kernel
theorem dX8_numberToThousand_17 : decode cX8_numberToThousand 17 = .ok (.iload_n 2, 1) := by decide +kernel
theorem dX8_numberToThousand_18 : decode cX8_numberToThousand 18 = .ok (.aload_n 0, 1) := by decide +kernel
theorem dX8_numberToThousand_19 : decode cX8_numberToThousand 19 = .ok (.getfield 25, 3) := by decide +kernel
theorem dX8_numberToThousand_22 : decode cX8_numberToThousand 22 = .ok (.if_icmp .ge 33, 3) := by decide +kernel
theorem dX8_numberToThousand_25 : decode cX8_numberToThousand 25 = .ok (.iload_n 1, 1) := by decide +kernel
theorem dX8_numberToThousand_26 : decode cX8_numberToThousand 26 = .ok (.bipush 10, 2) := by decide +kernel
theorem dX8_numberToThousand_28 : decode cX8_numberToThousand 28 = .ok (.imul, 1) := by decide +kernel
theorem dX8_numberToThousand_29 : decode cX8_numberToThousand 29 = .ok (.aload_n 0, 1) := by decide +kernel
theorem dX8_numberToThousand_30 : decode cX8_numberToThousand 30 = .ok (.getfield 9, 3) := by decide +kernel
theorem dX8_numberToThousand_33 : decode cX8_numberToThousand 33 = .ok (.iload_n 2, 1) := by decide +kernel
theorem dX8_numberToThousand_34 : decode cX8_numberToThousand 34 = .ok (.iaload, 1) := by decide +kernel
theorem dX8_numberToThousand_35 : decode cX8_numberToThousand 35 = .ok (.iadd, 1) := by decide +kernel
theorem dX8_numberToThousand_36 : decode cX8_numberToThousand 36 = .ok (.bipush 48, 2) := by decide +kernel
theorem dX8_numberToThousand_38 : decode cX8_numberToThousand 38 = .ok (.isub, 1) := by decide +kernel
theorem dX8_numberToThousand_39 : decode cX8_numberToThousand 39 = .ok (.istore_n 1, 1) := by decide +kernel
theorem dX8_numberToThousand_40 : decode cX8_numberToThousand 40 = .ok (.iload_n 1, 1) := by decide +kernel
theorem dX8_numberToThousand_41 : decode cX8_numberToThousand 41 = .ok (.sipush 1000, 3) := by decide +kernel
theorem dX8_numberToThousand_44 : decode cX8_numberToThousand 44 = .ok (.if_icmp .le 5, 3) := by decide +kernel
theorem dX8_numberToThousand_47 : decode cX8_numberToThousand 47 = .ok (.iconst (-1), 1) := by decide +kernel
theorem dX8_numberToThousand_48 : decode cX8_numberToThousand 48 = .ok (.ireturn, 1) := by decide +kernel
theorem dX8_numberToThousand_49 : decode cX8_numberToThousand 49 = .ok (.iinc 2 1, 3) := by decide +kernel
theorem dX8_numberToThousand_52 : decode cX8_numberToThousand 52 = .ok (.goto (-35), 3) := by decide +kernel
theorem dX8_numberToThousand_55 : decode cX8_numberToThousand 55 = .ok (.iload_n 1, 1) := by decide +kernel
theorem dX8_numberToThousand_56 : decode cX8_numberToThousand 56 = .ok (.ireturn, 1) := by decide +kernel
def rmX8_numberToThousand : Room := { frames := 0, cells := 0, slots := 0, locals := 0 }
def fX8_numberToThousand_17  : Nat → Nat → Int32 → Int32 → PH → Option (Int32 × PH)
  | 0, _, _, _, _ => none
  | n + 1, al0, xl1, xl2, h0 =>
    bn (rdI 8 4 al0 h0) fun x3 =>
    if x3 ≤ xl2 then (some (xl1, h0)) else
    bn (rdR 8 0 al0 h0) fun a4 =>
    bn (aldI 0 a4 xl2 h0) fun x5 =>
    nm (((xl1 * (10 : Int32)) + x5) - (48 : Int32)) fun x6 =>
    if x6 ≤ (1000 : Int32) then ((fX8_numberToThousand_17 n) al0 x6 (xl2 + 1) h0) else
    some ((-1 : Int32), h0)
set_option maxHeartbeats 4000000 in
set_option maxRecDepth 100000 in
theorem vfX8_numberToThousand_17 {p : Program} {l : Launch} {e : Env} {s : State} {m : MethodId} {args : Array Value} {below : List Frame} {meth : Method} {c : Code} {G : GX} (C : Cx p s m args meth c G cX8_numberToThousand 3 RX8) (hr : meth.sig.returnType = (some .int)) : ∀ (n : Nat) (al0 : Nat) (xl1 : Int32) (xl2 : Int32) (h0 : PH), J p l e rmX8_numberToThousand s m args below meth c G 3 (qM below args s rvI G 0 0) 0 0 h0 17 [(0, .ref al0), (1, .int xl1), (2, .int xl2)] [] (fX8_numberToThousand_17  n al0 xl1 xl2 h0) := by
  intro n
  induction n with
  | zero => exact fun al0 xl1 xl2 h0 => J_none C
  | succ n ih =>
    intro al0 xl1 xl2 h0
    unfold fX8_numberToThousand_17
    refine J_iload_n (pc := 17) C dX8_numberToThousand_17 rfl 2 rfl ?_
    refine J_aload_n (pc := 18) C dX8_numberToThousand_18 rfl 0 rfl ?_
    refine J_getI (pc := 19) C flX8_25 dX8_numberToThousand_19 (fun x3 => ?_)
    refine J_icmp_ge (pc := 22) (tgt := 55) C dX8_numberToThousand_22 (by decide) ?_ ?_
    · refine J_iload_n (pc := 55) C dX8_numberToThousand_55 rfl 1 rfl ?_
      exact J_iret (pc := 56) C hr dX8_numberToThousand_56
    · refine J_iload_n (pc := 25) C dX8_numberToThousand_25 rfl 1 rfl ?_
      refine J_bipush (pc := 26) (v := 10) C dX8_numberToThousand_26 (by decide) ?_
      refine J_imul (pc := 28) C dX8_numberToThousand_28 ?_
      refine J_aload_n (pc := 29) C dX8_numberToThousand_29 rfl 0 rfl ?_
      refine J_getR (pc := 30) C flX8_9 dX8_numberToThousand_30 (fun a4 => ?_)
      refine J_iload_n (pc := 33) C dX8_numberToThousand_33 rfl 2 rfl ?_
      refine J_iald (pc := 34) C dX8_numberToThousand_34 (fun x5 => ?_)
      refine J_iadd (pc := 35) C dX8_numberToThousand_35 ?_
      refine J_bipush (pc := 36) (v := 48) C dX8_numberToThousand_36 (by decide) ?_
      refine J_isub (pc := 38) C dX8_numberToThousand_38 ?_
      refine J_nm (fv := .int) (fun x6 => ?_)
      refine J_istore_n (pc := 39) (lv1 := [(1, .int x6), (0, .ref al0), (2, .int xl2)]) C dX8_numberToThousand_39 rfl (by decide) rfl ?_
      refine J_iload_n (pc := 40) C dX8_numberToThousand_40 rfl 0 rfl ?_
      refine J_sipush (pc := 41) (v := 1000) C dX8_numberToThousand_41 (by decide) ?_
      refine J_icmp_le (pc := 44) (tgt := 49) C dX8_numberToThousand_44 (by decide) ?_ ?_
      · refine J_iinc (pc := 49) (v := (xl2 + 1)) (lv1 := [(2, .int (xl2 + 1)), (1, .int x6), (0, .ref al0)]) C dX8_numberToThousand_49 2 rfl rfl (by decide) rfl ?_
        refine J_goto (pc := 52) (tgt := 17) C dX8_numberToThousand_52 (by decide) ?_
        refine J_sub [2, 1, 0] rfl ?_
        exact ih al0 x6 (xl2 + 1) h0
      · refine J_iconst (pc := 47) (v := -1) C dX8_numberToThousand_47 (by decide) ?_
        exact J_iret (pc := 48) C hr dX8_numberToThousand_48
def fX8_numberToThousand  (a0 : Nat) (h0 : PH) : Option (Int32 × PH) :=
    bn (rdI 8 2 a0 h0) fun x1 =>
    if x1 = (2 : Int32) then (bn (rdI 8 3 a0 h0) fun x2 =>
    fX8_numberToThousand_17  FU a0 (0 : Int32) x2 h0) else
    some ((-1 : Int32), h0)
set_option maxHeartbeats 4000000 in
set_option maxRecDepth 100000 in
theorem vfX8_numberToThousand {p : Program} {l : Launch} {e : Env} {s : State} {m : MethodId} {args : Array Value} {below : List Frame} {meth : Method} {c : Code} {G : GX} (C : Cx p s m args meth c G cX8_numberToThousand 3 RX8) (hr : meth.sig.returnType = (some .int)) (a0 : Nat) (h0 : PH) : J p l e rmX8_numberToThousand s m args below meth c G 3 (qM below args s rvI G 0 0) 0 0 h0 0 [(0, .ref a0)] [] (fX8_numberToThousand  a0 h0) := by
  unfold fX8_numberToThousand
  refine J_aload_n (pc := 0) C dX8_numberToThousand_0 rfl 0 rfl ?_
  refine J_getI (pc := 1) C flX8_19 dX8_numberToThousand_1 (fun x1 => ?_)
  refine J_iconst (pc := 4) (v := 2) C dX8_numberToThousand_4 (by decide) ?_
  refine J_icmp_eq (pc := 5) (tgt := 10) C dX8_numberToThousand_5 (by decide) ?_ ?_
  · refine J_iconst (pc := 10) (v := 0) C dX8_numberToThousand_10 (by decide) ?_
    refine J_istore_n (pc := 11) (lv1 := [(1, .int (0 : Int32)), (0, .ref a0)]) C dX8_numberToThousand_11 rfl (by decide) rfl ?_
    refine J_aload_n (pc := 12) C dX8_numberToThousand_12 rfl 1 rfl ?_
    refine J_getI (pc := 13) C flX8_22 dX8_numberToThousand_13 (fun x2 => ?_)
    refine J_istore_n (pc := 16) (lv1 := [(2, .int x2), (1, .int (0 : Int32)), (0, .ref a0)]) C dX8_numberToThousand_16 rfl (by decide) rfl ?_
    refine J_sub [2, 1, 0] rfl ?_
    exact vfX8_numberToThousand_17 C hr  FU a0 (0 : Int32) x2 h0
  · refine J_iconst (pc := 8) (v := -1) C dX8_numberToThousand_8 (by decide) ?_
    exact J_iret (pc := 9) C hr dX8_numberToThousand_9
theorem mX8_numberToThousand {l : Launch} {G : GX} (a0 : Nat) (h0 : PH) : ∀ z, fX8_numberToThousand a0 h0 = some z → MC l G yX8_numberToThousand cX8_numberToThousand 3 (some .int) rmX8_numberToThousand [.ref a0] h0 (rvI z.1) z.2 :=
  Met_J (own := RX8) (by decide) rfl (Nat.le_of_ble_eq_true rfl) (fun p e s m args below meth c C hr hn => vfX8_numberToThousand C hr a0 h0)

theorem dX4_addTest_0 : decode cX4_addTest 0 = .ok (.aload_n 0, 1) := by decide +kernel
theorem dX4_addTest_1 : decode cX4_addTest 1 = .ok (.getfield 15, 3) := by decide +kernel
theorem dX4_addTest_4 : decode cX4_addTest 4 = .ok (.bipush 30, 2) := by decide +kernel
theorem dX4_addTest_6 : decode cX4_addTest 6 = .ok (.if_icmp .ge 56, 3) := by decide +kernel
theorem dX4_addTest_9 : decode cX4_addTest 9 = .ok (.aload_n 0, 1) := by decide +kernel
theorem dX4_addTest_10 : decode cX4_addTest 10 = .ok (.getfield 18, 3) := by decide +kernel
theorem dX4_addTest_13 : decode cX4_addTest 13 = .ok (.aload_n 0, 1) := by decide +kernel
theorem dX4_addTest_14 : decode cX4_addTest 14 = .ok (.getfield 15, 3) := by decide +kernel
theorem dX4_addTest_17 : decode cX4_addTest 17 = .ok (.aload_n 0, 1) := by decide +kernel
theorem dX4_addTest_18 : decode cX4_addTest 18 = .ok (.getfield 9, 3) := by decide +kernel
theorem dX4_addTest_21 : decode cX4_addTest 21 = .ok (.iastore, 1) := by decide +kernel
theorem dX4_addTest_22 : decode cX4_addTest 22 = .ok (.aload_n 0, 1) := by decide +kernel
theorem dX4_addTest_23 : decode cX4_addTest 23 = .ok (.getfield 22, 3) := by decide +kernel
theorem dX4_addTest_26 : decode cX4_addTest 26 = .ok (.aload_n 0, 1) := by decide +kernel
theorem dX4_addTest_27 : decode cX4_addTest 27 = .ok (.getfield 15, 3) := by decide +kernel
theorem dX4_addTest_30 : decode cX4_addTest 30 = .ok (.iload_n 1, 1) := by decide +kernel
theorem dX4_addTest_31 : decode cX4_addTest 31 = .ok (.iastore, 1) := by decide +kernel
theorem dX4_addTest_32 : decode cX4_addTest 32 = .ok (.aload_n 0, 1) := by decide +kernel
theorem dX4_addTest_33 : decode cX4_addTest 33 = .ok (.getfield 25, 3) := by decide +kernel
theorem dX4_addTest_36 : decode cX4_addTest 36 = .ok (.aload_n 0, 1) := by decide +kernel
theorem dX4_addTest_37 : decode cX4_addTest 37 = .ok (.getfield 15, 3) := by decide +kernel
theorem dX4_addTest_40 : decode cX4_addTest 40 = .ok (.iload_n 2, 1) := by decide +kernel
theorem dX4_addTest_41 : decode cX4_addTest 41 = .ok (.iastore, 1) := by decide +kernel
theorem dX4_addTest_42 : decode cX4_addTest 42 = .ok (.aload_n 0, 1) := by decide +kernel
theorem dX4_addTest_43 : decode cX4_addTest 43 = .ok (.getfield 28, 3) := by decide +kernel
theorem dX4_addTest_46 : decode cX4_addTest 46 = .ok (.aload_n 0, 1) := by decide +kernel
theorem dX4_addTest_47 : decode cX4_addTest 47 = .ok (.getfield 15, 3) := by decide +kernel
theorem dX4_addTest_50 : decode cX4_addTest 50 = .ok (.iload_n 3, 1) := by decide +kernel
theorem dX4_addTest_51 : decode cX4_addTest 51 = .ok (.iastore, 1) := by decide +kernel
theorem dX4_addTest_52 : decode cX4_addTest 52 = .ok (.aload_n 0, 1) := by decide +kernel
theorem dX4_addTest_53 : decode cX4_addTest 53 = .ok (.dup, 1) := by decide +kernel
theorem dX4_addTest_54 : decode cX4_addTest 54 = .ok (.getfield 15, 3) := by decide +kernel
theorem dX4_addTest_57 : decode cX4_addTest 57 = .ok (.iconst 1, 1) := by decide +kernel
theorem dX4_addTest_58 : decode cX4_addTest 58 = .ok (.iadd, 1) := by decide +kernel
theorem dX4_addTest_59 : decode cX4_addTest 59 = .ok (.putfield 15, 3) := by decide +kernel
theorem dX4_addTest_62 : decode cX4_addTest 62 = .ok (.return_, 1) := by decide +kernel
def rmX4_addTest : Room := { frames := 0, cells := 0, slots := 0, locals := 0 }
def fX4_addTest  (a0 : Nat) (xp0 : Int32) (xp1 : Int32) (xp2 : Int32) (h0 : PH) : Option (Unit × PH) :=
    bn (rdI 4 1 a0 h0) fun x1 =>
    if (30 : Int32) ≤ x1 then (some ((), h0)) else
    bn (rdR 4 2 a0 h0) fun a2 =>
    bn (rdI 4 1 a0 h0) fun x3 =>
    bn (rdI 4 0 a0 h0) fun x4 =>
    bn (astI a2 x3 x4 h0) fun h5 =>
    bn (rdR 4 3 a0 h5) fun a6 =>
    bn (rdI 4 1 a0 h5) fun x7 =>
    bn (astI a6 x7 xp0 h5) fun h8 =>
    bn (rdR 4 4 a0 h8) fun a9 =>
    bn (rdI 4 1 a0 h8) fun x10 =>
    bn (astI a9 x10 xp1 h8) fun h11 =>
    bn (rdR 4 5 a0 h11) fun a12 =>
    bn (rdI 4 1 a0 h11) fun x13 =>
    bn (astI a12 x13 xp2 h11) fun h14 =>
    bn (rdI 4 1 a0 h14) fun x15 =>
    bn (wr 4 1 (.int (x15 + (1 : Int32))) a0 h14) fun h16 =>
    some ((), h16)
set_option maxHeartbeats 4000000 in
set_option maxRecDepth 100000 in
theorem vfX4_addTest {p : Program} {l : Launch} {e : Env} {s : State} {m : MethodId} {args : Array Value} {below : List Frame} {meth : Method} {c : Code} {G : GX} (C : Cx p s m args meth c G cX4_addTest 4 RX4) (hr : meth.sig.returnType = none) (a0 : Nat) (xp0 : Int32) (xp1 : Int32) (xp2 : Int32) (h0 : PH) : J p l e rmX4_addTest s m args below meth c G 4 (qM below args s rvU G 0 0) 0 0 h0 0 [(0, .ref a0), (1, .int xp0), (2, .int xp1), (3, .int xp2)] [] (fX4_addTest  a0 xp0 xp1 xp2 h0) := by
  unfold fX4_addTest
  refine J_aload_n (pc := 0) C dX4_addTest_0 rfl 0 rfl ?_
  refine J_getI (pc := 1) C flX4_15 dX4_addTest_1 (fun x1 => ?_)
  refine J_bipush (pc := 4) (v := 30) C dX4_addTest_4 (by decide) ?_
  refine J_icmp_ge (pc := 6) (tgt := 62) C dX4_addTest_6 (by decide) ?_ ?_
  · exact J_vret (pc := 62) C hr dX4_addTest_62
  · refine J_aload_n (pc := 9) C dX4_addTest_9 rfl 0 rfl ?_
    refine J_getR (pc := 10) C flX4_18 dX4_addTest_10 (fun a2 => ?_)
    refine J_aload_n (pc := 13) C dX4_addTest_13 rfl 0 rfl ?_
    refine J_getI (pc := 14) C flX4_15 dX4_addTest_14 (fun x3 => ?_)
    refine J_aload_n (pc := 17) C dX4_addTest_17 rfl 0 rfl ?_
    refine J_getI (pc := 18) C flX4_9 dX4_addTest_18 (fun x4 => ?_)
    refine J_iast (pc := 21) C dX4_addTest_21 (fun h5 => ?_)
    refine J_aload_n (pc := 22) C dX4_addTest_22 rfl 0 rfl ?_
    refine J_getR (pc := 23) C flX4_22 dX4_addTest_23 (fun a6 => ?_)
    refine J_aload_n (pc := 26) C dX4_addTest_26 rfl 0 rfl ?_
    refine J_getI (pc := 27) C flX4_15 dX4_addTest_27 (fun x7 => ?_)
    refine J_iload_n (pc := 30) C dX4_addTest_30 rfl 1 rfl ?_
    refine J_iast (pc := 31) C dX4_addTest_31 (fun h8 => ?_)
    refine J_aload_n (pc := 32) C dX4_addTest_32 rfl 0 rfl ?_
    refine J_getR (pc := 33) C flX4_25 dX4_addTest_33 (fun a9 => ?_)
    refine J_aload_n (pc := 36) C dX4_addTest_36 rfl 0 rfl ?_
    refine J_getI (pc := 37) C flX4_15 dX4_addTest_37 (fun x10 => ?_)
    refine J_iload_n (pc := 40) C dX4_addTest_40 rfl 2 rfl ?_
    refine J_iast (pc := 41) C dX4_addTest_41 (fun h11 => ?_)
    refine J_aload_n (pc := 42) C dX4_addTest_42 rfl 0 rfl ?_
    refine J_getR (pc := 43) C flX4_28 dX4_addTest_43 (fun a12 => ?_)
    refine J_aload_n (pc := 46) C dX4_addTest_46 rfl 0 rfl ?_
    refine J_getI (pc := 47) C flX4_15 dX4_addTest_47 (fun x13 => ?_)
    refine J_iload_n (pc := 50) C dX4_addTest_50 rfl 3 rfl ?_
    refine J_iast (pc := 51) C dX4_addTest_51 (fun h14 => ?_)
    refine J_aload_n (pc := 52) C dX4_addTest_52 rfl 0 rfl ?_
    refine J_dup (pc := 53) C dX4_addTest_53 rfl ?_
    refine J_getI (pc := 54) C flX4_15 dX4_addTest_54 (fun x15 => ?_)
    refine J_iconst (pc := 57) (v := 1) C dX4_addTest_57 (by decide) ?_
    refine J_iadd (pc := 58) C dX4_addTest_58 ?_
    refine J_put (pc := 59) C flX4_15 cl4 ft4_1 rfl rfl dX4_addTest_59 (fun h16 => ?_)
    exact J_vret (pc := 62) C hr dX4_addTest_62
theorem mX4_addTest {l : Launch} {G : GX} (a0 : Nat) (xp0 : Int32) (xp1 : Int32) (xp2 : Int32) (h0 : PH) : ∀ z, fX4_addTest a0 xp0 xp1 xp2 h0 = some z → MC l G yX4_addTest cX4_addTest 4 none rmX4_addTest [.ref a0, .int xp0, .int xp1, .int xp2] h0 (rvU z.1) z.2 :=
  Met_J (own := RX4) (by decide) rfl (Nat.le_of_ble_eq_true rfl) (fun p e s m args below meth c C hr hn => vfX4_addTest C hr a0 xp0 xp1 xp2 h0)

theorem dX1_readTest_0 : decode cX1_readTest 0 = .ok (.aload_n 0, 1) := by decide +kernel
theorem dX1_readTest_1 : decode cX1_readTest 1 = .ok (.invokevirtual 71, 3) := by decide +kernel
theorem dX1_readTest_4 : decode cX1_readTest 4 = .ok (.istore_n 2, 1) := by decide +kernel
theorem dX1_readTest_5 : decode cX1_readTest 5 = .ok (.aload_n 1, 1) := by decide +kernel
theorem dX1_readTest_6 : decode cX1_readTest 6 = .ok (.invokevirtual 75, 3) := by decide +kernel
theorem dX1_readTest_9 : decode cX1_readTest 9 = .ok (.ifCond .eq 8, 3) := by decide +kernel
theorem dX1_readTest_12 : decode cX1_readTest 12 = .ok (.iload_n 2, 1) := by decide +kernel
theorem dX1_readTest_13 : decode cX1_readTest 13 = .ok (.iconst (-1), 1) := by decide +kernel
theorem dX1_readTest_14 : decode cX1_readTest 14 = .ok (.if_icmp .ne 5, 3) := by decide +kernel
theorem dX1_readTest_17 : decode cX1_readTest 17 = .ok (.iconst 0, 1) := by decide +kernel
theorem dX1_readTest_18 : decode cX1_readTest 18 = .ok (.ireturn, 1) := by decide +kernel
theorem dX1_readTest_19 : decode cX1_readTest 19 = .ok (.aload_n 0, 1) := by decide +kernel
theorem dX1_readTest_20 : decode cX1_readTest 20 = .ok (.getfield 12, 3) := by decide +kernel
theorem dX1_readTest_23 : decode cX1_readTest 23 = .ok (.invokevirtual 58, 3) := by decide +kernel
theorem dX1_readTest_26 : decode cX1_readTest 26 = .ok (.aload_n 0, 1) := by decide +kernel
theorem dX1_readTest_27 : decode cX1_readTest 27 = .ok (.getfield 12, 3) := by decide +kernel
theorem dX1_readTest_30 : decode cX1_readTest 30 = .ok (.invokevirtual 79, 3) := by decide +kernel
theorem dX1_readTest_33 : decode cX1_readTest 33 = .ok (.istore_n 3, 1) := by decide +kernel
theorem dX1_readTest_34 : decode cX1_readTest 34 = .ok (.iload_n 3, 1) := by decide +kernel
theorem dX1_readTest_35 : decode cX1_readTest 35 = .ok (.iconst (-1), 1) := by decide +kernel
theorem dX1_readTest_36 : decode cX1_readTest 36 = .ok (.if_icmp .ne 5, 3) := by decide +kernel
theorem dX1_readTest_39 : decode cX1_readTest 39 = .ok (.iconst 0, 1) := by decide +kernel
theorem dX1_readTest_40 : decode cX1_readTest 40 = .ok (.ireturn, 1) := by decide +kernel
theorem dX1_readTest_41 : decode cX1_readTest 41 = .ok (.aload_n 0, 1) := by decide +kernel
theorem dX1_readTest_42 : decode cX1_readTest 42 = .ok (.getfield 12, 3) := by decide +kernel
theorem dX1_readTest_45 : decode cX1_readTest 45 = .ok (.invokevirtual 58, 3) := by decide +kernel
theorem dX1_readTest_48 : decode cX1_readTest 48 = .ok (.aload_n 0, 1) := by decide +kernel
theorem dX1_readTest_49 : decode cX1_readTest 49 = .ok (.getfield 12, 3) := by decide +kernel
theorem dX1_readTest_52 : decode cX1_readTest 52 = .ok (.ldc 82, 2) := by decide +kernel
theorem dX1_readTest_54 : decode cX1_readTest 54 = .ok (.invokevirtual 84, 3) := by decide +kernel
theorem dX1_readTest_57 : decode cX1_readTest 57 = .ok (.ifCond .ne 5, 3) := by decide +kernel
theorem dX1_readTest_60 : decode cX1_readTest 60 = .ok (.iconst 0, 1) := by decide +kernel
theorem dX1_readTest_61 : decode cX1_readTest 61 = .ok (.ireturn, 1) := by decide +kernel
theorem dX1_readTest_62 : decode cX1_readTest 62 = .ok (.aload_n 0, 1) := by decide +kernel
theorem dX1_readTest_63 : decode cX1_readTest 63 = .ok (.getfield 12, 3) := by decide +kernel
theorem dX1_readTest_66 : decode cX1_readTest 66 = .ok (.invokevirtual 58, 3) := by decide +kernel
theorem dX1_readTest_69 : decode cX1_readTest 69 = .ok (.aload_n 0, 1) := by decide +kernel
theorem dX1_readTest_70 : decode cX1_readTest 70 = .ok (.getfield 12, 3) := by decide +kernel
theorem dX1_readTest_73 : decode cX1_readTest 73 = .ok (.invokevirtual 79, 3) := by decide +kernel
theorem dX1_readTest_76 : decode cX1_readTest 76 = .ok (.istore 4, 2) := by decide +kernel
theorem dX1_readTest_78 : decode cX1_readTest 78 = .ok (.iload 4, 2) := by decide +kernel
theorem dX1_readTest_80 : decode cX1_readTest 80 = .ok (.iconst (-1), 1) := by decide +kernel
theorem dX1_readTest_81 : decode cX1_readTest 81 = .ok (.if_icmp .eq 9, 3) := by decide +kernel
theorem dX1_readTest_84 : decode cX1_readTest 84 = .ok (.iload 4, 2) := by decide +kernel
theorem dX1_readTest_86 : decode cX1_readTest 86 = .ok (.iload_n 3, 1) := by decide +kernel
theorem dX1_readTest_87 : decode cX1_readTest 87 = .ok (.if_icmp .ge 5, 3) := by decide +kernel
theorem dX1_readTest_90 : decode cX1_readTest 90 = .ok (.iconst 0, 1) := by decide +kernel
theorem dX1_readTest_91 : decode cX1_readTest 91 = .ok (.ireturn, 1) := by decide +kernel
theorem dX1_readTest_92 : decode cX1_readTest 92 = .ok (.aload_n 0, 1) := by decide +kernel
theorem dX1_readTest_93 : decode cX1_readTest 93 = .ok (.getfield 12, 3) := by decide +kernel
theorem dX1_readTest_96 : decode cX1_readTest 96 = .ok (.invokevirtual 58, 3) := by decide +kernel
theorem dX1_readTest_99 : decode cX1_readTest 99 = .ok (.aload_n 1, 1) := by decide +kernel
theorem dX1_readTest_100 : decode cX1_readTest 100 = .ok (.iload_n 2, 1) := by decide +kernel
theorem dX1_readTest_101 : decode cX1_readTest 101 = .ok (.iload_n 3, 1) := by decide +kernel
theorem dX1_readTest_102 : decode cX1_readTest 102 = .ok (.iload 4, 2) := by decide +kernel
theorem dX1_readTest_104 : decode cX1_readTest 104 = .ok (.invokevirtual 88, 3) := by decide +kernel
theorem dX1_readTest_107 : decode cX1_readTest 107 = .ok (.iconst 1, 1) := by decide +kernel
theorem dX1_readTest_108 : decode cX1_readTest 108 = .ok (.ireturn, 1) := by decide +kernel
def rmX1_readTest : Room := { frames := 6, cells := 0, slots := 0, locals := 127 }
def fX1_readTest  (a0 : Nat) (ap0 : Nat) (h0 : PH) : Option (Int32 × PH) :=
    bn (chk 1 a0 h0) fun _ => bn2 (fX1_metalTold a0 h0) fun x2 h1 =>
    bn (chk 4 ap0 h1) fun _ => bn2 (fX4_hasRoomForTest ap0 h1) fun x4 h3 =>
    if x4 = 0 then (some ((0 : Int32), h3)) else
    if x2 = (-1 : Int32) then (some ((0 : Int32), h3)) else
    bn (rdR 1 0 a0 h3) fun a5 =>
    bn (chk 8 a5 h3) fun _ => bn2 (fX8_toNextToken a5 h3) fun _ h6 =>
    bn (rdR 1 0 a0 h6) fun a7 =>
    bn (chk 8 a7 h6) fun _ => bn2 (fX8_numberToThousand a7 h6) fun x9 h8 =>
    if x9 = (-1 : Int32) then (some ((0 : Int32), h8)) else
    bn (rdR 1 0 a0 h8) fun a10 =>
    bn (chk 8 a10 h8) fun _ => bn2 (fX8_toNextToken a10 h8) fun _ h11 =>
    bn (rdR 1 0 a0 h11) fun a12 =>
    bn (chk 8 a12 h11) fun _ => bn2 (fX8_isWord a12 3 h11) fun x14 h13 =>
    if x14 = 0 then (some ((0 : Int32), h13)) else
    bn (rdR 1 0 a0 h13) fun a15 =>
    bn (chk 8 a15 h13) fun _ => bn2 (fX8_toNextToken a15 h13) fun _ h16 =>
    bn (rdR 1 0 a0 h16) fun a17 =>
    bn (chk 8 a17 h16) fun _ => bn2 (fX8_numberToThousand a17 h16) fun x19 h18 =>
    if x19 = (-1 : Int32) then (some ((0 : Int32), h18)) else
    if x9 ≤ x19 then (bn (rdR 1 0 a0 h18) fun a20 =>
    bn (chk 8 a20 h18) fun _ => bn2 (fX8_toNextToken a20 h18) fun _ h21 =>
    bn (chk 4 ap0 h21) fun _ => bn2 (fX4_addTest ap0 x2 x9 x19 h21) fun _ h22 =>
    some ((1 : Int32), h22)) else
    some ((0 : Int32), h18)
set_option maxHeartbeats 4000000 in
set_option maxRecDepth 100000 in
theorem vfX1_readTest {p : Program} {l : Launch} {e : Env} {s : State} {m : MethodId} {args : Array Value} {below : List Frame} {meth : Method} {c : Code} {G : GX} (C : Cx p s m args meth c G cX1_readTest 5 RX1) (hr : meth.sig.returnType = (some .boolean)) (a0 : Nat) (ap0 : Nat) (h0 : PH) : J p l e rmX1_readTest s m args below meth c G 5 (qM below args s rvI G 0 0) 0 0 h0 0 [(0, .ref a0), (1, .ref ap0)] [] (fX1_readTest  a0 ap0 h0) := by
  unfold fX1_readTest
  refine J_aload_n (pc := 0) C dX1_readTest_0 rfl 0 rfl ?_
  refine J_callVI (pc := 1) (As := []) (rest := []) C (fun z hz => mX1_metalTold a0 h0 z hz) mwX1_metalTold csX1_metalTold mlX1_71 inX1_metalTold rfl dX1_readTest_1 (by decide) rfl (Nat.le_of_ble_eq_true rfl) (by decide) (fun x2 h1 => ?_)
  refine J_istore_n (pc := 4) (lv1 := [(2, .int x2), (0, .ref a0), (1, .ref ap0)]) C dX1_readTest_4 rfl (by decide) rfl ?_
  refine J_aload_n (pc := 5) C dX1_readTest_5 rfl 2 rfl ?_
  refine J_callVI (pc := 6) (As := []) (rest := []) C (fun z hz => mX4_hasRoomForTest ap0 h1 z hz) mwX4_hasRoomForTest csX4_hasRoomForTest mlX1_75 inX4_hasRoomForTest rfl dX1_readTest_6 (by decide) rfl (Nat.le_of_ble_eq_true rfl) (by decide) (fun x4 h3 => ?_)
  refine J_if_eq (pc := 9) (tgt := 17) C dX1_readTest_9 (by decide) ?_ ?_
  · refine J_iconst (pc := 17) (v := 0) C dX1_readTest_17 (by decide) ?_
    exact J_zret (pc := 18) C hr rfl dX1_readTest_18
  · refine J_iload_n (pc := 12) C dX1_readTest_12 rfl 0 rfl ?_
    refine J_iconst (pc := 13) (v := -1) C dX1_readTest_13 (by decide) ?_
    refine J_icmp_ne (pc := 14) (tgt := 19) C dX1_readTest_14 (by decide) ?_ ?_
    · refine J_aload_n (pc := 19) C dX1_readTest_19 rfl 1 rfl ?_
      refine J_getR (pc := 20) C flX1_12 dX1_readTest_20 (fun a5 => ?_)
      refine J_callVU (pc := 23) (As := []) (rest := []) C (fun z hz => mX8_toNextToken a5 h3 z hz) mwX8_toNextToken csX8_toNextToken mlX1_58 inX8_toNextToken rfl dX1_readTest_23 (by decide) rfl (Nat.le_of_ble_eq_true rfl) (by decide) (fun _ h6 => ?_)
      refine J_aload_n (pc := 26) C dX1_readTest_26 rfl 1 rfl ?_
      refine J_getR (pc := 27) C flX1_12 dX1_readTest_27 (fun a7 => ?_)
      refine J_callVI (pc := 30) (As := []) (rest := []) C (fun z hz => mX8_numberToThousand a7 h6 z hz) mwX8_numberToThousand csX8_numberToThousand mlX1_79 inX8_numberToThousand rfl dX1_readTest_30 (by decide) rfl (Nat.le_of_ble_eq_true rfl) (by decide) (fun x9 h8 => ?_)
      refine J_istore_n (pc := 33) (lv1 := [(3, .int x9), (2, .int x2), (0, .ref a0), (1, .ref ap0)]) C dX1_readTest_33 rfl (by decide) rfl ?_
      refine J_iload_n (pc := 34) C dX1_readTest_34 rfl 0 rfl ?_
      refine J_iconst (pc := 35) (v := -1) C dX1_readTest_35 (by decide) ?_
      refine J_icmp_ne (pc := 36) (tgt := 41) C dX1_readTest_36 (by decide) ?_ ?_
      · refine J_aload_n (pc := 41) C dX1_readTest_41 rfl 2 rfl ?_
        refine J_getR (pc := 42) C flX1_12 dX1_readTest_42 (fun a10 => ?_)
        refine J_callVU (pc := 45) (As := []) (rest := []) C (fun z hz => mX8_toNextToken a10 h8 z hz) mwX8_toNextToken csX8_toNextToken mlX1_58 inX8_toNextToken rfl dX1_readTest_45 (by decide) rfl (Nat.le_of_ble_eq_true rfl) (by decide) (fun _ h11 => ?_)
        refine J_aload_n (pc := 48) C dX1_readTest_48 rfl 2 rfl ?_
        refine J_getR (pc := 49) C flX1_12 dX1_readTest_49 (fun a12 => ?_)
        refine J_ldcS3 (pc := 52) C dX1_readTest_52 ?_
        refine J_callVI (pc := 54) (As := [.ref (G.2.2.2.1 3)]) (rest := []) C (fun z hz => mX8_isWord a12 3 h11 z hz) mwX8_isWord csX8_isWord mlX1_84 inX8_isWord rfl dX1_readTest_54 (by decide) rfl (Nat.le_of_ble_eq_true rfl) (by decide) (fun x14 h13 => ?_)
        refine J_if_ne (pc := 57) (tgt := 62) C dX1_readTest_57 (by decide) ?_ ?_
        · refine J_aload_n (pc := 62) C dX1_readTest_62 rfl 2 rfl ?_
          refine J_getR (pc := 63) C flX1_12 dX1_readTest_63 (fun a15 => ?_)
          refine J_callVU (pc := 66) (As := []) (rest := []) C (fun z hz => mX8_toNextToken a15 h13 z hz) mwX8_toNextToken csX8_toNextToken mlX1_58 inX8_toNextToken rfl dX1_readTest_66 (by decide) rfl (Nat.le_of_ble_eq_true rfl) (by decide) (fun _ h16 => ?_)
          refine J_aload_n (pc := 69) C dX1_readTest_69 rfl 2 rfl ?_
          refine J_getR (pc := 70) C flX1_12 dX1_readTest_70 (fun a17 => ?_)
          refine J_callVI (pc := 73) (As := []) (rest := []) C (fun z hz => mX8_numberToThousand a17 h16 z hz) mwX8_numberToThousand csX8_numberToThousand mlX1_79 inX8_numberToThousand rfl dX1_readTest_73 (by decide) rfl (Nat.le_of_ble_eq_true rfl) (by decide) (fun x19 h18 => ?_)
          refine J_istore (pc := 76) (lv1 := [(4, .int x19), (3, .int x9), (2, .int x2), (0, .ref a0), (1, .ref ap0)]) C dX1_readTest_76 (by decide) rfl ?_
          refine J_iload (pc := 78) C dX1_readTest_78 0 rfl ?_
          refine J_iconst (pc := 80) (v := -1) C dX1_readTest_80 (by decide) ?_
          refine J_icmp_eq (pc := 81) (tgt := 90) C dX1_readTest_81 (by decide) ?_ ?_
          · refine J_iconst (pc := 90) (v := 0) C dX1_readTest_90 (by decide) ?_
            exact J_zret (pc := 91) C hr rfl dX1_readTest_91
          · refine J_iload (pc := 84) C dX1_readTest_84 0 rfl ?_
            refine J_iload_n (pc := 86) C dX1_readTest_86 rfl 1 rfl ?_
            refine J_icmp_ge (pc := 87) (tgt := 92) C dX1_readTest_87 (by decide) ?_ ?_
            · refine J_aload_n (pc := 92) C dX1_readTest_92 rfl 3 rfl ?_
              refine J_getR (pc := 93) C flX1_12 dX1_readTest_93 (fun a20 => ?_)
              refine J_callVU (pc := 96) (As := []) (rest := []) C (fun z hz => mX8_toNextToken a20 h18 z hz) mwX8_toNextToken csX8_toNextToken mlX1_58 inX8_toNextToken rfl dX1_readTest_96 (by decide) rfl (Nat.le_of_ble_eq_true rfl) (by decide) (fun _ h21 => ?_)
              refine J_aload_n (pc := 99) C dX1_readTest_99 rfl 4 rfl ?_
              refine J_iload_n (pc := 100) C dX1_readTest_100 rfl 2 rfl ?_
              refine J_iload_n (pc := 101) C dX1_readTest_101 rfl 1 rfl ?_
              refine J_iload (pc := 102) C dX1_readTest_102 0 rfl ?_
              refine J_callVU (pc := 104) (As := [.int x2, .int x9, .int x19]) (rest := []) C (fun z hz => mX4_addTest ap0 x2 x9 x19 h21 z hz) mwX4_addTest csX4_addTest mlX1_88 inX4_addTest rfl dX1_readTest_104 (by decide) rfl (Nat.le_of_ble_eq_true rfl) (by decide) (fun _ h22 => ?_)
              refine J_iconst (pc := 107) (v := 1) C dX1_readTest_107 (by decide) ?_
              exact J_zret (pc := 108) C hr rfl dX1_readTest_108
            · refine J_iconst (pc := 90) (v := 0) C dX1_readTest_90 (by decide) ?_
              exact J_zret (pc := 91) C hr rfl dX1_readTest_91
        · refine J_iconst (pc := 60) (v := 0) C dX1_readTest_60 (by decide) ?_
          exact J_zret (pc := 61) C hr rfl dX1_readTest_61
      · refine J_iconst (pc := 39) (v := 0) C dX1_readTest_39 (by decide) ?_
        exact J_zret (pc := 40) C hr rfl dX1_readTest_40
    · refine J_iconst (pc := 17) (v := 0) C dX1_readTest_17 (by decide) ?_
      exact J_zret (pc := 18) C hr rfl dX1_readTest_18
theorem mX1_readTest {l : Launch} {G : GX} (a0 : Nat) (ap0 : Nat) (h0 : PH) : ∀ z, fX1_readTest a0 ap0 h0 = some z → MC l G yX1_readTest cX1_readTest 5 (some .boolean) rmX1_readTest [.ref a0, .ref ap0] h0 (rvI z.1) z.2 :=
  Met_J (own := RX1) (by decide) rfl (Nat.le_of_ble_eq_true rfl) (fun p e s m args below meth c C hr hn => vfX1_readTest C hr a0 ap0 h0)

theorem dX1_readColour_0 : decode cX1_readColour 0 = .ok (.aload_n 0, 1) := by decide +kernel
theorem dX1_readColour_1 : decode cX1_readColour 1 = .ok (.aload_n 1, 1) := by decide +kernel
theorem dX1_readColour_2 : decode cX1_readColour 2 = .ok (.getfield 45, 3) := by decide +kernel
theorem dX1_readColour_5 : decode cX1_readColour 5 = .ok (.invokevirtual 48, 3) := by decide +kernel
theorem dX1_readColour_8 : decode cX1_readColour 8 = .ok (.ifCond .eq 12, 3) := by decide +kernel
theorem dX1_readColour_11 : decode cX1_readColour 11 = .ok (.aload_n 0, 1) := by decide +kernel
theorem dX1_readColour_12 : decode cX1_readColour 12 = .ok (.bipush 58, 2) := by decide +kernel
theorem dX1_readColour_14 : decode cX1_readColour 14 = .ok (.invokevirtual 41, 3) := by decide +kernel
theorem dX1_readColour_17 : decode cX1_readColour 17 = .ok (.ifCond .ne 5, 3) := by decide +kernel
theorem dX1_readColour_20 : decode cX1_readColour 20 = .ok (.iconst 0, 1) := by decide +kernel
theorem dX1_readColour_21 : decode cX1_readColour 21 = .ok (.ireturn, 1) := by decide +kernel
theorem dX1_readColour_22 : decode cX1_readColour 22 = .ok (.iconst 0, 1) := by decide +kernel
theorem dX1_readColour_23 : decode cX1_readColour 23 = .ok (.istore_n 2, 1) := by decide +kernel
theorem dX1_readColour_24 : decode cX1_readColour 24 = .ok (.iload_n 2, 1) := by decide +kernel
theorem dX1_readColour_25 : decode cX1_readColour 25 = .ok (.bipush 30, 2) := by decide +kernel
theorem dX1_readColour_27 : decode cX1_readColour 27 = .ok (.if_icmp .gt 50, 3) := by decide +kernel
theorem dX1_readColour_30 : decode cX1_readColour 30 = .ok (.aload_n 0, 1) := by decide +kernel
theorem dX1_readColour_31 : decode cX1_readColour 31 = .ok (.aload_n 1, 1) := by decide +kernel
theorem dX1_readColour_32 : decode cX1_readColour 32 = .ok (.invokevirtual 52, 3) := by decide +kernel
theorem dX1_readColour_35 : decode cX1_readColour 35 = .ok (.ifCond .ne 5, 3) := by decide +kernel
theorem dX1_readColour_38 : decode cX1_readColour 38 = .ok (.iconst 0, 1) := by decide +kernel
theorem dX1_readColour_39 : decode cX1_readColour 39 = .ok (.ireturn, 1) := by decide +kernel
theorem dX1_readColour_40 : decode cX1_readColour 40 = .ok (.aload_n 0, 1) := by decide +kernel
theorem dX1_readColour_41 : decode cX1_readColour 41 = .ok (.getfield 12, 3) := by decide +kernel
theorem dX1_readColour_44 : decode cX1_readColour 44 = .ok (.bipush 44, 2) := by decide +kernel
theorem dX1_readColour_46 : decode cX1_readColour 46 = .ok (.invokevirtual 55, 3) := by decide +kernel
theorem dX1_readColour_49 : decode cX1_readColour 49 = .ok (.ifCond .ne 15, 3) := by decide +kernel
theorem dX1_readColour_52 : decode cX1_readColour 52 = .ok (.aload_n 1, 1) := by decide +kernel
theorem dX1_readColour_53 : decode cX1_readColour 53 = .ok (.dup, 1) := by decide +kernel
theorem dX1_readColour_54 : decode cX1_readColour 54 = .ok (.getfield 45, 3) := by decide +kernel
theorem dX1_readColour_57 : decode cX1_readColour 57 = .ok (.iconst 1, 1) := by decide +kernel
theorem dX1_readColour_58 : decode cX1_readColour 58 = .ok (.iadd, 1) := by decide +kernel
theorem dX1_readColour_59 : decode cX1_readColour 59 = .ok (.putfield 45, 3) := by decide +kernel
theorem dX1_readColour_62 : decode cX1_readColour 62 = .ok (.iconst 1, 1) := by decide +kernel
theorem dX1_readColour_63 : decode cX1_readColour 63 = .ok (.ireturn, 1) := by decide +kernel
theorem dX1_readColour_64 : decode cX1_readColour 64 = .ok (.aload_n 0, 1) := by decide +kernel
theorem dX1_readColour_65 : decode cX1_readColour 65 = .ok (.getfield 12, 3) := by decide +kernel
theorem dX1_readColour_68 : decode cX1_readColour 68 = .ok (.invokevirtual 58, 3) := by decide +kernel
theorem dX1_readColour_71 : decode cX1_readColour 71 = .ok (.iinc 2 1, 3) := by decide +kernel
theorem dX1_readColour_74 : decode cX1_readColour 74 = .ok (.goto (-50), 3) := by decide +kernel
theorem dX1_readColour_77 : decode cX1_readColour 77 = .ok (.iconst 0, 1) := by decide +kernel
theorem dX1_readColour_78 : decode cX1_readColour 78 = .ok (.ireturn, 1) := by decide +kernel
def rmX1_readColour : Room := { frames := 7, cells := 0, slots := 0, locals := 151 }
def fX1_readColour_24  : Nat → Nat → Nat → Int32 → PH → Option (Int32 × PH)
  | 0, _, _, _, _ => none
  | n + 1, al0, al1, xl2, h0 =>
    if (30 : Int32) < xl2 then (some ((0 : Int32), h0)) else
    bn (chk 1 al0 h0) fun _ => bn2 (fX1_readTest al0 al1 h0) fun x7 h6 =>
    if x7 = 0 then (some ((0 : Int32), h6)) else
    bn (rdR 1 0 al0 h6) fun a8 =>
    bn (chk 8 a8 h6) fun _ => bn2 (fX8_isMark a8 (44 : Int32) h6) fun x10 h9 =>
    if x10 = 0 then (bn (rdI 4 0 al1 h9) fun x13 =>
    bn (wr 4 0 (.int (x13 + (1 : Int32))) al1 h9) fun h14 =>
    some ((1 : Int32), h14)) else
    bn (rdR 1 0 al0 h9) fun a11 =>
    bn (chk 8 a11 h9) fun _ => bn2 (fX8_toNextToken a11 h9) fun _ h12 =>
    (fX1_readColour_24 n) al0 al1 (xl2 + 1) h12
set_option maxHeartbeats 4000000 in
set_option maxRecDepth 100000 in
theorem vfX1_readColour_24 {p : Program} {l : Launch} {e : Env} {s : State} {m : MethodId} {args : Array Value} {below : List Frame} {meth : Method} {c : Code} {G : GX} (C : Cx p s m args meth c G cX1_readColour 3 RX1) (hr : meth.sig.returnType = (some .boolean)) : ∀ (n : Nat) (al0 : Nat) (al1 : Nat) (xl2 : Int32) (h0 : PH), J p l e rmX1_readColour s m args below meth c G 3 (qM below args s rvI G 0 0) 0 0 h0 24 [(0, .ref al0), (1, .ref al1), (2, .int xl2)] [] (fX1_readColour_24  n al0 al1 xl2 h0) := by
  intro n
  induction n with
  | zero => exact fun al0 al1 xl2 h0 => J_none C
  | succ n ih =>
    intro al0 al1 xl2 h0
    unfold fX1_readColour_24
    refine J_iload_n (pc := 24) C dX1_readColour_24 rfl 2 rfl ?_
    refine J_bipush (pc := 25) (v := 30) C dX1_readColour_25 (by decide) ?_
    refine J_icmp_gt (pc := 27) (tgt := 77) C dX1_readColour_27 (by decide) ?_ ?_
    · refine J_iconst (pc := 77) (v := 0) C dX1_readColour_77 (by decide) ?_
      exact J_zret (pc := 78) C hr rfl dX1_readColour_78
    · refine J_aload_n (pc := 30) C dX1_readColour_30 rfl 0 rfl ?_
      refine J_aload_n (pc := 31) C dX1_readColour_31 rfl 1 rfl ?_
      refine J_callVI (pc := 32) (As := [.ref al1]) (rest := []) C (fun z hz => mX1_readTest al0 al1 h0 z hz) mwX1_readTest csX1_readTest mlX1_52 inX1_readTest rfl dX1_readColour_32 (by decide) rfl (Nat.le_of_ble_eq_true rfl) (by decide) (fun x7 h6 => ?_)
      refine J_if_ne (pc := 35) (tgt := 40) C dX1_readColour_35 (by decide) ?_ ?_
      · refine J_aload_n (pc := 40) C dX1_readColour_40 rfl 0 rfl ?_
        refine J_getR (pc := 41) C flX1_12 dX1_readColour_41 (fun a8 => ?_)
        refine J_bipush (pc := 44) (v := 44) C dX1_readColour_44 (by decide) ?_
        refine J_callVI (pc := 46) (As := [.int (44 : Int32)]) (rest := []) C (fun z hz => mX8_isMark a8 (44 : Int32) h6 z hz) mwX8_isMark csX8_isMark mlX1_55 inX8_isMark rfl dX1_readColour_46 (by decide) rfl (Nat.le_of_ble_eq_true rfl) (by decide) (fun x10 h9 => ?_)
        refine J_if_ne (pc := 49) (tgt := 64) C dX1_readColour_49 (by decide) ?_ ?_
        · refine J_aload_n (pc := 64) C dX1_readColour_64 rfl 0 rfl ?_
          refine J_getR (pc := 65) C flX1_12 dX1_readColour_65 (fun a11 => ?_)
          refine J_callVU (pc := 68) (As := []) (rest := []) C (fun z hz => mX8_toNextToken a11 h9 z hz) mwX8_toNextToken csX8_toNextToken mlX1_58 inX8_toNextToken rfl dX1_readColour_68 (by decide) rfl (Nat.le_of_ble_eq_true rfl) (by decide) (fun _ h12 => ?_)
          refine J_iinc (pc := 71) (v := (xl2 + 1)) (lv1 := [(2, .int (xl2 + 1)), (0, .ref al0), (1, .ref al1)]) C dX1_readColour_71 2 rfl rfl (by decide) rfl ?_
          refine J_goto (pc := 74) (tgt := 24) C dX1_readColour_74 (by decide) ?_
          refine J_sub [1, 2, 0] rfl ?_
          exact ih al0 al1 (xl2 + 1) h12
        · refine J_aload_n (pc := 52) C dX1_readColour_52 rfl 1 rfl ?_
          refine J_dup (pc := 53) C dX1_readColour_53 rfl ?_
          refine J_getI (pc := 54) C flX1_45 dX1_readColour_54 (fun x13 => ?_)
          refine J_iconst (pc := 57) (v := 1) C dX1_readColour_57 (by decide) ?_
          refine J_iadd (pc := 58) C dX1_readColour_58 ?_
          refine J_put (pc := 59) C flX1_45 cl4 ft4_0 rfl rfl dX1_readColour_59 (fun h14 => ?_)
          refine J_iconst (pc := 62) (v := 1) C dX1_readColour_62 (by decide) ?_
          exact J_zret (pc := 63) C hr rfl dX1_readColour_63
      · refine J_iconst (pc := 38) (v := 0) C dX1_readColour_38 (by decide) ?_
        exact J_zret (pc := 39) C hr rfl dX1_readColour_39
def fX1_readColour  (a0 : Nat) (ap0 : Nat) (h0 : PH) : Option (Int32 × PH) :=
    bn (rdI 4 0 ap0 h0) fun x1 =>
    bn (chk 1 a0 h0) fun _ => bn2 (fX1_takeName a0 x1 h0) fun x3 h2 =>
    if x3 = 0 then (some ((0 : Int32), h2)) else
    bn (chk 1 a0 h2) fun _ => bn2 (fX1_takeMark a0 (58 : Int32) h2) fun x5 h4 =>
    if x5 = 0 then (some ((0 : Int32), h4)) else
    fX1_readColour_24  FU a0 ap0 (0 : Int32) h4
set_option maxHeartbeats 4000000 in
set_option maxRecDepth 100000 in
theorem vfX1_readColour {p : Program} {l : Launch} {e : Env} {s : State} {m : MethodId} {args : Array Value} {below : List Frame} {meth : Method} {c : Code} {G : GX} (C : Cx p s m args meth c G cX1_readColour 3 RX1) (hr : meth.sig.returnType = (some .boolean)) (a0 : Nat) (ap0 : Nat) (h0 : PH) : J p l e rmX1_readColour s m args below meth c G 3 (qM below args s rvI G 0 0) 0 0 h0 0 [(0, .ref a0), (1, .ref ap0)] [] (fX1_readColour  a0 ap0 h0) := by
  unfold fX1_readColour
  refine J_aload_n (pc := 0) C dX1_readColour_0 rfl 0 rfl ?_
  refine J_aload_n (pc := 1) C dX1_readColour_1 rfl 1 rfl ?_
  refine J_getI (pc := 2) C flX1_45 dX1_readColour_2 (fun x1 => ?_)
  refine J_callVI (pc := 5) (As := [.int x1]) (rest := []) C (fun z hz => mX1_takeName a0 x1 h0 z hz) mwX1_takeName csX1_takeName mlX1_48 inX1_takeName rfl dX1_readColour_5 (by decide) rfl (Nat.le_of_ble_eq_true rfl) (by decide) (fun x3 h2 => ?_)
  refine J_if_eq (pc := 8) (tgt := 20) C dX1_readColour_8 (by decide) ?_ ?_
  · refine J_iconst (pc := 20) (v := 0) C dX1_readColour_20 (by decide) ?_
    exact J_zret (pc := 21) C hr rfl dX1_readColour_21
  · refine J_aload_n (pc := 11) C dX1_readColour_11 rfl 0 rfl ?_
    refine J_bipush (pc := 12) (v := 58) C dX1_readColour_12 (by decide) ?_
    refine J_callVI (pc := 14) (As := [.int (58 : Int32)]) (rest := []) C (fun z hz => mX1_takeMark a0 (58 : Int32) h2 z hz) mwX1_takeMark csX1_takeMark mlX1_41 inX1_takeMark rfl dX1_readColour_14 (by decide) rfl (Nat.le_of_ble_eq_true rfl) (by decide) (fun x5 h4 => ?_)
    refine J_if_ne (pc := 17) (tgt := 22) C dX1_readColour_17 (by decide) ?_ ?_
    · refine J_iconst (pc := 22) (v := 0) C dX1_readColour_22 (by decide) ?_
      refine J_istore_n (pc := 23) (lv1 := [(2, .int (0 : Int32)), (0, .ref a0), (1, .ref ap0)]) C dX1_readColour_23 rfl (by decide) rfl ?_
      refine J_sub [1, 2, 0] rfl ?_
      exact vfX1_readColour_24 C hr  FU a0 ap0 (0 : Int32) h4
    · refine J_iconst (pc := 20) (v := 0) C dX1_readColour_20 (by decide) ?_
      exact J_zret (pc := 21) C hr rfl dX1_readColour_21
theorem mX1_readColour {l : Launch} {G : GX} (a0 : Nat) (ap0 : Nat) (h0 : PH) : ∀ z, fX1_readColour a0 ap0 h0 = some z → MC l G yX1_readColour cX1_readColour 3 (some .boolean) rmX1_readColour [.ref a0, .ref ap0] h0 (rvI z.1) z.2 :=
  Met_J (own := RX1) (by decide) rfl (Nat.le_of_ble_eq_true rfl) (fun p e s m args below meth c C hr hn => vfX1_readColour C hr a0 ap0 h0)

