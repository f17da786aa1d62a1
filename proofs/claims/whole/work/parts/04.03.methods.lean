theorem dX7_living_0 : decode cX7_living 0 = .ok (.iload_n 1, 1) := by decide +kernel
theorem dX7_living_1 : decode cX7_living 1 = .ok (.ifCond .lt 11, 3) := by decide +kernel
theorem dX7_living_4 : decode cX7_living 4 = .ok (.iload_n 1, 1) := by decide +kernel
theorem dX7_living_5 : decode cX7_living 5 = .ok (.aload_n 0, 1) := by decide +kernel
theorem dX7_living_6 : decode cX7_living 6 = .ok (.getfield 30, 3) := by decide +kernel
theorem dX7_living_9 : decode cX7_living 9 = .ok (.if_icmp .lt 5, 3) := by decide +kernel
theorem dX7_living_12 : decode cX7_living 12 = .ok (.aconst_null, 1) := by decide +kernel
theorem dX7_living_13 : decode cX7_living 13 = .ok (.areturn, 1) := by decide +kernel
theorem dX7_living_14 : decode cX7_living 14 = .ok (.aload_n 0, 1) := by decide +kernel
theorem dX7_living_15 : decode cX7_living 15 = .ok (.getfield 11, 3) := by decide +kernel
theorem dX7_living_18 : decode cX7_living 18 = .ok (.iload_n 1, 1) := by decide +kernel
theorem dX7_living_19 : decode cX7_living 19 = .ok (.aaload, 1) := by decide +kernel
theorem dX7_living_20 : decode cX7_living 20 = .ok (.astore_n 2, 1) := by decide +kernel
theorem dX7_living_21 : decode cX7_living 21 = .ok (.aload_n 2, 1) := by decide +kernel
theorem dX7_living_22 : decode cX7_living 22 = .ok (.ifnull 10, 3) := by decide +kernel
theorem dX7_living_25 : decode cX7_living 25 = .ok (.aload_n 2, 1) := by decide +kernel
theorem dX7_living_26 : decode cX7_living 26 = .ok (.getfield 33, 3) := by decide +kernel
theorem dX7_living_29 : decode cX7_living 29 = .ok (.ifCond .eq 7, 3) := by decide +kernel
theorem dX7_living_32 : decode cX7_living 32 = .ok (.aconst_null, 1) := by decide +kernel
theorem dX7_living_33 : decode cX7_living 33 = .ok (.goto 4, 3) := by decide +kernel
theorem dX7_living_36 : decode cX7_living 36 = .ok (.aload_n 2, 1) := by decide +kernel
theorem dX7_living_37 : decode cX7_living 37 = .ok (.areturn, 1) := by decide +kernel
def rmX7_living : Room := { frames := 0, cells := 0, slots := 0, locals := 0 }
def fX7_living  (a0 : Nat) (xp0 : Int32) (h0 : PH) : Option (Option Nat × PH) :=
    if xp0 < 0 then (some (none, h0)) else
    bn (rdI 7 4 a0 h0) fun x1 =>
    if xp0 < x1 then (bn (rdR 7 0 a0 h0) fun a2 =>
    bn (aldR 3 a2 xp0 h0) fun o3 =>
    onul o3 (some (none, h0)) fun a4 =>
    bn (rdI 5 4 a4 h0) fun x5 =>
    if x5 = 0 then (some ((some a4), h0)) else
    some (none, h0)) else
    some (none, h0)
set_option maxHeartbeats 4000000 in
set_option maxRecDepth 100000 in
theorem vfX7_living {p : Program} {l : Launch} {e : Env} {s : State} {m : MethodId} {args : Array Value} {below : List Frame} {meth : Method} {c : Code} {G : GX} (C : Cx p s m args meth c G cX7_living 3 RX7) (hr : meth.sig.returnType = (some (.object "GoldLeaves$Piece"))) (a0 : Nat) (xp0 : Int32) (h0 : PH) : J p l e rmX7_living s m args below meth c G 3 (qM below args s rvR G 0 0) 0 0 h0 0 [(0, .ref a0), (1, .int xp0)] [] (fX7_living  a0 xp0 h0) := by
  unfold fX7_living
  refine J_iload_n (pc := 0) C dX7_living_0 rfl 1 rfl ?_
  refine J_if_lt (pc := 1) (tgt := 12) C dX7_living_1 (by decide) ?_ ?_
  · refine J_null (pc := 12) C dX7_living_12 ?_
    exact J_aret (pc := 13) (v := none) C hr dX7_living_13
  · refine J_iload_n (pc := 4) C dX7_living_4 rfl 1 rfl ?_
    refine J_aload_n (pc := 5) C dX7_living_5 rfl 0 rfl ?_
    refine J_getI (pc := 6) C flX7_30 dX7_living_6 (fun x1 => ?_)
    refine J_icmp_lt (pc := 9) (tgt := 14) C dX7_living_9 (by decide) ?_ ?_
    · refine J_aload_n (pc := 14) C dX7_living_14 rfl 0 rfl ?_
      refine J_getR (pc := 15) C flX7_11 dX7_living_15 (fun a2 => ?_)
      refine J_iload_n (pc := 18) C dX7_living_18 rfl 1 rfl ?_
      refine J_aald (pc := 19) C 3 (.object "GoldLeaves$Piece") (fun _ => rfl) rfl dX7_living_19 (fun o3 => ?_)
      refine J_astore_nQ (pc := 20) (x := o3) (lv1 := [(2, va_rf o3), (0, .ref a0), (1, .int xp0)]) C dX7_living_20 rfl (by decide) rfl ?_
      refine J_aload_nQ (pc := 21) (x := o3) C dX7_living_21 rfl 0 rfl ?_
      refine J_onul (fun hx => ?_) (fun a4 hx => ?_)
      · subst hx
        refine J_ifnullN (pc := 22) (tgt := 32) C dX7_living_22 (by decide) ?_
        refine J_null (pc := 32) C dX7_living_32 ?_
        refine J_goto (pc := 33) (tgt := 37) C dX7_living_33 (by decide) ?_
        exact J_aret (pc := 37) (v := none) C hr dX7_living_37
      · subst hx
        refine J_ifnull (pc := 22) C dX7_living_22 ?_
        refine J_aload_n (pc := 25) C dX7_living_25 rfl 0 rfl ?_
        refine J_getI (pc := 26) C flX7_33 dX7_living_26 (fun x5 => ?_)
        refine J_if_eq (pc := 29) (tgt := 36) C dX7_living_29 (by decide) ?_ ?_
        · refine J_aload_n (pc := 36) C dX7_living_36 rfl 0 rfl ?_
          exact J_aret (pc := 37) (v := (some a4)) C hr dX7_living_37
        · refine J_null (pc := 32) C dX7_living_32 ?_
          refine J_goto (pc := 33) (tgt := 37) C dX7_living_33 (by decide) ?_
          exact J_aret (pc := 37) (v := none) C hr dX7_living_37
    · refine J_null (pc := 12) C dX7_living_12 ?_
      exact J_aret (pc := 13) (v := none) C hr dX7_living_13
theorem mX7_living {l : Launch} {G : GX} (a0 : Nat) (xp0 : Int32) (h0 : PH) : ∀ z, fX7_living a0 xp0 h0 = some z → MC l G yX7_living cX7_living 3 (some (.object "GoldLeaves$Piece")) rmX7_living [.ref a0, .int xp0] h0 (rvR z.1) z.2 :=
  Met_J (own := RX7) (by decide) rfl (Nat.le_of_ble_eq_true rfl) (fun p e s m args below meth c C hr hn => vfX7_living C hr a0 xp0 h0)

theorem dX5_isLeaf_0 : decode cX5_isLeaf 0 = .ok (.aload_n 0, 1) := by decide +kernel
theorem dX5_isLeaf_1 : decode cX5_isLeaf 1 = .ok (.getfield 19, 3) := by decide +kernel
theorem dX5_isLeaf_4 : decode cX5_isLeaf 4 = .ok (.ifCond .le 7, 3) := by decide +kernel
theorem dX5_isLeaf_7 : decode cX5_isLeaf 7 = .ok (.iconst 1, 1) := by decide +kernel
theorem dX5_isLeaf_8 : decode cX5_isLeaf 8 = .ok (.goto 4, 3) := by decide +kernel
theorem dX5_isLeaf_11 : decode cX5_isLeaf 11 = .ok (.iconst 0, 1) := by decide +kernel
theorem dX5_isLeaf_12 : decode cX5_isLeaf 12 = .ok (.ireturn, 1) := by decide +kernel
def rmX5_isLeaf : Room := { frames := 0, cells := 0, slots := 0, locals := 0 }
def fX5_isLeaf  (a0 : Nat) (h0 : PH) : Option (Int32 × PH) :=
    bn (rdI 5 2 a0 h0) fun x1 =>
    if x1 ≤ 0 then (some ((0 : Int32), h0)) else
    some ((1 : Int32), h0)
set_option maxHeartbeats 4000000 in
set_option maxRecDepth 100000 in
theorem vfX5_isLeaf {p : Program} {l : Launch} {e : Env} {s : State} {m : MethodId} {args : Array Value} {below : List Frame} {meth : Method} {c : Code} {G : GX} (C : Cx p s m args meth c G cX5_isLeaf 1 RX5) (hr : meth.sig.returnType = (some .boolean)) (a0 : Nat) (h0 : PH) : J p l e rmX5_isLeaf s m args below meth c G 1 (qM below args s rvI G 0 0) 0 0 h0 0 [(0, .ref a0)] [] (fX5_isLeaf  a0 h0) := by
  unfold fX5_isLeaf
  refine J_aload_n (pc := 0) C dX5_isLeaf_0 rfl 0 rfl ?_
  refine J_getI (pc := 1) C flX5_19 dX5_isLeaf_1 (fun x1 => ?_)
  refine J_if_le (pc := 4) (tgt := 11) C dX5_isLeaf_4 (by decide) ?_ ?_
  · refine J_iconst (pc := 11) (v := 0) C dX5_isLeaf_11 (by decide) ?_
    exact J_zret (pc := 12) C hr rfl dX5_isLeaf_12
  · refine J_iconst (pc := 7) (v := 1) C dX5_isLeaf_7 (by decide) ?_
    refine J_goto (pc := 8) (tgt := 12) C dX5_isLeaf_8 (by decide) ?_
    exact J_zret (pc := 12) C hr rfl dX5_isLeaf_12
theorem mX5_isLeaf {l : Launch} {G : GX} (a0 : Nat) (h0 : PH) : ∀ z, fX5_isLeaf a0 h0 = some z → MC l G yX5_isLeaf cX5_isLeaf 1 (some .boolean) rmX5_isLeaf [.ref a0] h0 (rvI z.1) z.2 :=
  Met_J (own := RX5) (by decide) rfl (Nat.le_of_ble_eq_true rfl) (fun p e s m args below meth c C hr hn => vfX5_isLeaf C hr a0 h0)

theorem dJ9_max_7cf53_0 : decode cJ9_max_7cf53 0 = .ok (.iload_n 0, 1) := by decide +kernel
theorem dJ9_max_7cf53_1 : decode cJ9_max_7cf53 1 = .ok (.iload_n 1, 1) := by decide +kernel
theorem dJ9_max_7cf53_2 : decode cJ9_max_7cf53 2 = .ok (.if_icmp .lt 7, 3) := by decide +kernel
theorem dJ9_max_7cf53_5 : decode cJ9_max_7cf53 5 = .ok (.iload_n 0, 1) := by decide +kernel
theorem dJ9_max_7cf53_6 : decode cJ9_max_7cf53 6 = .ok (.goto 4, 3) := by decide +kernel
theorem dJ9_max_7cf53_9 : decode cJ9_max_7cf53 9 = .ok (.iload_n 1, 1) := by decide +kernel
theorem dJ9_max_7cf53_10 : decode cJ9_max_7cf53 10 = .ok (.ireturn, 1) := by decide +kernel
def rmJ9_max_7cf53 : Room := { frames := 0, cells := 0, slots := 0, locals := 0 }
def fJ9_max_7cf53  (xp0 : Int32) (xp1 : Int32) (h0 : PH) : Option (Int32 × PH) :=
    if xp0 < xp1 then (some (xp1, h0)) else
    some (xp0, h0)
set_option maxHeartbeats 4000000 in
set_option maxRecDepth 100000 in
theorem vfJ9_max_7cf53 {p : Program} {l : Launch} {e : Env} {s : State} {m : MethodId} {args : Array Value} {below : List Frame} {meth : Method} {c : Code} {G : GX} (C : Cx p s m args meth c G cJ9_max_7cf53 2 RJ9) (hr : meth.sig.returnType = (some .int)) (xp0 : Int32) (xp1 : Int32) (h0 : PH) : J p l e rmJ9_max_7cf53 s m args below meth c G 2 (qM below args s rvI G 0 0) 0 0 h0 0 [(0, .int xp0), (1, .int xp1)] [] (fJ9_max_7cf53  xp0 xp1 h0) := by
  unfold fJ9_max_7cf53
  refine J_iload_n (pc := 0) C dJ9_max_7cf53_0 rfl 0 rfl ?_
  refine J_iload_n (pc := 1) C dJ9_max_7cf53_1 rfl 1 rfl ?_
  refine J_icmp_lt (pc := 2) (tgt := 9) C dJ9_max_7cf53_2 (by decide) ?_ ?_
  · refine J_iload_n (pc := 9) C dJ9_max_7cf53_9 rfl 1 rfl ?_
    exact J_iret (pc := 10) C hr dJ9_max_7cf53_10
  · refine J_iload_n (pc := 5) C dJ9_max_7cf53_5 rfl 0 rfl ?_
    refine J_goto (pc := 6) (tgt := 10) C dJ9_max_7cf53_6 (by decide) ?_
    exact J_iret (pc := 10) C hr dJ9_max_7cf53_10
theorem mJ9_max_7cf53 {l : Launch} {G : GX} (xp0 : Int32) (xp1 : Int32) (h0 : PH) : ∀ z, fJ9_max_7cf53 xp0 xp1 h0 = some z → MC l G yJ9_max_7cf53 cJ9_max_7cf53 2 (some .int) rmJ9_max_7cf53 [.int xp0, .int xp1] h0 (rvI z.1) z.2 :=
  Met_JF (own := RJ9) (by decide +kernel) rfl (Nat.le_of_ble_eq_true rfl) (fun p e s m args below meth c C hr hn => vfJ9_max_7cf53 C hr xp0 xp1 h0)

theorem dX7_giveWholeShares_0 : decode cX7_giveWholeShares 0 = .ok (.iconst 0, 1) := by decide +kernel
theorem dX7_giveWholeShares_1 : decode cX7_giveWholeShares 1 = .ok (.istore 4, 2) := by decide +kernel
theorem dX7_giveWholeShares_3 : decode cX7_giveWholeShares 3 = .ok (.aload_n 1, 1) := by decide +kernel
theorem dX7_giveWholeShares_4 : decode cX7_giveWholeShares 4 = .ok (.getfield 47, 3) := by decide +kernel
theorem dX7_giveWholeShares_7 : decode cX7_giveWholeShares 7 = .ok (.iconst 1, 1) := by decide +kernel
theorem dX7_giveWholeShares_8 : decode cX7_giveWholeShares 8 = .ok (.invokestatic 70, 3) := by decide +kernel
theorem dX7_giveWholeShares_11 : decode cX7_giveWholeShares 11 = .ok (.i2l, 1) := by decide +kernel
theorem dX7_giveWholeShares_12 : decode cX7_giveWholeShares 12 = .ok (.lstore 5, 2) := by decide +kernel
theorem dX7_giveWholeShares_14 : decode cX7_giveWholeShares 14 = .ok (.iconst 0, 1) := by decide +kernel
theorem dX7_giveWholeShares_15 : decode cX7_giveWholeShares 15 = .ok (.istore 7, 2) := by decide +kernel
theorem dX7_giveWholeShares_17 : decode cX7_giveWholeShares 17 = .ok (.iload 7, 2) := by decide +kernel
theorem dX7_giveWholeShares_19 : decode cX7_giveWholeShares 19 = .ok (.bipush 10, 2) := by decide +kernel
theorem dX7_giveWholeShares_21 : decode cX7_giveWholeShares 21 = .ok (.if_icmp .ge 59, 3) := by decide +kernel
theorem dX7_giveWholeShares_24 : decode cX7_giveWholeShares 24 = .ok (.aload_n 1, 1) := by decide +kernel
theorem dX7_giveWholeShares_25 : decode cX7_giveWholeShares 25 = .ok (.getfield 43, 3) := by decide +kernel
theorem dX7_giveWholeShares_28 : decode cX7_giveWholeShares 28 = .ok (.iload 7, 2) := by decide +kernel
theorem dX7_giveWholeShares_30 : decode cX7_giveWholeShares 30 = .ok (.iaload, 1) := by decide +kernel
theorem dX7_giveWholeShares_31 : decode cX7_giveWholeShares 31 = .ok (.i2l, 1) := by decide +kernel
theorem dX7_giveWholeShares_32 : decode cX7_giveWholeShares 32 = .ok (.iload_n 3, 1) := by decide +kernel
theorem dX7_giveWholeShares_33 : decode cX7_giveWholeShares 33 = .ok (.i2l, 1) := by decide +kernel
theorem dX7_giveWholeShares_34 : decode cX7_giveWholeShares 34 = .ok (.lmul, 1) := by decide +kernel
theorem dX7_giveWholeShares_35 : decode cX7_giveWholeShares 35 = .ok (.lstore 8, 2) := by decide +kernel
theorem dX7_giveWholeShares_37 : decode cX7_giveWholeShares 37 = .ok (.aload_n 2, 1) := by decide +kernel
theorem dX7_giveWholeShares_38 : decode cX7_giveWholeShares 38 = .ok (.getfield 43, 3) := by decide +kernel
theorem dX7_giveWholeShares_41 : decode cX7_giveWholeShares 41 = .ok (.iload 7, 2) := by decide +kernel
theorem dX7_giveWholeShares_43 : decode cX7_giveWholeShares 43 = .ok (.lload 8, 2) := by decide +kernel
theorem dX7_giveWholeShares_45 : decode cX7_giveWholeShares 45 = .ok (.lload 5, 2) := by decide +kernel
theorem dX7_giveWholeShares_47 : decode cX7_giveWholeShares 47 = .ok (.ldiv, 1) := by decide +kernel
theorem dX7_giveWholeShares_48 : decode cX7_giveWholeShares 48 = .ok (.l2i, 1) := by decide +kernel
theorem dX7_giveWholeShares_49 : decode cX7_giveWholeShares 49 = .ok (.iastore, 1) := by decide +kernel
theorem dX7_giveWholeShares_50 : decode cX7_giveWholeShares 50 = .ok (.aload_n 0, 1) := by decide +kernel
theorem dX7_giveWholeShares_51 : decode cX7_giveWholeShares 51 = .ok (.getfield 22, 3) := by decide +kernel
theorem dX7_giveWholeShares_54 : decode cX7_giveWholeShares 54 = .ok (.iload 7, 2) := by decide +kernel
theorem dX7_giveWholeShares_56 : decode cX7_giveWholeShares 56 = .ok (.lload 8, 2) := by decide +kernel
theorem dX7_giveWholeShares_58 : decode cX7_giveWholeShares 58 = .ok (.lload 5, 2) := by decide +kernel
theorem dX7_giveWholeShares_60 : decode cX7_giveWholeShares 60 = .ok (.lrem, 1) := by decide +kernel
theorem dX7_giveWholeShares_61 : decode cX7_giveWholeShares 61 = .ok (.lastore, 1) := by decide +kernel
theorem dX7_giveWholeShares_62 : decode cX7_giveWholeShares 62 = .ok (.iload 4, 2) := by decide +kernel
theorem dX7_giveWholeShares_64 : decode cX7_giveWholeShares 64 = .ok (.aload_n 2, 1) := by decide +kernel
theorem dX7_giveWholeShares_65 : decode cX7_giveWholeShares 65 = .ok (.getfield 43, 3) := by decide +kernel
theorem dX7_giveWholeShares_68 : decode cX7_giveWholeShares 68 = .ok (.iload 7, 2) := by decide +kernel
theorem dX7_giveWholeShares_70 : decode cX7_giveWholeShares 70 = .ok (.iaload, 1) := by decide +kernel
theorem dX7_giveWholeShares_71 : decode cX7_giveWholeShares 71 = .ok (.iadd, 1) := by decide +kernel
theorem dX7_giveWholeShares_72 : decode cX7_giveWholeShares 72 = .ok (.istore 4, 2) := by decide +kernel
theorem dX7_giveWholeShares_74 : decode cX7_giveWholeShares 74 = .ok (.iinc 7 1, 3) := by decide +kernel
theorem dX7_giveWholeShares_77 : decode cX7_giveWholeShares 77 = .ok (.goto (-60), 3) := by decide +kernel
theorem dX7_giveWholeShares_80 : decode cX7_giveWholeShares 80 = .ok (.iload 4, 2) := by decide +kernel
theorem dX7_giveWholeShares_82 : decode cX7_giveWholeShares 82 = .ok (.ireturn, 1) := by decide +kernel
def rmX7_giveWholeShares : Room := { frames := 1, cells := 0, slots := 0, locals := 21 }
def fX7_giveWholeShares_17  : Nat → Nat → Nat → Nat → Int32 → Int32 → Int64 → Int32 → PH → Option (Int32 × PH)
  | 0, _, _, _, _, _, _, _, _ => none
  | n + 1, al0, al1, al2, xl3, xl4, xl5, xl7, h0 =>
    if (10 : Int32) ≤ xl7 then (some (xl4, h0)) else
    bn (rdR 5 0 al1 h0) fun a4 =>
    bn (aldI 0 a4 xl7 h0) fun x5 =>
    nm (x5.toInt64 * xl3.toInt64) fun x6 =>
    bn (rdR 5 0 al2 h0) fun a7 =>
    if xl5 = 0 then none else
    bn (astI a7 xl7 (x6 / xl5).toInt32 h0) fun h8 =>
    bn (rdR 7 2 al0 h8) fun a9 =>
    if xl5 = 0 then none else
    bn (astJ a9 xl7 (x6 - x6 / xl5 * xl5) h8) fun h10 =>
    bn (rdR 5 0 al2 h10) fun a11 =>
    bn (aldI 0 a11 xl7 h10) fun x12 =>
    nm (xl4 + x12) fun x13 =>
    (fX7_giveWholeShares_17 n) al0 al1 al2 xl3 x13 xl5 (xl7 + 1) h10
set_option maxHeartbeats 4000000 in
set_option maxRecDepth 100000 in
theorem vfX7_giveWholeShares_17 {p : Program} {l : Launch} {e : Env} {s : State} {m : MethodId} {args : Array Value} {below : List Frame} {meth : Method} {c : Code} {G : GX} (C : Cx p s m args meth c G cX7_giveWholeShares 10 RX7) (hr : meth.sig.returnType = (some .int)) : ∀ (n : Nat) (al0 : Nat) (al1 : Nat) (al2 : Nat) (xl3 : Int32) (xl4 : Int32) (xl5 : Int64) (xl7 : Int32) (h0 : PH), J p l e rmX7_giveWholeShares s m args below meth c G 10 (qM below args s rvI G 0 0) 0 0 h0 17 [(0, .ref al0), (1, .ref al1), (2, .ref al2), (3, .int xl3), (4, .int xl4), (5, .long xl5), (7, .int xl7)] [] (fX7_giveWholeShares_17  n al0 al1 al2 xl3 xl4 xl5 xl7 h0) := by
  intro n
  induction n with
  | zero => exact fun al0 al1 al2 xl3 xl4 xl5 xl7 h0 => J_none C
  | succ n ih =>
    intro al0 al1 al2 xl3 xl4 xl5 xl7 h0
    unfold fX7_giveWholeShares_17
    refine J_iload (pc := 17) C dX7_giveWholeShares_17 6 rfl ?_
    refine J_bipush (pc := 19) (v := 10) C dX7_giveWholeShares_19 (by decide) ?_
    refine J_icmp_ge (pc := 21) (tgt := 80) C dX7_giveWholeShares_21 (by decide) ?_ ?_
    · refine J_iload (pc := 80) C dX7_giveWholeShares_80 4 rfl ?_
      exact J_iret (pc := 82) C hr dX7_giveWholeShares_82
    · refine J_aload_n (pc := 24) C dX7_giveWholeShares_24 rfl 1 rfl ?_
      refine J_getR (pc := 25) C flX7_43 dX7_giveWholeShares_25 (fun a4 => ?_)
      refine J_iload (pc := 28) C dX7_giveWholeShares_28 6 rfl ?_
      refine J_iald (pc := 30) C dX7_giveWholeShares_30 (fun x5 => ?_)
      refine J_i2l (pc := 31) C dX7_giveWholeShares_31 ?_
      refine J_iload_n (pc := 32) C dX7_giveWholeShares_32 rfl 3 rfl ?_
      refine J_i2l (pc := 33) C dX7_giveWholeShares_33 ?_
      refine J_lmul (pc := 34) C dX7_giveWholeShares_34 ?_
      refine J_nm (fv := .long) (fun x6 => ?_)
      refine J_lstore (pc := 35) (lv1 := [(8, .long x6), (0, .ref al0), (1, .ref al1), (2, .ref al2), (3, .int xl3), (4, .int xl4), (5, .long xl5), (7, .int xl7)]) C dX7_giveWholeShares_35 (by decide) rfl ?_
      refine J_aload_n (pc := 37) C dX7_giveWholeShares_37 rfl 3 rfl ?_
      refine J_getR (pc := 38) C flX7_43 dX7_giveWholeShares_38 (fun a7 => ?_)
      refine J_iload (pc := 41) C dX7_giveWholeShares_41 7 rfl ?_
      refine J_lload (pc := 43) C dX7_giveWholeShares_43 0 rfl ?_
      refine J_lload (pc := 45) C dX7_giveWholeShares_45 6 rfl ?_
      refine J_ldiv (pc := 47) C dX7_giveWholeShares_47 ?_
      refine J_l2i (pc := 48) C dX7_giveWholeShares_48 ?_
      refine J_iast (pc := 49) C dX7_giveWholeShares_49 (fun h8 => ?_)
      refine J_aload_n (pc := 50) C dX7_giveWholeShares_50 rfl 1 rfl ?_
      refine J_getR (pc := 51) C flX7_22 dX7_giveWholeShares_51 (fun a9 => ?_)
      refine J_iload (pc := 54) C dX7_giveWholeShares_54 7 rfl ?_
      refine J_lload (pc := 56) C dX7_giveWholeShares_56 0 rfl ?_
      refine J_lload (pc := 58) C dX7_giveWholeShares_58 6 rfl ?_
      refine J_lrem (pc := 60) C dX7_giveWholeShares_60 ?_
      refine J_last (pc := 61) C dX7_giveWholeShares_61 (fun h10 => ?_)
      refine J_iload (pc := 62) C dX7_giveWholeShares_62 5 rfl ?_
      refine J_aload_n (pc := 64) C dX7_giveWholeShares_64 rfl 3 rfl ?_
      refine J_getR (pc := 65) C flX7_43 dX7_giveWholeShares_65 (fun a11 => ?_)
      refine J_iload (pc := 68) C dX7_giveWholeShares_68 7 rfl ?_
      refine J_iald (pc := 70) C dX7_giveWholeShares_70 (fun x12 => ?_)
      refine J_iadd (pc := 71) C dX7_giveWholeShares_71 ?_
      refine J_nm (fv := .int) (fun x13 => ?_)
      refine J_istore (pc := 72) (lv1 := [(4, .int x13), (8, .long x6), (0, .ref al0), (1, .ref al1), (2, .ref al2), (3, .int xl3), (5, .long xl5), (7, .int xl7)]) C dX7_giveWholeShares_72 (by decide) rfl ?_
      refine J_iinc (pc := 74) (v := (xl7 + 1)) (lv1 := [(7, .int (xl7 + 1)), (4, .int x13), (8, .long x6), (0, .ref al0), (1, .ref al1), (2, .ref al2), (3, .int xl3), (5, .long xl5)]) C dX7_giveWholeShares_74 7 rfl rfl (by decide) rfl ?_
      refine J_goto (pc := 77) (tgt := 17) C dX7_giveWholeShares_77 (by decide) ?_
      refine J_sub [3, 4, 5, 6, 1, 7, 0] rfl ?_
      exact ih al0 al1 al2 xl3 x13 xl5 (xl7 + 1) h10
def fX7_giveWholeShares  (a0 : Nat) (ap0 : Nat) (ap1 : Nat) (xp2 : Int32) (h0 : PH) : Option (Int32 × PH) :=
    bn (rdI 5 1 ap0 h0) fun x1 =>
    bn2 (fJ9_max_7cf53 x1 (1 : Int32) h0) fun x3 h2 =>
    fX7_giveWholeShares_17  FU a0 ap0 ap1 xp2 (0 : Int32) x3.toInt64 (0 : Int32) h2
set_option maxHeartbeats 4000000 in
set_option maxRecDepth 100000 in
theorem vfX7_giveWholeShares {p : Program} {l : Launch} {e : Env} {s : State} {m : MethodId} {args : Array Value} {below : List Frame} {meth : Method} {c : Code} {G : GX} (C : Cx p s m args meth c G cX7_giveWholeShares 10 RX7) (hr : meth.sig.returnType = (some .int)) (a0 : Nat) (ap0 : Nat) (ap1 : Nat) (xp2 : Int32) (h0 : PH) : J p l e rmX7_giveWholeShares s m args below meth c G 10 (qM below args s rvI G 0 0) 0 0 h0 0 [(0, .ref a0), (1, .ref ap0), (2, .ref ap1), (3, .int xp2)] [] (fX7_giveWholeShares  a0 ap0 ap1 xp2 h0) := by
  unfold fX7_giveWholeShares
  refine J_iconst (pc := 0) (v := 0) C dX7_giveWholeShares_0 (by decide) ?_
  refine J_istore (pc := 1) (lv1 := [(4, .int (0 : Int32)), (0, .ref a0), (1, .ref ap0), (2, .ref ap1), (3, .int xp2)]) C dX7_giveWholeShares_1 (by decide) rfl ?_
  refine J_aload_n (pc := 3) C dX7_giveWholeShares_3 rfl 2 rfl ?_
  refine J_getI (pc := 4) C flX7_47 dX7_giveWholeShares_4 (fun x1 => ?_)
  refine J_iconst (pc := 7) (v := 1) C dX7_giveWholeShares_7 (by decide) ?_
  refine J_callSI (pc := 8) (As := [.int x1, .int (1 : Int32)]) (rest := []) C (fun z hz => mJ9_max_7cf53 x1 (1 : Int32) h0 z hz) mwJ9_max_7cf53 mlX7_70 stJ9_max_7cf53 rfl dX7_giveWholeShares_8 (by decide) rfl (Nat.le_of_ble_eq_true rfl) (by decide) (fun x3 h2 => ?_)
  refine J_i2l (pc := 11) C dX7_giveWholeShares_11 ?_
  refine J_lstore (pc := 12) (lv1 := [(5, .long x3.toInt64), (4, .int (0 : Int32)), (0, .ref a0), (1, .ref ap0), (2, .ref ap1), (3, .int xp2)]) C dX7_giveWholeShares_12 (by decide) rfl ?_
  refine J_iconst (pc := 14) (v := 0) C dX7_giveWholeShares_14 (by decide) ?_
  refine J_istore (pc := 15) (lv1 := [(7, .int (0 : Int32)), (5, .long x3.toInt64), (4, .int (0 : Int32)), (0, .ref a0), (1, .ref ap0), (2, .ref ap1), (3, .int xp2)]) C dX7_giveWholeShares_15 (by decide) rfl ?_
  refine J_sub [3, 4, 5, 6, 2, 1, 0] rfl ?_
  exact vfX7_giveWholeShares_17 C hr  FU a0 ap0 ap1 xp2 (0 : Int32) x3.toInt64 (0 : Int32) h2
theorem mX7_giveWholeShares {l : Launch} {G : GX} (a0 : Nat) (ap0 : Nat) (ap1 : Nat) (xp2 : Int32) (h0 : PH) : ∀ z, fX7_giveWholeShares a0 ap0 ap1 xp2 h0 = some z → MC l G yX7_giveWholeShares cX7_giveWholeShares 10 (some .int) rmX7_giveWholeShares [.ref a0, .ref ap0, .ref ap1, .int xp2] h0 (rvI z.1) z.2 :=
  Met_J (own := RX7) (by decide) rfl (Nat.le_of_ble_eq_true rfl) (fun p e s m args below meth c C hr hn => vfX7_giveWholeShares C hr a0 ap0 ap1 xp2 h0)

theorem dX7_greatestRest_0 : decode cX7_greatestRest 0 = .ok (.iconst 0, 1) := by decide +kernel
theorem dX7_greatestRest_1 : decode cX7_greatestRest 1 = .ok (.istore_n 1, 1) := by decide +kernel
theorem dX7_greatestRest_2 : decode cX7_greatestRest 2 = .ok (.iconst 1, 1) := by decide +kernel
theorem dX7_greatestRest_3 : decode cX7_greatestRest 3 = .ok (.istore_n 2, 1) := by decide +kernel
theorem dX7_greatestRest_4 : decode cX7_greatestRest 4 = .ok (.iload_n 2, 1) := by decide +kernel
theorem dX7_greatestRest_5 : decode cX7_greatestRest 5 = .ok (.bipush 10, 2) := by decide +kernel
theorem dX7_greatestRest_7 : decode cX7_greatestRest 7 = .ok (.if_icmp .ge 27, 3) := by decide +kernel
theorem dX7_greatestRest_10 : decode cX7_greatestRest 10 = .ok (.aload_n 0, 1) := by decide +kernel
theorem dX7_greatestRest_11 : decode cX7_greatestRest 11 = .ok (.getfield 22, 3) := by decide +kernel
theorem dX7_greatestRest_14 : decode cX7_greatestRest 14 = .ok (.iload_n 2, 1) := by decide +kernel
theorem dX7_greatestRest_15 : decode cX7_greatestRest 15 = .ok (.laload, 1) := by decide +kernel
theorem dX7_greatestRest_16 : decode cX7_greatestRest 16 = .ok (.aload_n 0, 1) := by decide +kernel
theorem dX7_greatestRest_17 : decode cX7_greatestRest 17 = .ok (.getfield 22, 3) := by decide +kernel
theorem dX7_greatestRest_20 : decode cX7_greatestRest 20 = .ok (.iload_n 1, 1) := by decide +kernel
theorem dX7_greatestRest_21 : decode cX7_greatestRest 21 = .ok (.laload, 1) := by decide +kernel
theorem dX7_greatestRest_22 : decode cX7_greatestRest 22 = .ok (.lcmp, 1) := by decide +kernel
theorem dX7_greatestRest_23 : decode cX7_greatestRest 23 = .ok (.ifCond .le 5, 3) := by decide +kernel
theorem dX7_greatestRest_26 : decode cX7_greatestRest 26 = .ok (.iload_n 2, 1) := by decide +kernel
theorem dX7_greatestRest_27 : decode cX7_greatestRest 27 = .ok (.istore_n 1, 1) := by decide +kernel
theorem dX7_greatestRest_28 : decode cX7_greatestRest 28 = .ok (.iinc 2 1, 3) := by decide +kernel
theorem dX7_greatestRest_31 : decode cX7_greatestRest 31 = .ok (.goto (-27), 3) := by decide +kernel
theorem dX7_greatestRest_34 : decode cX7_greatestRest 34 = .ok (.iload_n 1, 1) := by decide +kernel
theorem dX7_greatestRest_35 : decode cX7_greatestRest 35 = .ok (.ireturn, 1) := by decide +kernel
def rmX7_greatestRest : Room := { frames := 0, cells := 0, slots := 0, locals := 0 }
def fX7_greatestRest_28 (r4 : Nat → Int32 → Int32 → PH → Option (Int32 × PH)) (al0 : Nat) (xl1 : Int32) (xl2 : Int32) (h0 : PH) : Option (Int32 × PH) :=
    r4 al0 xl1 (xl2 + 1) h0
set_option maxHeartbeats 4000000 in
set_option maxRecDepth 100000 in
theorem vfX7_greatestRest_28 {p : Program} {l : Launch} {e : Env} {s : State} {m : MethodId} {args : Array Value} {below : List Frame} {meth : Method} {c : Code} {G : GX} (C : Cx p s m args meth c G cX7_greatestRest 3 RX7) (hr : meth.sig.returnType = (some .int)) {r4 : Nat → Int32 → Int32 → PH → Option (Int32 × PH)} (k4 : ∀ (al0 : Nat) (xl1 : Int32) (xl2 : Int32) (h0 : PH), J p l e rmX7_greatestRest s m args below meth c G 3 (qM below args s rvI G 0 0) 0 0 h0 4 [(0, .ref al0), (1, .int xl1), (2, .int xl2)] [] (r4 al0 xl1 xl2 h0)) (al0 : Nat) (xl1 : Int32) (xl2 : Int32) (h0 : PH) : J p l e rmX7_greatestRest s m args below meth c G 3 (qM below args s rvI G 0 0) 0 0 h0 28 [(0, .ref al0), (1, .int xl1), (2, .int xl2)] [] (fX7_greatestRest_28 r4 al0 xl1 xl2 h0) := by
  unfold fX7_greatestRest_28
  refine J_iinc (pc := 28) (v := (xl2 + 1)) (lv1 := [(2, .int (xl2 + 1)), (0, .ref al0), (1, .int xl1)]) C dX7_greatestRest_28 2 rfl rfl (by decide) rfl ?_
  refine J_goto (pc := 31) (tgt := 4) C dX7_greatestRest_31 (by decide) ?_
  refine J_sub [1, 2, 0] rfl ?_
  exact k4 al0 xl1 (xl2 + 1) h0
def fX7_greatestRest_4  : Nat → Nat → Int32 → Int32 → PH → Option (Int32 × PH)
  | 0, _, _, _, _ => none
  | n + 1, al0, xl1, xl2, h0 =>
    if (10 : Int32) ≤ xl2 then (some (xl1, h0)) else
    bn (rdR 7 2 al0 h0) fun a1 =>
    bn (aldJ a1 xl2 h0) fun x2 =>
    bn (rdR 7 2 al0 h0) fun a3 =>
    bn (aldJ a3 xl1 h0) fun x4 =>
    if x2 ≤ x4 then (fX7_greatestRest_28 (fX7_greatestRest_4 n) al0 xl1 xl2 h0) else
    fX7_greatestRest_28 (fX7_greatestRest_4 n) al0 xl2 xl2 h0
set_option maxHeartbeats 4000000 in
set_option maxRecDepth 100000 in
theorem vfX7_greatestRest_4 {p : Program} {l : Launch} {e : Env} {s : State} {m : MethodId} {args : Array Value} {below : List Frame} {meth : Method} {c : Code} {G : GX} (C : Cx p s m args meth c G cX7_greatestRest 3 RX7) (hr : meth.sig.returnType = (some .int)) : ∀ (n : Nat) (al0 : Nat) (xl1 : Int32) (xl2 : Int32) (h0 : PH), J p l e rmX7_greatestRest s m args below meth c G 3 (qM below args s rvI G 0 0) 0 0 h0 4 [(0, .ref al0), (1, .int xl1), (2, .int xl2)] [] (fX7_greatestRest_4  n al0 xl1 xl2 h0) := by
  intro n
  induction n with
  | zero => exact fun al0 xl1 xl2 h0 => J_none C
  | succ n ih =>
    intro al0 xl1 xl2 h0
    unfold fX7_greatestRest_4
    refine J_iload_n (pc := 4) C dX7_greatestRest_4 rfl 2 rfl ?_
    refine J_bipush (pc := 5) (v := 10) C dX7_greatestRest_5 (by decide) ?_
    refine J_icmp_ge (pc := 7) (tgt := 34) C dX7_greatestRest_7 (by decide) ?_ ?_
    · refine J_iload_n (pc := 34) C dX7_greatestRest_34 rfl 1 rfl ?_
      exact J_iret (pc := 35) C hr dX7_greatestRest_35
    · refine J_aload_n (pc := 10) C dX7_greatestRest_10 rfl 0 rfl ?_
      refine J_getR (pc := 11) C flX7_22 dX7_greatestRest_11 (fun a1 => ?_)
      refine J_iload_n (pc := 14) C dX7_greatestRest_14 rfl 2 rfl ?_
      refine J_lald (pc := 15) C dX7_greatestRest_15 (fun x2 => ?_)
      refine J_aload_n (pc := 16) C dX7_greatestRest_16 rfl 0 rfl ?_
      refine J_getR (pc := 17) C flX7_22 dX7_greatestRest_17 (fun a3 => ?_)
      refine J_iload_n (pc := 20) C dX7_greatestRest_20 rfl 1 rfl ?_
      refine J_lald (pc := 21) C dX7_greatestRest_21 (fun x4 => ?_)
      refine J_lcmp_le (pc := 22) (tgt := 28) C dX7_greatestRest_22 dX7_greatestRest_23 (by decide) ?_ ?_
      · exact vfX7_greatestRest_28 C hr ih al0 xl1 xl2 h0
      · refine J_iload_n (pc := 26) C dX7_greatestRest_26 rfl 2 rfl ?_
        refine J_istore_n (pc := 27) (lv1 := [(1, .int xl2), (0, .ref al0), (2, .int xl2)]) C dX7_greatestRest_27 rfl (by decide) rfl ?_
        refine J_sub [1, 0, 2] rfl ?_
        exact vfX7_greatestRest_28 C hr ih al0 xl2 xl2 h0
def fX7_greatestRest  (a0 : Nat) (h0 : PH) : Option (Int32 × PH) :=
    fX7_greatestRest_4  FU a0 (0 : Int32) (1 : Int32) h0
set_option maxHeartbeats 4000000 in
set_option maxRecDepth 100000 in
theorem vfX7_greatestRest {p : Program} {l : Launch} {e : Env} {s : State} {m : MethodId} {args : Array Value} {below : List Frame} {meth : Method} {c : Code} {G : GX} (C : Cx p s m args meth c G cX7_greatestRest 3 RX7) (hr : meth.sig.returnType = (some .int)) (a0 : Nat) (h0 : PH) : J p l e rmX7_greatestRest s m args below meth c G 3 (qM below args s rvI G 0 0) 0 0 h0 0 [(0, .ref a0)] [] (fX7_greatestRest  a0 h0) := by
  unfold fX7_greatestRest
  refine J_iconst (pc := 0) (v := 0) C dX7_greatestRest_0 (by decide) ?_
  refine J_istore_n (pc := 1) (lv1 := [(1, .int (0 : Int32)), (0, .ref a0)]) C dX7_greatestRest_1 rfl (by decide) rfl ?_
  refine J_iconst (pc := 2) (v := 1) C dX7_greatestRest_2 (by decide) ?_
  refine J_istore_n (pc := 3) (lv1 := [(2, .int (1 : Int32)), (1, .int (0 : Int32)), (0, .ref a0)]) C dX7_greatestRest_3 rfl (by decide) rfl ?_
  refine J_sub [2, 1, 0] rfl ?_
  exact vfX7_greatestRest_4 C hr  FU a0 (0 : Int32) (1 : Int32) h0
theorem mX7_greatestRest {l : Launch} {G : GX} (a0 : Nat) (h0 : PH) : ∀ z, fX7_greatestRest a0 h0 = some z → MC l G yX7_greatestRest cX7_greatestRest 3 (some .int) rmX7_greatestRest [.ref a0] h0 (rvI z.1) z.2 :=
  Met_J (own := RX7) (by decide) rfl (Nat.le_of_ble_eq_true rfl) (fun p e s m args below meth c C hr hn => vfX7_greatestRest C hr a0 h0)

theorem dX7_giveRests_0 : decode cX7_giveRests 0 = .ok (.iconst 0, 1) := by decide +kernel
theorem dX7_giveRests_1 : decode cX7_giveRests 1 = .ok (.istore_n 3, 1) := by decide +kernel
theorem dX7_giveRests_2 : decode cX7_giveRests 2 = .ok (.iload_n 3, 1) := by decide +kernel
theorem dX7_giveRests_3 : decode cX7_giveRests 3 = .ok (.iload_n 2, 1) := by decide +kernel
theorem dX7_giveRests_4 : decode cX7_giveRests 4 = .ok (.if_icmp .ge 40, 3) := by decide +kernel
theorem dX7_giveRests_7 : decode cX7_giveRests 7 = .ok (.iload_n 3, 1) := by decide +kernel
theorem dX7_giveRests_8 : decode cX7_giveRests 8 = .ok (.bipush 10, 2) := by decide +kernel
theorem dX7_giveRests_10 : decode cX7_giveRests 10 = .ok (.if_icmp .ge 34, 3) := by decide +kernel
theorem dX7_giveRests_13 : decode cX7_giveRests 13 = .ok (.aload_n 0, 1) := by decide +kernel
theorem dX7_giveRests_14 : decode cX7_giveRests 14 = .ok (.invokevirtual 76, 3) := by decide +kernel
theorem dX7_giveRests_17 : decode cX7_giveRests 17 = .ok (.istore 4, 2) := by decide +kernel
theorem dX7_giveRests_19 : decode cX7_giveRests 19 = .ok (.aload_n 1, 1) := by decide +kernel
theorem dX7_giveRests_20 : decode cX7_giveRests 20 = .ok (.getfield 43, 3) := by decide +kernel
theorem dX7_giveRests_23 : decode cX7_giveRests 23 = .ok (.iload 4, 2) := by decide +kernel
theorem dX7_giveRests_25 : decode cX7_giveRests 25 = .ok (.dup2, 1) := by decide +kernel
theorem dX7_giveRests_26 : decode cX7_giveRests 26 = .ok (.iaload, 1) := by decide +kernel
theorem dX7_giveRests_27 : decode cX7_giveRests 27 = .ok (.iconst 1, 1) := by decide +kernel
theorem dX7_giveRests_28 : decode cX7_giveRests 28 = .ok (.iadd, 1) := by decide +kernel
theorem dX7_giveRests_29 : decode cX7_giveRests 29 = .ok (.iastore, 1) := by decide +kernel
theorem dX7_giveRests_30 : decode cX7_giveRests 30 = .ok (.aload_n 0, 1) := by decide +kernel
theorem dX7_giveRests_31 : decode cX7_giveRests 31 = .ok (.getfield 22, 3) := by decide +kernel
theorem dX7_giveRests_34 : decode cX7_giveRests 34 = .ok (.iload 4, 2) := by decide +kernel
theorem dX7_giveRests_36 : decode cX7_giveRests 36 = .ok (.lconst 0, 1) := by decide +kernel
theorem dX7_giveRests_37 : decode cX7_giveRests 37 = .ok (.lastore, 1) := by decide +kernel
theorem dX7_giveRests_38 : decode cX7_giveRests 38 = .ok (.iinc 3 1, 3) := by decide +kernel
theorem dX7_giveRests_41 : decode cX7_giveRests 41 = .ok (.goto (-39), 3) := by decide +kernel
theorem dX7_giveRests_44 : decode cX7_giveRests 44 = .ok (.return_, 1) := by decide +kernel
def rmX7_giveRests : Room := { frames := 1, cells := 0, slots := 0, locals := 22 }
def fX7_giveRests_2  : Nat → Nat → Nat → Int32 → Int32 → PH → Option (Unit × PH)
  | 0, _, _, _, _, _ => none
  | n + 1, al0, al1, xl2, xl3, h0 =>
    if xl2 ≤ xl3 then (some ((), h0)) else
    if (10 : Int32) ≤ xl3 then (some ((), h0)) else
    bn (chk 7 al0 h0) fun _ => bn2 (fX7_greatestRest al0 h0) fun x2 h1 =>
    bn (rdR 5 0 al1 h1) fun a3 =>
    bn (aldI 0 a3 x2 h1) fun x4 =>
    bn (astI a3 x2 (x4 + (1 : Int32)) h1) fun h5 =>
    bn (rdR 7 2 al0 h5) fun a6 =>
    bn (astJ a6 x2 (0 : Int64) h5) fun h7 =>
    (fX7_giveRests_2 n) al0 al1 xl2 (xl3 + 1) h7
set_option maxHeartbeats 4000000 in
set_option maxRecDepth 100000 in
theorem vfX7_giveRests_2 {p : Program} {l : Launch} {e : Env} {s : State} {m : MethodId} {args : Array Value} {below : List Frame} {meth : Method} {c : Code} {G : GX} (C : Cx p s m args meth c G cX7_giveRests 5 RX7) (hr : meth.sig.returnType = none) : ∀ (n : Nat) (al0 : Nat) (al1 : Nat) (xl2 : Int32) (xl3 : Int32) (h0 : PH), J p l e rmX7_giveRests s m args below meth c G 5 (qM below args s rvU G 0 0) 0 0 h0 2 [(0, .ref al0), (1, .ref al1), (2, .int xl2), (3, .int xl3)] [] (fX7_giveRests_2  n al0 al1 xl2 xl3 h0) := by
  intro n
  induction n with
  | zero => exact fun al0 al1 xl2 xl3 h0 => J_none C
  | succ n ih =>
    intro al0 al1 xl2 xl3 h0
    unfold fX7_giveRests_2
    refine J_iload_n (pc := 2) C dX7_giveRests_2 rfl 3 rfl ?_
    refine J_iload_n (pc := 3) C dX7_giveRests_3 rfl 2 rfl ?_
    refine J_icmp_ge (pc := 4) (tgt := 44) C dX7_giveRests_4 (by decide) ?_ ?_
    · exact J_vret (pc := 44) C hr dX7_giveRests_44
    · refine J_iload_n (pc := 7) C dX7_giveRests_7 rfl 3 rfl ?_
      refine J_bipush (pc := 8) (v := 10) C dX7_giveRests_8 (by decide) ?_
      refine J_icmp_ge (pc := 10) (tgt := 44) C dX7_giveRests_10 (by decide) ?_ ?_
      · exact J_vret (pc := 44) C hr dX7_giveRests_44
      · refine J_aload_n (pc := 13) C dX7_giveRests_13 rfl 0 rfl ?_
        refine J_callVI (pc := 14) (As := []) (rest := []) C (fun z hz => mX7_greatestRest al0 h0 z hz) mwX7_greatestRest csX7_greatestRest mlX7_76 inX7_greatestRest rfl dX7_giveRests_14 (by decide) rfl (Nat.le_of_ble_eq_true rfl) (by decide) (fun x2 h1 => ?_)
        refine J_istore (pc := 17) (lv1 := [(4, .int x2), (0, .ref al0), (1, .ref al1), (2, .int xl2), (3, .int xl3)]) C dX7_giveRests_17 (by decide) rfl ?_
        refine J_aload_n (pc := 19) C dX7_giveRests_19 rfl 2 rfl ?_
        refine J_getR (pc := 20) C flX7_43 dX7_giveRests_20 (fun a3 => ?_)
        refine J_iload (pc := 23) C dX7_giveRests_23 0 rfl ?_
        refine J_dup2 (pc := 25) C dX7_giveRests_25 rfl rfl ?_
        refine J_iald (pc := 26) C dX7_giveRests_26 (fun x4 => ?_)
        refine J_iconst (pc := 27) (v := 1) C dX7_giveRests_27 (by decide) ?_
        refine J_iadd (pc := 28) C dX7_giveRests_28 ?_
        refine J_iast (pc := 29) C dX7_giveRests_29 (fun h5 => ?_)
        refine J_aload_n (pc := 30) C dX7_giveRests_30 rfl 1 rfl ?_
        refine J_getR (pc := 31) C flX7_22 dX7_giveRests_31 (fun a6 => ?_)
        refine J_iload (pc := 34) C dX7_giveRests_34 0 rfl ?_
        refine J_lconst (pc := 36) (v := 0) C dX7_giveRests_36 (by decide) ?_
        refine J_last (pc := 37) C dX7_giveRests_37 (fun h7 => ?_)
        refine J_iinc (pc := 38) (v := (xl3 + 1)) (lv1 := [(3, .int (xl3 + 1)), (4, .int x2), (0, .ref al0), (1, .ref al1), (2, .int xl2)]) C dX7_giveRests_38 4 rfl rfl (by decide) rfl ?_
        refine J_goto (pc := 41) (tgt := 2) C dX7_giveRests_41 (by decide) ?_
        refine J_sub [2, 3, 4, 0] rfl ?_
        exact ih al0 al1 xl2 (xl3 + 1) h7
def fX7_giveRests  (a0 : Nat) (ap0 : Nat) (xp1 : Int32) (h0 : PH) : Option (Unit × PH) :=
    fX7_giveRests_2  FU a0 ap0 xp1 (0 : Int32) h0
set_option maxHeartbeats 4000000 in
set_option maxRecDepth 100000 in
theorem vfX7_giveRests {p : Program} {l : Launch} {e : Env} {s : State} {m : MethodId} {args : Array Value} {below : List Frame} {meth : Method} {c : Code} {G : GX} (C : Cx p s m args meth c G cX7_giveRests 5 RX7) (hr : meth.sig.returnType = none) (a0 : Nat) (ap0 : Nat) (xp1 : Int32) (h0 : PH) : J p l e rmX7_giveRests s m args below meth c G 5 (qM below args s rvU G 0 0) 0 0 h0 0 [(0, .ref a0), (1, .ref ap0), (2, .int xp1)] [] (fX7_giveRests  a0 ap0 xp1 h0) := by
  unfold fX7_giveRests
  refine J_iconst (pc := 0) (v := 0) C dX7_giveRests_0 (by decide) ?_
  refine J_istore_n (pc := 1) (lv1 := [(3, .int (0 : Int32)), (0, .ref a0), (1, .ref ap0), (2, .int xp1)]) C dX7_giveRests_1 rfl (by decide) rfl ?_
  refine J_sub [1, 2, 3, 0] rfl ?_
  exact vfX7_giveRests_2 C hr  FU a0 ap0 xp1 (0 : Int32) h0
theorem mX7_giveRests {l : Launch} {G : GX} (a0 : Nat) (ap0 : Nat) (xp1 : Int32) (h0 : PH) : ∀ z, fX7_giveRests a0 ap0 xp1 h0 = some z → MC l G yX7_giveRests cX7_giveRests 5 none rmX7_giveRests [.ref a0, .ref ap0, .int xp1] h0 (rvU z.1) z.2 :=
  Met_J (own := RX7) (by decide) rfl (Nat.le_of_ble_eq_true rfl) (fun p e s m args below meth c C hr hn => vfX7_giveRests C hr a0 ap0 xp1 h0)

theorem dX7_cutOff_0 : decode cX7_cutOff 0 = .ok (.iload_n 2, 1) := by decide +kernel
theorem dX7_cutOff_1 : decode cX7_cutOff 1 = .ok (.iconst 1, 1) := by decide +kernel
theorem dX7_cutOff_2 : decode cX7_cutOff 2 = .ok (.if_icmp .ge 5, 3) := by decide +kernel
theorem dX7_cutOff_5 : decode cX7_cutOff 5 = .ok (.iconst (-1), 1) := by decide +kernel
theorem dX7_cutOff_6 : decode cX7_cutOff 6 = .ok (.ireturn, 1) := by decide +kernel
theorem dX7_cutOff_7 : decode cX7_cutOff 7 = .ok (.aload_n 0, 1) := by decide +kernel
theorem dX7_cutOff_8 : decode cX7_cutOff 8 = .ok (.iload_n 1, 1) := by decide +kernel
theorem dX7_cutOff_9 : decode cX7_cutOff 9 = .ok (.invokevirtual 54, 3) := by decide +kernel
theorem dX7_cutOff_12 : decode cX7_cutOff 12 = .ok (.astore_n 3, 1) := by decide +kernel
theorem dX7_cutOff_13 : decode cX7_cutOff 13 = .ok (.aload_n 3, 1) := by decide +kernel
theorem dX7_cutOff_14 : decode cX7_cutOff 14 = .ok (.ifnonnull 6, 3) := by decide +kernel
theorem dX7_cutOff_17 : decode cX7_cutOff 17 = .ok (.bipush (-2), 2) := by decide +kernel
theorem dX7_cutOff_19 : decode cX7_cutOff 19 = .ok (.ireturn, 1) := by decide +kernel
theorem dX7_cutOff_20 : decode cX7_cutOff 20 = .ok (.iload_n 2, 1) := by decide +kernel
theorem dX7_cutOff_21 : decode cX7_cutOff 21 = .ok (.aload_n 3, 1) := by decide +kernel
theorem dX7_cutOff_22 : decode cX7_cutOff 22 = .ok (.getfield 47, 3) := by decide +kernel
theorem dX7_cutOff_25 : decode cX7_cutOff 25 = .ok (.if_icmp .ge 10, 3) := by decide +kernel
theorem dX7_cutOff_28 : decode cX7_cutOff 28 = .ok (.aload_n 3, 1) := by decide +kernel
theorem dX7_cutOff_29 : decode cX7_cutOff 29 = .ok (.invokevirtual 58, 3) := by decide +kernel
theorem dX7_cutOff_32 : decode cX7_cutOff 32 = .ok (.ifCond .eq 6, 3) := by decide +kernel
theorem dX7_cutOff_35 : decode cX7_cutOff 35 = .ok (.bipush (-3), 2) := by decide +kernel
theorem dX7_cutOff_37 : decode cX7_cutOff 37 = .ok (.ireturn, 1) := by decide +kernel
theorem dX7_cutOff_38 : decode cX7_cutOff 38 = .ok (.aload_n 0, 1) := by decide +kernel
theorem dX7_cutOff_39 : decode cX7_cutOff 39 = .ok (.getfield 30, 3) := by decide +kernel
theorem dX7_cutOff_42 : decode cX7_cutOff 42 = .ok (.bipush 120, 2) := by decide +kernel
theorem dX7_cutOff_44 : decode cX7_cutOff 44 = .ok (.if_icmp .lt 6, 3) := by decide +kernel
theorem dX7_cutOff_47 : decode cX7_cutOff 47 = .ok (.bipush (-5), 2) := by decide +kernel
theorem dX7_cutOff_49 : decode cX7_cutOff 49 = .ok (.ireturn, 1) := by decide +kernel
theorem dX7_cutOff_50 : decode cX7_cutOff 50 = .ok (.new 9, 3) := by decide +kernel
theorem dX7_cutOff_53 : decode cX7_cutOff 53 = .ok (.dup, 1) := by decide +kernel
theorem dX7_cutOff_54 : decode cX7_cutOff 54 = .ok (.invokespecial 42, 3) := by decide +kernel
theorem dX7_cutOff_57 : decode cX7_cutOff 57 = .ok (.astore 4, 2) := by decide +kernel
theorem dX7_cutOff_59 : decode cX7_cutOff 59 = .ok (.aload_n 0, 1) := by decide +kernel
theorem dX7_cutOff_60 : decode cX7_cutOff 60 = .ok (.aload 4, 2) := by decide +kernel
theorem dX7_cutOff_62 : decode cX7_cutOff 62 = .ok (.iload_n 2, 1) := by decide +kernel
theorem dX7_cutOff_63 : decode cX7_cutOff 63 = .ok (.aload_n 0, 1) := by decide +kernel
theorem dX7_cutOff_64 : decode cX7_cutOff 64 = .ok (.aload_n 3, 1) := by decide +kernel
theorem dX7_cutOff_65 : decode cX7_cutOff 65 = .ok (.aload 4, 2) := by decide +kernel
theorem dX7_cutOff_67 : decode cX7_cutOff 67 = .ok (.iload_n 2, 1) := by decide +kernel
theorem dX7_cutOff_68 : decode cX7_cutOff 68 = .ok (.invokevirtual 62, 3) := by decide +kernel
theorem dX7_cutOff_71 : decode cX7_cutOff 71 = .ok (.isub, 1) := by decide +kernel
theorem dX7_cutOff_72 : decode cX7_cutOff 72 = .ok (.invokevirtual 66, 3) := by decide +kernel
theorem dX7_cutOff_75 : decode cX7_cutOff 75 = .ok (.iconst 0, 1) := by decide +kernel
theorem dX7_cutOff_76 : decode cX7_cutOff 76 = .ok (.istore 5, 2) := by decide +kernel
theorem dX7_cutOff_78 : decode cX7_cutOff 78 = .ok (.iload 5, 2) := by decide +kernel
theorem dX7_cutOff_80 : decode cX7_cutOff 80 = .ok (.bipush 10, 2) := by decide +kernel
theorem dX7_cutOff_82 : decode cX7_cutOff 82 = .ok (.if_icmp .ge 27, 3) := by decide +kernel
theorem dX7_cutOff_85 : decode cX7_cutOff 85 = .ok (.aload_n 3, 1) := by decide +kernel
theorem dX7_cutOff_86 : decode cX7_cutOff 86 = .ok (.getfield 43, 3) := by decide +kernel
theorem dX7_cutOff_89 : decode cX7_cutOff 89 = .ok (.iload 5, 2) := by decide +kernel
theorem dX7_cutOff_91 : decode cX7_cutOff 91 = .ok (.dup2, 1) := by decide +kernel
theorem dX7_cutOff_92 : decode cX7_cutOff 92 = .ok (.iaload, 1) := by decide +kernel
theorem dX7_cutOff_93 : decode cX7_cutOff 93 = .ok (.aload 4, 2) := by decide +kernel
theorem dX7_cutOff_95 : decode cX7_cutOff 95 = .ok (.getfield 43, 3) := by decide +kernel
theorem dX7_cutOff_98 : decode cX7_cutOff 98 = .ok (.iload 5, 2) := by decide +kernel
theorem dX7_cutOff_100 : decode cX7_cutOff 100 = .ok (.iaload, 1) := by decide +kernel
theorem dX7_cutOff_101 : decode cX7_cutOff 101 = .ok (.isub, 1) := by decide +kernel
theorem dX7_cutOff_102 : decode cX7_cutOff 102 = .ok (.iastore, 1) := by decide +kernel
theorem dX7_cutOff_103 : decode cX7_cutOff 103 = .ok (.iinc 5 1, 3) := by decide +kernel
theorem dX7_cutOff_106 : decode cX7_cutOff 106 = .ok (.goto (-28), 3) := by decide +kernel
theorem dX7_cutOff_109 : decode cX7_cutOff 109 = .ok (.aload 4, 2) := by decide +kernel
theorem dX7_cutOff_111 : decode cX7_cutOff 111 = .ok (.iload_n 2, 1) := by decide +kernel
theorem dX7_cutOff_112 : decode cX7_cutOff 112 = .ok (.putfield 47, 3) := by decide +kernel
theorem dX7_cutOff_115 : decode cX7_cutOff 115 = .ok (.aload_n 3, 1) := by decide +kernel
theorem dX7_cutOff_116 : decode cX7_cutOff 116 = .ok (.dup, 1) := by decide +kernel
theorem dX7_cutOff_117 : decode cX7_cutOff 117 = .ok (.getfield 47, 3) := by decide +kernel
theorem dX7_cutOff_120 : decode cX7_cutOff 120 = .ok (.iload_n 2, 1) := by decide +kernel
theorem dX7_cutOff_121 : decode cX7_cutOff 121 = .ok (.isub, 1) := by decide +kernel
theorem dX7_cutOff_122 : decode cX7_cutOff 122 = .ok (.putfield 47, 3) := by decide +kernel
theorem dX7_cutOff_125 : decode cX7_cutOff 125 = .ok (.aload_n 0, 1) := by decide +kernel
theorem dX7_cutOff_126 : decode cX7_cutOff 126 = .ok (.aload 4, 2) := by decide +kernel
theorem dX7_cutOff_128 : decode cX7_cutOff 128 = .ok (.invokevirtual 50, 3) := by decide +kernel
theorem dX7_cutOff_131 : decode cX7_cutOff 131 = .ok (.ireturn, 1) := by decide +kernel
def rmX7_cutOff : Room := { frames := 2, cells := 2, slots := 15, locals := 50 }
def fX7_cutOff_78  : Nat → Nat → Int32 → Nat → Nat → Int32 → PH → Option (Int32 × PH)
  | 0, _, _, _, _, _, _ => none
  | n + 1, al0, xl2, al3, al4, xl5, h0 =>
    if (10 : Int32) ≤ xl5 then (bn (wr 5 1 (.int xl2) al4 h0) fun h14 =>
    bn (rdI 5 1 al3 h14) fun x15 =>
    bn (wr 5 1 (.int (x15 - xl2)) al3 h14) fun h16 =>
    bn (chk 7 al0 h16) fun _ => bn2 (fX7_addPiece al0 al4 h16) fun x18 h17 =>
    some (x18, h17)) else
    bn (rdR 5 0 al3 h0) fun a19 =>
    bn (aldI 0 a19 xl5 h0) fun x20 =>
    bn (rdR 5 0 al4 h0) fun a21 =>
    bn (aldI 0 a21 xl5 h0) fun x22 =>
    bn (astI a19 xl5 (x20 - x22) h0) fun h23 =>
    (fX7_cutOff_78 n) al0 xl2 al3 al4 (xl5 + 1) h23
set_option maxHeartbeats 4000000 in
set_option maxRecDepth 100000 in
theorem vfX7_cutOff_78 {p : Program} {l : Launch} {e : Env} {s : State} {m : MethodId} {args : Array Value} {below : List Frame} {meth : Method} {c : Code} {G : GX} (C : Cx p s m args meth c G cX7_cutOff 6 RX7) (hr : meth.sig.returnType = (some .int)) : ∀ (n : Nat) (al0 : Nat) (xl2 : Int32) (al3 : Nat) (al4 : Nat) (xl5 : Int32) (h0 : PH), J p l e rmX7_cutOff s m args below meth c G 6 (qM below args s rvI G 2 15) 2 15 h0 78 [(0, .ref al0), (2, .int xl2), (3, .ref al3), (4, .ref al4), (5, .int xl5)] [] (fX7_cutOff_78  n al0 xl2 al3 al4 xl5 h0) := by
  intro n
  induction n with
  | zero => exact fun al0 xl2 al3 al4 xl5 h0 => J_none C
  | succ n ih =>
    intro al0 xl2 al3 al4 xl5 h0
    unfold fX7_cutOff_78
    refine J_iload (pc := 78) C dX7_cutOff_78 4 rfl ?_
    refine J_bipush (pc := 80) (v := 10) C dX7_cutOff_80 (by decide) ?_
    refine J_icmp_ge (pc := 82) (tgt := 109) C dX7_cutOff_82 (by decide) ?_ ?_
    · refine J_aload (pc := 109) C dX7_cutOff_109 3 rfl ?_
      refine J_iload_n (pc := 111) C dX7_cutOff_111 rfl 1 rfl ?_
      refine J_put (pc := 112) C flX7_47 cl5 ft5_1 rfl rfl dX7_cutOff_112 (fun h14 => ?_)
      refine J_aload_n (pc := 115) C dX7_cutOff_115 rfl 2 rfl ?_
      refine J_dup (pc := 116) C dX7_cutOff_116 rfl ?_
      refine J_getI (pc := 117) C flX7_47 dX7_cutOff_117 (fun x15 => ?_)
      refine J_iload_n (pc := 120) C dX7_cutOff_120 rfl 1 rfl ?_
      refine J_isub (pc := 121) C dX7_cutOff_121 ?_
      refine J_put (pc := 122) C flX7_47 cl5 ft5_1 rfl rfl dX7_cutOff_122 (fun h16 => ?_)
      refine J_aload_n (pc := 125) C dX7_cutOff_125 rfl 0 rfl ?_
      refine J_aload (pc := 126) C dX7_cutOff_126 3 rfl ?_
      refine J_callVI (pc := 128) (As := [.ref al4]) (rest := []) C (fun z hz => mX7_addPiece al0 al4 h16 z hz) mwX7_addPiece csX7_addPiece mlX7_50 inX7_addPiece rfl dX7_cutOff_128 (by decide) rfl (Nat.le_of_ble_eq_true rfl) (by decide) (fun x18 h17 => ?_)
      exact J_iret (pc := 131) C hr dX7_cutOff_131
    · refine J_aload_n (pc := 85) C dX7_cutOff_85 rfl 2 rfl ?_
      refine J_getR (pc := 86) C flX7_43 dX7_cutOff_86 (fun a19 => ?_)
      refine J_iload (pc := 89) C dX7_cutOff_89 4 rfl ?_
      refine J_dup2 (pc := 91) C dX7_cutOff_91 rfl rfl ?_
      refine J_iald (pc := 92) C dX7_cutOff_92 (fun x20 => ?_)
      refine J_aload (pc := 93) C dX7_cutOff_93 3 rfl ?_
      refine J_getR (pc := 95) C flX7_43 dX7_cutOff_95 (fun a21 => ?_)
      refine J_iload (pc := 98) C dX7_cutOff_98 4 rfl ?_
      refine J_iald (pc := 100) C dX7_cutOff_100 (fun x22 => ?_)
      refine J_isub (pc := 101) C dX7_cutOff_101 ?_
      refine J_iast (pc := 102) C dX7_cutOff_102 (fun h23 => ?_)
      refine J_iinc (pc := 103) (v := (xl5 + 1)) (lv1 := [(5, .int (xl5 + 1)), (0, .ref al0), (2, .int xl2), (3, .ref al3), (4, .ref al4)]) C dX7_cutOff_103 4 rfl rfl (by decide) rfl ?_
      refine J_goto (pc := 106) (tgt := 78) C dX7_cutOff_106 (by decide) ?_
      refine J_sub [1, 2, 3, 4, 0] rfl ?_
      exact ih al0 xl2 al3 al4 (xl5 + 1) h23
def fX7_cutOff  (a0 : Nat) (xp0 : Int32) (xp1 : Int32) (h0 : PH) : Option (Int32 × PH) :=
    if (1 : Int32) ≤ xp1 then (bn (chk 7 a0 h0) fun _ => bn2 (fX7_living a0 xp0 h0) fun o2 h1 =>
    onul o2 (some ((-2 : Int32), h1)) fun a3 =>
    bn (rdI 5 1 a3 h1) fun x4 =>
    if x4 ≤ xp1 then (some ((-3 : Int32), h1)) else
    bn (chk 5 a3 h1) fun _ => bn2 (fX5_isLeaf a3 h1) fun x6 h5 =>
    if x6 = 0 then (bn (rdI 7 4 a0 h5) fun x7 =>
    if x7 < (120 : Int32) then (nwB (.inr (5, [.null, .int 0, .int 0, .int 0, .int 0])) h5 fun a8 h9 =>
    bn2 (fX5_init a8 h9) fun _ h10 =>
    bn (chk 7 a0 h10) fun _ => bn2 (fX7_giveWholeShares a0 a3 a8 xp1 h10) fun x12 h11 =>
    bn (chk 7 a0 h11) fun _ => bn2 (fX7_giveRests a0 a8 (xp1 - x12) h11) fun _ h13 =>
    fX7_cutOff_78  FU a0 xp1 a3 a8 (0 : Int32) h13) else
    some ((-5 : Int32), h5)) else
    some ((-3 : Int32), h5)) else
    some ((-1 : Int32), h0)
set_option maxHeartbeats 4000000 in
set_option maxRecDepth 100000 in
theorem vfX7_cutOff {p : Program} {l : Launch} {e : Env} {s : State} {m : MethodId} {args : Array Value} {below : List Frame} {meth : Method} {c : Code} {G : GX} (C : Cx p s m args meth c G cX7_cutOff 6 RX7) (hr : meth.sig.returnType = (some .int)) (a0 : Nat) (xp0 : Int32) (xp1 : Int32) (h0 : PH) : J p l e rmX7_cutOff s m args below meth c G 6 (qM below args s rvI G 2 15) 0 0 h0 0 [(0, .ref a0), (1, .int xp0), (2, .int xp1)] [] (fX7_cutOff  a0 xp0 xp1 h0) := by
  unfold fX7_cutOff
  refine J_iload_n (pc := 0) C dX7_cutOff_0 rfl 2 rfl ?_
  refine J_iconst (pc := 1) (v := 1) C dX7_cutOff_1 (by decide) ?_
  refine J_icmp_ge (pc := 2) (tgt := 7) C dX7_cutOff_2 (by decide) ?_ ?_
  · refine J_aload_n (pc := 7) C dX7_cutOff_7 rfl 0 rfl ?_
    refine J_iload_n (pc := 8) C dX7_cutOff_8 rfl 1 rfl ?_
    refine J_callVR (pc := 9) (As := [.int xp0]) (rest := []) C (fun z hz => mX7_living a0 xp0 h0 z hz) mwX7_living csX7_living mlX7_54 inX7_living rfl dX7_cutOff_9 (by decide) rfl (Nat.le_of_ble_eq_true rfl) (by decide) (fun o2 h1 => ?_)
    refine J_astore_nQ (pc := 12) (x := o2) (lv1 := [(3, va_rf o2), (0, .ref a0), (1, .int xp0), (2, .int xp1)]) C dX7_cutOff_12 rfl (by decide) rfl ?_
    refine J_aload_nQ (pc := 13) (x := o2) C dX7_cutOff_13 rfl 0 rfl ?_
    refine J_onul (fun hx => ?_) (fun a3 hx => ?_)
    · subst hx
      refine J_ifnonnullN (pc := 14) C dX7_cutOff_14 ?_
      refine J_bipush (pc := 17) (v := -2) C dX7_cutOff_17 (by decide) ?_
      refine J_widen (k := 2) (n := 15) (by decide) (by decide) ?_
      exact J_iret (pc := 19) C hr dX7_cutOff_19
    · subst hx
      refine J_ifnonnull (pc := 14) (tgt := 20) C dX7_cutOff_14 (by decide) ?_
      refine J_iload_n (pc := 20) C dX7_cutOff_20 rfl 3 rfl ?_
      refine J_aload_n (pc := 21) C dX7_cutOff_21 rfl 0 rfl ?_
      refine J_getI (pc := 22) C flX7_47 dX7_cutOff_22 (fun x4 => ?_)
      refine J_icmp_ge (pc := 25) (tgt := 35) C dX7_cutOff_25 (by decide) ?_ ?_
      · refine J_bipush (pc := 35) (v := -3) C dX7_cutOff_35 (by decide) ?_
        refine J_widen (k := 2) (n := 15) (by decide) (by decide) ?_
        exact J_iret (pc := 37) C hr dX7_cutOff_37
      · refine J_aload_n (pc := 28) C dX7_cutOff_28 rfl 0 rfl ?_
        refine J_callVI (pc := 29) (As := []) (rest := []) C (fun z hz => mX5_isLeaf a3 h1 z hz) mwX5_isLeaf csX5_isLeaf mlX7_58 inX5_isLeaf rfl dX7_cutOff_29 (by decide) rfl (Nat.le_of_ble_eq_true rfl) (by decide) (fun x6 h5 => ?_)
        refine J_if_eq (pc := 32) (tgt := 38) C dX7_cutOff_32 (by decide) ?_ ?_
        · refine J_aload_n (pc := 38) C dX7_cutOff_38 rfl 1 rfl ?_
          refine J_getI (pc := 39) C flX7_30 dX7_cutOff_39 (fun x7 => ?_)
          refine J_bipush (pc := 42) (v := 120) C dX7_cutOff_42 (by decide) ?_
          refine J_icmp_lt (pc := 44) (tgt := 50) C dX7_cutOff_44 (by decide) ?_ ?_
          · refine J_new (pc := 50) C nlX7_9 (by decide) (by decide) dX7_cutOff_50 (fun a8 h9 => ?_)
            refine J_dup (pc := 53) C dX7_cutOff_53 rfl ?_
            refine J_callINU (pc := 54) (As := []) (rest := [.ref a8]) C (fun z hz => mX5_init a8 h9 z hz) mwX5_init rfl "GoldLeaves" rfl (by decide +kernel) inX5_init rfl dX7_cutOff_54 (by decide) rfl (Nat.le_of_ble_eq_true rfl) (by decide) (fun _ h10 => ?_)
            refine J_astore (pc := 57) (lv1 := [(4, .ref a8), (3, .ref a3), (0, .ref a0), (1, .int xp0), (2, .int xp1)]) C dX7_cutOff_57 (by decide) rfl ?_
            refine J_aload_n (pc := 59) C dX7_cutOff_59 rfl 2 rfl ?_
            refine J_aload (pc := 60) C dX7_cutOff_60 0 rfl ?_
            refine J_iload_n (pc := 62) C dX7_cutOff_62 rfl 4 rfl ?_
            refine J_aload_n (pc := 63) C dX7_cutOff_63 rfl 2 rfl ?_
            refine J_aload_n (pc := 64) C dX7_cutOff_64 rfl 1 rfl ?_
            refine J_aload (pc := 65) C dX7_cutOff_65 0 rfl ?_
            refine J_iload_n (pc := 67) C dX7_cutOff_67 rfl 4 rfl ?_
            refine J_callVI (pc := 68) (As := [.ref a3, .ref a8, .int xp1]) (rest := [.int xp1, .ref a8, .ref a0]) C (fun z hz => mX7_giveWholeShares a0 a3 a8 xp1 h10 z hz) mwX7_giveWholeShares csX7_giveWholeShares mlX7_62 inX7_giveWholeShares rfl dX7_cutOff_68 (by decide) rfl (Nat.le_of_ble_eq_true rfl) (by decide) (fun x12 h11 => ?_)
            refine J_isub (pc := 71) C dX7_cutOff_71 ?_
            refine J_callVU (pc := 72) (As := [.ref a8, .int (xp1 - x12)]) (rest := []) C (fun z hz => mX7_giveRests a0 a8 (xp1 - x12) h11 z hz) mwX7_giveRests csX7_giveRests mlX7_66 inX7_giveRests rfl dX7_cutOff_72 (by decide) rfl (Nat.le_of_ble_eq_true rfl) (by decide) (fun _ h13 => ?_)
            refine J_iconst (pc := 75) (v := 0) C dX7_cutOff_75 (by decide) ?_
            refine J_istore (pc := 76) (lv1 := [(5, .int (0 : Int32)), (4, .ref a8), (3, .ref a3), (0, .ref a0), (1, .int xp0), (2, .int xp1)]) C dX7_cutOff_76 (by decide) rfl ?_
            refine J_sub [3, 5, 2, 1, 0] rfl ?_
            exact vfX7_cutOff_78 C hr  FU a0 xp1 a3 a8 (0 : Int32) h13
          · refine J_bipush (pc := 47) (v := -5) C dX7_cutOff_47 (by decide) ?_
            refine J_widen (k := 2) (n := 15) (by decide) (by decide) ?_
            exact J_iret (pc := 49) C hr dX7_cutOff_49
        · refine J_bipush (pc := 35) (v := -3) C dX7_cutOff_35 (by decide) ?_
          refine J_widen (k := 2) (n := 15) (by decide) (by decide) ?_
          exact J_iret (pc := 37) C hr dX7_cutOff_37
  · refine J_iconst (pc := 5) (v := -1) C dX7_cutOff_5 (by decide) ?_
    refine J_widen (k := 2) (n := 15) (by decide) (by decide) ?_
    exact J_iret (pc := 6) C hr dX7_cutOff_6
theorem mX7_cutOff {l : Launch} {G : GX} (a0 : Nat) (xp0 : Int32) (xp1 : Int32) (h0 : PH) : ∀ z, fX7_cutOff a0 xp0 xp1 h0 = some z → MC l G yX7_cutOff cX7_cutOff 6 (some .int) rmX7_cutOff [.ref a0, .int xp0, .int xp1] h0 (rvI z.1) z.2 :=
  Met_J (own := RX7) (by decide) rfl (Nat.le_of_ble_eq_true rfl) (fun p e s m args below meth c C hr hn => vfX7_cutOff C hr a0 xp0 xp1 h0)

theorem dX9_cut_0 : decode cX9_cut 0 = .ok (.aload_n 0, 1) := by decide +kernel
theorem dX9_cut_1 : decode cX9_cut 1 = .ok (.aload_n 0, 1) := by decide +kernel
theorem dX9_cut_2 : decode cX9_cut 2 = .ok (.getfield 10, 3) := by decide +kernel
theorem dX9_cut_5 : decode cX9_cut 5 = .ok (.iload_n 1, 1) := by decide +kernel
theorem dX9_cut_6 : decode cX9_cut 6 = .ok (.iload_n 2, 1) := by decide +kernel
theorem dX9_cut_7 : decode cX9_cut 7 = .ok (.invokevirtual 74, 3) := by decide +kernel
theorem dX9_cut_10 : decode cX9_cut 10 = .ok (.invokevirtual 70, 3) := by decide +kernel
theorem dX9_cut_13 : decode cX9_cut 13 = .ok (.ireturn, 1) := by decide +kernel
def rmX9_cut : Room := { frames := 3, cells := 2, slots := 15, locals := 75 }
def fX9_cut  (a0 : Nat) (xp0 : Int32) (xp1 : Int32) (h0 : PH) : Option (Int32 × PH) :=
    bn (rdR 9 0 a0 h0) fun a1 =>
    bn (chk 7 a1 h0) fun _ => bn2 (fX7_cutOff a1 xp0 xp1 h0) fun x3 h2 =>
    bn (chk 9 a0 h2) fun _ => bn2 (fX9_noted a0 x3 h2) fun x5 h4 =>
    some (x5, h4)
set_option maxHeartbeats 4000000 in
set_option maxRecDepth 100000 in
theorem vfX9_cut {p : Program} {l : Launch} {e : Env} {s : State} {m : MethodId} {args : Array Value} {below : List Frame} {meth : Method} {c : Code} {G : GX} (C : Cx p s m args meth c G cX9_cut 3 RX9) (hr : meth.sig.returnType = (some .int)) (a0 : Nat) (xp0 : Int32) (xp1 : Int32) (h0 : PH) : J p l e rmX9_cut s m args below meth c G 3 (qM below args s rvI G 2 15) 0 0 h0 0 [(0, .ref a0), (1, .int xp0), (2, .int xp1)] [] (fX9_cut  a0 xp0 xp1 h0) := by
  unfold fX9_cut
  refine J_aload_n (pc := 0) C dX9_cut_0 rfl 0 rfl ?_
  refine J_aload_n (pc := 1) C dX9_cut_1 rfl 0 rfl ?_
  refine J_getR (pc := 2) C flX9_10 dX9_cut_2 (fun a1 => ?_)
  refine J_iload_n (pc := 5) C dX9_cut_5 rfl 1 rfl ?_
  refine J_iload_n (pc := 6) C dX9_cut_6 rfl 2 rfl ?_
  refine J_callVI (pc := 7) (As := [.int xp0, .int xp1]) (rest := [.ref a0]) C (fun z hz => mX7_cutOff a1 xp0 xp1 h0 z hz) mwX7_cutOff csX7_cutOff mlX9_74 inX7_cutOff rfl dX9_cut_7 (by decide) rfl (Nat.le_of_ble_eq_true rfl) (by decide) (fun x3 h2 => ?_)
  refine J_callVI (pc := 10) (As := [.int x3]) (rest := []) C (fun z hz => mX9_noted a0 x3 h2 z hz) mwX9_noted csX9_noted mlX9_70 inX9_noted rfl dX9_cut_10 (by decide) rfl (Nat.le_of_ble_eq_true rfl) (by decide) (fun x5 h4 => ?_)
  exact J_iret (pc := 13) C hr dX9_cut_13
theorem mX9_cut {l : Launch} {G : GX} (a0 : Nat) (xp0 : Int32) (xp1 : Int32) (h0 : PH) : ∀ z, fX9_cut a0 xp0 xp1 h0 = some z → MC l G yX9_cut cX9_cut 3 (some .int) rmX9_cut [.ref a0, .int xp0, .int xp1] h0 (rvI z.1) z.2 :=
  Met_J (own := RX9) (by decide) rfl (Nat.le_of_ble_eq_true rfl) (fun p e s m args below meth c C hr hn => vfX9_cut C hr a0 xp0 xp1 h0)

theorem dX10_isPiece_0 : decode cX10_isPiece 0 = .ok (.iload_n 1, 1) := by decide +kernel
theorem dX10_isPiece_1 : decode cX10_isPiece 1 = .ok (.i2l, 1) := by decide +kernel
theorem dX10_isPiece_2 : decode cX10_isPiece 2 = .ok (.lconst 0, 1) := by decide +kernel
theorem dX10_isPiece_3 : decode cX10_isPiece 3 = .ok (.aload_n 0, 1) := by decide +kernel
theorem dX10_isPiece_4 : decode cX10_isPiece 4 = .ok (.getfield 96, 3) := by decide +kernel
theorem dX10_isPiece_7 : decode cX10_isPiece 7 = .ok (.i2l, 1) := by decide +kernel
theorem dX10_isPiece_8 : decode cX10_isPiece 8 = .ok (.lconst 1, 1) := by decide +kernel
theorem dX10_isPiece_9 : decode cX10_isPiece 9 = .ok (.lsub, 1) := by decide +kernel
theorem dX10_isPiece_10 : decode cX10_isPiece 10 = .ok (.invokestatic 99, 3) := by decide +kernel
theorem dX10_isPiece_13 : decode cX10_isPiece 13 = .ok (.ifCond .eq 16, 3) := by decide +kernel
theorem dX10_isPiece_16 : decode cX10_isPiece 16 = .ok (.aload_n 0, 1) := by decide +kernel
theorem dX10_isPiece_17 : decode cX10_isPiece 17 = .ok (.getfield 13, 3) := by decide +kernel
theorem dX10_isPiece_20 : decode cX10_isPiece 20 = .ok (.iload_n 1, 1) := by decide +kernel
theorem dX10_isPiece_21 : decode cX10_isPiece 21 = .ok (.baload, 1) := by decide +kernel
theorem dX10_isPiece_22 : decode cX10_isPiece 22 = .ok (.ifCond .ne 7, 3) := by decide +kernel
theorem dX10_isPiece_25 : decode cX10_isPiece 25 = .ok (.iconst 1, 1) := by decide +kernel
theorem dX10_isPiece_26 : decode cX10_isPiece 26 = .ok (.goto 4, 3) := by decide +kernel
theorem dX10_isPiece_29 : decode cX10_isPiece 29 = .ok (.iconst 0, 1) := by decide +kernel
theorem dX10_isPiece_30 : decode cX10_isPiece 30 = .ok (.ireturn, 1) := by decide +kernel
def rmX10_isPiece : Room := { frames := 1, cells := 0, slots := 0, locals := 25 }
def fX10_isPiece  (a0 : Nat) (xp0 : Int32) (h0 : PH) : Option (Int32 × PH) :=
    bn (rdI 10 4 a0 h0) fun x1 =>
    bn2 (fX10_in xp0.toInt64 (0 : Int64) (x1.toInt64 - (1 : Int64)) h0) fun x3 h2 =>
    if x3 = 0 then (some ((0 : Int32), h2)) else
    bn (rdR 10 5 a0 h2) fun a4 =>
    bn (aldI 1 a4 xp0 h2) fun x5 =>
    if x5 = 0 then (some ((1 : Int32), h2)) else
    some ((0 : Int32), h2)
set_option maxHeartbeats 4000000 in
set_option maxRecDepth 100000 in
theorem vfX10_isPiece {p : Program} {l : Launch} {e : Env} {s : State} {m : MethodId} {args : Array Value} {below : List Frame} {meth : Method} {c : Code} {G : GX} (C : Cx p s m args meth c G cX10_isPiece 2 RX10) (hr : meth.sig.returnType = (some .boolean)) (a0 : Nat) (xp0 : Int32) (h0 : PH) : J p l e rmX10_isPiece s m args below meth c G 2 (qM below args s rvI G 0 0) 0 0 h0 0 [(0, .ref a0), (1, .int xp0)] [] (fX10_isPiece  a0 xp0 h0) := by
  unfold fX10_isPiece
  refine J_iload_n (pc := 0) C dX10_isPiece_0 rfl 1 rfl ?_
  refine J_i2l (pc := 1) C dX10_isPiece_1 ?_
  refine J_lconst (pc := 2) (v := 0) C dX10_isPiece_2 (by decide) ?_
  refine J_aload_n (pc := 3) C dX10_isPiece_3 rfl 0 rfl ?_
  refine J_getI (pc := 4) C flX10_96 dX10_isPiece_4 (fun x1 => ?_)
  refine J_i2l (pc := 7) C dX10_isPiece_7 ?_
  refine J_lconst (pc := 8) (v := 1) C dX10_isPiece_8 (by decide) ?_
  refine J_lsub (pc := 9) C dX10_isPiece_9 ?_
  refine J_callSI (pc := 10) (As := [.long xp0.toInt64, .long (0 : Int64), .long (x1.toInt64 - (1 : Int64))]) (rest := []) C (fun z hz => mX10_in xp0.toInt64 (0 : Int64) (x1.toInt64 - (1 : Int64)) h0 z hz) mwX10_in mlX10_99 stX10_in rfl dX10_isPiece_10 (by decide) rfl (Nat.le_of_ble_eq_true rfl) (by decide) (fun x3 h2 => ?_)
  refine J_if_eq (pc := 13) (tgt := 29) C dX10_isPiece_13 (by decide) ?_ ?_
  · refine J_iconst (pc := 29) (v := 0) C dX10_isPiece_29 (by decide) ?_
    exact J_zret (pc := 30) C hr rfl dX10_isPiece_30
  · refine J_aload_n (pc := 16) C dX10_isPiece_16 rfl 0 rfl ?_
    refine J_getR (pc := 17) C flX10_13 dX10_isPiece_17 (fun a4 => ?_)
    refine J_iload_n (pc := 20) C dX10_isPiece_20 rfl 1 rfl ?_
    refine J_zald (pc := 21) C dX10_isPiece_21 (fun x5 => ?_)
    refine J_if_ne (pc := 22) (tgt := 29) C dX10_isPiece_22 (by decide) ?_ ?_
    · refine J_iconst (pc := 29) (v := 0) C dX10_isPiece_29 (by decide) ?_
      exact J_zret (pc := 30) C hr rfl dX10_isPiece_30
    · refine J_iconst (pc := 25) (v := 1) C dX10_isPiece_25 (by decide) ?_
      refine J_goto (pc := 26) (tgt := 30) C dX10_isPiece_26 (by decide) ?_
      exact J_zret (pc := 30) C hr rfl dX10_isPiece_30
theorem mX10_isPiece {l : Launch} {G : GX} (a0 : Nat) (xp0 : Int32) (h0 : PH) : ∀ z, fX10_isPiece a0 xp0 h0 = some z → MC l G yX10_isPiece cX10_isPiece 2 (some .boolean) rmX10_isPiece [.ref a0, .int xp0] h0 (rvI z.1) z.2 :=
  Met_J (own := RX10) (by decide) rfl (Nat.le_of_ble_eq_true rfl) (fun p e s m args below meth c C hr hn => vfX10_isPiece C hr a0 xp0 h0)

theorem dX10_weightOf_0 : decode cX10_weightOf 0 = .ok (.iconst 0, 1) := by decide +kernel
theorem dX10_weightOf_1 : decode cX10_weightOf 1 = .ok (.istore_n 2, 1) := by decide +kernel
theorem dX10_weightOf_2 : decode cX10_weightOf 2 = .ok (.iconst 0, 1) := by decide +kernel
theorem dX10_weightOf_3 : decode cX10_weightOf 3 = .ok (.istore_n 3, 1) := by decide +kernel
theorem dX10_weightOf_4 : decode cX10_weightOf 4 = .ok (.iload_n 3, 1) := by decide +kernel
theorem dX10_weightOf_5 : decode cX10_weightOf 5 = .ok (.bipush 10, 2) := by decide +kernel
theorem dX10_weightOf_7 : decode cX10_weightOf 7 = .ok (.if_icmp .ge 23, 3) := by decide +kernel
theorem dX10_weightOf_10 : decode cX10_weightOf 10 = .ok (.iload_n 2, 1) := by decide +kernel
theorem dX10_weightOf_11 : decode cX10_weightOf 11 = .ok (.aload_n 0, 1) := by decide +kernel
theorem dX10_weightOf_12 : decode cX10_weightOf 12 = .ok (.getfield 17, 3) := by decide +kernel
theorem dX10_weightOf_15 : decode cX10_weightOf 15 = .ok (.bipush 10, 2) := by decide +kernel
theorem dX10_weightOf_17 : decode cX10_weightOf 17 = .ok (.iload_n 1, 1) := by decide +kernel
theorem dX10_weightOf_18 : decode cX10_weightOf 18 = .ok (.imul, 1) := by decide +kernel
theorem dX10_weightOf_19 : decode cX10_weightOf 19 = .ok (.iload_n 3, 1) := by decide +kernel
theorem dX10_weightOf_20 : decode cX10_weightOf 20 = .ok (.iadd, 1) := by decide +kernel
theorem dX10_weightOf_21 : decode cX10_weightOf 21 = .ok (.iaload, 1) := by decide +kernel
theorem dX10_weightOf_22 : decode cX10_weightOf 22 = .ok (.iadd, 1) := by decide +kernel
theorem dX10_weightOf_23 : decode cX10_weightOf 23 = .ok (.istore_n 2, 1) := by decide +kernel
theorem dX10_weightOf_24 : decode cX10_weightOf 24 = .ok (.iinc 3 1, 3) := by decide +kernel
theorem dX10_weightOf_27 : decode cX10_weightOf 27 = .ok (.goto (-23), 3) := by decide +kernel
theorem dX10_weightOf_30 : decode cX10_weightOf 30 = .ok (.iload_n 2, 1) := by decide +kernel
theorem dX10_weightOf_31 : decode cX10_weightOf 31 = .ok (.ireturn, 1) := by decide +kernel
def rmX10_weightOf : Room := { frames := 0, cells := 0, slots := 0, locals := 0 }
def fX10_weightOf_4  : Nat → Nat → Int32 → Int32 → Int32 → PH → Option (Int32 × PH)
  | 0, _, _, _, _, _ => none
  | n + 1, al0, xl1, xl2, xl3, h0 =>
    if (10 : Int32) ≤ xl3 then (some (xl2, h0)) else
    bn (rdR 10 6 al0 h0) fun a1 =>
    bn (aldI 0 a1 (((10 : Int32) * xl1) + xl3) h0) fun x2 =>
    nm (xl2 + x2) fun x3 =>
    (fX10_weightOf_4 n) al0 xl1 x3 (xl3 + 1) h0
set_option maxHeartbeats 4000000 in
set_option maxRecDepth 100000 in
theorem vfX10_weightOf_4 {p : Program} {l : Launch} {e : Env} {s : State} {m : MethodId} {args : Array Value} {below : List Frame} {meth : Method} {c : Code} {G : GX} (C : Cx p s m args meth c G cX10_weightOf 4 RX10) (hr : meth.sig.returnType = (some .int)) : ∀ (n : Nat) (al0 : Nat) (xl1 : Int32) (xl2 : Int32) (xl3 : Int32) (h0 : PH), J p l e rmX10_weightOf s m args below meth c G 4 (qM below args s rvI G 0 0) 0 0 h0 4 [(0, .ref al0), (1, .int xl1), (2, .int xl2), (3, .int xl3)] [] (fX10_weightOf_4  n al0 xl1 xl2 xl3 h0) := by
  intro n
  induction n with
  | zero => exact fun al0 xl1 xl2 xl3 h0 => J_none C
  | succ n ih =>
    intro al0 xl1 xl2 xl3 h0
    unfold fX10_weightOf_4
    refine J_iload_n (pc := 4) C dX10_weightOf_4 rfl 3 rfl ?_
    refine J_bipush (pc := 5) (v := 10) C dX10_weightOf_5 (by decide) ?_
    refine J_icmp_ge (pc := 7) (tgt := 30) C dX10_weightOf_7 (by decide) ?_ ?_
    · refine J_iload_n (pc := 30) C dX10_weightOf_30 rfl 2 rfl ?_
      exact J_iret (pc := 31) C hr dX10_weightOf_31
    · refine J_iload_n (pc := 10) C dX10_weightOf_10 rfl 2 rfl ?_
      refine J_aload_n (pc := 11) C dX10_weightOf_11 rfl 0 rfl ?_
      refine J_getR (pc := 12) C flX10_17 dX10_weightOf_12 (fun a1 => ?_)
      refine J_bipush (pc := 15) (v := 10) C dX10_weightOf_15 (by decide) ?_
      refine J_iload_n (pc := 17) C dX10_weightOf_17 rfl 1 rfl ?_
      refine J_imul (pc := 18) C dX10_weightOf_18 ?_
      refine J_iload_n (pc := 19) C dX10_weightOf_19 rfl 3 rfl ?_
      refine J_iadd (pc := 20) C dX10_weightOf_20 ?_
      refine J_iald (pc := 21) C dX10_weightOf_21 (fun x2 => ?_)
      refine J_iadd (pc := 22) C dX10_weightOf_22 ?_
      refine J_nm (fv := .int) (fun x3 => ?_)
      refine J_istore_n (pc := 23) (lv1 := [(2, .int x3), (0, .ref al0), (1, .int xl1), (3, .int xl3)]) C dX10_weightOf_23 rfl (by decide) rfl ?_
      refine J_iinc (pc := 24) (v := (xl3 + 1)) (lv1 := [(3, .int (xl3 + 1)), (2, .int x3), (0, .ref al0), (1, .int xl1)]) C dX10_weightOf_24 3 rfl rfl (by decide) rfl ?_
      refine J_goto (pc := 27) (tgt := 4) C dX10_weightOf_27 (by decide) ?_
      refine J_sub [2, 3, 1, 0] rfl ?_
      exact ih al0 xl1 x3 (xl3 + 1) h0
def fX10_weightOf  (a0 : Nat) (xp0 : Int32) (h0 : PH) : Option (Int32 × PH) :=
    fX10_weightOf_4  FU a0 xp0 (0 : Int32) (0 : Int32) h0
set_option maxHeartbeats 4000000 in
set_option maxRecDepth 100000 in
theorem vfX10_weightOf {p : Program} {l : Launch} {e : Env} {s : State} {m : MethodId} {args : Array Value} {below : List Frame} {meth : Method} {c : Code} {G : GX} (C : Cx p s m args meth c G cX10_weightOf 4 RX10) (hr : meth.sig.returnType = (some .int)) (a0 : Nat) (xp0 : Int32) (h0 : PH) : J p l e rmX10_weightOf s m args below meth c G 4 (qM below args s rvI G 0 0) 0 0 h0 0 [(0, .ref a0), (1, .int xp0)] [] (fX10_weightOf  a0 xp0 h0) := by
  unfold fX10_weightOf
  refine J_iconst (pc := 0) (v := 0) C dX10_weightOf_0 (by decide) ?_
  refine J_istore_n (pc := 1) (lv1 := [(2, .int (0 : Int32)), (0, .ref a0), (1, .int xp0)]) C dX10_weightOf_1 rfl (by decide) rfl ?_
  refine J_iconst (pc := 2) (v := 0) C dX10_weightOf_2 (by decide) ?_
  refine J_istore_n (pc := 3) (lv1 := [(3, .int (0 : Int32)), (2, .int (0 : Int32)), (0, .ref a0), (1, .int xp0)]) C dX10_weightOf_3 rfl (by decide) rfl ?_
  refine J_sub [2, 3, 1, 0] rfl ?_
  exact vfX10_weightOf_4 C hr  FU a0 xp0 (0 : Int32) (0 : Int32) h0
theorem mX10_weightOf {l : Launch} {G : GX} (a0 : Nat) (xp0 : Int32) (h0 : PH) : ∀ z, fX10_weightOf a0 xp0 h0 = some z → MC l G yX10_weightOf cX10_weightOf 4 (some .int) rmX10_weightOf [.ref a0, .int xp0] h0 (rvI z.1) z.2 :=
  Met_J (own := RX10) (by decide) rfl (Nat.le_of_ble_eq_true rfl) (fun p e s m args below meth c C hr hn => vfX10_weightOf C hr a0 xp0 h0)

