def bt (x : Int32) (i : Nat) : Bool := x.toBitVec.getLsbD i
theorem b_ext {x y : Int32} (h : ∀ i, i < 32 → bt x i = bt y i) : x = y := Int32.toBitVec_inj.mp (BitVec.eq_of_getLsbD_eq (fun i hi => h i hi))
theorem b_and (x y : Int32) (i : Nat) : bt (x &&& y) i = (bt x i && bt y i) := by unfold bt; rw [Int32.toBitVec_and, BitVec.getLsbD_and]
theorem b_big {x : Int32} {i : Nat} (h : 32 ≤ i) : bt x i = false := BitVec.getLsbD_of_ge _ _ h
theorem b_255 (i : Nat) : bt 255 i = decide (i < 8) := by
  rcases Nat.lt_or_ge i 32 with h | h
  · exact (by decide +kernel : ∀ i, i < 32 → bt 255 i = decide (i < 8)) i h
  · rw [b_big h, decide_eq_false (by omega)]
theorem s_l : ∀ n, n < 32 → ((nI n &&& 31).toBitVec.smod 32).toNat = n := by decide +kernel
theorem s_u : ∀ n, n < 32 → (((nI n).toUInt32 &&& Int32.toUInt32 31).toBitVec % 32).toNat = n := by decide +kernel
theorem b_ushr (n : Nat) (hn : n < 32) (x : Int32) (i : Nat) : bt ((x.toUInt32 >>> ((nI n).toUInt32 &&& Int32.toUInt32 31)).toInt32) i = bt x (n + i) := by
  show (x.toUInt32 >>> ((nI n).toUInt32 &&& Int32.toUInt32 31)).toBitVec.getLsbD i = x.toUInt32.toBitVec.getLsbD (n + i)
  rw [UInt32.toBitVec_shiftRight]
  show (x.toUInt32.toBitVec >>> (((nI n).toUInt32 &&& Int32.toUInt32 31).toBitVec % 32).toNat).getLsbD i = _
  rw [s_u n hn, BitVec.getLsbD_ushiftRight]
theorem b_sshr (n : Nat) (hn : n < 32) (x : Int32) {i : Nat} (hi : i < 32) : bt (x >>> (nI n &&& 31)) i = if n + i < 32 then bt x (n + i) else bt x 31 := by
  unfold bt
  rw [Int32.toBitVec_shiftRight]
  show (x.toBitVec.sshiftRight ((nI n &&& 31).toBitVec.smod 32).toNat).getLsbD i = _
  rw [s_l n hn, BitVec.getLsbD_sshiftRight, BitVec.msb_eq_getLsbD_last]
  simp [hi]
theorem byt_eq (n : Nat) (hn : n ≤ 24) (v : Int32) : (v.toUInt32 >>> ((nI n).toUInt32 &&& Int32.toUInt32 31)).toInt32 &&& 255 = (v >>> (nI n &&& 31)) &&& 255 := by
  apply b_ext
  intro i hi
  rw [b_and, b_and, b_255]
  by_cases q : i < 8
  · rw [b_ushr n (by omega), b_sshr n (by omega) v hi, if_pos (by omega)]
  · rw [decide_eq_false q, Bool.and_false, Bool.and_false]
def f4 (r : Nat → Int32) (n : Nat) (v : Int32) : Nat → Int32 := upd (upd (upd (upd r n ((v >>> ((24 : Int32) &&& 31)) &&& 255)) (n + 1) ((v >>> ((16 : Int32) &&& 31)) &&& 255)) (n + 2) ((v >>> ((8 : Int32) &&& 31)) &&& 255)) (n + 3) ((v >>> ((0 : Int32) &&& 31)) &&& 255)
theorem upR_same (D : Nat → Nat → Int32) (o : Nat) (r : Nat → Int32) : upR D o r o = r := if_pos rfl
theorem upR_ne {D : Nat → Nat → Int32} {o : Nat} {r : Nat → Int32} {x : Nat} (h : x ≠ o) : upR D o r x = D x := if_neg h
theorem upd_upd (f : Nat → Int32) (k : Nat) (x y : Int32) : upd (upd f k x) k y = upd f k y := by
  funext j
  unfold upd
  by_cases q : j = k
  · rw [if_pos q, if_pos q]
  · rw [if_neg q, if_neg q, if_neg q]
theorem eqD {D : Nat → Nat → Int32} {o p k n : Nat} (hne : o ≠ p) (b3 b2 b1 b0 x1 x2 x3 x4 : Int32) : up2 (up2 (up2 (up2 (up2 (up2 (up2 (up2 D o n b3) p k x1) o (n + 1) b2) p k x2) o (n + 2) b1) p k x3) o (n + 3) b0) p k x4 = upR (up2 D p k x4) o (upd (upd (upd (upd (D o) n b3) (n + 1) b2) (n + 2) b1) (n + 3) b0) := by
  funext x
  by_cases q : x = o
  · subst q
    simp only [upR_same, up2_same, up2_ne hne]
  · by_cases q2 : x = p
    · subst q2
      simp only [upR_ne q, up2_same, up2_ne q, upd_upd]
    · simp only [upR_ne q, up2_ne q, up2_ne q2]
section
variable {b : Nat} {D : Nat → Nat → Int32} {w : Int64} {T : Nat → Int64} {pa dr np mk : Nat}
theorem c_st {n : Nat} (hn : n < 300) (h : D 10 1 = nI n) (v : Int32) (k m : Nat) (hk : k ≤ 24) : fX8_appendFour_3 (m + 1) (b + 10) v (nI k) (HH b D w T pa dr np mk) = fX8_appendFour_3 m (b + 10) v (nI k + (-8)) (HH b (up2 (up2 D 11 n ((v >>> (nI k &&& 31)) &&& 255)) 10 1 (nI (n + 1))) w T pa dr np mk) := by
  have d0 : ¬ (300 : Int32) ≤ nI n := nI_ge (b := 300) (by omega) (by omega)
  have e0 : ¬ nI n < 0 := nI_pos (by omega)
  have g0 : (nI n).toNatClampNeg = n := nI_clamp (by omega)
  have i0 : ¬ 300 ≤ n := by omega
  have k0 : ¬ nI k < 0 := nI_pos (by omega)
  simp (decide := true) only [fX8_appendFour_3, fX8_appendFour_43, bn_s, bn2_s, nm_s, onul_n, onul_s, if_true, if_false, and_self, and_true, true_and, and_false, false_and, or_self, or_false, false_or, or_true, true_or, not_true_eq_false, not_false_eq_true, eq_self, ne_eq, i01, up2_same, up2_ne, upd_app, hk0, hr0_0, hr0_1, hr0_2, hr0_3, hr0_4, hr0_5, hr0_6, hr0_7, hr0_8, hw0_8, hr0_9, hw0_9, hk1, hr1_0, hr1_1, hr1_2, hr1_3, hw1_3, hr1_4, hw1_4, hl4, hs4, hl5, hs5, hl6, hs6, hk8, hr8_0, hw8_0, hr8_1, hw8_1, hr8_2, hw8_2, hk9, hr9_0, hr9_1, hr9_2, hk10, hr10_0, hr10_1, hw10_1, hr10_2, hw10_2, hr10_3, hw10_3, hr10_4, hw10_4, hl11, hs11, hl12, hs12, hl13, hs13, hk14, hr14_0, hr14_1, hr14_2, hr14_3, hr14_4, hw14_4, hk16, hr16_0, hw16_0, hr16_1, hw16_1, hr16_2, hw16_2, hr16_3, hw16_3, hr16_4, hw16_4, hk17, hr17_0, hw17_0, hr17_1, hw17_1, hr17_2, hw17_2, hr17_3, hw17_3, hr17_4, hw17_4, hk18, hr18_0, hw18_0, hr18_1, hw18_1, hr18_2, hw18_2, hr18_3, hw18_3, hr18_4, hw18_4, hl19, hs19, hl20, hs20, hl21, hs21, hk22, hr22_0, hr22_1, hr22_2, hr22_3, hr22_4, hw22_4, hr22_5, hr22_6, hr22_7, hr22_8, hw22_8, hl23, hs23, hl24, hs24, hl25, hs25, hl26, hs26, hl27, hs27, hl28, hs28, hl29, hs29, hk30, hr30_0, hw30_0, hr30_1, hw30_1, hr30_2, hr30_3, hr30_4, hr30_5, hl31, hs31, hl32, hs32, hl33, hs33, hl34, hs34, hk35, hr35_0, hw35_0, hr35_1, hw35_1, hr35_2, hr35_3, hr35_4, hr35_5, hl36, hs36, hl37, hs37, hl38, hs38, hl39, hs39, hw0_6, hw0_7, hl7, hs7, h, k0, d0, e0, g0, i0, nI_1, byt_eq k hk v]
theorem m_st {n : Nat} (hn : n < 300) (h : D 40 20 = nI n) (v : Int32) (k m : Nat) (hk : k ≤ 24) : fX10_four_3 (m + 1) (b + 40) v (nI k) (HH b D w T pa dr np mk) = fX10_four_3 m (b + 40) v (nI k + (-8)) (HH b (up2 (up2 D 52 n ((v >>> (nI k &&& 31)) &&& 255)) 40 20 (nI (n + 1))) w T pa dr np mk) := by
  have e0 : ¬ nI n < 0 := nI_pos (by omega)
  have g0 : (nI n).toNatClampNeg = n := nI_clamp (by omega)
  have i0 : ¬ 300 ≤ n := by omega
  have k0 : ¬ nI k < 0 := nI_pos (by omega)
  simp (decide := true) only [fX10_four_3, bn_s, bn2_s, nm_s, onul_n, onul_s, if_true, if_false, and_self, and_true, true_and, and_false, false_and, or_self, or_false, false_or, or_true, true_or, not_true_eq_false, not_false_eq_true, eq_self, ne_eq, i01, up2_same, up2_ne, upd_app, hk40, hr40_0, hw40_0, hr40_1, hw40_1, hr40_2, hw40_2, hr40_3, hr40_4, hw40_4, hr40_5, hr40_6, hr40_7, hr40_8, hr40_9, hw40_9, hr40_10, hw40_10, hr40_11, hr40_12, hr40_13, hw40_13, hr40_14, hw40_14, hr40_15, hr40_16, hr40_17, hr40_18, hr40_19, hr40_20, hw40_20, hr40_21, hw40_21, hr40_22, hw40_22, hr40_23, hw40_23, hr40_24, hr40_25, hw40_25, hr40_26, hw40_26, hr40_27, hw40_27, hr40_28, hr40_29, hr40_30, hr40_31, hr40_32, hr40_33, hr40_34, hw40_34, hr40_35, hw40_35, hr40_36, hr40_37, hr40_38, hr40_39, hr40_40, hw40_40, hr40_41, hr40_42, hr40_43, hl41, hs41, hl42, hs42, hl43, hs43, hl44, hs44, hl45, hs45, hl46, hs46, hl47, hs47, hl48, hs48, hl49, hs49, hl50, hs50, hl51, hs51, hl52, hs52, hl53, hs53, hl54, hs54, hl55, hs55, hl56, hs56, hl57, hs57, hl58, hs58, hl59, hs59, hl60, hs60, hl61, hs61, hl62, hs62, hl63, hs63, hl64, hs64, hl65, hs65, hw40_24, h, k0, e0, g0, i0, nI_1]
theorem c_four {n : Nat} (hn : n + 4 ≤ 300) (h : D 10 1 = nI n) (v : Int32) : fX8_appendFour (b + 10) v (HH b D w T pa dr np mk) = some ((), HH b (upR (up2 D 10 1 (nI (n + 4))) 11 (f4 (D 11) n v)) w T pa dr np mk) := by
  refine Eq.trans (c_st (n := n) (by omega) h v 24 3999 (by omega)) ?_
  refine Eq.trans (c_st (n := n + 1) (by omega) rfl v 16 3998 (by omega)) ?_
  refine Eq.trans (c_st (n := n + 2) (by omega) rfl v 8 3997 (by omega)) ?_
  refine Eq.trans (c_st (n := n + 3) (by omega) rfl v 0 3996 (by omega)) ?_
  have k0 : nI 0 + (-8) < 0 := by decide
  rw [fX8_appendFour_3, if_pos k0, eqD (by omega)]
  rfl
theorem m_four {n : Nat} (hn : n + 4 ≤ 300) (h : D 40 20 = nI n) (v : Int32) : fX10_four (b + 40) v (HH b D w T pa dr np mk) = some ((), HH b (upR (up2 D 40 20 (nI (n + 4))) 52 (f4 (D 52) n v)) w T pa dr np mk) := by
  refine Eq.trans (m_st (n := n) (by omega) h v 24 3999 (by omega)) ?_
  refine Eq.trans (m_st (n := n + 1) (by omega) rfl v 16 3998 (by omega)) ?_
  refine Eq.trans (m_st (n := n + 2) (by omega) rfl v 8 3997 (by omega)) ?_
  refine Eq.trans (m_st (n := n + 3) (by omega) rfl v 0 3996 (by omega)) ?_
  have k0 : nI 0 + (-8) < 0 := by decide
  rw [fX10_four_3, if_pos k0, eqD (by omega)]
  rfl
def f20 (r : Nat → Int32) (n : Nat) (v1 v2 v3 v4 v5 : Int32) : Nat → Int32 := f4 (f4 (f4 (f4 (f4 r n v1) (n + 4) v2) (n + 8) v3) (n + 12) v4) (n + 16) v5
theorem upR_up2 {D : Nat → Nat → Int32} {o p k : Nat} {r r1 : Nat → Int32} {x y : Int32} (hne : o ≠ p) : upR (up2 (upR (up2 D p k x) o r) p k y) o r1 = upR (up2 D p k y) o r1 := by
  funext z
  by_cases q : z = o
  · subst q
    rw [upR_same, upR_same]
  · rw [upR_ne q, upR_ne q]
    by_cases q2 : z = p
    · subst q2
      rw [up2_same, up2_same, upR_ne q, up2_same, upd_upd]
    · rw [up2_ne q2, up2_ne q2, upR_ne q, up2_ne q2]
theorem c_more {n m : Nat} {r : Nat → Int32} (hm : n + m + 4 ≤ 300) (v : Int32) : fX8_appendFour (b + 10) v (HH b (upR (up2 D 10 1 (nI (n + m))) 11 r) w T pa dr np mk) = some ((), HH b (upR (up2 D 10 1 (nI (n + (m + 4)))) 11 (f4 r (n + m) v)) w T pa dr np mk) := by
  rw [c_four (n := n + m) hm (by rw [upR_ne (by decide), up2_same, upd_app, if_pos rfl]) v, upR_same, upR_up2 (by decide), Nat.add_assoc]
theorem m_more {n m : Nat} {r : Nat → Int32} (hm : n + m + 4 ≤ 300) (v : Int32) : fX10_four (b + 40) v (HH b (upR (up2 D 40 20 (nI (n + m))) 52 r) w T pa dr np mk) = some ((), HH b (upR (up2 D 40 20 (nI (n + (m + 4)))) 52 (f4 r (n + m) v)) w T pa dr np mk) := by
  rw [m_four (n := n + m) hm (by rw [upR_ne (by decide), up2_same, upd_app, if_pos rfl]) v, upR_same, upR_up2 (by decide), Nat.add_assoc]
theorem c_feed {n : Nat} (hn : n ≤ 280) (h1 : D 10 1 = nI n) (v1 v2 v3 v4 v5 : Int32) : fX9_feed b v1 v2 v3 v4 v5 (HH b D w T pa dr np mk) = some (nI (n + 20), HH b (upR (up2 D 10 1 (nI (n + 20))) 11 (f20 (D 11) n v1 v2 v3 v4 v5)) w T pa dr np mk) := by
  have c1 : nI n ≤ 280 := nI_le (b := 280) hn (by decide)
  have k1 := c_four (b := b) (D := D) (w := w) (T := T) (pa := pa) (dr := dr) (np := np) (mk := mk) (n := n) (by omega) h1 v1
  have k2 := c_more (b := b) (D := D) (w := w) (T := T) (pa := pa) (dr := dr) (np := np) (mk := mk) (n := n) (m := 4) (r := f4 (D 11) n v1) (by omega) v2
  have k3 := c_more (b := b) (D := D) (w := w) (T := T) (pa := pa) (dr := dr) (np := np) (mk := mk) (n := n) (m := 8) (r := f4 (f4 (D 11) n v1) (n + 4) v2) (by omega) v3
  have k4 := c_more (b := b) (D := D) (w := w) (T := T) (pa := pa) (dr := dr) (np := np) (mk := mk) (n := n) (m := 12) (r := f4 (f4 (f4 (D 11) n v1) (n + 4) v2) (n + 8) v3) (by omega) v4
  have k5 := c_more (b := b) (D := D) (w := w) (T := T) (pa := pa) (dr := dr) (np := np) (mk := mk) (n := n) (m := 16) (r := f4 (f4 (f4 (f4 (D 11) n v1) (n + 4) v2) (n + 8) v3) (n + 12) v4) (by omega) v5
  have l5 : upR (up2 D 10 1 (nI (n + 20))) 11 (f4 (f4 (f4 (f4 (f4 (D 11) n v1) (n + 4) v2) (n + 8) v3) (n + 12) v4) (n + 16) v5) 10 1 = nI (n + 20) := by rw [upR_ne (by decide), up2_same, upd_app, if_pos rfl]
  unfold fX9_feed f20
  simp (decide := true) only [bn_s, bn2_s, nm_s, onul_n, onul_s, if_true, if_false, and_self, and_true, true_and, and_false, false_and, or_self, or_false, false_or, or_true, true_or, not_true_eq_false, not_false_eq_true, eq_self, ne_eq, i01, up2_same, up2_ne, upd_app, hk0, hr0_0, hr0_1, hr0_2, hr0_3, hr0_4, hr0_5, hr0_6, hr0_7, hr0_8, hw0_8, hr0_9, hw0_9, hk1, hr1_0, hr1_1, hr1_2, hr1_3, hw1_3, hr1_4, hw1_4, hl4, hs4, hl5, hs5, hl6, hs6, hk8, hr8_0, hw8_0, hr8_1, hw8_1, hr8_2, hw8_2, hk9, hr9_0, hr9_1, hr9_2, hk10, hr10_0, hr10_1, hw10_1, hr10_2, hw10_2, hr10_3, hw10_3, hr10_4, hw10_4, hl11, hs11, hl12, hs12, hl13, hs13, hk14, hr14_0, hr14_1, hr14_2, hr14_3, hr14_4, hw14_4, hk16, hr16_0, hw16_0, hr16_1, hw16_1, hr16_2, hw16_2, hr16_3, hw16_3, hr16_4, hw16_4, hk17, hr17_0, hw17_0, hr17_1, hw17_1, hr17_2, hw17_2, hr17_3, hw17_3, hr17_4, hw17_4, hk18, hr18_0, hw18_0, hr18_1, hw18_1, hr18_2, hw18_2, hr18_3, hw18_3, hr18_4, hw18_4, hl19, hs19, hl20, hs20, hl21, hs21, hk22, hr22_0, hr22_1, hr22_2, hr22_3, hr22_4, hw22_4, hr22_5, hr22_6, hr22_7, hr22_8, hw22_8, hl23, hs23, hl24, hs24, hl25, hs25, hl26, hs26, hl27, hs27, hl28, hs28, hl29, hs29, hk30, hr30_0, hw30_0, hr30_1, hw30_1, hr30_2, hr30_3, hr30_4, hr30_5, hl31, hs31, hl32, hs32, hl33, hs33, hl34, hs34, hk35, hr35_0, hw35_0, hr35_1, hw35_1, hr35_2, hr35_3, hr35_4, hr35_5, hl36, hs36, hl37, hs37, hl38, hs38, hl39, hs39, hw0_6, hw0_7, hl7, hs7, h1, c1, k1, k2, k3, k4, k5, l5, Nat.reduceAdd]
theorem m_feed {n : Nat} (hn : n ≤ 280) (h1 : D 40 20 = nI n) (v1 v2 v3 v4 v5 : Int32) : fX10_feed (b + 40) v1 v2 v3 v4 v5 (HH b D w T pa dr np mk) = some (nI (n + 20), HH b (upR (up2 (up2 D 40 0 0) 40 20 (nI (n + 20))) 52 (f20 (D 52) n v1 v2 v3 v4 v5)) w T pa dr np mk) := by
  have c2 : nI n + 20 ≤ 300 := by
    show nI n + nI 20 ≤ nI 300
    rw [nI_add]
    exact nI_le (by omega) (by decide)
  have g1 : up2 D 40 0 0 40 20 = nI n := by rw [up2_same, upd_app, if_neg (by decide)]; exact h1
  have g2 : up2 D 40 0 0 52 = D 52 := up2_ne (by decide)
  have w0 : wr 10 0 (.int 0) (b + 40) (HH b D w T pa dr np mk) = some (HH b (up2 D 40 0 0) w T pa dr np mk) := hw40_0 0
  generalize up2 D 40 0 0 = E at g1 g2 w0 ⊢
  have k1 := m_four (b := b) (D := E) (w := w) (T := T) (pa := pa) (dr := dr) (np := np) (mk := mk) (n := n) (by omega) g1 v1
  rw [g2] at k1
  have k2 := m_more (b := b) (D := E) (w := w) (T := T) (pa := pa) (dr := dr) (np := np) (mk := mk) (n := n) (m := 4) (r := f4 (D 52) n v1) (by omega) v2
  have k3 := m_more (b := b) (D := E) (w := w) (T := T) (pa := pa) (dr := dr) (np := np) (mk := mk) (n := n) (m := 8) (r := f4 (f4 (D 52) n v1) (n + 4) v2) (by omega) v3
  have k4 := m_more (b := b) (D := E) (w := w) (T := T) (pa := pa) (dr := dr) (np := np) (mk := mk) (n := n) (m := 12) (r := f4 (f4 (f4 (D 52) n v1) (n + 4) v2) (n + 8) v3) (by omega) v4
  have k5 := m_more (b := b) (D := E) (w := w) (T := T) (pa := pa) (dr := dr) (np := np) (mk := mk) (n := n) (m := 16) (r := f4 (f4 (f4 (f4 (D 52) n v1) (n + 4) v2) (n + 8) v3) (n + 12) v4) (by omega) v5
  have l5 : upR (up2 E 40 20 (nI (n + 20))) 52 (f4 (f4 (f4 (f4 (f4 (D 52) n v1) (n + 4) v2) (n + 8) v3) (n + 12) v4) (n + 16) v5) 40 20 = nI (n + 20) := by rw [upR_ne (by decide), up2_same, upd_app, if_pos rfl]
  unfold fX10_feed f20
  simp (decide := true) only [bn_s, bn2_s, nm_s, onul_n, onul_s, if_true, if_false, and_self, and_true, true_and, and_false, false_and, or_self, or_false, false_or, or_true, true_or, not_true_eq_false, not_false_eq_true, eq_self, ne_eq, i01, up2_same, up2_ne, upd_app, hk40, hr40_20, w0, g1, c2, k1, k2, k3, k4, k5, l5, Nat.reduceAdd]
theorem op_feed (hI : Inv D pa dr np) (v1 v2 v3 v4 v5 : Int32) : Good b (armF (fX9_feed b v1 v2 v3 v4 v5) (fX10_feed (b + 40) v1 v2 v3 v4 v5) (HH b D w T pa dr np np)) := by
  obtain ⟨s1, s2, s3, s4, s5, s6⟩ := hI
  obtain ⟨n, hn, h1, h2, h3⟩ := id s4
  by_cases q : n ≤ 280
  · have k1 := c_feed (b := b) (w := w) (T := T) (pa := pa) (dr := dr) (np := np) (mk := np) q h1 v1 v2 v3 v4 v5
    have k2 := m_feed (b := b) (D := upR (up2 D 10 1 (nI (n + 20))) 11 (f20 (D 11) n v1 v2 v3 v4 v5)) (w := w) (T := T) (pa := pa) (dr := dr) (np := np) (mk := np) q h2 v1 v2 v3 v4 v5
    unfold armF
    rw [k1, bn2_s, k2, bn2_s, if_pos rfl]
    refine ⟨_, _, _, _, _, _, rfl, ⟨s1.1, s1.2⟩, Isk_of s2 rfl rfl rfl rfl rfl rfl rfl rfl rfl rfl rfl rfl, Igt_of s3 rfl rfl rfl rfl rfl rfl rfl rfl rfl rfl rfl rfl rfl rfl rfl rfl rfl rfl, ⟨n + 20, by omega, rfl, rfl, ?_⟩, Ipl_of s5 (fun o a1 a2 => ?_) rfl rfl rfl, Ipc_of s6 rfl rfl rfl rfl rfl rfl rfl rfl rfl rfl rfl rfl rfl rfl (fun x => ?_)⟩
    · show f20 (D 11) n v1 v2 v3 v4 v5 = f20 (D 52) n v1 v2 v3 v4 v5
      rw [h3]
    · rw [upR_ne (by omega), up2_ne (by omega), up2_ne (by omega), upR_ne (by omega), up2_ne (by omega)]
    · rw [upR_ne (by omega), up2_ne (by omega), up2_ne (by omega), upR_ne (by omega), up2_ne (by omega)]
  · have c1 : ¬ nI n ≤ 280 := nI_ge (a := 280) (by omega) (by omega)
    have c2 : ¬ nI n + 20 ≤ 300 := by
      show ¬ nI n + nI 20 ≤ nI 300
      rw [nI_add]
      exact nI_ge (by omega) (by omega)
    simp (decide := true) only [armF, fX9_feed, fX10_feed, bn_s, bn2_s, nm_s, onul_n, onul_s, if_true, if_false, and_self, and_true, true_and, and_false, false_and, or_self, or_false, false_or, or_true, true_or, not_true_eq_false, not_false_eq_true, eq_self, ne_eq, i01, up2_same, up2_ne, upd_app, hk40, hr40_0, hw40_0, hr40_1, hw40_1, hr40_2, hw40_2, hr40_3, hr40_4, hw40_4, hr40_5, hr40_6, hr40_7, hr40_8, hr40_9, hw40_9, hr40_10, hw40_10, hr40_11, hr40_12, hr40_13, hw40_13, hr40_14, hw40_14, hr40_15, hr40_16, hr40_17, hr40_18, hr40_19, hr40_20, hw40_20, hr40_21, hw40_21, hr40_22, hw40_22, hr40_23, hw40_23, hr40_24, hr40_25, hw40_25, hr40_26, hw40_26, hr40_27, hw40_27, hr40_28, hr40_29, hr40_30, hr40_31, hr40_32, hr40_33, hr40_34, hw40_34, hr40_35, hw40_35, hr40_36, hr40_37, hr40_38, hr40_39, hr40_40, hw40_40, hr40_41, hr40_42, hr40_43, hl41, hs41, hl42, hs42, hl43, hs43, hl44, hs44, hl45, hs45, hl46, hs46, hl47, hs47, hl48, hs48, hl49, hs49, hl50, hs50, hl51, hs51, hl52, hs52, hl53, hs53, hl54, hs54, hl55, hs55, hl56, hs56, hl57, hs57, hl58, hs58, hl59, hs59, hl60, hs60, hl61, hs61, hl62, hs62, hl63, hs63, hl64, hs64, hl65, hs65, hw40_24, hk0, hr0_0, hr0_1, hr0_2, hr0_3, hr0_4, hr0_5, hr0_6, hr0_7, hr0_8, hw0_8, hr0_9, hw0_9, hk1, hr1_0, hr1_1, hr1_2, hr1_3, hw1_3, hr1_4, hw1_4, hl4, hs4, hl5, hs5, hl6, hs6, hk8, hr8_0, hw8_0, hr8_1, hw8_1, hr8_2, hw8_2, hk9, hr9_0, hr9_1, hr9_2, hk10, hr10_0, hr10_1, hw10_1, hr10_2, hw10_2, hr10_3, hw10_3, hr10_4, hw10_4, hl11, hs11, hl12, hs12, hl13, hs13, hk14, hr14_0, hr14_1, hr14_2, hr14_3, hr14_4, hw14_4, hk16, hr16_0, hw16_0, hr16_1, hw16_1, hr16_2, hw16_2, hr16_3, hw16_3, hr16_4, hw16_4, hk17, hr17_0, hw17_0, hr17_1, hw17_1, hr17_2, hw17_2, hr17_3, hw17_3, hr17_4, hw17_4, hk18, hr18_0, hw18_0, hr18_1, hw18_1, hr18_2, hw18_2, hr18_3, hw18_3, hr18_4, hw18_4, hl19, hs19, hl20, hs20, hl21, hs21, hk22, hr22_0, hr22_1, hr22_2, hr22_3, hr22_4, hw22_4, hr22_5, hr22_6, hr22_7, hr22_8, hw22_8, hl23, hs23, hl24, hs24, hl25, hs25, hl26, hs26, hl27, hs27, hl28, hs28, hl29, hs29, hk30, hr30_0, hw30_0, hr30_1, hw30_1, hr30_2, hr30_3, hr30_4, hr30_5, hl31, hs31, hl32, hs32, hl33, hs33, hl34, hs34, hk35, hr35_0, hw35_0, hr35_1, hw35_1, hr35_2, hr35_3, hr35_4, hr35_5, hl36, hs36, hl37, hs37, hl38, hs38, hl39, hs39, hw0_6, hw0_7, hl7, hs7, h1, h2, c1, c2]
    exact ⟨_, _, _, _, _, _, rfl, ⟨s1.1, s1.2⟩, Isk_of s2 rfl rfl rfl rfl rfl rfl rfl rfl rfl rfl rfl rfl, Igt_of s3 rfl rfl rfl rfl rfl rfl rfl rfl rfl rfl rfl rfl rfl rfl rfl rfl rfl rfl, Itp_of s4 rfl rfl rfl rfl, Ipl_of s5 (fun o h1 h2 => by repeat (rw [up2_ne (by omega)])) rfl rfl rfl, Ipc_of s6 rfl rfl rfl rfl rfl rfl rfl rfl rfl rfl rfl rfl rfl rfl (fun x => by repeat (rw [up2_ne (by omega)]))⟩
set_option maxRecDepth 100000 in
set_option maxHeartbeats 4000000 in
theorem op_end (hI : Inv D pa dr np) (v : Int32) : Good b (armF (fX9_end b v) (fX10_end (b + 40) v) (HH b D w T pa dr np np)) := by
  obtain ⟨s1, s2, s3, s4, s5, s6⟩ := hI
  obtain ⟨n, hn, h1, h2, h3⟩ := id s4
  by_cases q : v < 0
  · simp (decide := true) only [armF, fX9_end, fX10_end, bn_s, bn2_s, nm_s, onul_n, onul_s, if_true, if_false, and_self, and_true, true_and, and_false, false_and, or_self, or_false, false_or, or_true, true_or, not_true_eq_false, not_false_eq_true, eq_self, ne_eq, i01, up2_same, up2_ne, upd_app, hk40, hr40_0, hw40_0, hr40_1, hw40_1, hr40_2, hw40_2, hr40_3, hr40_4, hw40_4, hr40_5, hr40_6, hr40_7, hr40_8, hr40_9, hw40_9, hr40_10, hw40_10, hr40_11, hr40_12, hr40_13, hw40_13, hr40_14, hw40_14, hr40_15, hr40_16, hr40_17, hr40_18, hr40_19, hr40_20, hw40_20, hr40_21, hw40_21, hr40_22, hw40_22, hr40_23, hw40_23, hr40_24, hr40_25, hw40_25, hr40_26, hw40_26, hr40_27, hw40_27, hr40_28, hr40_29, hr40_30, hr40_31, hr40_32, hr40_33, hr40_34, hw40_34, hr40_35, hw40_35, hr40_36, hr40_37, hr40_38, hr40_39, hr40_40, hw40_40, hr40_41, hr40_42, hr40_43, hl41, hs41, hl42, hs42, hl43, hs43, hl44, hs44, hl45, hs45, hl46, hs46, hl47, hs47, hl48, hs48, hl49, hs49, hl50, hs50, hl51, hs51, hl52, hs52, hl53, hs53, hl54, hs54, hl55, hs55, hl56, hs56, hl57, hs57, hl58, hs58, hl59, hs59, hl60, hs60, hl61, hs61, hl62, hs62, hl63, hs63, hl64, hs64, hl65, hs65, hw40_24, hk0, hr0_0, hr0_1, hr0_2, hr0_3, hr0_4, hr0_5, hr0_6, hr0_7, hr0_8, hw0_8, hr0_9, hw0_9, hk1, hr1_0, hr1_1, hr1_2, hr1_3, hw1_3, hr1_4, hw1_4, hl4, hs4, hl5, hs5, hl6, hs6, hk8, hr8_0, hw8_0, hr8_1, hw8_1, hr8_2, hw8_2, hk9, hr9_0, hr9_1, hr9_2, hk10, hr10_0, hr10_1, hw10_1, hr10_2, hw10_2, hr10_3, hw10_3, hr10_4, hw10_4, hl11, hs11, hl12, hs12, hl13, hs13, hk14, hr14_0, hr14_1, hr14_2, hr14_3, hr14_4, hw14_4, hk16, hr16_0, hw16_0, hr16_1, hw16_1, hr16_2, hw16_2, hr16_3, hw16_3, hr16_4, hw16_4, hk17, hr17_0, hw17_0, hr17_1, hw17_1, hr17_2, hw17_2, hr17_3, hw17_3, hr17_4, hw17_4, hk18, hr18_0, hw18_0, hr18_1, hw18_1, hr18_2, hw18_2, hr18_3, hw18_3, hr18_4, hw18_4, hl19, hs19, hl20, hs20, hl21, hs21, hk22, hr22_0, hr22_1, hr22_2, hr22_3, hr22_4, hw22_4, hr22_5, hr22_6, hr22_7, hr22_8, hw22_8, hl23, hs23, hl24, hs24, hl25, hs25, hl26, hs26, hl27, hs27, hl28, hs28, hl29, hs29, hk30, hr30_0, hw30_0, hr30_1, hw30_1, hr30_2, hr30_3, hr30_4, hr30_5, hl31, hs31, hl32, hs32, hl33, hs33, hl34, hs34, hk35, hr35_0, hw35_0, hr35_1, hw35_1, hr35_2, hr35_3, hr35_4, hr35_5, hl36, hs36, hl37, hs37, hl38, hs38, hl39, hs39, hw0_6, hw0_7, hl7, hs7, h1, h2, q]
    exact ⟨_, _, _, _, _, _, rfl, ⟨s1.1, s1.2⟩, Isk_of s2 rfl rfl rfl rfl rfl rfl rfl rfl rfl rfl rfl rfl, Igt_of s3 rfl rfl rfl rfl rfl rfl rfl rfl rfl rfl rfl rfl rfl rfl rfl rfl rfl rfl, Itp_of s4 rfl rfl rfl rfl, Ipl_of s5 (fun o h1 h2 => by repeat (rw [up2_ne (by omega)])) rfl rfl rfl, Ipc_of s6 rfl rfl rfl rfl rfl rfl rfl rfl rfl rfl rfl rfl rfl rfl (fun x => by repeat (rw [up2_ne (by omega)]))⟩
  · by_cases q2 : v ≤ nI n
    · obtain ⟨k, hk, rfl⟩ := nI_of q
      have hk2 := (nI_leI hk (by omega)).mp q2
      simp (decide := true) only [armF, fX9_end, fX10_end, bn_s, bn2_s, nm_s, onul_n, onul_s, if_true, if_false, and_self, and_true, true_and, and_false, false_and, or_self, or_false, false_or, or_true, true_or, not_true_eq_false, not_false_eq_true, eq_self, ne_eq, i01, up2_same, up2_ne, upd_app, hk40, hr40_0, hw40_0, hr40_1, hw40_1, hr40_2, hw40_2, hr40_3, hr40_4, hw40_4, hr40_5, hr40_6, hr40_7, hr40_8, hr40_9, hw40_9, hr40_10, hw40_10, hr40_11, hr40_12, hr40_13, hw40_13, hr40_14, hw40_14, hr40_15, hr40_16, hr40_17, hr40_18, hr40_19, hr40_20, hw40_20, hr40_21, hw40_21, hr40_22, hw40_22, hr40_23, hw40_23, hr40_24, hr40_25, hw40_25, hr40_26, hw40_26, hr40_27, hw40_27, hr40_28, hr40_29, hr40_30, hr40_31, hr40_32, hr40_33, hr40_34, hw40_34, hr40_35, hw40_35, hr40_36, hr40_37, hr40_38, hr40_39, hr40_40, hw40_40, hr40_41, hr40_42, hr40_43, hl41, hs41, hl42, hs42, hl43, hs43, hl44, hs44, hl45, hs45, hl46, hs46, hl47, hs47, hl48, hs48, hl49, hs49, hl50, hs50, hl51, hs51, hl52, hs52, hl53, hs53, hl54, hs54, hl55, hs55, hl56, hs56, hl57, hs57, hl58, hs58, hl59, hs59, hl60, hs60, hl61, hs61, hl62, hs62, hl63, hs63, hl64, hs64, hl65, hs65, hw40_24, hk0, hr0_0, hr0_1, hr0_2, hr0_3, hr0_4, hr0_5, hr0_6, hr0_7, hr0_8, hw0_8, hr0_9, hw0_9, hk1, hr1_0, hr1_1, hr1_2, hr1_3, hw1_3, hr1_4, hw1_4, hl4, hs4, hl5, hs5, hl6, hs6, hk8, hr8_0, hw8_0, hr8_1, hw8_1, hr8_2, hw8_2, hk9, hr9_0, hr9_1, hr9_2, hk10, hr10_0, hr10_1, hw10_1, hr10_2, hw10_2, hr10_3, hw10_3, hr10_4, hw10_4, hl11, hs11, hl12, hs12, hl13, hs13, hk14, hr14_0, hr14_1, hr14_2, hr14_3, hr14_4, hw14_4, hk16, hr16_0, hw16_0, hr16_1, hw16_1, hr16_2, hw16_2, hr16_3, hw16_3, hr16_4, hw16_4, hk17, hr17_0, hw17_0, hr17_1, hw17_1, hr17_2, hw17_2, hr17_3, hw17_3, hr17_4, hw17_4, hk18, hr18_0, hw18_0, hr18_1, hw18_1, hr18_2, hw18_2, hr18_3, hw18_3, hr18_4, hw18_4, hl19, hs19, hl20, hs20, hl21, hs21, hk22, hr22_0, hr22_1, hr22_2, hr22_3, hr22_4, hw22_4, hr22_5, hr22_6, hr22_7, hr22_8, hw22_8, hl23, hs23, hl24, hs24, hl25, hs25, hl26, hs26, hl27, hs27, hl28, hs28, hl29, hs29, hk30, hr30_0, hw30_0, hr30_1, hw30_1, hr30_2, hr30_3, hr30_4, hr30_5, hl31, hs31, hl32, hs32, hl33, hs33, hl34, hs34, hk35, hr35_0, hw35_0, hr35_1, hw35_1, hr35_2, hr35_3, hr35_4, hr35_5, hl36, hs36, hl37, hs37, hl38, hs38, hl39, hs39, hw0_6, hw0_7, hl7, hs7, h1, h2, q, q2]
      exact ⟨_, _, _, _, _, _, rfl, ⟨s1.1, s1.2⟩, Isk_of s2 rfl rfl rfl rfl rfl rfl rfl rfl rfl rfl rfl rfl, Igt_of s3 rfl rfl rfl rfl rfl rfl rfl rfl rfl rfl rfl rfl rfl rfl rfl rfl rfl rfl, ⟨k, by omega, rfl, rfl, h3⟩, Ipl_of s5 (fun o h1 h2 => by repeat (rw [up2_ne (by omega)])) rfl rfl rfl, Ipc_of s6 rfl rfl rfl rfl rfl rfl rfl rfl rfl rfl rfl rfl rfl rfl (fun x => by repeat (rw [up2_ne (by omega)]))⟩
    · simp (decide := true) only [armF, fX9_end, fX10_end, bn_s, bn2_s, nm_s, onul_n, onul_s, if_true, if_false, and_self, and_true, true_and, and_false, false_and, or_self, or_false, false_or, or_true, true_or, not_true_eq_false, not_false_eq_true, eq_self, ne_eq, i01, up2_same, up2_ne, upd_app, hk40, hr40_0, hw40_0, hr40_1, hw40_1, hr40_2, hw40_2, hr40_3, hr40_4, hw40_4, hr40_5, hr40_6, hr40_7, hr40_8, hr40_9, hw40_9, hr40_10, hw40_10, hr40_11, hr40_12, hr40_13, hw40_13, hr40_14, hw40_14, hr40_15, hr40_16, hr40_17, hr40_18, hr40_19, hr40_20, hw40_20, hr40_21, hw40_21, hr40_22, hw40_22, hr40_23, hw40_23, hr40_24, hr40_25, hw40_25, hr40_26, hw40_26, hr40_27, hw40_27, hr40_28, hr40_29, hr40_30, hr40_31, hr40_32, hr40_33, hr40_34, hw40_34, hr40_35, hw40_35, hr40_36, hr40_37, hr40_38, hr40_39, hr40_40, hw40_40, hr40_41, hr40_42, hr40_43, hl41, hs41, hl42, hs42, hl43, hs43, hl44, hs44, hl45, hs45, hl46, hs46, hl47, hs47, hl48, hs48, hl49, hs49, hl50, hs50, hl51, hs51, hl52, hs52, hl53, hs53, hl54, hs54, hl55, hs55, hl56, hs56, hl57, hs57, hl58, hs58, hl59, hs59, hl60, hs60, hl61, hs61, hl62, hs62, hl63, hs63, hl64, hs64, hl65, hs65, hw40_24, hk0, hr0_0, hr0_1, hr0_2, hr0_3, hr0_4, hr0_5, hr0_6, hr0_7, hr0_8, hw0_8, hr0_9, hw0_9, hk1, hr1_0, hr1_1, hr1_2, hr1_3, hw1_3, hr1_4, hw1_4, hl4, hs4, hl5, hs5, hl6, hs6, hk8, hr8_0, hw8_0, hr8_1, hw8_1, hr8_2, hw8_2, hk9, hr9_0, hr9_1, hr9_2, hk10, hr10_0, hr10_1, hw10_1, hr10_2, hw10_2, hr10_3, hw10_3, hr10_4, hw10_4, hl11, hs11, hl12, hs12, hl13, hs13, hk14, hr14_0, hr14_1, hr14_2, hr14_3, hr14_4, hw14_4, hk16, hr16_0, hw16_0, hr16_1, hw16_1, hr16_2, hw16_2, hr16_3, hw16_3, hr16_4, hw16_4, hk17, hr17_0, hw17_0, hr17_1, hw17_1, hr17_2, hw17_2, hr17_3, hw17_3, hr17_4, hw17_4, hk18, hr18_0, hw18_0, hr18_1, hw18_1, hr18_2, hw18_2, hr18_3, hw18_3, hr18_4, hw18_4, hl19, hs19, hl20, hs20, hl21, hs21, hk22, hr22_0, hr22_1, hr22_2, hr22_3, hr22_4, hw22_4, hr22_5, hr22_6, hr22_7, hr22_8, hw22_8, hl23, hs23, hl24, hs24, hl25, hs25, hl26, hs26, hl27, hs27, hl28, hs28, hl29, hs29, hk30, hr30_0, hw30_0, hr30_1, hw30_1, hr30_2, hr30_3, hr30_4, hr30_5, hl31, hs31, hl32, hs32, hl33, hs33, hl34, hs34, hk35, hr35_0, hw35_0, hr35_1, hw35_1, hr35_2, hr35_3, hr35_4, hr35_5, hl36, hs36, hl37, hs37, hl38, hs38, hl39, hs39, hw0_6, hw0_7, hl7, hs7, h1, h2, q, q2]
      exact ⟨_, _, _, _, _, _, rfl, ⟨s1.1, s1.2⟩, Isk_of s2 rfl rfl rfl rfl rfl rfl rfl rfl rfl rfl rfl rfl, Igt_of s3 rfl rfl rfl rfl rfl rfl rfl rfl rfl rfl rfl rfl rfl rfl rfl rfl rfl rfl, Itp_of s4 rfl rfl rfl rfl, Ipl_of s5 (fun o h1 h2 => by repeat (rw [up2_ne (by omega)])) rfl rfl rfl, Ipc_of s6 rfl rfl rfl rfl rfl rfl rfl rfl rfl rfl rfl rfl rfl rfl (fun x => by repeat (rw [up2_ne (by omega)]))⟩
theorem al_c {A S O : Nat} (hA : A ≤ 10000) (hS : 1 ≤ S) (hS2 : S ≤ 200) (hO : O < S) (h : PH) : fX9_leavesAlong (nI A) (nI S) (nI S - nI O) h = some (if A ≤ S then 1 else lN (1 + (A - S + (S - O) - 1) / (S - O)), h) := by
  have e1 : nI S - nI O = nI (S - O) := pk_sub (by omega)
  unfold fX9_leavesAlong
  rw [e1]
  by_cases q : A ≤ S
  · rw [if_pos (nI_le q (by omega)), if_pos q]
  · have c1 : ¬ nI A ≤ nI S := nI_ge (by omega) (by omega)
    have c2 : (1 : Int32) ≤ nI (S - O) := nI_le (a := 1) (by omega) (by omega)
    have c3 : ¬ nI (S - O) = 0 := nI_ne0 (by omega) (by omega)
    rw [if_neg c1, if_pos c2, if_neg c3, if_neg q, pk_sub (show S ≤ A by omega), nI_add]
    rw [show nI (A - S + (S - O)) - (1 : Int32) = nI (A - S + (S - O) - 1) from pk_sub (b := 1) (by omega)]
    rw [pk_div (by omega) (by omega) (by omega)]
    have hq : (A - S + (S - O) - 1) / (S - O) ≤ A - S + (S - O) - 1 := Nat.div_le_self _ _
    rw [show (1 : Int32) + nI ((A - S + (S - O) - 1) / (S - O)) = nI (1 + (A - S + (S - O) - 1) / (S - O)) from nI_add 1 _, nI_l (by omega)]
theorem al_m {A S O : Nat} (hA : A ≤ 10000) (hS : 1 ≤ S) (hS2 : S ≤ 200) (hO : O < S) (h : PH) : fX10_along (nI A) (nI S) (nI O) h = some (if A ≤ S then 1 else lN (1 + (A - S + (S - O) - 1) / (S - O)), h) := by
  have e1 : nI S - nI O = nI (S - O) := pk_sub (by omega)
  unfold fX10_along
  rw [e1]
  by_cases q : A ≤ S
  · rw [if_neg (nI_nlt q (by omega)), if_pos q]
  · have c1 : nI S < nI A := nI_lt (by omega) (by omega)
    have c3 : ¬ nI (S - O) = 0 := nI_ne0 (by omega) (by omega)
    rw [if_pos c1, if_neg c3, if_neg q, pk_sub (show S ≤ A by omega), nI_add, pk_sub (show O ≤ A - S + S by omega)]
    rw [show nI (A - S + S - O) - (1 : Int32) = nI (A - S + S - O - 1) from pk_sub (b := 1) (by omega)]
    rw [pk_div (by omega) (by omega) (by omega)]
    have e2 : A - S + S - O - 1 = A - S + (S - O) - 1 := by omega
    rw [e2]
    have hq : (A - S + (S - O) - 1) / (S - O) ≤ A - S + (S - O) - 1 := Nat.div_le_self _ _
    rw [nI_l (by omega)]
    rw [show (1 : Int64) + lN ((A - S + (S - O) - 1) / (S - O)) = lN (1 + (A - S + (S - O) - 1) / (S - O)) from lN_add 1 _]
theorem nI_in3 {v : Int32} {l u : Nat} (hu : u < 2 ^ 31) (hl : l ≤ u) (h : nI l ≤ v ∧ v ≤ nI u) : ∃ n, l ≤ n ∧ n ≤ u ∧ v = nI n := by
  have h1 := (le3 _ _).mp h.1
  have h2 := (le3 _ _).mp h.2
  rw [nI_ti (by omega)] at h1 h2
  have a0 : ¬ v < 0 := by rw [lt3]; have e : (0 : Int32).toInt = 0 := rfl; omega
  obtain ⟨k, hk, rfl⟩ := nI_of a0
  rw [nI_ti hk] at h1 h2
  exact ⟨k, by omega, by omega, rfl⟩
theorem sub1_3 {x : Int32} (h : 1 ≤ x.toInt) (v : Int32) : (v ≤ x - 1) = (v < x) := propext (by
  have h1 := rng3 x
  have e : (x - 1).toInt = x.toInt - 1 := by
    rw [Int32.toInt_sub]
    have : (1 : Int32).toInt = 1 := rfl
    rw [this]
    apply Int.bmod_eq_of_le <;> omega
  rw [le3, lt3, e]
  omega)
set_option maxRecDepth 100000 in
set_option maxHeartbeats 4000000 in
theorem op_surface (hI : Inv D pa dr np) (a c s o : Int32) : Good b (armL (fX9_surface b a c s o) (fX10_surface (b + 40) a c s o) (HH b D w T pa dr np np)) := by
  obtain ⟨s1, s2, s3, s4, s5, s6⟩ := hI
  by_cases q1 : 1 ≤ a ∧ a ≤ 10000
  · by_cases q2 : 1 ≤ c ∧ c ≤ 10000
    · by_cases q3 : 1 ≤ s ∧ s ≤ 200
      · have t3 : 1 ≤ s.toInt := (le3 _ _).mp q3.1
        by_cases q4 : 0 ≤ o ∧ o < s
        · obtain ⟨A, A1, A2, rfl⟩ := nI_in3 (l := 1) (u := 10000) (by decide) (by decide) q1
          obtain ⟨B, B1, B2, rfl⟩ := nI_in3 (l := 1) (u := 10000) (by decide) (by decide) q2
          obtain ⟨S, S1, S2, rfl⟩ := nI_in3 (l := 1) (u := 200) (by decide) (by decide) q3
          obtain ⟨c3, O, hO, rfl, c4, c5⟩ := ix_of q4.1 q4.2 (Nat.le_refl S) (by omega)
          simp (decide := true) only [armL, fX9_surface, fX10_surface, fX10_surface_60, fX10_surface_59, f_within, f_in, sub1_le, sub1_3 t3, al_c A2 S1 S2 hO, al_c B2 S1 S2 hO, al_m A2 S1 S2 hO, al_m B2 S1 S2 hO, bn_s, bn2_s, nm_s, onul_n, onul_s, if_true, if_false, and_self, and_true, true_and, and_false, false_and, or_self, or_false, false_or, or_true, true_or, not_true_eq_false, not_false_eq_true, eq_self, ne_eq, i01, up2_same, up2_ne, upd_app, hk40, hr40_0, hw40_0, hr40_1, hw40_1, hr40_2, hw40_2, hr40_3, hr40_4, hw40_4, hr40_5, hr40_6, hr40_7, hr40_8, hr40_9, hw40_9, hr40_10, hw40_10, hr40_11, hr40_12, hr40_13, hw40_13, hr40_14, hw40_14, hr40_15, hr40_16, hr40_17, hr40_18, hr40_19, hr40_20, hw40_20, hr40_21, hw40_21, hr40_22, hw40_22, hr40_23, hw40_23, hr40_24, hr40_25, hw40_25, hr40_26, hw40_26, hr40_27, hw40_27, hr40_28, hr40_29, hr40_30, hr40_31, hr40_32, hr40_33, hr40_34, hw40_34, hr40_35, hw40_35, hr40_36, hr40_37, hr40_38, hr40_39, hr40_40, hw40_40, hr40_41, hr40_42, hr40_43, hl41, hs41, hl42, hs42, hl43, hs43, hl44, hs44, hl45, hs45, hl46, hs46, hl47, hs47, hl48, hs48, hl49, hs49, hl50, hs50, hl51, hs51, hl52, hs52, hl53, hs53, hl54, hs54, hl55, hs55, hl56, hs56, hl57, hs57, hl58, hs58, hl59, hs59, hl60, hs60, hl61, hs61, hl62, hs62, hl63, hs63, hl64, hs64, hl65, hs65, hw40_24, el_0, el_1, el_2, el_3, el_20, el_50, el_100, el_200, el_1000, el_10000, el_1000000, el_m1000000, el_100000000, er_0, er_1, er_2, er_3, er_20, er_50, er_100, er_200, er_1000, er_10000, er_1000000, er_m1000000, er_100000000, q1, q2, q3, q4]
          exact ⟨_, _, _, _, _, _, rfl, ⟨s1.1, s1.2⟩, Isk_of s2 rfl rfl rfl rfl rfl rfl rfl rfl rfl rfl rfl rfl, Igt_of s3 rfl rfl rfl rfl rfl rfl rfl rfl rfl rfl rfl rfl rfl rfl rfl rfl rfl rfl, Itp_of s4 rfl rfl rfl rfl, Ipl_of s5 (fun o h1 h2 => by repeat (rw [up2_ne (by omega)])) rfl rfl rfl, Ipc_of s6 rfl rfl rfl rfl rfl rfl rfl rfl rfl rfl rfl rfl rfl rfl (fun x => by repeat (rw [up2_ne (by omega)]))⟩
        · simp (decide := true) only [armL, fX9_surface, fX10_surface, fX10_surface_60, fX10_surface_59, f_within, f_in, sub1_le, sub1_3 t3, bn_s, bn2_s, nm_s, onul_n, onul_s, if_true, if_false, and_self, and_true, true_and, and_false, false_and, or_self, or_false, false_or, or_true, true_or, not_true_eq_false, not_false_eq_true, eq_self, ne_eq, i01, up2_same, up2_ne, upd_app, hk40, hr40_0, hw40_0, hr40_1, hw40_1, hr40_2, hw40_2, hr40_3, hr40_4, hw40_4, hr40_5, hr40_6, hr40_7, hr40_8, hr40_9, hw40_9, hr40_10, hw40_10, hr40_11, hr40_12, hr40_13, hw40_13, hr40_14, hw40_14, hr40_15, hr40_16, hr40_17, hr40_18, hr40_19, hr40_20, hw40_20, hr40_21, hw40_21, hr40_22, hw40_22, hr40_23, hw40_23, hr40_24, hr40_25, hw40_25, hr40_26, hw40_26, hr40_27, hw40_27, hr40_28, hr40_29, hr40_30, hr40_31, hr40_32, hr40_33, hr40_34, hw40_34, hr40_35, hw40_35, hr40_36, hr40_37, hr40_38, hr40_39, hr40_40, hw40_40, hr40_41, hr40_42, hr40_43, hl41, hs41, hl42, hs42, hl43, hs43, hl44, hs44, hl45, hs45, hl46, hs46, hl47, hs47, hl48, hs48, hl49, hs49, hl50, hs50, hl51, hs51, hl52, hs52, hl53, hs53, hl54, hs54, hl55, hs55, hl56, hs56, hl57, hs57, hl58, hs58, hl59, hs59, hl60, hs60, hl61, hs61, hl62, hs62, hl63, hs63, hl64, hs64, hl65, hs65, hw40_24, el_0, el_1, el_2, el_3, el_20, el_50, el_100, el_200, el_1000, el_10000, el_1000000, el_m1000000, el_100000000, er_0, er_1, er_2, er_3, er_20, er_50, er_100, er_200, er_1000, er_10000, er_1000000, er_m1000000, er_100000000, q1, q2, q3, q4]
          exact ⟨_, _, _, _, _, _, rfl, ⟨s1.1, s1.2⟩, Isk_of s2 rfl rfl rfl rfl rfl rfl rfl rfl rfl rfl rfl rfl, Igt_of s3 rfl rfl rfl rfl rfl rfl rfl rfl rfl rfl rfl rfl rfl rfl rfl rfl rfl rfl, Itp_of s4 rfl rfl rfl rfl, Ipl_of s5 (fun o h1 h2 => by repeat (rw [up2_ne (by omega)])) rfl rfl rfl, Ipc_of s6 rfl rfl rfl rfl rfl rfl rfl rfl rfl rfl rfl rfl rfl rfl (fun x => by repeat (rw [up2_ne (by omega)]))⟩
      · simp (decide := true) only [armL, fX9_surface, fX10_surface, fX10_surface_60, fX10_surface_59, f_within, f_in, bn_s, bn2_s, nm_s, onul_n, onul_s, if_true, if_false, and_self, and_true, true_and, and_false, false_and, or_self, or_false, false_or, or_true, true_or, not_true_eq_false, not_false_eq_true, eq_self, ne_eq, i01, up2_same, up2_ne, upd_app, hk40, hr40_0, hw40_0, hr40_1, hw40_1, hr40_2, hw40_2, hr40_3, hr40_4, hw40_4, hr40_5, hr40_6, hr40_7, hr40_8, hr40_9, hw40_9, hr40_10, hw40_10, hr40_11, hr40_12, hr40_13, hw40_13, hr40_14, hw40_14, hr40_15, hr40_16, hr40_17, hr40_18, hr40_19, hr40_20, hw40_20, hr40_21, hw40_21, hr40_22, hw40_22, hr40_23, hw40_23, hr40_24, hr40_25, hw40_25, hr40_26, hw40_26, hr40_27, hw40_27, hr40_28, hr40_29, hr40_30, hr40_31, hr40_32, hr40_33, hr40_34, hw40_34, hr40_35, hw40_35, hr40_36, hr40_37, hr40_38, hr40_39, hr40_40, hw40_40, hr40_41, hr40_42, hr40_43, hl41, hs41, hl42, hs42, hl43, hs43, hl44, hs44, hl45, hs45, hl46, hs46, hl47, hs47, hl48, hs48, hl49, hs49, hl50, hs50, hl51, hs51, hl52, hs52, hl53, hs53, hl54, hs54, hl55, hs55, hl56, hs56, hl57, hs57, hl58, hs58, hl59, hs59, hl60, hs60, hl61, hs61, hl62, hs62, hl63, hs63, hl64, hs64, hl65, hs65, hw40_24, el_0, el_1, el_2, el_3, el_20, el_50, el_100, el_200, el_1000, el_10000, el_1000000, el_m1000000, el_100000000, er_0, er_1, er_2, er_3, er_20, er_50, er_100, er_200, er_1000, er_10000, er_1000000, er_m1000000, er_100000000, q1, q2, q3]
        exact ⟨_, _, _, _, _, _, rfl, ⟨s1.1, s1.2⟩, Isk_of s2 rfl rfl rfl rfl rfl rfl rfl rfl rfl rfl rfl rfl, Igt_of s3 rfl rfl rfl rfl rfl rfl rfl rfl rfl rfl rfl rfl rfl rfl rfl rfl rfl rfl, Itp_of s4 rfl rfl rfl rfl, Ipl_of s5 (fun o h1 h2 => by repeat (rw [up2_ne (by omega)])) rfl rfl rfl, Ipc_of s6 rfl rfl rfl rfl rfl rfl rfl rfl rfl rfl rfl rfl rfl rfl (fun x => by repeat (rw [up2_ne (by omega)]))⟩
    · simp (decide := true) only [armL, fX9_surface, fX10_surface, fX10_surface_60, fX10_surface_59, f_within, f_in, bn_s, bn2_s, nm_s, onul_n, onul_s, if_true, if_false, and_self, and_true, true_and, and_false, false_and, or_self, or_false, false_or, or_true, true_or, not_true_eq_false, not_false_eq_true, eq_self, ne_eq, i01, up2_same, up2_ne, upd_app, hk40, hr40_0, hw40_0, hr40_1, hw40_1, hr40_2, hw40_2, hr40_3, hr40_4, hw40_4, hr40_5, hr40_6, hr40_7, hr40_8, hr40_9, hw40_9, hr40_10, hw40_10, hr40_11, hr40_12, hr40_13, hw40_13, hr40_14, hw40_14, hr40_15, hr40_16, hr40_17, hr40_18, hr40_19, hr40_20, hw40_20, hr40_21, hw40_21, hr40_22, hw40_22, hr40_23, hw40_23, hr40_24, hr40_25, hw40_25, hr40_26, hw40_26, hr40_27, hw40_27, hr40_28, hr40_29, hr40_30, hr40_31, hr40_32, hr40_33, hr40_34, hw40_34, hr40_35, hw40_35, hr40_36, hr40_37, hr40_38, hr40_39, hr40_40, hw40_40, hr40_41, hr40_42, hr40_43, hl41, hs41, hl42, hs42, hl43, hs43, hl44, hs44, hl45, hs45, hl46, hs46, hl47, hs47, hl48, hs48, hl49, hs49, hl50, hs50, hl51, hs51, hl52, hs52, hl53, hs53, hl54, hs54, hl55, hs55, hl56, hs56, hl57, hs57, hl58, hs58, hl59, hs59, hl60, hs60, hl61, hs61, hl62, hs62, hl63, hs63, hl64, hs64, hl65, hs65, hw40_24, el_0, el_1, el_2, el_3, el_20, el_50, el_100, el_200, el_1000, el_10000, el_1000000, el_m1000000, el_100000000, er_0, er_1, er_2, er_3, er_20, er_50, er_100, er_200, er_1000, er_10000, er_1000000, er_m1000000, er_100000000, q1, q2]
      exact ⟨_, _, _, _, _, _, rfl, ⟨s1.1, s1.2⟩, Isk_of s2 rfl rfl rfl rfl rfl rfl rfl rfl rfl rfl rfl rfl, Igt_of s3 rfl rfl rfl rfl rfl rfl rfl rfl rfl rfl rfl rfl rfl rfl rfl rfl rfl rfl, Itp_of s4 rfl rfl rfl rfl, Ipl_of s5 (fun o h1 h2 => by repeat (rw [up2_ne (by omega)])) rfl rfl rfl, Ipc_of s6 rfl rfl rfl rfl rfl rfl rfl rfl rfl rfl rfl rfl rfl rfl (fun x => by repeat (rw [up2_ne (by omega)]))⟩
  · simp (decide := true) only [armL, fX9_surface, fX10_surface, fX10_surface_60, fX10_surface_59, f_within, f_in, bn_s, bn2_s, nm_s, onul_n, onul_s, if_true, if_false, and_self, and_true, true_and, and_false, false_and, or_self, or_false, false_or, or_true, true_or, not_true_eq_false, not_false_eq_true, eq_self, ne_eq, i01, up2_same, up2_ne, upd_app, hk40, hr40_0, hw40_0, hr40_1, hw40_1, hr40_2, hw40_2, hr40_3, hr40_4, hw40_4, hr40_5, hr40_6, hr40_7, hr40_8, hr40_9, hw40_9, hr40_10, hw40_10, hr40_11, hr40_12, hr40_13, hw40_13, hr40_14, hw40_14, hr40_15, hr40_16, hr40_17, hr40_18, hr40_19, hr40_20, hw40_20, hr40_21, hw40_21, hr40_22, hw40_22, hr40_23, hw40_23, hr40_24, hr40_25, hw40_25, hr40_26, hw40_26, hr40_27, hw40_27, hr40_28, hr40_29, hr40_30, hr40_31, hr40_32, hr40_33, hr40_34, hw40_34, hr40_35, hw40_35, hr40_36, hr40_37, hr40_38, hr40_39, hr40_40, hw40_40, hr40_41, hr40_42, hr40_43, hl41, hs41, hl42, hs42, hl43, hs43, hl44, hs44, hl45, hs45, hl46, hs46, hl47, hs47, hl48, hs48, hl49, hs49, hl50, hs50, hl51, hs51, hl52, hs52, hl53, hs53, hl54, hs54, hl55, hs55, hl56, hs56, hl57, hs57, hl58, hs58, hl59, hs59, hl60, hs60, hl61, hs61, hl62, hs62, hl63, hs63, hl64, hs64, hl65, hs65, hw40_24, el_0, el_1, el_2, el_3, el_20, el_50, el_100, el_200, el_1000, el_10000, el_1000000, el_m1000000, el_100000000, er_0, er_1, er_2, er_3, er_20, er_50, er_100, er_200, er_1000, er_10000, er_1000000, er_m1000000, er_100000000, q1]
    exact ⟨_, _, _, _, _, _, rfl, ⟨s1.1, s1.2⟩, Isk_of s2 rfl rfl rfl rfl rfl rfl rfl rfl rfl rfl rfl rfl, Igt_of s3 rfl rfl rfl rfl rfl rfl rfl rfl rfl rfl rfl rfl rfl rfl rfl rfl rfl rfl, Itp_of s4 rfl rfl rfl rfl, Ipl_of s5 (fun o h1 h2 => by repeat (rw [up2_ne (by omega)])) rfl rfl rfl, Ipc_of s6 rfl rfl rfl rfl rfl rfl rfl rfl rfl rfl rfl rfl rfl rfl (fun x => by repeat (rw [up2_ne (by omega)]))⟩
end
