def zr (g : Nat → Int32) (n i : Nat) : Nat → Int32 := fun j => if 10 * n ≤ j ∧ j < 10 * n + i then 0 else g j
theorem wS_zero : ∀ n, wS (fun _ => 0) n = 0
  | 0 => rfl
  | n + 1 => by
    show wS (fun _ => 0) n + 0 = 0
    rw [wS_zero n]
    rfl
theorem wS_single {p : Nat} {v : Int32} : ∀ n, p < n → wS (fun i => if i = p then v else 0) n = v
  | 0, h => by omega
  | n + 1, h => by
    show wS (fun i => if i = p then v else 0) n + (if n = p then v else 0) = v
    by_cases q : n = p
    · rw [if_pos q, wS_congr n (g := fun _ => 0) (fun i hi => if_neg (by omega)), wS_zero, Int32.zero_add]
    · rw [if_neg q, wS_single n (by omega), Int32.add_zero]
theorem newP_lt {D : Nat → Nat → Int32} {m x : Nat} (h : x < 66) : newP D m x = D x := by
  unfold newP
  rw [upR_ne (by omega), upR_ne (by omega)]
theorem newP_g {D : Nat → Nat → Int32} {m : Nat} : newP D m (66 + 2 * m + 1) = fun _ => 0 := by
  unfold newP
  rw [upR_same]
theorem newP_o {D : Nat → Nat → Int32} {m : Nat} : newP D m (66 + 2 * m) = rowP := by
  unfold newP
  rw [upR_ne (by omega), upR_same]
theorem newP_ne {D : Nat → Nat → Int32} {m x : Nat} (h1 : x ≠ 66 + 2 * m) (h2 : x ≠ 66 + 2 * m + 1) : newP D m x = D x := by
  unfold newP
  rw [upR_ne h2, upR_ne h1]
theorem nI_2 (a : Nat) : nI a + 2 = nI (a + 2) := nI_add a 2
theorem pm3_0 (a : Nat) : (3 : Int32) * nI a = nI (3 * a) := pk_mul 3 a
section
variable {b : Nat} {D : Nat → Nat → Int32} {w : Int64} {T : Nat → Int64} {pa dr np mk : Nat}
theorem c_addP (hn : np < 120) (hm : np < mk) (h : D 1 4 = nI np) : fX7_addPiece (b + 1) (b + 66 + 2 * np) (HH b D w T pa dr np mk) = some (nI np, HH b (up2 D 1 4 (nI (np + 1))) w T pa dr (np + 1) mk) := by
  have c1 : nI np < 120 := nlt (K := 120) hn (by decide)
  have c2 : ¬ nI np < 0 := nI_pos (by omega)
  have c3 := hsPieces (b := b) (D := D) (w := w) (T := T) (pa := pa) (dr := dr) (mk := mk) (nI_clamp (show np < 2 ^ 31 by omega)) c2 hn hm
  have c4 : nI (np + 1) - 1 = nI np := nI_pred np
  simp (decide := true) only [fX7_addPiece, bn_s, bn2_s, nm_s, onul_n, onul_s, if_true, if_false, and_self, and_true, true_and, and_false, false_and, or_self, or_false, false_or, or_true, true_or, not_true_eq_false, not_false_eq_true, eq_self, ne_eq, i01, up2_same, up2_ne, upd_app, hr1_4, hr1_0, hw1_4, h, c1, c3, nI_1, c4]
theorem lp_mP {n0 : Nat} (hn : n0 < 120) (h4 : D 40 4 = nI n0) : ∀ (n m i : Nat), i + n = 10 → n < m → fX10_addPiece_2 m (b + 40) (nI i) (HH b (upR D 43 (zr (D 43) n0 i)) w T pa dr np mk) = some ((), HH b (up2 (up2 (upR D 43 (zr (D 43) n0 10)) 45 n0 (-1)) 40 4 (nI (n0 + 1))) w T pa dr np mk) := by
  intro n
  induction n with
  | zero =>
    intro m i hi hm
    obtain ⟨m, rfl⟩ : ∃ m', m = m' + 1 := ⟨m - 1, by omega⟩
    have e : i = 10 := by omega
    subst e
    have c1 : (10 : Int32) ≤ nI 10 := nI_le (a := 10) (Nat.le_refl _) (by omega)
    have c3 : ¬ nI n0 < 0 := nI_pos (by omega)
    have c4 : (nI n0).toNatClampNeg = n0 := nI_clamp (by omega)
    have c5 : ¬ 120 ≤ n0 := by omega
    simp (decide := true) only [fX10_addPiece_2, bn_s, bn2_s, nm_s, onul_n, onul_s, if_true, if_false, and_self, and_true, true_and, and_false, false_and, or_self, or_false, false_or, or_true, true_or, not_true_eq_false, not_false_eq_true, eq_self, ne_eq, i01, up2_same, up2_ne, upd_app, upR_ne, c1, c3, c4, c5, hr40_4, hr40_8, hs45, hw40_4, h4, nI_1]
  | succ n ih =>
    intro m i hi hm
    obtain ⟨m, rfl⟩ : ∃ m', m = m' + 1 := ⟨m - 1, by omega⟩
    have c1 : ¬ (10 : Int32) ≤ nI i := nI_ge (b := 10) (by omega) (by omega)
    have c3 : ¬ nI (10 * n0 + i) < 0 := nI_pos (by omega)
    have c4 : (nI (10 * n0 + i)).toNatClampNeg = 10 * n0 + i := nI_clamp (by omega)
    have c5 : ¬ 1200 ≤ 10 * n0 + i := by omega
    have ih := ih m (i + 1) (by omega) (by omega)
    have g2 : upd (zr (D 43) n0 i) (10 * n0 + i) 0 = zr (D 43) n0 (i + 1) := by
      funext j
      rw [upd_app]
      unfold zr
      by_cases z : j = 10 * n0 + i
      · rw [if_pos z, if_pos (by omega)]
      · rw [if_neg z]
        by_cases z2 : 10 * n0 ≤ j ∧ j < 10 * n0 + i
        · rw [if_pos z2, if_pos (by omega)]
        · rw [if_neg z2, if_neg (by omega)]
    simp (decide := true) only [fX10_addPiece_2, bn_s, or_self, if_false, ne_eq, not_false_eq_true, upR_ne, hr40_4, hr40_6, hs43, h4, pm10, c1, c3, c4, c5, upd_1, g2, nI_1, ih]
theorem m_addP {n0 : Nat} (hn : n0 < 120) (h4 : D 40 4 = nI n0) : fX10_addPiece (b + 40) (HH b D w T pa dr np mk) = some ((), HH b (up2 (up2 (upR D 43 (zr (D 43) n0 10)) 45 n0 (-1)) 40 4 (nI (n0 + 1))) w T pa dr np mk) := by
  have := lp_mP (b := b) (D := D) (w := w) (T := T) (pa := pa) (dr := dr) (np := np) (mk := mk) hn h4 10 FU 0 (by omega) (by unfold FU; omega)
  rw [show zr (D 43) n0 0 = D 43 from funext (fun x => if_neg (by omega)), upR_self, nI_0] at this
  exact this
theorem Ipc_bar {D E : Nat → Nat → Int32} {np nb : Nat} {g x y z : Int32} (h : Ipc D np) (hb : D 1 3 = nI nb) (hb1 : nb < 10) (hp1 : np < 120) (hg1 : 1 ≤ g.toInt) (hg2 : g.toInt ≤ 1000000) (e13 : E 1 3 = nI (nb + 1)) (f2 : E 40 2 = nI (nb + 1)) (e14 : E 1 4 = nI (np + 1)) (f4 : E 40 4 = nI (np + 1)) (e4 : E 4 = upd (D 4) nb x) (e5 : E 5 = upd (D 5) nb y) (e6 : E 6 = upd (D 6) nb z) (a1 : E 41 = upd (upd (upd (D 41) (3 * nb) x) (3 * nb + 1) y) (3 * nb + 2) z) (a2 : E 42 = D 42) (a3 : E 43 = upd (zr (D 43) np 10) (10 * np + nb) g) (a4 : E 44 = D 44) (a5 : E 45 = upd (D 45) np (-1)) (e8 : E 8 = D 8) (f9 : E 40 9 = D 40 9) (f34 : E 40 34 = D 40 34) (b1 : E (66 + 2 * np + 1) = upd (fun _ => 0) nb g) (b2 : E (66 + 2 * np) = upd rowP 1 g) (c2 : ∀ x, x ≠ 2 * np → x ≠ 2 * np + 1 → E (66 + x) = D (66 + x)) : Ipc E (np + 1) := by
  obtain ⟨nb', hnb, hn, h1, h2, h3, h4, h5, h5', h6, h7, h8, h9, g1, g2, g3, g4, g5, g6⟩ := h
  have ebb : nb' = nb := (nI_eq (by omega) (by omega)).mp (h1.symm.trans hb)
  subst ebb
  have l1 : isL E = isL D := by funext p; unfold isL; rw [a4]
  have l2 : frL E = frL D := by
    funext p
    unfold frL
    rw [a4, a5, upd_app]
    by_cases q : p = np
    · have := (h7 p (by omega)).1
      rw [this]
      rw [decide_eq_false (fun y => y.1 (by decide)), decide_eq_false (fun y => y.1 (by decide))]
    · rw [if_neg q]
  have u1 : ∀ i, i < 10 → E 43 (10 * np + i) = if i = nb' then g else 0 := by
    intro i hi
    rw [a3, upd_app]
    unfold zr
    by_cases q : i = nb'
    · rw [if_pos (by omega), if_pos q]
    · rw [if_neg (by omega), if_pos (by omega), if_neg q]
  have u3 : ∀ p i, p ≠ np → i < 10 → E 43 (10 * p + i) = D 43 (10 * p + i) := by
    intro p i z1 hi
    rw [a3, upd_app]
    unfold zr
    rw [if_neg (by omega), if_neg (by omega)]
  refine ⟨nb' + 1, by omega, by omega, e13, f2, e14, f4, ?_, ?_, ?_, ?_, ?_, ?_, by rw [e8, f34]; exact g1, by rw [e8, f9]; exact g2, by rw [e8, l1]; exact g3, by rw [e8, l2]; exact g4, by rw [f9]; exact g5, by rw [f9, l1, l2]; exact g6⟩
  · intro i hi
    rw [e4, e5, e6, a1]
    simp only [upd_app]
    by_cases q : i = nb'
    · subst q
      rw [if_pos rfl, if_pos rfl, if_pos rfl, if_neg (by omega), if_neg (by omega), if_pos rfl, if_neg (by omega), if_pos rfl, if_pos rfl]
      exact ⟨rfl, rfl, rfl⟩
    · rw [if_neg q, if_neg q, if_neg q, if_neg (by omega), if_neg (by omega), if_neg (by omega), if_neg (by omega), if_neg (by omega), if_neg (by omega), if_neg (by omega), if_neg (by omega), if_neg (by omega)]
      exact h5 i (by omega)
  · intro i hi
    rw [e4, e5, e6]
    simp only [upd_app]
    rw [if_neg (by omega), if_neg (by omega), if_neg (by omega)]
    exact h5' i (by omega)
  · intro p hp
    by_cases y : p = np
    · subst y
      have e0 := h7 p (Nat.le_refl _)
      refine ⟨by rw [a2]; exact Or.inl e0.2, ?_, ?_, ?_, ?_, ?_, ?_⟩
      · rw [b2, a2, e0.2]
        rfl
      · rw [b2, a4, e0.1]
        rfl
      · rw [b2, a5, upd_app (D 45), if_pos rfl]
        rfl
      · intro _
        refine ⟨fun i hi => ?_, ?_⟩
        · rw [b1, u1 i hi, upd_app]
        · rw [b2, upd_app, if_pos rfl, wS_congr 10 u1, wS_single 10 hb1]
      · rw [a2, e0.2]
        exact fun x => absurd x (by decide)
      · rw [a5, upd_app, if_pos rfl]
        exact fun _ => rfl
    · exact Pc1_of (h6 p (by omega)) (by rw [a2]) (by rw [a4]) (by rw [a5, upd_app, if_neg y]) (c2 (2 * p) (by omega) (by omega)) (c2 (2 * p + 1) (by omega) (by omega)) (fun i hi => u3 p i y hi)
  · intro p hp
    rw [a4, a2]
    exact h7 p (by omega)
  · intro j
    by_cases y : j / 10 = np
    · have := u1 (j % 10) (by omega)
      rw [show 10 * np + j % 10 = j by omega] at this
      rw [this]
      split
      · omega
      · exact Int.le_refl 0
    · have := u3 (j / 10) (j % 10) y (by omega)
      rw [show 10 * (j / 10) + j % 10 = j by omega] at this
      rw [this]
      exact h8 j
  · have t1 : sI (fun k => (E 43 (10 * np + k)).toInt) 10 = g.toInt := by
      rw [sI_congr 10 (g := fun i => if i = nb' then g.toInt else 0) (fun i hi => by rw [u1 i hi]; split <;> rfl)]
      have := sI_one (f := fun _ => 0) (g := fun i => if i = nb' then g.toInt else 0) (p := nb') (fun i hi => if_neg hi) 10 hb1
      rw [this, sI_0, if_pos rfl]
      omega
    have t4 := sI_one (f := fun p => sI (fun k => (D 43 (10 * p + k)).toInt) 10) (g := fun p => sI (fun k => (E 43 (10 * p + k)).toInt) 10) (p := np) (fun p hp => sI_congr 10 (fun i hi => by rw [u3 p i hp hi])) 120 hp1
    simp only [t1] at t4
    have := sI_pos (f := fun k => (D 43 (10 * np + k)).toInt) (fun i => h8 _) 10
    rw [t4]
    omega
theorem op_bar (hI : Inv D pa dr np) (g x y : Int32) : Good b (armF (fX9_bar b g x y) (fX10_bar (b + 40) g x y) (HH b D w T pa dr np np)) := by
  obtain ⟨s1, s2, s3, s4, s5, s6⟩ := hI
  obtain ⟨nb, hnb, hn, h1, h2, h3, h4, h5, h5', h6, h7⟩ := id s6
  by_cases q1 : 1 ≤ g ∧ g ≤ 1000000
  · by_cases q2 : 0 ≤ x ∧ x ≤ 1000
    · have eq3 : (y.toInt64 ≤ 1000 - x.toInt64) = (y ≤ 1000 - x) := propext (by
        have a1 := (le3 _ _).mp q2.1
        have a2 := (le3 _ _).mp q2.2
        have e0 : (0 : Int32).toInt = 0 := rfl
        have e1 : (1000 : Int32).toInt = 1000 := rfl
        have e3 : (1000 : Int64).toInt = 1000 := rfl
        have e2 : (1000 - x).toInt = 1000 - x.toInt := by rw [tsub _ _ (by omega) (by omega), e1]
        have e4 : (1000 - x.toInt64).toInt = 1000 - x.toInt := by
          rw [Int64.toInt_sub, ti64, e3]
          apply Int.bmod_eq_of_le <;> omega
        rw [le6, le3, ti64, e2, e4])
      by_cases q3 : 0 ≤ y ∧ y ≤ 1000 - x
      · by_cases q4 : nb = 10
        · have c1 : (10 : Int32) ≤ nI nb := nI_le (a := 10) (by omega) (by omega)
          have c2 : nI nb = 10 := by rw [q4]; rfl
          simp (decide := true) only [armF, fX9_bar, fX7_addBar, fX10_bar, f_within, f_in, f_noted, f_told, wid_le, eq3, bn_s, bn2_s, nm_s, onul_n, onul_s, if_true, if_false, and_self, and_true, true_and, and_false, false_and, or_self, or_false, false_or, or_true, true_or, not_true_eq_false, not_false_eq_true, eq_self, ne_eq, i01, up2_same, up2_ne, upd_app, hk40, hr40_0, hw40_0, hr40_1, hw40_1, hr40_2, hw40_2, hr40_3, hr40_4, hw40_4, hr40_5, hr40_6, hr40_7, hr40_8, hr40_9, hw40_9, hr40_10, hw40_10, hr40_11, hr40_12, hr40_13, hw40_13, hr40_14, hw40_14, hr40_15, hr40_16, hr40_17, hr40_18, hr40_19, hr40_20, hw40_20, hr40_21, hw40_21, hr40_22, hw40_22, hr40_23, hw40_23, hr40_24, hr40_25, hw40_25, hr40_26, hw40_26, hr40_27, hw40_27, hr40_28, hr40_29, hr40_30, hr40_31, hr40_32, hr40_33, hr40_34, hw40_34, hr40_35, hw40_35, hr40_36, hr40_37, hr40_38, hr40_39, hr40_40, hw40_40, hr40_41, hr40_42, hr40_43, hl41, hs41, hl42, hs42, hl43, hs43, hl44, hs44, hl45, hs45, hl46, hs46, hl47, hs47, hl48, hs48, hl49, hs49, hl50, hs50, hl51, hs51, hl52, hs52, hl53, hs53, hl54, hs54, hl55, hs55, hl56, hs56, hl57, hs57, hl58, hs58, hl59, hs59, hl60, hs60, hl61, hs61, hl62, hs62, hl63, hs63, hl64, hs64, hl65, hs65, hw40_24, hk0, hr0_0, hr0_1, hr0_2, hr0_3, hr0_4, hr0_5, hr0_6, hr0_7, hr0_8, hw0_8, hr0_9, hw0_9, hk1, hr1_0, hr1_1, hr1_2, hr1_3, hw1_3, hr1_4, hw1_4, hl4, hs4, hl5, hs5, hl6, hs6, hk8, hr8_0, hw8_0, hr8_1, hw8_1, hr8_2, hw8_2, hk9, hr9_0, hr9_1, hr9_2, hk10, hr10_0, hr10_1, hw10_1, hr10_2, hw10_2, hr10_3, hw10_3, hr10_4, hw10_4, hl11, hs11, hl12, hs12, hl13, hs13, hk14, hr14_0, hr14_1, hr14_2, hr14_3, hr14_4, hw14_4, hk16, hr16_0, hw16_0, hr16_1, hw16_1, hr16_2, hw16_2, hr16_3, hw16_3, hr16_4, hw16_4, hk17, hr17_0, hw17_0, hr17_1, hw17_1, hr17_2, hw17_2, hr17_3, hw17_3, hr17_4, hw17_4, hk18, hr18_0, hw18_0, hr18_1, hw18_1, hr18_2, hw18_2, hr18_3, hw18_3, hr18_4, hw18_4, hl19, hs19, hl20, hs20, hl21, hs21, hk22, hr22_0, hr22_1, hr22_2, hr22_3, hr22_4, hw22_4, hr22_5, hr22_6, hr22_7, hr22_8, hw22_8, hl23, hs23, hl24, hs24, hl25, hs25, hl26, hs26, hl27, hs27, hl28, hs28, hl29, hs29, hk30, hr30_0, hw30_0, hr30_1, hw30_1, hr30_2, hr30_3, hr30_4, hr30_5, hl31, hs31, hl32, hs32, hl33, hs33, hl34, hs34, hk35, hr35_0, hw35_0, hr35_1, hw35_1, hr35_2, hr35_3, hr35_4, hr35_5, hl36, hs36, hl37, hs37, hl38, hs38, hl39, hs39, hw0_6, hw0_7, hl7, hs7, el_0, el_1, el_2, el_3, el_20, el_50, el_100, el_200, el_1000, el_10000, el_1000000, el_m1000000, el_100000000, er_0, er_1, er_2, er_3, er_20, er_50, er_100, er_200, er_1000, er_10000, er_1000000, er_m1000000, er_100000000, h1, h2, q1, q2, q3, c1, c2]
          exact ⟨_, _, _, _, _, _, rfl, ⟨rfl, s1.2⟩, Isk_of s2 rfl rfl rfl rfl rfl rfl rfl rfl rfl rfl rfl rfl, Igt_of s3 rfl rfl rfl rfl rfl rfl rfl rfl rfl rfl rfl rfl rfl rfl rfl rfl rfl rfl, Itp_of s4 rfl rfl rfl rfl, Ipl_of s5 (fun o h1 h2 => by repeat (rw [up2_ne (by omega)])) rfl rfl rfl, Ipc_of s6 rfl rfl rfl rfl rfl rfl rfl rfl rfl rfl rfl rfl rfl rfl (fun x => by repeat (rw [up2_ne (by omega)]))⟩
        · have c1 : ¬ (10 : Int32) ≤ nI nb := nI_ge (b := 10) (by omega) (by omega)
          have c2 : ¬ nI nb = 10 := nne (K := 10) q4 (by omega) (by decide)
          by_cases q5 : np = 120
          · have d1 : ¬ nI np < 120 := nnlt (K := 120) (by omega) (by omega)
            have d2 : nI np = 120 := by rw [q5]; rfl
            simp (decide := true) only [armF, fX9_bar, fX7_addBar, fX10_bar, f_within, f_in, f_noted, f_told, wid_le, eq3, bn_s, bn2_s, nm_s, onul_n, onul_s, if_true, if_false, and_self, and_true, true_and, and_false, false_and, or_self, or_false, false_or, or_true, true_or, not_true_eq_false, not_false_eq_true, eq_self, ne_eq, i01, up2_same, up2_ne, upd_app, hk40, hr40_0, hw40_0, hr40_1, hw40_1, hr40_2, hw40_2, hr40_3, hr40_4, hw40_4, hr40_5, hr40_6, hr40_7, hr40_8, hr40_9, hw40_9, hr40_10, hw40_10, hr40_11, hr40_12, hr40_13, hw40_13, hr40_14, hw40_14, hr40_15, hr40_16, hr40_17, hr40_18, hr40_19, hr40_20, hw40_20, hr40_21, hw40_21, hr40_22, hw40_22, hr40_23, hw40_23, hr40_24, hr40_25, hw40_25, hr40_26, hw40_26, hr40_27, hw40_27, hr40_28, hr40_29, hr40_30, hr40_31, hr40_32, hr40_33, hr40_34, hw40_34, hr40_35, hw40_35, hr40_36, hr40_37, hr40_38, hr40_39, hr40_40, hw40_40, hr40_41, hr40_42, hr40_43, hl41, hs41, hl42, hs42, hl43, hs43, hl44, hs44, hl45, hs45, hl46, hs46, hl47, hs47, hl48, hs48, hl49, hs49, hl50, hs50, hl51, hs51, hl52, hs52, hl53, hs53, hl54, hs54, hl55, hs55, hl56, hs56, hl57, hs57, hl58, hs58, hl59, hs59, hl60, hs60, hl61, hs61, hl62, hs62, hl63, hs63, hl64, hs64, hl65, hs65, hw40_24, hk0, hr0_0, hr0_1, hr0_2, hr0_3, hr0_4, hr0_5, hr0_6, hr0_7, hr0_8, hw0_8, hr0_9, hw0_9, hk1, hr1_0, hr1_1, hr1_2, hr1_3, hw1_3, hr1_4, hw1_4, hl4, hs4, hl5, hs5, hl6, hs6, hk8, hr8_0, hw8_0, hr8_1, hw8_1, hr8_2, hw8_2, hk9, hr9_0, hr9_1, hr9_2, hk10, hr10_0, hr10_1, hw10_1, hr10_2, hw10_2, hr10_3, hw10_3, hr10_4, hw10_4, hl11, hs11, hl12, hs12, hl13, hs13, hk14, hr14_0, hr14_1, hr14_2, hr14_3, hr14_4, hw14_4, hk16, hr16_0, hw16_0, hr16_1, hw16_1, hr16_2, hw16_2, hr16_3, hw16_3, hr16_4, hw16_4, hk17, hr17_0, hw17_0, hr17_1, hw17_1, hr17_2, hw17_2, hr17_3, hw17_3, hr17_4, hw17_4, hk18, hr18_0, hw18_0, hr18_1, hw18_1, hr18_2, hw18_2, hr18_3, hw18_3, hr18_4, hw18_4, hl19, hs19, hl20, hs20, hl21, hs21, hk22, hr22_0, hr22_1, hr22_2, hr22_3, hr22_4, hw22_4, hr22_5, hr22_6, hr22_7, hr22_8, hw22_8, hl23, hs23, hl24, hs24, hl25, hs25, hl26, hs26, hl27, hs27, hl28, hs28, hl29, hs29, hk30, hr30_0, hw30_0, hr30_1, hw30_1, hr30_2, hr30_3, hr30_4, hr30_5, hl31, hs31, hl32, hs32, hl33, hs33, hl34, hs34, hk35, hr35_0, hw35_0, hr35_1, hw35_1, hr35_2, hr35_3, hr35_4, hr35_5, hl36, hs36, hl37, hs37, hl38, hs38, hl39, hs39, hw0_6, hw0_7, hl7, hs7, el_0, el_1, el_2, el_3, el_20, el_50, el_100, el_200, el_1000, el_10000, el_1000000, el_m1000000, el_100000000, er_0, er_1, er_2, er_3, er_20, er_50, er_100, er_200, er_1000, er_10000, er_1000000, er_m1000000, er_100000000, h1, h2, h3, h4, q1, q2, q3, c1, c2, d1, d2]
            exact ⟨_, _, _, _, _, _, rfl, ⟨rfl, s1.2⟩, Isk_of s2 rfl rfl rfl rfl rfl rfl rfl rfl rfl rfl rfl rfl, Igt_of s3 rfl rfl rfl rfl rfl rfl rfl rfl rfl rfl rfl rfl rfl rfl rfl rfl rfl rfl, Itp_of s4 rfl rfl rfl rfl, Ipl_of s5 (fun o h1 h2 => by repeat (rw [up2_ne (by omega)])) rfl rfl rfl, Ipc_of s6 rfl rfl rfl rfl rfl rfl rfl rfl rfl rfl rfl rfl rfl rfl (fun x => by repeat (rw [up2_ne (by omega)]))⟩
          · have d1 : nI np < 120 := nlt (K := 120) (by omega) (by decide)
            have d2 : ¬ nI np = 120 := nne (K := 120) q5 (by omega) (by decide)
            have c3 : ¬ nI nb < 0 := nI_pos (by omega)
            have c4 : (nI nb).toNatClampNeg = nb := nI_clamp (by omega)
            have c5 : ¬ 10 ≤ nb := by omega
            have u1 : ∀ (E : Nat → Nat → Int32) k v, up2 E (66 + 2 * np + 1) k v 1 = E 1 := fun E k v => up2_ne (by omega)
            have u2 : ∀ (E : Nat → Nat → Int32) k v, up2 E (66 + 2 * np) k v 1 = E 1 := fun E k v => up2_ne (by omega)
            have u3 : ∀ (E : Nat → Nat → Int32), newP E np 1 = E 1 := fun E => newP_lt (by decide)
            have hs := Nat.lt_succ_self np
            have ce : fX9_bar b g x y (HH b D w T pa dr np np) = some (nI np, HH b (up2 (up2 (up2 (up2 (up2 (newP (up2 (up2 (up2 D 4 nb x) 5 nb y) 6 nb (1000 - x - y)) np) (66 + 2 * np + 1) nb g) (66 + 2 * np) 1 g) 1 3 (nI (nb + 1))) 1 4 (nI (np + 1))) 0 9 (if nI np < 0 then nI np else 0)) w T pa dr (np + 1) (np + 1)) := by
              simp (decide := true) only [fX9_bar, fX7_addBar, f_within, f_noted, mkPiece, hrP_0 hs, hsP hs, hwP_1 hs, c_addP (show np < 120 by omega) hs, hl3_0, hl3_1, hl3_2, bn_s, bn2_s, nm_s, onul_n, onul_s, if_true, if_false, and_self, and_true, true_and, and_false, false_and, or_self, or_false, false_or, or_true, true_or, not_true_eq_false, not_false_eq_true, eq_self, ne_eq, i01, up2_same, up2_ne, upd_app, hk0, hr0_0, hr0_1, hr0_2, hr0_3, hr0_4, hr0_5, hr0_6, hr0_7, hr0_8, hw0_8, hr0_9, hw0_9, hk1, hr1_0, hr1_1, hr1_2, hr1_3, hw1_3, hr1_4, hw1_4, hl4, hs4, hl5, hs5, hl6, hs6, hk8, hr8_0, hw8_0, hr8_1, hw8_1, hr8_2, hw8_2, hk9, hr9_0, hr9_1, hr9_2, hk10, hr10_0, hr10_1, hw10_1, hr10_2, hw10_2, hr10_3, hw10_3, hr10_4, hw10_4, hl11, hs11, hl12, hs12, hl13, hs13, hk14, hr14_0, hr14_1, hr14_2, hr14_3, hr14_4, hw14_4, hk16, hr16_0, hw16_0, hr16_1, hw16_1, hr16_2, hw16_2, hr16_3, hw16_3, hr16_4, hw16_4, hk17, hr17_0, hw17_0, hr17_1, hw17_1, hr17_2, hw17_2, hr17_3, hw17_3, hr17_4, hw17_4, hk18, hr18_0, hw18_0, hr18_1, hw18_1, hr18_2, hw18_2, hr18_3, hw18_3, hr18_4, hw18_4, hl19, hs19, hl20, hs20, hl21, hs21, hk22, hr22_0, hr22_1, hr22_2, hr22_3, hr22_4, hw22_4, hr22_5, hr22_6, hr22_7, hr22_8, hw22_8, hl23, hs23, hl24, hs24, hl25, hs25, hl26, hs26, hl27, hs27, hl28, hs28, hl29, hs29, hk30, hr30_0, hw30_0, hr30_1, hw30_1, hr30_2, hr30_3, hr30_4, hr30_5, hl31, hs31, hl32, hs32, hl33, hs33, hl34, hs34, hk35, hr35_0, hw35_0, hr35_1, hw35_1, hr35_2, hr35_3, hr35_4, hr35_5, hl36, hs36, hl37, hs37, hl38, hs38, hl39, hs39, hw0_6, hw0_7, hl7, hs7, el_0, el_1, el_2, el_3, el_20, el_50, el_100, el_200, el_1000, el_10000, el_1000000, el_m1000000, el_100000000, er_0, er_1, er_2, er_3, er_20, er_50, er_100, er_200, er_1000, er_10000, er_1000000, er_m1000000, er_100000000, h1, h3, q1, q2, q3, c1, d1, c3, c4, c5, u1, u2, u3, nI_1]
            have fE : ∀ z, z < 66 → z ≠ 0 → z ≠ 1 → z ≠ 4 → z ≠ 5 → z ≠ 6 → up2 (up2 (up2 (up2 (up2 (newP (up2 (up2 (up2 D 4 nb x) 5 nb y) 6 nb (1000 - x - y)) np) (66 + 2 * np + 1) nb g) (66 + 2 * np) 1 g) 1 3 (nI (nb + 1))) 1 4 (nI (np + 1))) 0 9 (if nI np < 0 then nI np else 0) z = D z := fun z z1 z2 z3 z4 z5 z6 => by rw [up2_ne z2, up2_ne z3, up2_ne z3, up2_ne (by omega), up2_ne (by omega), newP_lt z1, up2_ne z6, up2_ne z5, up2_ne z4]
            have fP : ∀ z, z ≠ 2 * np → z ≠ 2 * np + 1 → up2 (up2 (up2 (up2 (up2 (newP (up2 (up2 (up2 D 4 nb x) 5 nb y) 6 nb (1000 - x - y)) np) (66 + 2 * np + 1) nb g) (66 + 2 * np) 1 g) 1 3 (nI (nb + 1))) 1 4 (nI (np + 1))) 0 9 (if nI np < 0 then nI np else 0) (66 + z) = D (66 + z) := fun z z1 z2 => by rw [up2_ne (by omega), up2_ne (by omega), up2_ne (by omega), up2_ne (by omega), up2_ne (by omega), newP_ne (by omega) (by omega), up2_ne (by omega), up2_ne (by omega), up2_ne (by omega)]
            have fA : up2 (up2 (up2 (up2 (up2 (newP (up2 (up2 (up2 D 4 nb x) 5 nb y) 6 nb (1000 - x - y)) np) (66 + 2 * np + 1) nb g) (66 + 2 * np) 1 g) 1 3 (nI (nb + 1))) 1 4 (nI (np + 1))) 0 9 (if nI np < 0 then nI np else 0) (66 + 2 * np + 1) = upd (fun _ => 0) nb g := by rw [up2_ne (by omega), up2_ne (by omega), up2_ne (by omega), up2_ne (by omega), up2_same, newP_g]
            have fB : up2 (up2 (up2 (up2 (up2 (newP (up2 (up2 (up2 D 4 nb x) 5 nb y) 6 nb (1000 - x - y)) np) (66 + 2 * np + 1) nb g) (66 + 2 * np) 1 g) 1 3 (nI (nb + 1))) 1 4 (nI (np + 1))) 0 9 (if nI np < 0 then nI np else 0) (66 + 2 * np) = upd rowP 1 g := by rw [up2_ne (by omega), up2_ne (by omega), up2_ne (by omega), up2_same, up2_ne (by omega), newP_o]
            have f4' : up2 (up2 (up2 (up2 (up2 (newP (up2 (up2 (up2 D 4 nb x) 5 nb y) 6 nb (1000 - x - y)) np) (66 + 2 * np + 1) nb g) (66 + 2 * np) 1 g) 1 3 (nI (nb + 1))) 1 4 (nI (np + 1))) 0 9 (if nI np < 0 then nI np else 0) 4 = upd (D 4) nb x := by rw [up2_ne (by omega), up2_ne (by omega), up2_ne (by omega), up2_ne (by omega), up2_ne (by omega), newP_lt (by decide), up2_ne (by omega), up2_ne (by omega), up2_same]
            have f5' : up2 (up2 (up2 (up2 (up2 (newP (up2 (up2 (up2 D 4 nb x) 5 nb y) 6 nb (1000 - x - y)) np) (66 + 2 * np + 1) nb g) (66 + 2 * np) 1 g) 1 3 (nI (nb + 1))) 1 4 (nI (np + 1))) 0 9 (if nI np < 0 then nI np else 0) 5 = upd (D 5) nb y := by rw [up2_ne (by omega), up2_ne (by omega), up2_ne (by omega), up2_ne (by omega), up2_ne (by omega), newP_lt (by decide), up2_ne (by omega), up2_same, up2_ne (by omega)]
            have f6' : up2 (up2 (up2 (up2 (up2 (newP (up2 (up2 (up2 D 4 nb x) 5 nb y) 6 nb (1000 - x - y)) np) (66 + 2 * np + 1) nb g) (66 + 2 * np) 1 g) 1 3 (nI (nb + 1))) 1 4 (nI (np + 1))) 0 9 (if nI np < 0 then nI np else 0) 6 = upd (D 6) nb (1000 - x - y) := by rw [up2_ne (by omega), up2_ne (by omega), up2_ne (by omega), up2_ne (by omega), up2_ne (by omega), newP_lt (by decide), up2_same, up2_ne (by omega), up2_ne (by omega)]
            have f13 : up2 (up2 (up2 (up2 (up2 (newP (up2 (up2 (up2 D 4 nb x) 5 nb y) 6 nb (1000 - x - y)) np) (66 + 2 * np + 1) nb g) (66 + 2 * np) 1 g) 1 3 (nI (nb + 1))) 1 4 (nI (np + 1))) 0 9 (if nI np < 0 then nI np else 0) 1 3 = nI (nb + 1) := by rw [up2_ne (by omega), up2_k (by decide), up2_v]
            have f14 : up2 (up2 (up2 (up2 (up2 (newP (up2 (up2 (up2 D 4 nb x) 5 nb y) 6 nb (1000 - x - y)) np) (66 + 2 * np + 1) nb g) (66 + 2 * np) 1 g) 1 3 (nI (nb + 1))) 1 4 (nI (np + 1))) 0 9 (if nI np < 0 then nI np else 0) 1 4 = nI (np + 1) := by rw [up2_ne (by omega), up2_v]
            have f09 : up2 (up2 (up2 (up2 (up2 (newP (up2 (up2 (up2 D 4 nb x) 5 nb y) 6 nb (1000 - x - y)) np) (66 + 2 * np + 1) nb g) (66 + 2 * np) 1 g) 1 3 (nI (nb + 1))) 1 4 (nI (np + 1))) 0 9 (if nI np < 0 then nI np else 0) 0 9 = if nI np < 0 then nI np else 0 := up2_v
            have f08 : up2 (up2 (up2 (up2 (up2 (newP (up2 (up2 (up2 D 4 nb x) 5 nb y) 6 nb (1000 - x - y)) np) (66 + 2 * np + 1) nb g) (66 + 2 * np) 1 g) 1 3 (nI (nb + 1))) 1 4 (nI (np + 1))) 0 9 (if nI np < 0 then nI np else 0) 0 8 = D 0 8 := by rw [up2_k (by decide), up2_ne (by omega), up2_ne (by omega), up2_ne (by omega), up2_ne (by omega), newP_lt (by decide), up2_ne (by omega), up2_ne (by omega), up2_ne (by omega)]
            rw [armF, ce, bn2_s]
            clear ce
            generalize up2 (up2 (up2 (up2 (up2 (newP (up2 (up2 (up2 D 4 nb x) 5 nb y) 6 nb (1000 - x - y)) np) (66 + 2 * np + 1) nb g) (66 + 2 * np) 1 g) 1 3 (nI (nb + 1))) 1 4 (nI (np + 1))) 0 9 (if nI np < 0 then nI np else 0) = X at fE fP fA fB f4' f5' f6' f13 f14 f09 f08
            have fe : ∀ z, (z < 66 ∧ z ≠ 0 ∧ z ≠ 1 ∧ z ≠ 4 ∧ z ≠ 5 ∧ z ≠ 6) → X z = D z := fun z h => fE z h.1 h.2.1 h.2.2.1 h.2.2.2.1 h.2.2.2.2.1 h.2.2.2.2.2
            have f40 := fe 40 (by decide)
            have f41 := fe 41 (by decide)
            have f43 := fe 43 (by decide)
            have f45 := fe 45 (by decide)
            have k3 : ¬ nI (3 * nb) < 0 := nI_pos (by omega)
            have k4 : (nI (3 * nb)).toNatClampNeg = 3 * nb := nI_clamp (by omega)
            have k5 : ¬ 30 ≤ 3 * nb := by omega
            have l3 : ¬ nI (3 * nb + 1) < 0 := nI_pos (by omega)
            have l4 : (nI (3 * nb + 1)).toNatClampNeg = 3 * nb + 1 := nI_clamp (by omega)
            have l5 : ¬ 30 ≤ 3 * nb + 1 := by omega
            have m3 : ¬ nI (3 * nb + 2) < 0 := nI_pos (by omega)
            have m4 : (nI (3 * nb + 2)).toNatClampNeg = 3 * nb + 2 := nI_clamp (by omega)
            have m5 : ¬ 30 ≤ 3 * nb + 2 := by omega
            have n3 : ¬ nI (10 * np + nb) < 0 := nI_pos (by omega)
            have n4 : (nI (10 * np + nb)).toNatClampNeg = 10 * np + nb := nI_clamp (by omega)
            have n5 : ¬ 1200 ≤ 10 * np + nb := by omega
            have em : fX10_bar (b + 40) g x y (HH b X w T pa dr (np + 1) (np + 1)) = some (nI np, HH b (up2 (up2 (up2 (up2 (up2 (upR (up2 (up2 (up2 (up2 X 40 0 0) 41 (3 * nb) x) 41 (3 * nb + 1) y) 41 (3 * nb + 2) (1000 - x - y)) 43 (zr (D 43) np 10)) 45 np (-1)) 40 4 (nI (np + 1))) 43 (10 * np + nb) g) 40 2 (nI (nb + 1))) 40 1 (if nI np < 0 then nI np else 0)) w T pa dr (np + 1) (np + 1)) := by
              simp (decide := true) only [fX10_bar, f_in, f_told, wid_le, eq3, m_addP (show np < 120 by omega), upR_ne, bn_s, bn2_s, nm_s, onul_n, onul_s, if_true, if_false, and_self, and_true, true_and, and_false, false_and, or_self, or_false, false_or, or_true, true_or, not_true_eq_false, not_false_eq_true, eq_self, ne_eq, i01, up2_same, up2_ne, upd_app, hk40, hr40_0, hw40_0, hr40_1, hw40_1, hr40_2, hw40_2, hr40_3, hr40_4, hw40_4, hr40_5, hr40_6, hr40_7, hr40_8, hr40_9, hw40_9, hr40_10, hw40_10, hr40_11, hr40_12, hr40_13, hw40_13, hr40_14, hw40_14, hr40_15, hr40_16, hr40_17, hr40_18, hr40_19, hr40_20, hw40_20, hr40_21, hw40_21, hr40_22, hw40_22, hr40_23, hw40_23, hr40_24, hr40_25, hw40_25, hr40_26, hw40_26, hr40_27, hw40_27, hr40_28, hr40_29, hr40_30, hr40_31, hr40_32, hr40_33, hr40_34, hw40_34, hr40_35, hw40_35, hr40_36, hr40_37, hr40_38, hr40_39, hr40_40, hw40_40, hr40_41, hr40_42, hr40_43, hl41, hs41, hl42, hs42, hl43, hs43, hl44, hs44, hl45, hs45, hl46, hs46, hl47, hs47, hl48, hs48, hl49, hs49, hl50, hs50, hl51, hs51, hl52, hs52, hl53, hs53, hl54, hs54, hl55, hs55, hl56, hs56, hl57, hs57, hl58, hs58, hl59, hs59, hl60, hs60, hl61, hs61, hl62, hs62, hl63, hs63, hl64, hs64, hl65, hs65, hw40_24, el_0, el_1, el_2, el_3, el_20, el_50, el_100, el_200, el_1000, el_10000, el_1000000, el_m1000000, el_100000000, er_0, er_1, er_2, er_3, er_20, er_50, er_100, er_200, er_1000, er_10000, er_1000000, er_m1000000, er_100000000, f40, f43, h2, h4, q1, q2, q3, c2, d2, pm3_0, nI_1, nI_2, nI_pred, pm10, k3, k4, k5, l3, l4, l5, m3, m4, m5, n3, n4, n5]
            rw [em, bn2_s, if_pos rfl]
            clear em
            have gg1 : 1 ≤ g.toInt := (le3 _ _).mp q1.1
            have gg2 : g.toInt ≤ 1000000 := (le3 _ _).mp q1.2
            refine ⟨_, _, _, _, _, _, rfl, ⟨?_, ?_⟩, inv4 s2 s3 s4 s5 ?_ (fun o z1 z2 => ?_) (fun o z1 z2 => ?_) ?_ ?_ ?_ ?_ ?_⟩
            · rw [up2_v]
              exact (by (repeat (first | rw [up2_ne (by omega)] | rw [upR_ne (by omega)] | rw [up2_k (by omega)] | rw [up2_v])) : _ = X 0 9).trans f09
            · exact ((by (repeat (first | rw [up2_ne (by omega)] | rw [upR_ne (by omega)] | rw [up2_k (by omega)] | rw [up2_v])) : _ = X 0 8).trans f08).trans (s1.2.trans ((by (repeat (first | rw [up2_ne (by omega)] | rw [upR_ne (by omega)] | rw [up2_k (by omega)] | rw [up2_v])) : _ = X 40 25).trans (by rw [f40])).symm)
            · refine Ipc_bar (x := x) (y := y) (z := 1000 - x - y) s6 h1 (by omega) (by omega) gg1 gg2 ?_ ?_ ?_ ?_ ?_ ?_ ?_ ?_ ?_ ?_ ?_ ?_ ?_ ?_ ?_ ?_ ?_ (fun z z1 z2 => ?_)
              · exact (by (repeat (first | rw [up2_ne (by omega)] | rw [upR_ne (by omega)] | rw [up2_k (by omega)] | rw [up2_v])) : _ = X 1 3).trans f13
              · (repeat (first | rw [up2_ne (by omega)] | rw [upR_ne (by omega)] | rw [up2_k (by omega)] | rw [up2_v]))
              · exact (by (repeat (first | rw [up2_ne (by omega)] | rw [upR_ne (by omega)] | rw [up2_k (by omega)] | rw [up2_v])) : _ = X 1 4).trans f14
              · (repeat (first | rw [up2_ne (by omega)] | rw [upR_ne (by omega)] | rw [up2_k (by omega)] | rw [up2_v]))
              · exact (by (repeat (first | rw [up2_ne (by omega)] | rw [upR_ne (by omega)] | rw [up2_k (by omega)] | rw [up2_v])) : _ = X 4).trans f4'
              · exact (by (repeat (first | rw [up2_ne (by omega)] | rw [upR_ne (by omega)] | rw [up2_k (by omega)] | rw [up2_v])) : _ = X 5).trans f5'
              · exact (by (repeat (first | rw [up2_ne (by omega)] | rw [upR_ne (by omega)] | rw [up2_k (by omega)] | rw [up2_v])) : _ = X 6).trans f6'
              · rw [up2_ne (by decide), up2_ne (by decide), up2_ne (by decide), up2_ne (by decide), up2_ne (by decide), upR_ne (by decide), up2_same, up2_same, up2_same, up2_ne (by decide), f41]
              · exact (by (repeat (first | rw [up2_ne (by omega)] | rw [upR_ne (by omega)] | rw [up2_k (by omega)] | rw [up2_v])) : _ = X 42).trans (fe 42 (by decide))
              · rw [up2_ne (by decide), up2_ne (by decide), up2_same, up2_ne (by decide), up2_ne (by decide), upR_same]
              · exact (by (repeat (first | rw [up2_ne (by omega)] | rw [upR_ne (by omega)] | rw [up2_k (by omega)] | rw [up2_v])) : _ = X 44).trans (fe 44 (by decide))
              · rw [up2_ne (by decide), up2_ne (by decide), up2_ne (by decide), up2_ne (by decide), up2_same, upR_ne (by decide), up2_ne (by decide), up2_ne (by decide), up2_ne (by decide), up2_ne (by decide), f45]
              · exact (by (repeat (first | rw [up2_ne (by omega)] | rw [upR_ne (by omega)] | rw [up2_k (by omega)] | rw [up2_v])) : _ = X 8).trans (fe 8 (by decide))
              · exact (by (repeat (first | rw [up2_ne (by omega)] | rw [upR_ne (by omega)] | rw [up2_k (by omega)] | rw [up2_v])) : _ = X 40 9).trans (by rw [f40])
              · exact (by (repeat (first | rw [up2_ne (by omega)] | rw [upR_ne (by omega)] | rw [up2_k (by omega)] | rw [up2_v])) : _ = X 40 34).trans (by rw [f40])
              · exact (by (repeat (first | rw [up2_ne (by omega)] | rw [upR_ne (by omega)] | rw [up2_k (by omega)] | rw [up2_v])) : _ = X (66 + 2 * np + 1)).trans fA
              · exact (by (repeat (first | rw [up2_ne (by omega)] | rw [upR_ne (by omega)] | rw [up2_k (by omega)] | rw [up2_v])) : _ = X (66 + 2 * np)).trans fB
              · exact (by (repeat (first | rw [up2_ne (by omega)] | rw [upR_ne (by omega)] | rw [up2_k (by omega)] | rw [up2_v])) : _ = X (66 + z)).trans (fP z z1 z2)
            · exact (by (repeat (first | rw [up2_ne (by omega)] | rw [upR_ne (by omega)] | rw [up2_k (by omega)] | rw [up2_v])) : _ = X o).trans (fe o (by omega))
            · exact (by (repeat (first | rw [up2_ne (by omega)] | rw [upR_ne (by omega)] | rw [up2_k (by omega)] | rw [up2_v])) : _ = X o).trans (fe o (by omega))
            · exact (by (repeat (first | rw [up2_ne (by omega)] | rw [upR_ne (by omega)] | rw [up2_k (by omega)] | rw [up2_v])) : _ = X 40 10).trans (by rw [f40])
            · exact (by (repeat (first | rw [up2_ne (by omega)] | rw [upR_ne (by omega)] | rw [up2_k (by omega)] | rw [up2_v])) : _ = X 40 20).trans (by rw [f40])
            · exact (by (repeat (first | rw [up2_ne (by omega)] | rw [upR_ne (by omega)] | rw [up2_k (by omega)] | rw [up2_v])) : _ = X 40 27).trans (by rw [f40])
            · exact (by (repeat (first | rw [up2_ne (by omega)] | rw [upR_ne (by omega)] | rw [up2_k (by omega)] | rw [up2_v])) : _ = X 40 35).trans (by rw [f40])
            · exact (by (repeat (first | rw [up2_ne (by omega)] | rw [upR_ne (by omega)] | rw [up2_k (by omega)] | rw [up2_v])) : _ = X 40 40).trans (by rw [f40])
      · simp (decide := true) only [armF, fX9_bar, fX7_addBar, fX10_bar, f_within, f_in, f_noted, f_told, wid_le, eq3, bn_s, bn2_s, nm_s, onul_n, onul_s, if_true, if_false, and_self, and_true, true_and, and_false, false_and, or_self, or_false, false_or, or_true, true_or, not_true_eq_false, not_false_eq_true, eq_self, ne_eq, i01, up2_same, up2_ne, upd_app, hk40, hr40_0, hw40_0, hr40_1, hw40_1, hr40_2, hw40_2, hr40_3, hr40_4, hw40_4, hr40_5, hr40_6, hr40_7, hr40_8, hr40_9, hw40_9, hr40_10, hw40_10, hr40_11, hr40_12, hr40_13, hw40_13, hr40_14, hw40_14, hr40_15, hr40_16, hr40_17, hr40_18, hr40_19, hr40_20, hw40_20, hr40_21, hw40_21, hr40_22, hw40_22, hr40_23, hw40_23, hr40_24, hr40_25, hw40_25, hr40_26, hw40_26, hr40_27, hw40_27, hr40_28, hr40_29, hr40_30, hr40_31, hr40_32, hr40_33, hr40_34, hw40_34, hr40_35, hw40_35, hr40_36, hr40_37, hr40_38, hr40_39, hr40_40, hw40_40, hr40_41, hr40_42, hr40_43, hl41, hs41, hl42, hs42, hl43, hs43, hl44, hs44, hl45, hs45, hl46, hs46, hl47, hs47, hl48, hs48, hl49, hs49, hl50, hs50, hl51, hs51, hl52, hs52, hl53, hs53, hl54, hs54, hl55, hs55, hl56, hs56, hl57, hs57, hl58, hs58, hl59, hs59, hl60, hs60, hl61, hs61, hl62, hs62, hl63, hs63, hl64, hs64, hl65, hs65, hw40_24, hk0, hr0_0, hr0_1, hr0_2, hr0_3, hr0_4, hr0_5, hr0_6, hr0_7, hr0_8, hw0_8, hr0_9, hw0_9, hk1, hr1_0, hr1_1, hr1_2, hr1_3, hw1_3, hr1_4, hw1_4, hl4, hs4, hl5, hs5, hl6, hs6, hk8, hr8_0, hw8_0, hr8_1, hw8_1, hr8_2, hw8_2, hk9, hr9_0, hr9_1, hr9_2, hk10, hr10_0, hr10_1, hw10_1, hr10_2, hw10_2, hr10_3, hw10_3, hr10_4, hw10_4, hl11, hs11, hl12, hs12, hl13, hs13, hk14, hr14_0, hr14_1, hr14_2, hr14_3, hr14_4, hw14_4, hk16, hr16_0, hw16_0, hr16_1, hw16_1, hr16_2, hw16_2, hr16_3, hw16_3, hr16_4, hw16_4, hk17, hr17_0, hw17_0, hr17_1, hw17_1, hr17_2, hw17_2, hr17_3, hw17_3, hr17_4, hw17_4, hk18, hr18_0, hw18_0, hr18_1, hw18_1, hr18_2, hw18_2, hr18_3, hw18_3, hr18_4, hw18_4, hl19, hs19, hl20, hs20, hl21, hs21, hk22, hr22_0, hr22_1, hr22_2, hr22_3, hr22_4, hw22_4, hr22_5, hr22_6, hr22_7, hr22_8, hw22_8, hl23, hs23, hl24, hs24, hl25, hs25, hl26, hs26, hl27, hs27, hl28, hs28, hl29, hs29, hk30, hr30_0, hw30_0, hr30_1, hw30_1, hr30_2, hr30_3, hr30_4, hr30_5, hl31, hs31, hl32, hs32, hl33, hs33, hl34, hs34, hk35, hr35_0, hw35_0, hr35_1, hw35_1, hr35_2, hr35_3, hr35_4, hr35_5, hl36, hs36, hl37, hs37, hl38, hs38, hl39, hs39, hw0_6, hw0_7, hl7, hs7, el_0, el_1, el_2, el_3, el_20, el_50, el_100, el_200, el_1000, el_10000, el_1000000, el_m1000000, el_100000000, er_0, er_1, er_2, er_3, er_20, er_50, er_100, er_200, er_1000, er_10000, er_1000000, er_m1000000, er_100000000, q1, q2, q3]
        exact ⟨_, _, _, _, _, _, rfl, ⟨rfl, s1.2⟩, Isk_of s2 rfl rfl rfl rfl rfl rfl rfl rfl rfl rfl rfl rfl, Igt_of s3 rfl rfl rfl rfl rfl rfl rfl rfl rfl rfl rfl rfl rfl rfl rfl rfl rfl rfl, Itp_of s4 rfl rfl rfl rfl, Ipl_of s5 (fun o h1 h2 => by repeat (rw [up2_ne (by omega)])) rfl rfl rfl, Ipc_of s6 rfl rfl rfl rfl rfl rfl rfl rfl rfl rfl rfl rfl rfl rfl (fun x => by repeat (rw [up2_ne (by omega)]))⟩
    · simp (decide := true) only [armF, fX9_bar, fX7_addBar, fX10_bar, f_within, f_in, f_noted, f_told, wid_le, bn_s, bn2_s, nm_s, onul_n, onul_s, if_true, if_false, and_self, and_true, true_and, and_false, false_and, or_self, or_false, false_or, or_true, true_or, not_true_eq_false, not_false_eq_true, eq_self, ne_eq, i01, up2_same, up2_ne, upd_app, hk40, hr40_0, hw40_0, hr40_1, hw40_1, hr40_2, hw40_2, hr40_3, hr40_4, hw40_4, hr40_5, hr40_6, hr40_7, hr40_8, hr40_9, hw40_9, hr40_10, hw40_10, hr40_11, hr40_12, hr40_13, hw40_13, hr40_14, hw40_14, hr40_15, hr40_16, hr40_17, hr40_18, hr40_19, hr40_20, hw40_20, hr40_21, hw40_21, hr40_22, hw40_22, hr40_23, hw40_23, hr40_24, hr40_25, hw40_25, hr40_26, hw40_26, hr40_27, hw40_27, hr40_28, hr40_29, hr40_30, hr40_31, hr40_32, hr40_33, hr40_34, hw40_34, hr40_35, hw40_35, hr40_36, hr40_37, hr40_38, hr40_39, hr40_40, hw40_40, hr40_41, hr40_42, hr40_43, hl41, hs41, hl42, hs42, hl43, hs43, hl44, hs44, hl45, hs45, hl46, hs46, hl47, hs47, hl48, hs48, hl49, hs49, hl50, hs50, hl51, hs51, hl52, hs52, hl53, hs53, hl54, hs54, hl55, hs55, hl56, hs56, hl57, hs57, hl58, hs58, hl59, hs59, hl60, hs60, hl61, hs61, hl62, hs62, hl63, hs63, hl64, hs64, hl65, hs65, hw40_24, hk0, hr0_0, hr0_1, hr0_2, hr0_3, hr0_4, hr0_5, hr0_6, hr0_7, hr0_8, hw0_8, hr0_9, hw0_9, hk1, hr1_0, hr1_1, hr1_2, hr1_3, hw1_3, hr1_4, hw1_4, hl4, hs4, hl5, hs5, hl6, hs6, hk8, hr8_0, hw8_0, hr8_1, hw8_1, hr8_2, hw8_2, hk9, hr9_0, hr9_1, hr9_2, hk10, hr10_0, hr10_1, hw10_1, hr10_2, hw10_2, hr10_3, hw10_3, hr10_4, hw10_4, hl11, hs11, hl12, hs12, hl13, hs13, hk14, hr14_0, hr14_1, hr14_2, hr14_3, hr14_4, hw14_4, hk16, hr16_0, hw16_0, hr16_1, hw16_1, hr16_2, hw16_2, hr16_3, hw16_3, hr16_4, hw16_4, hk17, hr17_0, hw17_0, hr17_1, hw17_1, hr17_2, hw17_2, hr17_3, hw17_3, hr17_4, hw17_4, hk18, hr18_0, hw18_0, hr18_1, hw18_1, hr18_2, hw18_2, hr18_3, hw18_3, hr18_4, hw18_4, hl19, hs19, hl20, hs20, hl21, hs21, hk22, hr22_0, hr22_1, hr22_2, hr22_3, hr22_4, hw22_4, hr22_5, hr22_6, hr22_7, hr22_8, hw22_8, hl23, hs23, hl24, hs24, hl25, hs25, hl26, hs26, hl27, hs27, hl28, hs28, hl29, hs29, hk30, hr30_0, hw30_0, hr30_1, hw30_1, hr30_2, hr30_3, hr30_4, hr30_5, hl31, hs31, hl32, hs32, hl33, hs33, hl34, hs34, hk35, hr35_0, hw35_0, hr35_1, hw35_1, hr35_2, hr35_3, hr35_4, hr35_5, hl36, hs36, hl37, hs37, hl38, hs38, hl39, hs39, hw0_6, hw0_7, hl7, hs7, el_0, el_1, el_2, el_3, el_20, el_50, el_100, el_200, el_1000, el_10000, el_1000000, el_m1000000, el_100000000, er_0, er_1, er_2, er_3, er_20, er_50, er_100, er_200, er_1000, er_10000, er_1000000, er_m1000000, er_100000000, q1, q2]
      exact ⟨_, _, _, _, _, _, rfl, ⟨rfl, s1.2⟩, Isk_of s2 rfl rfl rfl rfl rfl rfl rfl rfl rfl rfl rfl rfl, Igt_of s3 rfl rfl rfl rfl rfl rfl rfl rfl rfl rfl rfl rfl rfl rfl rfl rfl rfl rfl, Itp_of s4 rfl rfl rfl rfl, Ipl_of s5 (fun o h1 h2 => by repeat (rw [up2_ne (by omega)])) rfl rfl rfl, Ipc_of s6 rfl rfl rfl rfl rfl rfl rfl rfl rfl rfl rfl rfl rfl rfl (fun x => by repeat (rw [up2_ne (by omega)]))⟩
  · simp (decide := true) only [armF, fX9_bar, fX7_addBar, fX10_bar, f_within, f_in, f_noted, f_told, wid_le, bn_s, bn2_s, nm_s, onul_n, onul_s, if_true, if_false, and_self, and_true, true_and, and_false, false_and, or_self, or_false, false_or, or_true, true_or, not_true_eq_false, not_false_eq_true, eq_self, ne_eq, i01, up2_same, up2_ne, upd_app, hk40, hr40_0, hw40_0, hr40_1, hw40_1, hr40_2, hw40_2, hr40_3, hr40_4, hw40_4, hr40_5, hr40_6, hr40_7, hr40_8, hr40_9, hw40_9, hr40_10, hw40_10, hr40_11, hr40_12, hr40_13, hw40_13, hr40_14, hw40_14, hr40_15, hr40_16, hr40_17, hr40_18, hr40_19, hr40_20, hw40_20, hr40_21, hw40_21, hr40_22, hw40_22, hr40_23, hw40_23, hr40_24, hr40_25, hw40_25, hr40_26, hw40_26, hr40_27, hw40_27, hr40_28, hr40_29, hr40_30, hr40_31, hr40_32, hr40_33, hr40_34, hw40_34, hr40_35, hw40_35, hr40_36, hr40_37, hr40_38, hr40_39, hr40_40, hw40_40, hr40_41, hr40_42, hr40_43, hl41, hs41, hl42, hs42, hl43, hs43, hl44, hs44, hl45, hs45, hl46, hs46, hl47, hs47, hl48, hs48, hl49, hs49, hl50, hs50, hl51, hs51, hl52, hs52, hl53, hs53, hl54, hs54, hl55, hs55, hl56, hs56, hl57, hs57, hl58, hs58, hl59, hs59, hl60, hs60, hl61, hs61, hl62, hs62, hl63, hs63, hl64, hs64, hl65, hs65, hw40_24, hk0, hr0_0, hr0_1, hr0_2, hr0_3, hr0_4, hr0_5, hr0_6, hr0_7, hr0_8, hw0_8, hr0_9, hw0_9, hk1, hr1_0, hr1_1, hr1_2, hr1_3, hw1_3, hr1_4, hw1_4, hl4, hs4, hl5, hs5, hl6, hs6, hk8, hr8_0, hw8_0, hr8_1, hw8_1, hr8_2, hw8_2, hk9, hr9_0, hr9_1, hr9_2, hk10, hr10_0, hr10_1, hw10_1, hr10_2, hw10_2, hr10_3, hw10_3, hr10_4, hw10_4, hl11, hs11, hl12, hs12, hl13, hs13, hk14, hr14_0, hr14_1, hr14_2, hr14_3, hr14_4, hw14_4, hk16, hr16_0, hw16_0, hr16_1, hw16_1, hr16_2, hw16_2, hr16_3, hw16_3, hr16_4, hw16_4, hk17, hr17_0, hw17_0, hr17_1, hw17_1, hr17_2, hw17_2, hr17_3, hw17_3, hr17_4, hw17_4, hk18, hr18_0, hw18_0, hr18_1, hw18_1, hr18_2, hw18_2, hr18_3, hw18_3, hr18_4, hw18_4, hl19, hs19, hl20, hs20, hl21, hs21, hk22, hr22_0, hr22_1, hr22_2, hr22_3, hr22_4, hw22_4, hr22_5, hr22_6, hr22_7, hr22_8, hw22_8, hl23, hs23, hl24, hs24, hl25, hs25, hl26, hs26, hl27, hs27, hl28, hs28, hl29, hs29, hk30, hr30_0, hw30_0, hr30_1, hw30_1, hr30_2, hr30_3, hr30_4, hr30_5, hl31, hs31, hl32, hs32, hl33, hs33, hl34, hs34, hk35, hr35_0, hw35_0, hr35_1, hw35_1, hr35_2, hr35_3, hr35_4, hr35_5, hl36, hs36, hl37, hs37, hl38, hs38, hl39, hs39, hw0_6, hw0_7, hl7, hs7, el_0, el_1, el_2, el_3, el_20, el_50, el_100, el_200, el_1000, el_10000, el_1000000, el_m1000000, el_100000000, er_0, er_1, er_2, er_3, er_20, er_50, er_100, er_200, er_1000, er_10000, er_1000000, er_m1000000, er_100000000, q1]
    exact ⟨_, _, _, _, _, _, rfl, ⟨rfl, s1.2⟩, Isk_of s2 rfl rfl rfl rfl rfl rfl rfl rfl rfl rfl rfl rfl, Igt_of s3 rfl rfl rfl rfl rfl rfl rfl rfl rfl rfl rfl rfl rfl rfl rfl rfl rfl rfl, Itp_of s4 rfl rfl rfl rfl, Ipl_of s5 (fun o h1 h2 => by repeat (rw [up2_ne (by omega)])) rfl rfl rfl, Ipc_of s6 rfl rfl rfl rfl rfl rfl rfl rfl rfl rfl rfl rfl rfl rfl (fun x => by repeat (rw [up2_ne (by omega)]))⟩
end
