section
variable {b : Nat} {D : Nat → Nat → Int32} {w : Int64} {T : Nat → Int64} {pa dr np mk : Nat}
theorem f_needs {s : Nat} (hs : s < 3) : fX6_needOf (b + 14) (nI s) (HH b D w T pa dr np mk) = some (some (b + (16 + s)), HH b D w T pa dr np mk) := by
  rcases (show s = 0 ∨ s = 1 ∨ s = 2 by omega) with rfl | rfl | rfl
  · exact f_need_0
  · exact f_need_1
  · exact f_need_2
theorem isNd_s {s : Nat} (hs : s < 3) : isNd (16 + s) := by
  rcases (show s = 0 ∨ s = 1 ∨ s = 2 by omega) with rfl | rfl | rfl
  · exact Or.inl rfl
  · exact Or.inr (Or.inl rfl)
  · exact Or.inr (Or.inr rfl)
theorem lp_bt {s n kk ask : Nat} (hs : s < 3) (hn : n ≤ 60) (hk : kk ≤ 20) (hask : ask ≤ 20) (h1 : D 14 4 = nI n) (hK : D (16 + s) 0 = nI kk) : ∀ (r m i : Nat) (A c0 : Nat → Int32), i + r = ask → r < m → ∃ c1, fX6_beatPacks_25 m (b + 14) (nI ask) (b + (16 + s)) (nI i) (HH b (upR (upR D 19 A) 21 c0) w T pa dr np mk) = some (nI (i + (btF (D 20) (D (16 + s) 1) (D (16 + s) 2) (D (16 + s) 3) (D (16 + s) 4) n kk r A).1), HH b (upR (upR D 19 (btF (D 20) (D (16 + s) 1) (D (16 + s) 2) (D (16 + s) 3) (D (16 + s) 4) n kk r A).2) 21 c1) w T pa dr np mk) := by
  have hq := isNd_s hs
  have n21 : 16 + s ≠ 21 := isNd_ne hq (by decide)
  have n19 : 16 + s ≠ 19 := isNd_ne hq (by decide)
  intro r
  induction r with
  | zero =>
    intro m i A c0 hi hm
    obtain ⟨m, rfl⟩ : ∃ m', m = m' + 1 := ⟨m - 1, by omega⟩
    have e : i = ask := by omega
    subst e
    have c1 : nI i ≤ nI i := nI_le (Nat.le_refl _) (by omega)
    refine ⟨c0, ?_⟩
    simp (decide := true) only [fX6_beatPacks_25, bn_s, bn2_s, nm_s, onul_n, onul_s, if_true, if_false, and_self, and_true, true_and, and_false, false_and, or_self, or_false, false_or, or_true, true_or, not_true_eq_false, not_false_eq_true, eq_self, ne_eq, i01, up2_same, up2_ne, upd_app, c1, btF, Nat.add_zero]
  | succ r ih =>
    intro m i A c0 hi hm
    obtain ⟨m, rfl⟩ : ∃ m', m = m' + 1 := ⟨m - 1, by omega⟩
    have c1 : ¬ nI ask ≤ nI i := nI_ge (by omega) (by omega)
    have cc := c_choose (b := b) (D := upR (upR D 19 A) 21 c0) (w := w) (T := T) (pa := pa) (dr := dr) (np := np) (mk := mk) hq hn hk h1 (by rw [upR_ne n21, upR_ne n19]; exact hK)
    rw [upR_ne n21, upR_ne n19, show upR (upR D 19 A) 21 c0 19 = A from rfl, show upR (upR D 19 A) 21 c0 20 = D 20 from rfl, upR_same, upR_upR] at cc
    have hcg := chF_congr (A := A) (Y := D 20) (lo := D (16 + s) 1) (hi := D (16 + s) 2) (dl := D (16 + s) 3) (dh := D (16 + s) 4) (n := n) kk (clr c0 60) (fun _ => 0) (fun i hi => if_pos (by omega))
    rw [hcg.1] at cc
    have ha := agd_congr (A := A) (n := n) hcg.2
    unfold btF
    generalize chF A (D 20) (D (16 + s) 1) (D (16 + s) 2) (D (16 + s) 3) (D (16 + s) 4) n kk (clr c0 60) = u at cc ha
    have h01 := chF_01 (A := A) (Y := D 20) (lo := D (16 + s) 1) (hi := D (16 + s) 2) (dl := D (16 + s) 3) (dh := D (16 + s) 4) (n := n) kk (fun _ => 0)
    generalize chF A (D 20) (D (16 + s) 1) (D (16 + s) 2) (D (16 + s) 3) (D (16 + s) 4) n kk (fun _ => 0) = t at cc ha h01 ⊢
    by_cases q : t.1 = 0
    · refine ⟨u.2, ?_⟩
      rw [if_pos q]
      simp (decide := true) only [fX6_beatPacks_25, bn_s, bn2_s, nm_s, onul_n, onul_s, if_true, if_false, and_self, and_true, true_and, and_false, false_and, or_self, or_false, false_or, or_true, true_or, not_true_eq_false, not_false_eq_true, eq_self, ne_eq, i01, up2_same, up2_ne, upd_app, hk14, c1, cc, q, Nat.add_zero]
    · rw [if_neg q]
      have cg := c_age (b := b) (D := upR (upR D 19 A) 21 u.2) (w := w) (T := T) (pa := pa) (dr := dr) (np := np) (mk := mk) hn h1
      rw [show upR (upR D 19 A) 21 u.2 19 = A from rfl, upR_same, ha] at cg
      have eR : upR (upR (upR D 19 A) 21 u.2) 19 (agd A t.2 n) = upR (upR D 19 (agd A t.2 n)) 21 u.2 := by
        funext x
        by_cases z : x = 19
        · subst z
          rfl
        · rw [upR_ne z]
          by_cases z2 : x = 21
          · subst z2
            rfl
          · rw [upR_ne z2, upR_ne z, upR_ne z2, upR_ne z]
      rw [eR] at cg
      obtain ⟨c2, ih⟩ := ih m (i + 1) (agd A t.2 n) u.2 (by omega) (by omega)
      refine ⟨c2, ?_⟩
      rw [show i + ((btF (D 20) (D (16 + s) 1) (D (16 + s) 2) (D (16 + s) 3) (D (16 + s) 4) n kk r (agd A t.2 n)).1 + 1) = i + 1 + (btF (D 20) (D (16 + s) 1) (D (16 + s) 2) (D (16 + s) 3) (D (16 + s) 4) n kk r (agd A t.2 n)).1 by omega]
      simp (decide := true) only [fX6_beatPacks_25, bn_s, bn2_s, nm_s, onul_n, onul_s, if_true, if_false, and_self, and_true, true_and, and_false, false_and, or_self, or_false, false_or, or_true, true_or, not_true_eq_false, not_false_eq_true, eq_self, ne_eq, i01, up2_same, up2_ne, upd_app, hk14, c1, cc, q, cg, nI_1, ih]
/-! the reference's -/
theorem lp_m40 {s n : Nat} (hs : s < 3) (hn : n ≤ 60) (h1 : D 40 27 = nI n) (r25 : Nat → Int32 → Int32 → PH → Option (Int32 × PH)) (t : Int32) : ∀ (k m i : Nat), i + k = n → k < m → fX10_beatOne_40 r25 m (b + 40) (nI s) t (old (D 54) (D 53) (D 57 (2 * s)) (D 57 (2 * s + 1)) (D 58 (2 * s)) (D 58 (2 * s + 1)) (D 55) i) (nI i) (HH b D w T pa dr np mk) = if old (D 54) (D 53) (D 57 (2 * s)) (D 57 (2 * s + 1)) (D 58 (2 * s)) (D 58 (2 * s + 1)) (D 55) n = -1 then some (0, HH b D w T pa dr np mk) else r25 (b + 40) (nI s) (t + 1) (HH b (up2 D 55 (old (D 54) (D 53) (D 57 (2 * s)) (D 57 (2 * s + 1)) (D 58 (2 * s)) (D 58 (2 * s + 1)) (D 55) n).toNatClampNeg 1) w T pa dr np mk) := by
  intro k
  induction k with
  | zero =>
    intro m i hi hm
    obtain ⟨m, rfl⟩ : ∃ m', m = m' + 1 := ⟨m - 1, by omega⟩
    have e : i = n := by omega
    subst e
    have c1 : nI i ≤ nI i := nI_le (Nat.le_refl _) (by omega)
    have hix := old_ix (A := D 54) (Y := D 53) (lo := D 57 (2 * s)) (hi := D 57 (2 * s + 1)) (dl := D 58 (2 * s)) (dh := D 58 (2 * s + 1)) (ch := D 55) i
    generalize old (D 54) (D 53) (D 57 (2 * s)) (D 57 (2 * s + 1)) (D 58 (2 * s)) (D 58 (2 * s + 1)) (D 55) i = a at hix ⊢
    rcases hix with z | ⟨j, hj, z⟩
    · subst z
      simp (decide := true) only [fX10_beatOne_40, bn_s, bn2_s, nm_s, onul_n, onul_s, if_true, if_false, and_self, and_true, true_and, and_false, false_and, or_self, or_false, false_or, or_true, true_or, not_true_eq_false, not_false_eq_true, eq_self, ne_eq, i01, up2_same, up2_ne, upd_app, hk40, hr40_0, hw40_0, hr40_1, hw40_1, hr40_2, hw40_2, hr40_3, hr40_4, hw40_4, hr40_5, hr40_6, hr40_7, hr40_8, hr40_9, hw40_9, hr40_10, hw40_10, hr40_11, hr40_12, hr40_13, hw40_13, hr40_14, hw40_14, hr40_15, hr40_16, hr40_17, hr40_18, hr40_19, hr40_20, hw40_20, hr40_21, hw40_21, hr40_22, hw40_22, hr40_23, hw40_23, hr40_24, hr40_25, hw40_25, hr40_26, hw40_26, hr40_27, hw40_27, hr40_28, hr40_29, hr40_30, hr40_31, hr40_32, hr40_33, hr40_34, hw40_34, hr40_35, hw40_35, hr40_36, hr40_37, hr40_38, hr40_39, hr40_40, hw40_40, hr40_41, hr40_42, hr40_43, hl41, hs41, hl42, hs42, hl43, hs43, hl44, hs44, hl45, hs45, hl46, hs46, hl47, hs47, hl48, hs48, hl49, hs49, hl50, hs50, hl51, hs51, hl52, hs52, hl53, hs53, hl54, hs54, hl55, hs55, hl56, hs56, hl57, hs57, hl58, hs58, hl59, hs59, hl60, hs60, hl61, hs61, hl62, hs62, hl63, hs63, hl64, hs64, hl65, hs65, hw40_24, h1, c1]
    · subst z
      have d2 : ¬ nI j = -1 := fun z => by have := congrArg Int32.toInt z; rw [nI_ti (by omega)] at this; have e1 : (-1 : Int32).toInt = -1 := rfl; omega
      have d3 : ¬ nI j < 0 := nI_pos (by omega)
      have d6 : 0 ≤ nI j := nI_pos' (by omega)
      have d4 : (nI j).toNatClampNeg = j := nI_clamp (by omega)
      have d5 : ¬ 60 ≤ j := by omega
      simp (decide := true) only [fX10_beatOne_40, bn_s, bn2_s, nm_s, onul_n, onul_s, if_true, if_false, and_self, and_true, true_and, and_false, false_and, or_self, or_false, false_or, or_true, true_or, not_true_eq_false, not_false_eq_true, eq_self, ne_eq, i01, up2_same, up2_ne, upd_app, hk40, hr40_0, hw40_0, hr40_1, hw40_1, hr40_2, hw40_2, hr40_3, hr40_4, hw40_4, hr40_5, hr40_6, hr40_7, hr40_8, hr40_9, hw40_9, hr40_10, hw40_10, hr40_11, hr40_12, hr40_13, hw40_13, hr40_14, hw40_14, hr40_15, hr40_16, hr40_17, hr40_18, hr40_19, hr40_20, hw40_20, hr40_21, hw40_21, hr40_22, hw40_22, hr40_23, hw40_23, hr40_24, hr40_25, hw40_25, hr40_26, hw40_26, hr40_27, hw40_27, hr40_28, hr40_29, hr40_30, hr40_31, hr40_32, hr40_33, hr40_34, hw40_34, hr40_35, hw40_35, hr40_36, hr40_37, hr40_38, hr40_39, hr40_40, hw40_40, hr40_41, hr40_42, hr40_43, hl41, hs41, hl42, hs42, hl43, hs43, hl44, hs44, hl45, hs45, hl46, hs46, hl47, hs47, hl48, hs48, hl49, hs49, hl50, hs50, hl51, hs51, hl52, hs52, hl53, hs53, hl54, hs54, hl55, hs55, hl56, hs56, hl57, hs57, hl58, hs58, hl59, hs59, hl60, hs60, hl61, hs61, hl62, hs62, hl63, hs63, hl64, hs64, hl65, hs65, hw40_24, h1, c1, d2, d3, d4, d5, d6]
  | succ k ih =>
    intro m i hi hm
    obtain ⟨m, rfl⟩ : ∃ m', m = m' + 1 := ⟨m - 1, by omega⟩
    have c1 : ¬ nI n ≤ nI i := nI_ge (by omega) (by omega)
    have c3 : ¬ nI i < 0 := nI_pos (by omega)
    have c4 : (nI i).toNatClampNeg = i := nI_clamp (by omega)
    have c5 : ¬ 60 ≤ i := by omega
    have g1 : (2 : Int32) * nI s = nI (2 * s) := pk_mul 2 s
    have g2 : nI (2 * s) + 1 = nI (2 * s + 1) := nI_1 _
    have g3 : ¬ nI (2 * s) < 0 := nI_pos (by omega)
    have g4 : (nI (2 * s)).toNatClampNeg = 2 * s := nI_clamp (by omega)
    have g5 : ¬ 6 ≤ 2 * s := by omega
    have g6 : ¬ nI (2 * s + 1) < 0 := nI_pos (by omega)
    have g7 : (nI (2 * s + 1)).toNatClampNeg = 2 * s + 1 := nI_clamp (by omega)
    have g8 : ¬ 6 ≤ 2 * s + 1 := by omega
    have ih := ih m (i + 1) (by omega) (by omega)
    have hix := old_ix (A := D 54) (Y := D 53) (lo := D 57 (2 * s)) (hi := D 57 (2 * s + 1)) (dl := D 58 (2 * s)) (dh := D 58 (2 * s + 1)) (ch := D 55) i
    rw [show old (D 54) (D 53) (D 57 (2 * s)) (D 57 (2 * s + 1)) (D 58 (2 * s)) (D 58 (2 * s + 1)) (D 55) (i + 1) = @ite _ (D 55 i = 0 ∧ sut (D 54) (D 53) (D 57 (2 * s)) (D 57 (2 * s + 1)) (D 58 (2 * s)) (D 58 (2 * s + 1)) i ∧ (old (D 54) (D 53) (D 57 (2 * s)) (D 57 (2 * s + 1)) (D 58 (2 * s)) (D 58 (2 * s + 1)) (D 55) i = -1 ∨ ¬ D 54 i ≤ D 54 (old (D 54) (D 53) (D 57 (2 * s)) (D 57 (2 * s + 1)) (D 58 (2 * s)) (D 58 (2 * s + 1)) (D 55) i).toNatClampNeg)) (Classical.propDecidable _) (nI i) (old (D 54) (D 53) (D 57 (2 * s)) (D 57 (2 * s + 1)) (D 58 (2 * s)) (D 58 (2 * s + 1)) (D 55) i) from rfl] at ih
    rw [← ih]
    clear ih
    generalize old (D 54) (D 53) (D 57 (2 * s)) (D 57 (2 * s + 1)) (D 58 (2 * s)) (D 58 (2 * s + 1)) (D 55) i = a at hix ⊢
    by_cases q1 : D 55 i = 0
    · by_cases q2 : D 57 (2 * s) ≤ D 54 i ∧ D 54 i ≤ D 57 (2 * s + 1)
      · by_cases q3 : D 58 (2 * s) ≤ D 53 i ∧ D 53 i ≤ D 58 (2 * s + 1)
        · have qs : sut (D 54) (D 53) (D 57 (2 * s)) (D 57 (2 * s + 1)) (D 58 (2 * s)) (D 58 (2 * s + 1)) i := ⟨q2, q3⟩
          rcases hix with z | ⟨j, hj, z⟩
          · subst z
            rw [if_pos ⟨q1, qs, Or.inl rfl⟩]
            simp (decide := true) only [fX10_beatOne_40, fX10_beatOne_131, fX10_beatOne_132, fX10_beatOne_159, fX10_beatOne_164, fX10_beatOne_165, f_in, wid_le, bn_s, bn2_s, nm_s, onul_n, onul_s, if_true, if_false, and_self, and_true, true_and, and_false, false_and, or_self, or_false, false_or, or_true, true_or, not_true_eq_false, not_false_eq_true, eq_self, ne_eq, i01, up2_same, up2_ne, upd_app, hk40, hr40_0, hw40_0, hr40_1, hw40_1, hr40_2, hw40_2, hr40_3, hr40_4, hw40_4, hr40_5, hr40_6, hr40_7, hr40_8, hr40_9, hw40_9, hr40_10, hw40_10, hr40_11, hr40_12, hr40_13, hw40_13, hr40_14, hw40_14, hr40_15, hr40_16, hr40_17, hr40_18, hr40_19, hr40_20, hw40_20, hr40_21, hw40_21, hr40_22, hw40_22, hr40_23, hw40_23, hr40_24, hr40_25, hw40_25, hr40_26, hw40_26, hr40_27, hw40_27, hr40_28, hr40_29, hr40_30, hr40_31, hr40_32, hr40_33, hr40_34, hw40_34, hr40_35, hw40_35, hr40_36, hr40_37, hr40_38, hr40_39, hr40_40, hw40_40, hr40_41, hr40_42, hr40_43, hl41, hs41, hl42, hs42, hl43, hs43, hl44, hs44, hl45, hs45, hl46, hs46, hl47, hs47, hl48, hs48, hl49, hs49, hl50, hs50, hl51, hs51, hl52, hs52, hl53, hs53, hl54, hs54, hl55, hs55, hl56, hs56, hl57, hs57, hl58, hs58, hl59, hs59, hl60, hs60, hl61, hs61, hl62, hs62, hl63, hs63, hl64, hs64, hl65, hs65, hw40_24, h1, c1, c3, c4, c5, g1, g2, g3, g4, g5, g6, g7, g8, q1, q2, q3, nI_1]
          · subst z
            have d2 : ¬ nI j = -1 := fun z => by have := congrArg Int32.toInt z; rw [nI_ti (by omega)] at this; have e1 : (-1 : Int32).toInt = -1 := rfl; omega
            have d3 : ¬ nI j < 0 := nI_pos (by omega)
            have d4 : (nI j).toNatClampNeg = j := nI_clamp (by omega)
            have d5 : ¬ 60 ≤ j := by omega
            rw [d4]
            by_cases q4 : D 54 i ≤ D 54 j
            · rw [if_neg (fun z => z.2.2.elim d2 (fun z => z q4))]
              simp (decide := true) only [fX10_beatOne_40, fX10_beatOne_131, fX10_beatOne_132, fX10_beatOne_159, fX10_beatOne_164, fX10_beatOne_165, f_in, wid_le, bn_s, bn2_s, nm_s, onul_n, onul_s, if_true, if_false, and_self, and_true, true_and, and_false, false_and, or_self, or_false, false_or, or_true, true_or, not_true_eq_false, not_false_eq_true, eq_self, ne_eq, i01, up2_same, up2_ne, upd_app, hk40, hr40_0, hw40_0, hr40_1, hw40_1, hr40_2, hw40_2, hr40_3, hr40_4, hw40_4, hr40_5, hr40_6, hr40_7, hr40_8, hr40_9, hw40_9, hr40_10, hw40_10, hr40_11, hr40_12, hr40_13, hw40_13, hr40_14, hw40_14, hr40_15, hr40_16, hr40_17, hr40_18, hr40_19, hr40_20, hw40_20, hr40_21, hw40_21, hr40_22, hw40_22, hr40_23, hw40_23, hr40_24, hr40_25, hw40_25, hr40_26, hw40_26, hr40_27, hw40_27, hr40_28, hr40_29, hr40_30, hr40_31, hr40_32, hr40_33, hr40_34, hw40_34, hr40_35, hw40_35, hr40_36, hr40_37, hr40_38, hr40_39, hr40_40, hw40_40, hr40_41, hr40_42, hr40_43, hl41, hs41, hl42, hs42, hl43, hs43, hl44, hs44, hl45, hs45, hl46, hs46, hl47, hs47, hl48, hs48, hl49, hs49, hl50, hs50, hl51, hs51, hl52, hs52, hl53, hs53, hl54, hs54, hl55, hs55, hl56, hs56, hl57, hs57, hl58, hs58, hl59, hs59, hl60, hs60, hl61, hs61, hl62, hs62, hl63, hs63, hl64, hs64, hl65, hs65, hw40_24, h1, c1, c3, c4, c5, g1, g2, g3, g4, g5, g6, g7, g8, d3, d4, d5, q1, q2, q3, q4, nI_1]
            · rw [if_pos ⟨q1, qs, Or.inr q4⟩]
              simp (decide := true) only [fX10_beatOne_40, fX10_beatOne_131, fX10_beatOne_132, fX10_beatOne_159, fX10_beatOne_164, fX10_beatOne_165, f_in, wid_le, bn_s, bn2_s, nm_s, onul_n, onul_s, if_true, if_false, and_self, and_true, true_and, and_false, false_and, or_self, or_false, false_or, or_true, true_or, not_true_eq_false, not_false_eq_true, eq_self, ne_eq, i01, up2_same, up2_ne, upd_app, hk40, hr40_0, hw40_0, hr40_1, hw40_1, hr40_2, hw40_2, hr40_3, hr40_4, hw40_4, hr40_5, hr40_6, hr40_7, hr40_8, hr40_9, hw40_9, hr40_10, hw40_10, hr40_11, hr40_12, hr40_13, hw40_13, hr40_14, hw40_14, hr40_15, hr40_16, hr40_17, hr40_18, hr40_19, hr40_20, hw40_20, hr40_21, hw40_21, hr40_22, hw40_22, hr40_23, hw40_23, hr40_24, hr40_25, hw40_25, hr40_26, hw40_26, hr40_27, hw40_27, hr40_28, hr40_29, hr40_30, hr40_31, hr40_32, hr40_33, hr40_34, hw40_34, hr40_35, hw40_35, hr40_36, hr40_37, hr40_38, hr40_39, hr40_40, hw40_40, hr40_41, hr40_42, hr40_43, hl41, hs41, hl42, hs42, hl43, hs43, hl44, hs44, hl45, hs45, hl46, hs46, hl47, hs47, hl48, hs48, hl49, hs49, hl50, hs50, hl51, hs51, hl52, hs52, hl53, hs53, hl54, hs54, hl55, hs55, hl56, hs56, hl57, hs57, hl58, hs58, hl59, hs59, hl60, hs60, hl61, hs61, hl62, hs62, hl63, hs63, hl64, hs64, hl65, hs65, hw40_24, h1, c1, c3, c4, c5, g1, g2, g3, g4, g5, g6, g7, g8, d3, d4, d5, q1, q2, q3, q4, nI_1]
        · rw [if_neg (fun z => q3 z.2.1.2)]
          simp (decide := true) only [fX10_beatOne_40, fX10_beatOne_131, fX10_beatOne_132, fX10_beatOne_159, fX10_beatOne_164, fX10_beatOne_165, f_in, wid_le, bn_s, bn2_s, nm_s, onul_n, onul_s, if_true, if_false, and_self, and_true, true_and, and_false, false_and, or_self, or_false, false_or, or_true, true_or, not_true_eq_false, not_false_eq_true, eq_self, ne_eq, i01, up2_same, up2_ne, upd_app, hk40, hr40_0, hw40_0, hr40_1, hw40_1, hr40_2, hw40_2, hr40_3, hr40_4, hw40_4, hr40_5, hr40_6, hr40_7, hr40_8, hr40_9, hw40_9, hr40_10, hw40_10, hr40_11, hr40_12, hr40_13, hw40_13, hr40_14, hw40_14, hr40_15, hr40_16, hr40_17, hr40_18, hr40_19, hr40_20, hw40_20, hr40_21, hw40_21, hr40_22, hw40_22, hr40_23, hw40_23, hr40_24, hr40_25, hw40_25, hr40_26, hw40_26, hr40_27, hw40_27, hr40_28, hr40_29, hr40_30, hr40_31, hr40_32, hr40_33, hr40_34, hw40_34, hr40_35, hw40_35, hr40_36, hr40_37, hr40_38, hr40_39, hr40_40, hw40_40, hr40_41, hr40_42, hr40_43, hl41, hs41, hl42, hs42, hl43, hs43, hl44, hs44, hl45, hs45, hl46, hs46, hl47, hs47, hl48, hs48, hl49, hs49, hl50, hs50, hl51, hs51, hl52, hs52, hl53, hs53, hl54, hs54, hl55, hs55, hl56, hs56, hl57, hs57, hl58, hs58, hl59, hs59, hl60, hs60, hl61, hs61, hl62, hs62, hl63, hs63, hl64, hs64, hl65, hs65, hw40_24, h1, c1, c3, c4, c5, g1, g2, g3, g4, g5, g6, g7, g8, q1, q2, q3, nI_1]
      · rw [if_neg (fun z => q2 z.2.1.1)]
        simp (decide := true) only [fX10_beatOne_40, fX10_beatOne_131, fX10_beatOne_132, fX10_beatOne_159, fX10_beatOne_164, fX10_beatOne_165, f_in, wid_le, bn_s, bn2_s, nm_s, onul_n, onul_s, if_true, if_false, and_self, and_true, true_and, and_false, false_and, or_self, or_false, false_or, or_true, true_or, not_true_eq_false, not_false_eq_true, eq_self, ne_eq, i01, up2_same, up2_ne, upd_app, hk40, hr40_0, hw40_0, hr40_1, hw40_1, hr40_2, hw40_2, hr40_3, hr40_4, hw40_4, hr40_5, hr40_6, hr40_7, hr40_8, hr40_9, hw40_9, hr40_10, hw40_10, hr40_11, hr40_12, hr40_13, hw40_13, hr40_14, hw40_14, hr40_15, hr40_16, hr40_17, hr40_18, hr40_19, hr40_20, hw40_20, hr40_21, hw40_21, hr40_22, hw40_22, hr40_23, hw40_23, hr40_24, hr40_25, hw40_25, hr40_26, hw40_26, hr40_27, hw40_27, hr40_28, hr40_29, hr40_30, hr40_31, hr40_32, hr40_33, hr40_34, hw40_34, hr40_35, hw40_35, hr40_36, hr40_37, hr40_38, hr40_39, hr40_40, hw40_40, hr40_41, hr40_42, hr40_43, hl41, hs41, hl42, hs42, hl43, hs43, hl44, hs44, hl45, hs45, hl46, hs46, hl47, hs47, hl48, hs48, hl49, hs49, hl50, hs50, hl51, hs51, hl52, hs52, hl53, hs53, hl54, hs54, hl55, hs55, hl56, hs56, hl57, hs57, hl58, hs58, hl59, hs59, hl60, hs60, hl61, hs61, hl62, hs62, hl63, hs63, hl64, hs64, hl65, hs65, hw40_24, h1, c1, c3, c4, c5, g1, g2, g3, g4, g5, g6, g7, g8, q1, q2, nI_1]
    · rw [if_neg (fun z => q1 z.1)]
      simp (decide := true) only [fX10_beatOne_40, fX10_beatOne_131, fX10_beatOne_132, fX10_beatOne_159, fX10_beatOne_164, fX10_beatOne_165, f_in, wid_le, bn_s, bn2_s, nm_s, onul_n, onul_s, if_true, if_false, and_self, and_true, true_and, and_false, false_and, or_self, or_false, false_or, or_true, true_or, not_true_eq_false, not_false_eq_true, eq_self, ne_eq, i01, up2_same, up2_ne, upd_app, hk40, hr40_0, hw40_0, hr40_1, hw40_1, hr40_2, hw40_2, hr40_3, hr40_4, hw40_4, hr40_5, hr40_6, hr40_7, hr40_8, hr40_9, hw40_9, hr40_10, hw40_10, hr40_11, hr40_12, hr40_13, hw40_13, hr40_14, hw40_14, hr40_15, hr40_16, hr40_17, hr40_18, hr40_19, hr40_20, hw40_20, hr40_21, hw40_21, hr40_22, hw40_22, hr40_23, hw40_23, hr40_24, hr40_25, hw40_25, hr40_26, hw40_26, hr40_27, hw40_27, hr40_28, hr40_29, hr40_30, hr40_31, hr40_32, hr40_33, hr40_34, hw40_34, hr40_35, hw40_35, hr40_36, hr40_37, hr40_38, hr40_39, hr40_40, hw40_40, hr40_41, hr40_42, hr40_43, hl41, hs41, hl42, hs42, hl43, hs43, hl44, hs44, hl45, hs45, hl46, hs46, hl47, hs47, hl48, hs48, hl49, hs49, hl50, hs50, hl51, hs51, hl52, hs52, hl53, hs53, hl54, hs54, hl55, hs55, hl56, hs56, hl57, hs57, hl58, hs58, hl59, hs59, hl60, hs60, hl61, hs61, hl62, hs62, hl63, hs63, hl64, hs64, hl65, hs65, hw40_24, h1, c1, c3, c4, c5, q1, nI_1]
theorem lp_m193 {n : Nat} {ch : Nat → Int32} (hn : n ≤ 60) (h1 : D 40 27 = nI n) (h2 : D 55 = ch) : ∀ (k m i : Nat), i + k = n → k < m → fX10_beatOne_193 m (b + 40) (nI i) (HH b (upR D 54 (agd (D 54) ch i)) w T pa dr np mk) = some (1, HH b (upR D 54 (agd (D 54) ch n)) w T pa dr np mk) := by
  intro k
  induction k with
  | zero =>
    intro m i hi hm
    obtain ⟨m, rfl⟩ : ∃ m', m = m' + 1 := ⟨m - 1, by omega⟩
    have e : i = n := by omega
    subst e
    have c1 : nI i ≤ nI i := nI_le (Nat.le_refl _) (by omega)
    simp (decide := true) only [fX10_beatOne_193, bn_s, bn2_s, nm_s, onul_n, onul_s, if_true, if_false, and_self, and_true, true_and, and_false, false_and, or_self, or_false, false_or, or_true, true_or, not_true_eq_false, not_false_eq_true, eq_self, ne_eq, i01, up2_same, up2_ne, upd_app, hk40, hr40_0, hw40_0, hr40_1, hw40_1, hr40_2, hw40_2, hr40_3, hr40_4, hw40_4, hr40_5, hr40_6, hr40_7, hr40_8, hr40_9, hw40_9, hr40_10, hw40_10, hr40_11, hr40_12, hr40_13, hw40_13, hr40_14, hw40_14, hr40_15, hr40_16, hr40_17, hr40_18, hr40_19, hr40_20, hw40_20, hr40_21, hw40_21, hr40_22, hw40_22, hr40_23, hw40_23, hr40_24, hr40_25, hw40_25, hr40_26, hw40_26, hr40_27, hw40_27, hr40_28, hr40_29, hr40_30, hr40_31, hr40_32, hr40_33, hr40_34, hw40_34, hr40_35, hw40_35, hr40_36, hr40_37, hr40_38, hr40_39, hr40_40, hw40_40, hr40_41, hr40_42, hr40_43, hl41, hs41, hl42, hs42, hl43, hs43, hl44, hs44, hl45, hs45, hl46, hs46, hl47, hs47, hl48, hs48, hl49, hs49, hl50, hs50, hl51, hs51, hl52, hs52, hl53, hs53, hl54, hs54, hl55, hs55, hl56, hs56, hl57, hs57, hl58, hs58, hl59, hs59, hl60, hs60, hl61, hs61, hl62, hs62, hl63, hs63, hl64, hs64, hl65, hs65, hw40_24, upR_ne, h1, c1]
  | succ k ih =>
    intro m i hi hm
    obtain ⟨m, rfl⟩ : ∃ m', m = m' + 1 := ⟨m - 1, by omega⟩
    have c1 : ¬ nI n ≤ nI i := nI_ge (by omega) (by omega)
    have c3 : ¬ nI i < 0 := nI_pos (by omega)
    have c4 : (nI i).toNatClampNeg = i := nI_clamp (by omega)
    have c5 : ¬ 60 ≤ i := by omega
    have ih := ih m (i + 1) (by omega) (by omega)
    have ei : agd (D 54) ch i i = D 54 i := if_neg (fun z => by omega)
    have eu : ∀ x : Int32, x = (if ch i = 0 then D 54 i + 0 else D 54 i + 1) → up2 (upR D 54 (agd (D 54) ch i)) 54 i x = upR D 54 (agd (D 54) ch (i + 1)) := by
      intro x hx
      rw [upR_up, upR_upR, upR_same, hx]
      congr 1
      funext j
      rw [upd_app]
      unfold agd
      by_cases z : j = i
      · subst z
        rw [if_pos rfl]
        by_cases q1 : ch j = 0
        · rw [if_pos q1, if_neg (fun y => y.2 q1), Int32.add_zero]
        · rw [if_neg q1, if_pos ⟨by omega, q1⟩]
      · rw [if_neg z]
        by_cases z2 : j < i ∧ ¬ ch j = 0
        · rw [if_pos z2, if_pos ⟨by omega, z2.2⟩]
        · rw [if_neg z2, if_neg (fun y => z2 ⟨by omega, y.2⟩)]
    by_cases q1 : ch i = 0
    · have eu := eu (D 54 i + 0) (by rw [if_pos q1])
      simp (decide := true) only [fX10_beatOne_193, fX10_beatOne_222, bn_s, bn2_s, nm_s, onul_n, onul_s, if_true, if_false, and_self, and_true, true_and, and_false, false_and, or_self, or_false, false_or, or_true, true_or, not_true_eq_false, not_false_eq_true, eq_self, ne_eq, i01, up2_same, up2_ne, upd_app, hk40, hr40_0, hw40_0, hr40_1, hw40_1, hr40_2, hw40_2, hr40_3, hr40_4, hw40_4, hr40_5, hr40_6, hr40_7, hr40_8, hr40_9, hw40_9, hr40_10, hw40_10, hr40_11, hr40_12, hr40_13, hw40_13, hr40_14, hw40_14, hr40_15, hr40_16, hr40_17, hr40_18, hr40_19, hr40_20, hw40_20, hr40_21, hw40_21, hr40_22, hw40_22, hr40_23, hw40_23, hr40_24, hr40_25, hw40_25, hr40_26, hw40_26, hr40_27, hw40_27, hr40_28, hr40_29, hr40_30, hr40_31, hr40_32, hr40_33, hr40_34, hw40_34, hr40_35, hw40_35, hr40_36, hr40_37, hr40_38, hr40_39, hr40_40, hw40_40, hr40_41, hr40_42, hr40_43, hl41, hs41, hl42, hs42, hl43, hs43, hl44, hs44, hl45, hs45, hl46, hs46, hl47, hs47, hl48, hs48, hl49, hs49, hl50, hs50, hl51, hs51, hl52, hs52, hl53, hs53, hl54, hs54, hl55, hs55, hl56, hs56, hl57, hs57, hl58, hs58, hl59, hs59, hl60, hs60, hl61, hs61, hl62, hs62, hl63, hs63, hl64, hs64, hl65, hs65, hw40_24, upR_ne, upR_same, h1, h2, c1, c3, c4, c5, q1, ei, eu, nI_1, ih]
    · have eu := eu (D 54 i + 1) (by rw [if_neg q1])
      simp (decide := true) only [fX10_beatOne_193, fX10_beatOne_222, bn_s, bn2_s, nm_s, onul_n, onul_s, if_true, if_false, and_self, and_true, true_and, and_false, false_and, or_self, or_false, false_or, or_true, true_or, not_true_eq_false, not_false_eq_true, eq_self, ne_eq, i01, up2_same, up2_ne, upd_app, hk40, hr40_0, hw40_0, hr40_1, hw40_1, hr40_2, hw40_2, hr40_3, hr40_4, hw40_4, hr40_5, hr40_6, hr40_7, hr40_8, hr40_9, hw40_9, hr40_10, hw40_10, hr40_11, hr40_12, hr40_13, hw40_13, hr40_14, hw40_14, hr40_15, hr40_16, hr40_17, hr40_18, hr40_19, hr40_20, hw40_20, hr40_21, hw40_21, hr40_22, hw40_22, hr40_23, hw40_23, hr40_24, hr40_25, hw40_25, hr40_26, hw40_26, hr40_27, hw40_27, hr40_28, hr40_29, hr40_30, hr40_31, hr40_32, hr40_33, hr40_34, hw40_34, hr40_35, hw40_35, hr40_36, hr40_37, hr40_38, hr40_39, hr40_40, hw40_40, hr40_41, hr40_42, hr40_43, hl41, hs41, hl42, hs42, hl43, hs43, hl44, hs44, hl45, hs45, hl46, hs46, hl47, hs47, hl48, hs48, hl49, hs49, hl50, hs50, hl51, hs51, hl52, hs52, hl53, hs53, hl54, hs54, hl55, hs55, hl56, hs56, hl57, hs57, hl58, hs58, hl59, hs59, hl60, hs60, hl61, hs61, hl62, hs62, hl63, hs63, hl64, hs64, hl65, hs65, hw40_24, upR_ne, upR_same, h1, h2, c1, c3, c4, c5, q1, ei, eu, nI_1, ih]
theorem lp_m25 {s n kk : Nat} (hs : s < 3) (hn : n ≤ 60) (hk : kk ≤ 20) (h1 : D 40 27 = nI n) (hK : D 56 s = nI kk) : ∀ (k m i : Nat) (ch : Nat → Int32), i + k = kk → k < m → fX10_beatOne_25 m (b + 40) (nI s) (nI i) (HH b (upR D 55 ch) w T pa dr np mk) = some ((chF (D 54) (D 53) (D 57 (2 * s)) (D 57 (2 * s + 1)) (D 58 (2 * s)) (D 58 (2 * s + 1)) n k ch).1, HH b (if (chF (D 54) (D 53) (D 57 (2 * s)) (D 57 (2 * s + 1)) (D 58 (2 * s)) (D 58 (2 * s + 1)) n k ch).1 = 0 then upR D 55 (chF (D 54) (D 53) (D 57 (2 * s)) (D 57 (2 * s + 1)) (D 58 (2 * s)) (D 58 (2 * s + 1)) n k ch).2 else upR (upR D 54 (agd (D 54) (chF (D 54) (D 53) (D 57 (2 * s)) (D 57 (2 * s + 1)) (D 58 (2 * s)) (D 58 (2 * s + 1)) n k ch).2 n)) 55 (chF (D 54) (D 53) (D 57 (2 * s)) (D 57 (2 * s + 1)) (D 58 (2 * s)) (D 58 (2 * s + 1)) n k ch).2) w T pa dr np mk) := by
  have s3 : ¬ nI s < 0 := nI_pos (by omega)
  have s4 : (nI s).toNatClampNeg = s := nI_clamp (by omega)
  have s5 : ¬ 3 ≤ s := by omega
  intro k
  induction k with
  | zero =>
    intro m i ch hi hm
    obtain ⟨m, rfl⟩ : ∃ m', m = m' + 1 := ⟨m - 1, by omega⟩
    have e : i = kk := by omega
    subst e
    have c1 : nI i ≤ nI i := nI_le (Nat.le_refl _) (by omega)
    have e1 := lp_m193 (b := b) (D := upR D 55 ch) (ch := ch) (w := w) (T := T) (pa := pa) (dr := dr) (np := np) (mk := mk) hn h1 (upR_same _ _ _) n FU 0 (by omega) (by unfold FU; omega)
    have e0 : agd (upR D 55 ch 54) ch 0 = upR D 55 ch 54 := by funext j; exact if_neg (fun z => by omega)
    rw [e0, upR_self, nI_0] at e1
    have eR : upR (upR D 55 ch) 54 (agd (upR D 55 ch 54) ch n) = upR (upR D 54 (agd (D 54) ch n)) 55 ch := by
      funext x
      by_cases z : x = 54
      · subst z
        rfl
      · rw [upR_ne z]
        by_cases z2 : x = 55
        · subst z2
          rfl
        · rw [upR_ne z2, upR_ne z2, upR_ne z]
    rw [eR] at e1
    simp (decide := true) only [fX10_beatOne_25, bn_s, bn2_s, nm_s, onul_n, onul_s, if_true, if_false, and_self, and_true, true_and, and_false, false_and, or_self, or_false, false_or, or_true, true_or, not_true_eq_false, not_false_eq_true, eq_self, ne_eq, i01, up2_same, up2_ne, upd_app, hk40, hr40_0, hw40_0, hr40_1, hw40_1, hr40_2, hw40_2, hr40_3, hr40_4, hw40_4, hr40_5, hr40_6, hr40_7, hr40_8, hr40_9, hw40_9, hr40_10, hw40_10, hr40_11, hr40_12, hr40_13, hw40_13, hr40_14, hw40_14, hr40_15, hr40_16, hr40_17, hr40_18, hr40_19, hr40_20, hw40_20, hr40_21, hw40_21, hr40_22, hw40_22, hr40_23, hw40_23, hr40_24, hr40_25, hw40_25, hr40_26, hw40_26, hr40_27, hw40_27, hr40_28, hr40_29, hr40_30, hr40_31, hr40_32, hr40_33, hr40_34, hw40_34, hr40_35, hw40_35, hr40_36, hr40_37, hr40_38, hr40_39, hr40_40, hw40_40, hr40_41, hr40_42, hr40_43, hl41, hs41, hl42, hs42, hl43, hs43, hl44, hs44, hl45, hs45, hl46, hs46, hl47, hs47, hl48, hs48, hl49, hs49, hl50, hs50, hl51, hs51, hl52, hs52, hl53, hs53, hl54, hs54, hl55, hs55, hl56, hs56, hl57, hs57, hl58, hs58, hl59, hs59, hl60, hs60, hl61, hs61, hl62, hs62, hl63, hs63, hl64, hs64, hl65, hs65, hw40_24, upR_ne, hK, c1, s3, s4, s5, chF, e1]
  | succ k ih =>
    intro m i ch hi hm
    obtain ⟨m, rfl⟩ : ∃ m', m = m' + 1 := ⟨m - 1, by omega⟩
    have c1 : ¬ nI kk ≤ nI i := nI_ge (by omega) (by omega)
    have co := lp_m40 (b := b) (D := upR D 55 ch) (w := w) (T := T) (pa := pa) (dr := dr) (np := np) (mk := mk) hs hn h1 (fX10_beatOne_25 m) (nI i) n FU 0 (by omega) (by unfold FU; omega)
    rw [show upR D 55 ch 54 = D 54 from rfl, show upR D 55 ch 53 = D 53 from rfl, show upR D 55 ch 57 = D 57 from rfl, show upR D 55 ch 58 = D 58 from rfl, upR_same, nI_0, show old (D 54) (D 53) (D 57 (2 * s)) (D 57 (2 * s + 1)) (D 58 (2 * s)) (D 58 (2 * s + 1)) ch 0 = -1 from rfl] at co
    have hix := old_ix (A := D 54) (Y := D 53) (lo := D 57 (2 * s)) (hi := D 57 (2 * s + 1)) (dl := D 58 (2 * s)) (dh := D 58 (2 * s + 1)) (ch := ch) n
    unfold chF
    by_cases q3 : old (D 54) (D 53) (D 57 (2 * s)) (D 57 (2 * s + 1)) (D 58 (2 * s)) (D 58 (2 * s + 1)) ch n = -1
    · rw [if_pos q3] at co
      rw [if_pos q3]
      simp (decide := true) only [fX10_beatOne_25, bn_s, bn2_s, nm_s, onul_n, onul_s, if_true, if_false, and_self, and_true, true_and, and_false, false_and, or_self, or_false, false_or, or_true, true_or, not_true_eq_false, not_false_eq_true, eq_self, ne_eq, i01, up2_same, up2_ne, upd_app, hk40, hr40_0, hw40_0, hr40_1, hw40_1, hr40_2, hw40_2, hr40_3, hr40_4, hw40_4, hr40_5, hr40_6, hr40_7, hr40_8, hr40_9, hw40_9, hr40_10, hw40_10, hr40_11, hr40_12, hr40_13, hw40_13, hr40_14, hw40_14, hr40_15, hr40_16, hr40_17, hr40_18, hr40_19, hr40_20, hw40_20, hr40_21, hw40_21, hr40_22, hw40_22, hr40_23, hw40_23, hr40_24, hr40_25, hw40_25, hr40_26, hw40_26, hr40_27, hw40_27, hr40_28, hr40_29, hr40_30, hr40_31, hr40_32, hr40_33, hr40_34, hw40_34, hr40_35, hw40_35, hr40_36, hr40_37, hr40_38, hr40_39, hr40_40, hw40_40, hr40_41, hr40_42, hr40_43, hl41, hs41, hl42, hs42, hl43, hs43, hl44, hs44, hl45, hs45, hl46, hs46, hl47, hs47, hl48, hs48, hl49, hs49, hl50, hs50, hl51, hs51, hl52, hs52, hl53, hs53, hl54, hs54, hl55, hs55, hl56, hs56, hl57, hs57, hl58, hs58, hl59, hs59, hl60, hs60, hl61, hs61, hl62, hs62, hl63, hs63, hl64, hs64, hl65, hs65, hw40_24, upR_ne, hK, c1, s3, s4, s5, co]
    · rw [if_neg q3] at co
      rw [if_neg q3]
      have ih := ih m (i + 1) (upd ch (old (D 54) (D 53) (D 57 (2 * s)) (D 57 (2 * s + 1)) (D 58 (2 * s)) (D 58 (2 * s + 1)) ch n).toNatClampNeg 1) (by omega) (by omega)
      have eu : up2 (upR D 55 ch) 55 (old (D 54) (D 53) (D 57 (2 * s)) (D 57 (2 * s + 1)) (D 58 (2 * s)) (D 58 (2 * s + 1)) ch n).toNatClampNeg 1 = upR D 55 (upd ch (old (D 54) (D 53) (D 57 (2 * s)) (D 57 (2 * s + 1)) (D 58 (2 * s)) (D 58 (2 * s + 1)) ch n).toNatClampNeg 1) := by rw [upR_up, upR_upR, upR_same]
      rw [eu, nI_1] at co
      rw [← ih, ← co]
      simp (decide := true) only [fX10_beatOne_25, bn_s, bn2_s, nm_s, onul_n, onul_s, if_true, if_false, and_self, and_true, true_and, and_false, false_and, or_self, or_false, false_or, or_true, true_or, not_true_eq_false, not_false_eq_true, eq_self, ne_eq, i01, up2_same, up2_ne, upd_app, hk40, hr40_0, hw40_0, hr40_1, hw40_1, hr40_2, hw40_2, hr40_3, hr40_4, hw40_4, hr40_5, hr40_6, hr40_7, hr40_8, hr40_9, hw40_9, hr40_10, hw40_10, hr40_11, hr40_12, hr40_13, hw40_13, hr40_14, hw40_14, hr40_15, hr40_16, hr40_17, hr40_18, hr40_19, hr40_20, hw40_20, hr40_21, hw40_21, hr40_22, hw40_22, hr40_23, hw40_23, hr40_24, hr40_25, hw40_25, hr40_26, hw40_26, hr40_27, hw40_27, hr40_28, hr40_29, hr40_30, hr40_31, hr40_32, hr40_33, hr40_34, hw40_34, hr40_35, hw40_35, hr40_36, hr40_37, hr40_38, hr40_39, hr40_40, hw40_40, hr40_41, hr40_42, hr40_43, hl41, hs41, hl42, hs42, hl43, hs43, hl44, hs44, hl45, hs45, hl46, hs46, hl47, hs47, hl48, hs48, hl49, hs49, hl50, hs50, hl51, hs51, hl52, hs52, hl53, hs53, hl54, hs54, hl55, hs55, hl56, hs56, hl57, hs57, hl58, hs58, hl59, hs59, hl60, hs60, hl61, hs61, hl62, hs62, hl63, hs63, hl64, hs64, hl65, hs65, hw40_24, upR_ne, hK, c1, s3, s4, s5]
theorem lp_m2 {s n : Nat} (hn : n ≤ 60) (h1 : D 40 27 = nI n) : ∀ (k m i : Nat) (ch : Nat → Int32), i + k = n → k < m → fX10_beatOne_2 m (b + 40) (nI s) (nI i) (HH b (upR D 55 (clr ch i)) w T pa dr np mk) = fX10_beatOne_25 FU (b + 40) (nI s) 0 (HH b (upR D 55 (clr ch n)) w T pa dr np mk) := by
  intro k
  induction k with
  | zero =>
    intro m i ch hi hm
    obtain ⟨m, rfl⟩ : ∃ m', m = m' + 1 := ⟨m - 1, by omega⟩
    have e : i = n := by omega
    subst e
    have c1 : nI i ≤ nI i := nI_le (Nat.le_refl _) (by omega)
    simp (decide := true) only [fX10_beatOne_2, upR_ne, h1, c1, bn_s, bn2_s, nm_s, onul_n, onul_s, if_true, if_false, and_self, and_true, true_and, and_false, false_and, or_self, or_false, false_or, or_true, true_or, not_true_eq_false, not_false_eq_true, eq_self, ne_eq, i01, up2_same, up2_ne, upd_app, hk40, hr40_0, hw40_0, hr40_1, hw40_1, hr40_2, hw40_2, hr40_3, hr40_4, hw40_4, hr40_5, hr40_6, hr40_7, hr40_8, hr40_9, hw40_9, hr40_10, hw40_10, hr40_11, hr40_12, hr40_13, hw40_13, hr40_14, hw40_14, hr40_15, hr40_16, hr40_17, hr40_18, hr40_19, hr40_20, hw40_20, hr40_21, hw40_21, hr40_22, hw40_22, hr40_23, hw40_23, hr40_24, hr40_25, hw40_25, hr40_26, hw40_26, hr40_27, hw40_27, hr40_28, hr40_29, hr40_30, hr40_31, hr40_32, hr40_33, hr40_34, hw40_34, hr40_35, hw40_35, hr40_36, hr40_37, hr40_38, hr40_39, hr40_40, hw40_40, hr40_41, hr40_42, hr40_43, hl41, hs41, hl42, hs42, hl43, hs43, hl44, hs44, hl45, hs45, hl46, hs46, hl47, hs47, hl48, hs48, hl49, hs49, hl50, hs50, hl51, hs51, hl52, hs52, hl53, hs53, hl54, hs54, hl55, hs55, hl56, hs56, hl57, hs57, hl58, hs58, hl59, hs59, hl60, hs60, hl61, hs61, hl62, hs62, hl63, hs63, hl64, hs64, hl65, hs65, hw40_24]
  | succ k ih =>
    intro m i ch hi hm
    obtain ⟨m, rfl⟩ : ∃ m', m = m' + 1 := ⟨m - 1, by omega⟩
    have c1 : ¬ nI n ≤ nI i := nI_ge (by omega) (by omega)
    have c3 : ¬ nI i < 0 := nI_pos (by omega)
    have c4 : (nI i).toNatClampNeg = i := nI_clamp (by omega)
    have c5 : ¬ 60 ≤ i := by omega
    have ih := ih m (i + 1) ch (by omega) (by omega)
    have eu : up2 (upR D 55 (clr ch i)) 55 i 0 = upR D 55 (clr ch (i + 1)) := by
      rw [upR_up, upR_upR, upR_same]
      congr 1
      funext j
      rw [upd_app]
      unfold clr
      by_cases z : j = i
      · rw [if_pos z, if_pos (by omega)]
      · rw [if_neg z]
        by_cases z2 : j < i
        · rw [if_pos z2, if_pos (by omega)]
        · rw [if_neg z2, if_neg (by omega)]
    simp (decide := true) only [fX10_beatOne_2, upR_ne, h1, bn_s, bn2_s, nm_s, onul_n, onul_s, if_true, if_false, and_self, and_true, true_and, and_false, false_and, or_self, or_false, false_or, or_true, true_or, not_true_eq_false, not_false_eq_true, eq_self, ne_eq, i01, up2_same, up2_ne, upd_app, hk40, hr40_0, hw40_0, hr40_1, hw40_1, hr40_2, hw40_2, hr40_3, hr40_4, hw40_4, hr40_5, hr40_6, hr40_7, hr40_8, hr40_9, hw40_9, hr40_10, hw40_10, hr40_11, hr40_12, hr40_13, hw40_13, hr40_14, hw40_14, hr40_15, hr40_16, hr40_17, hr40_18, hr40_19, hr40_20, hw40_20, hr40_21, hw40_21, hr40_22, hw40_22, hr40_23, hw40_23, hr40_24, hr40_25, hw40_25, hr40_26, hw40_26, hr40_27, hw40_27, hr40_28, hr40_29, hr40_30, hr40_31, hr40_32, hr40_33, hr40_34, hw40_34, hr40_35, hw40_35, hr40_36, hr40_37, hr40_38, hr40_39, hr40_40, hw40_40, hr40_41, hr40_42, hr40_43, hl41, hs41, hl42, hs42, hl43, hs43, hl44, hs44, hl45, hs45, hl46, hs46, hl47, hs47, hl48, hs48, hl49, hs49, hl50, hs50, hl51, hs51, hl52, hs52, hl53, hs53, hl54, hs54, hl55, hs55, hl56, hs56, hl57, hs57, hl58, hs58, hl59, hs59, hl60, hs60, hl61, hs61, hl62, hs62, hl63, hs63, hl64, hs64, hl65, hs65, hw40_24, c1, c3, c4, c5, eu, nI_1, ih]
theorem m_one {s n kk : Nat} (hs : s < 3) (hn : n ≤ 60) (hk : kk ≤ 20) (h1 : D 40 27 = nI n) (hK : D 56 s = nI kk) : fX10_beatOne (b + 40) (nI s) (HH b D w T pa dr np mk) = some ((chF (D 54) (D 53) (D 57 (2 * s)) (D 57 (2 * s + 1)) (D 58 (2 * s)) (D 58 (2 * s + 1)) n kk (clr (D 55) n)).1, HH b (if (chF (D 54) (D 53) (D 57 (2 * s)) (D 57 (2 * s + 1)) (D 58 (2 * s)) (D 58 (2 * s + 1)) n kk (clr (D 55) n)).1 = 0 then upR D 55 (chF (D 54) (D 53) (D 57 (2 * s)) (D 57 (2 * s + 1)) (D 58 (2 * s)) (D 58 (2 * s + 1)) n kk (clr (D 55) n)).2 else upR (upR D 54 (agd (D 54) (chF (D 54) (D 53) (D 57 (2 * s)) (D 57 (2 * s + 1)) (D 58 (2 * s)) (D 58 (2 * s + 1)) n kk (clr (D 55) n)).2 n)) 55 (chF (D 54) (D 53) (D 57 (2 * s)) (D 57 (2 * s + 1)) (D 58 (2 * s)) (D 58 (2 * s + 1)) n kk (clr (D 55) n)).2) w T pa dr np mk) := by
  have e1 := lp_m2 (b := b) (s := s) (w := w) (T := T) (pa := pa) (dr := dr) (np := np) (mk := mk) hn h1 n FU 0 (D 55) (by omega) (by unfold FU; omega)
  have e2 := lp_m25 (b := b) (w := w) (T := T) (pa := pa) (dr := dr) (np := np) (mk := mk) hs hn hk h1 hK kk FU 0 (clr (D 55) n) (by omega) (by unfold FU; omega)
  have e0 : clr (D 55) 0 = D 55 := by funext j; exact if_neg (by omega)
  rw [e0, upR_self, nI_0] at e1
  rw [nI_0] at e2
  unfold fX10_beatOne
  rw [e1, e2]
theorem lp_mb {s n kk ask : Nat} (hs : s < 3) (hn : n ≤ 60) (hk : kk ≤ 20) (hask : ask ≤ 20) (h1 : D 40 27 = nI n) (hK : D 56 s = nI kk) : ∀ (r m i : Nat) (A c0 : Nat → Int32), i + r = ask → r + 1 < m → ∃ c1 v, fX10_beat_40 m (b + 40) (nI s) (nI ask) (nI i) 1 (HH b (upR (upR D 54 A) 55 c0) w T pa dr np mk) = some (nI (i + (btF (D 53) (D 57 (2 * s)) (D 57 (2 * s + 1)) (D 58 (2 * s)) (D 58 (2 * s + 1)) n kk r A).1), HH b (up2 (upR (upR D 54 (btF (D 53) (D 57 (2 * s)) (D 57 (2 * s + 1)) (D 58 (2 * s)) (D 58 (2 * s + 1)) n kk r A).2) 55 c1) 40 1 v) w T pa dr np mk) ∧ v = (if nI (i + (btF (D 53) (D 57 (2 * s)) (D 57 (2 * s + 1)) (D 58 (2 * s)) (D 58 (2 * s + 1)) n kk r A).1) < 0 then nI (i + (btF (D 53) (D 57 (2 * s)) (D 57 (2 * s + 1)) (D 58 (2 * s)) (D 58 (2 * s + 1)) n kk r A).1) else 0) := by
  intro r
  induction r with
  | zero =>
    intro m i A c0 hi hm
    obtain ⟨m, rfl⟩ : ∃ m', m = m' + 1 := ⟨m - 1, by omega⟩
    have e : i = ask := by omega
    subst e
    have c1 : nI i ≤ nI i := nI_le (Nat.le_refl _) (by omega)
    refine ⟨c0, _, ?_, rfl⟩
    simp (decide := true) only [fX10_beat_40, bn_s, bn2_s, nm_s, onul_n, onul_s, if_true, if_false, and_self, and_true, true_and, and_false, false_and, or_self, or_false, false_or, or_true, true_or, not_true_eq_false, not_false_eq_true, eq_self, ne_eq, i01, up2_same, up2_ne, upd_app, hk40, f_told, c1, btF, Nat.add_zero]
    rfl
  | succ r ih =>
    intro m i A c0 hi hm
    obtain ⟨m, rfl⟩ : ∃ m', m = m' + 1 := ⟨m - 1, by omega⟩
    have c1 : ¬ nI ask ≤ nI i := nI_ge (by omega) (by omega)
    have cc := m_one (b := b) (D := upR (upR D 54 A) 55 c0) (w := w) (T := T) (pa := pa) (dr := dr) (np := np) (mk := mk) hs hn hk h1 hK
    rw [show upR (upR D 54 A) 55 c0 54 = A from rfl, show upR (upR D 54 A) 55 c0 53 = D 53 from rfl, show upR (upR D 54 A) 55 c0 57 = D 57 from rfl, show upR (upR D 54 A) 55 c0 58 = D 58 from rfl, upR_same, upR_upR] at cc
    have hcg := chF_congr (A := A) (Y := D 53) (lo := D 57 (2 * s)) (hi := D 57 (2 * s + 1)) (dl := D 58 (2 * s)) (dh := D 58 (2 * s + 1)) (n := n) kk (clr c0 n) (fun _ => 0) (fun i hi => if_pos hi)
    rw [hcg.1] at cc
    have ha := agd_congr (A := A) (n := n) hcg.2
    unfold btF
    rw [ha] at cc
    generalize chF A (D 53) (D 57 (2 * s)) (D 57 (2 * s + 1)) (D 58 (2 * s)) (D 58 (2 * s + 1)) n kk (clr c0 n) = u at cc
    have h01 := chF_01 (A := A) (Y := D 53) (lo := D 57 (2 * s)) (hi := D 57 (2 * s + 1)) (dl := D 58 (2 * s)) (dh := D 58 (2 * s + 1)) (n := n) kk (fun _ => 0)
    generalize chF A (D 53) (D 57 (2 * s)) (D 57 (2 * s + 1)) (D 58 (2 * s)) (D 58 (2 * s + 1)) n kk (fun _ => 0) = t at cc h01 ⊢
    by_cases q : t.1 = 0
    · rw [if_pos q] at cc
      obtain ⟨m, rfl⟩ : ∃ m', m = m' + 1 := ⟨m - 1, by omega⟩
      rw [if_pos q]
      refine ⟨u.2, _, ?_, rfl⟩
      rw [fX10_beat_40]
      simp (decide := true) only [bn_s, bn2_s, nm_s, onul_n, onul_s, if_true, if_false, and_self, and_true, true_and, and_false, false_and, or_self, or_false, false_or, or_true, true_or, not_true_eq_false, not_false_eq_true, eq_self, ne_eq, i01, up2_same, up2_ne, upd_app, hk40, c1, cc, q, fX10_beat_68, Int32.add_zero]
      rw [fX10_beat_40]
      simp (decide := true) only [bn_s, bn2_s, nm_s, onul_n, onul_s, if_true, if_false, and_self, and_true, true_and, and_false, false_and, or_self, or_false, false_or, or_true, true_or, not_true_eq_false, not_false_eq_true, eq_self, ne_eq, i01, up2_same, up2_ne, upd_app, hk40, f_told, c1, Nat.add_zero]
    · rw [if_neg q] at cc
      rw [if_neg q]
      have q1 : t.1 = 1 := h01.resolve_left q
      have eR : upR (upR (upR (upR D 54 A) 55 c0) 54 (agd A t.2 n)) 55 u.2 = upR (upR D 54 (agd A t.2 n)) 55 u.2 := by
        funext x
        by_cases z : x = 55
        · subst z
          rfl
        · rw [upR_ne z, upR_ne z]
          by_cases z2 : x = 54
          · subst z2
            rfl
          · rw [upR_ne z2, upR_ne z, upR_ne z2, upR_ne z2]
      rw [eR] at cc
      obtain ⟨c2, v, ih, hv⟩ := ih m (i + 1) (agd A t.2 n) u.2 (by omega) (by omega)
      rw [show i + ((btF (D 53) (D 57 (2 * s)) (D 57 (2 * s + 1)) (D 58 (2 * s)) (D 58 (2 * s + 1)) n kk r (agd A t.2 n)).1 + 1) = i + 1 + (btF (D 53) (D 57 (2 * s)) (D 57 (2 * s + 1)) (D 58 (2 * s)) (D 58 (2 * s + 1)) n kk r (agd A t.2 n)).1 by omega]
      refine ⟨c2, v, ?_, hv⟩
      rw [q1] at cc
      simp (decide := true) only [fX10_beat_40, fX10_beat_68, bn_s, bn2_s, nm_s, onul_n, onul_s, if_true, if_false, and_self, and_true, true_and, and_false, false_and, or_self, or_false, false_or, or_true, true_or, not_true_eq_false, not_false_eq_true, eq_self, ne_eq, i01, up2_same, up2_ne, upd_app, hk40, c1, cc, nI_1, ih]
end
