theorem wS_congr {f g : Nat → Int32} : ∀ n, (∀ i, i < n → f i = g i) → wS f n = wS g n
  | 0, _ => rfl
  | n + 1, h => by
    unfold wS
    rw [wS_congr n (fun i hi => h i (by omega)), h n (by omega)]
theorem sI_congr {f g : Nat → Int} : ∀ n, (∀ i, i < n → f i = g i) → sI f n = sI g n
  | 0, _ => rfl
  | n + 1, h => by
    unfold sI
    rw [sI_congr n (fun i hi => h i (by omega)), h n (by omega)]
theorem cN_congr {f g : Nat → Bool} : ∀ n, (∀ i, i < n → f i = g i) → cN f n = cN g n
  | 0, _ => rfl
  | n + 1, h => by
    unfold cN
    rw [cN_congr n (fun i hi => h i (by omega)), h n (by omega)]
theorem sI_pos {f : Nat → Int} (h : ∀ i, 0 ≤ f i) : ∀ n, 0 ≤ sI f n
  | 0 => Int.le_refl _
  | n + 1 => by
    unfold sI
    have := sI_pos h n
    have := h n
    omega
theorem sI_mem {f : Nat → Int} (h : ∀ i, 0 ≤ f i) {p : Nat} : ∀ n, p < n → f p ≤ sI f n
  | 0, q => by omega
  | n + 1, q => by
    unfold sI
    have a := h n
    by_cases z : p = n
    · subst z
      have := sI_pos h p
      omega
    · have := sI_mem h (p := p) n (by omega)
      omega
/-- one place changes -/
theorem sI_one {f g : Nat → Int} {p : Nat} (h : ∀ i, i ≠ p → g i = f i) : ∀ n, p < n → sI g n = sI f n - f p + g p
  | 0, q => by omega
  | n + 1, q => by
    unfold sI
    by_cases z : p = n
    · subst z
      rw [sI_congr p (fun i hi => h i (by omega))]
      omega
    · rw [sI_one h n (by omega), h n (by omega)]
      omega
theorem cN_one {f g : Nat → Bool} {p : Nat} (h : ∀ i, i ≠ p → g i = f i) : ∀ n, p < n → cN g n + (if f p then 1 else 0) = cN f n + (if g p then 1 else 0)
  | 0, q => by omega
  | n + 1, q => by
    unfold cN
    by_cases z : p = n
    · subst z
      rw [cN_congr p (fun i hi => h i (by omega))]
      omega
    · have := cN_one h n (by omega)
      rw [h n (by omega)]
      omega
theorem cN_le {f : Nat → Bool} : ∀ n, cN f n ≤ n
  | 0 => Nat.le_refl _
  | n + 1 => by
    unfold cN
    have := cN_le (f := f) n
    split <;> omega
theorem cN_pos {f : Nat → Bool} {p : Nat} (hp : f p = true) : ∀ n, p < n → 1 ≤ cN f n
  | 0, q => by omega
  | n + 1, q => by
    unfold cN
    by_cases z : p = n
    · subst z
      rw [hp]
      simp
    · have := cN_pos hp n (by omega)
      omega
theorem pm10 (k i : Nat) : (10 : Int32) * nI k + nI i = nI (10 * k + i) := by
  rw [show (10 : Int32) * nI k = nI (10 * k) from pk_mul 10 k, nI_add]
theorem pm3 (k i : Nat) : (3 : Int32) * nI k + nI i = nI (3 * k + i) := by
  rw [show (3 : Int32) * nI k = nI (3 * k) from pk_mul 3 k, nI_add]
section
variable {b : Nat} {D : Nat → Nat → Int32} {w : Int64} {T : Nat → Int64} {pa dr np mk : Nat}
theorem f_living {k : Nat} (hk : k < np) (hn : np ≤ 120) (hm : np ≤ mk) (h : D 1 4 = nI np) : fX7_living (b + 1) (nI k) (HH b D w T pa dr np mk) = some (if D (66 + 2 * k) 4 = 0 then some (b + 66 + 2 * k) else none, HH b D w T pa dr np mk) := by
  have c1 : ¬ nI k < 0 := nI_pos (by omega)
  have c2 : nI k < nI np := nI_lt hk (by omega)
  have c3 : (nI k).toNatClampNeg = k := nI_clamp (by omega)
  have c4 : ¬ 120 ≤ k := by omega
  have c5 := hrP_4 (b := b) (D := D) (w := w) (T := T) (pa := pa) (dr := dr) (np := np) (show k < mk by omega)
  by_cases q : D (66 + 2 * k) 4 = 0
  · simp (decide := true) only [fX7_living, bn_s, bn2_s, nm_s, onul_n, onul_s, if_true, if_false, and_self, and_true, true_and, and_false, false_and, or_self, or_false, false_or, or_true, true_or, not_true_eq_false, not_false_eq_true, eq_self, ne_eq, i01, up2_same, up2_ne, upd_app, hr1_4, hr1_0, hl2, h, c1, c2, c3, c4, hk, c5, q]
  · simp (decide := true) only [fX7_living, bn_s, bn2_s, nm_s, onul_n, onul_s, if_true, if_false, and_self, and_true, true_and, and_false, false_and, or_self, or_false, false_or, or_true, true_or, not_true_eq_false, not_false_eq_true, eq_self, ne_eq, i01, up2_same, up2_ne, upd_app, hr1_4, hr1_0, hl2, h, c1, c2, c3, c4, hk, c5, q]
theorem f_livingN {p : Int32} (hp : ¬ (0 ≤ p ∧ p < nI np)) (h : D 1 4 = nI np) : fX7_living (b + 1) p (HH b D w T pa dr np mk) = some (none, HH b D w T pa dr np mk) := by
  by_cases q : p < 0
  · simp (decide := true) only [fX7_living, bn_s, bn2_s, nm_s, onul_n, onul_s, if_true, if_false, and_self, and_true, true_and, and_false, false_and, or_self, or_false, false_or, or_true, true_or, not_true_eq_false, not_false_eq_true, eq_self, ne_eq, i01, up2_same, up2_ne, upd_app, q]
  · have q2 : ¬ p < nI np := fun z => hp ⟨by rw [lt3] at q; rw [le3]; omega, z⟩
    simp (decide := true) only [fX7_living, bn_s, bn2_s, nm_s, onul_n, onul_s, if_true, if_false, and_self, and_true, true_and, and_false, false_and, or_self, or_false, false_or, or_true, true_or, not_true_eq_false, not_false_eq_true, eq_self, ne_eq, i01, up2_same, up2_ne, upd_app, hr1_4, h, q, q2]
theorem f_isP {k n : Nat} (hk : k < n) (hn : n ≤ 120) (h : D 40 4 = nI n) : fX10_isPiece (b + 40) (nI k) (HH b D w T pa dr np mk) = some (if D 42 k = 0 then 1 else 0, HH b D w T pa dr np mk) := by
  have c1 : ¬ nI k < 0 := nI_pos (by omega)
  have c2 : 0 ≤ nI k ∧ nI k < nI n := ⟨nI_pos' (by omega), nI_lt hk (by omega)⟩
  have c3 : (nI k).toNatClampNeg = k := nI_clamp (by omega)
  have c4 : ¬ 120 ≤ k := by omega
  by_cases q : D 42 k = 0
  · simp (decide := true) only [fX10_isPiece, f_in, bn_s, bn2_s, nm_s, onul_n, onul_s, if_true, if_false, and_self, and_true, true_and, and_false, false_and, or_self, or_false, false_or, or_true, true_or, not_true_eq_false, not_false_eq_true, eq_self, ne_eq, i01, up2_same, up2_ne, upd_app, el_0, el_1, el_2, el_3, el_20, el_50, el_100, el_200, el_1000, el_10000, el_1000000, el_m1000000, el_100000000, er_0, er_1, er_2, er_3, er_20, er_50, er_100, er_200, er_1000, er_10000, er_1000000, er_m1000000, er_100000000, hr40_4, hr40_5, hl42, h, wid_le, sub1_le, c1, c2, c3, c4, q]
  · simp (decide := true) only [fX10_isPiece, f_in, bn_s, bn2_s, nm_s, onul_n, onul_s, if_true, if_false, and_self, and_true, true_and, and_false, false_and, or_self, or_false, false_or, or_true, true_or, not_true_eq_false, not_false_eq_true, eq_self, ne_eq, i01, up2_same, up2_ne, upd_app, el_0, el_1, el_2, el_3, el_20, el_50, el_100, el_200, el_1000, el_10000, el_1000000, el_m1000000, el_100000000, er_0, er_1, er_2, er_3, er_20, er_50, er_100, er_200, er_1000, er_10000, er_1000000, er_m1000000, er_100000000, hr40_4, hr40_5, hl42, h, wid_le, sub1_le, c1, c2, c3, c4, q]
theorem f_isPN {p : Int32} {n : Nat} (hp : ¬ (0 ≤ p ∧ p < nI n)) (h : D 40 4 = nI n) : fX10_isPiece (b + 40) p (HH b D w T pa dr np mk) = some (0, HH b D w T pa dr np mk) := by
  simp (decide := true) only [fX10_isPiece, f_in, bn_s, bn2_s, nm_s, onul_n, onul_s, if_true, if_false, and_self, and_true, true_and, and_false, false_and, or_self, or_false, false_or, or_true, true_or, not_true_eq_false, not_false_eq_true, eq_self, ne_eq, i01, up2_same, up2_ne, upd_app, el_0, el_1, el_2, el_3, el_20, el_50, el_100, el_200, el_1000, el_10000, el_1000000, el_m1000000, el_100000000, er_0, er_1, er_2, er_3, er_20, er_50, er_100, er_200, er_1000, er_10000, er_1000000, er_m1000000, er_100000000, hr40_4, h, wid_le, sub1_le, hp]
/-- a number is a living piece's, or it is none's -/
def dead (D : Nat → Nat → Int32) (np : Nat) (p : Int32) : Prop := ¬ (0 ≤ p ∧ p < nI np) ∨ ∃ k, k < np ∧ p = nI k ∧ ¬ D 42 k = 0 ∧ ¬ D (66 + 2 * k) 4 = 0
theorem f_livD {p : Int32} (hp : dead D np p) (hn : np ≤ 120) (hm : np ≤ mk) (h : D 1 4 = nI np) : fX7_living (b + 1) p (HH b D w T pa dr np mk) = some (none, HH b D w T pa dr np mk) := by
  rcases hp with q | ⟨k, hk, rfl, q1, q2⟩
  · exact f_livingN q h
  · rw [f_living hk hn hm h, if_neg q2]
theorem f_isPD {E : Nat → Nat → Int32} {p : Int32} {n : Nat} (hp : dead E n p) (hn : n ≤ 120) (h : D 40 4 = nI n) (e : D 42 = E 42) : fX10_isPiece (b + 40) p (HH b D w T pa dr np mk) = some (0, HH b D w T pa dr np mk) := by
  rcases hp with q | ⟨k, hk, rfl, q1, q2⟩
  · exact f_isPN q h
  · rw [f_isP hk hn h, e, if_neg q1]
theorem f_liv0 {k : Nat} (hk : k < np) (hn : np ≤ 120) (hm : np ≤ mk) (h : D 1 4 = nI np) (q : D (66 + 2 * k) 4 = 0) : fX7_living (b + 1) (nI k) (HH b D w T pa dr np mk) = some (some (b + 66 + 2 * k), HH b D w T pa dr np mk) := by
  rw [f_living hk hn hm h, if_pos q]
theorem f_isP1 {k n : Nat} (hk : k < n) (hn : n ≤ 120) (h : D 40 4 = nI n) (q : D 42 k = 0) : fX10_isPiece (b + 40) (nI k) (HH b D w T pa dr np mk) = some (1, HH b D w T pa dr np mk) := by
  rw [f_isP hk hn h, if_pos q]
theorem p_split {D : Nat → Nat → Int32} {np : Nat} (h : ∀ p, p < np → Pc1 D p) (hn : np ≤ 120) (p : Int32) : dead D np p ∨ ∃ k, k < np ∧ p = nI k ∧ D 42 k = 0 ∧ D (66 + 2 * k) 4 = 0 := by
  by_cases q : 0 ≤ p ∧ p < nI np
  · obtain ⟨_, k, hk, rfl, _, _⟩ := ix_of q.1 q.2 hn (by decide)
    have e := (h k hk).2.1
    by_cases z : D 42 k = 0
    · exact Or.inr ⟨k, hk, rfl, z, e.trans z⟩
    · exact Or.inl (Or.inr ⟨k, hk, rfl, z, fun y => z (e.symm.trans y)⟩)
  · exact Or.inl (Or.inl q)
theorem f_mLeaf {k : Nat} (hk : k < 120) : fX10_isLeaf (b + 40) (nI k) (HH b D w T pa dr np mk) = some (if D 44 k ≤ 0 then 0 else 1, HH b D w T pa dr np mk) := by
  have c1 : ¬ nI k < 0 := nI_pos (by omega)
  have c3 : (nI k).toNatClampNeg = k := nI_clamp (by omega)
  have c4 : ¬ 120 ≤ k := by omega
  by_cases q : D 44 k ≤ 0
  · simp (decide := true) only [fX10_isLeaf, bn_s, bn2_s, nm_s, onul_n, onul_s, if_true, if_false, and_self, and_true, true_and, and_false, false_and, or_self, or_false, false_or, or_true, true_or, not_true_eq_false, not_false_eq_true, eq_self, ne_eq, i01, up2_same, up2_ne, upd_app, hr40_7, hl44, c1, c3, c4, q]
  · simp (decide := true) only [fX10_isLeaf, bn_s, bn2_s, nm_s, onul_n, onul_s, if_true, if_false, and_self, and_true, true_and, and_false, false_and, or_self, or_false, false_or, or_true, true_or, not_true_eq_false, not_false_eq_true, eq_self, ne_eq, i01, up2_same, up2_ne, upd_app, hr40_7, hl44, c1, c3, c4, q]
theorem f_cLeaf {k : Nat} (hk : k < mk) : fX5_isLeaf (b + 66 + 2 * k) (HH b D w T pa dr np mk) = some (if D (66 + 2 * k) 2 ≤ 0 then 0 else 1, HH b D w T pa dr np mk) := by
  by_cases q : D (66 + 2 * k) 2 ≤ 0
  · simp (decide := true) only [fX5_isLeaf, bn_s, bn2_s, nm_s, onul_n, onul_s, if_true, if_false, and_self, and_true, true_and, and_false, false_and, or_self, or_false, false_or, or_true, true_or, not_true_eq_false, not_false_eq_true, eq_self, ne_eq, i01, up2_same, up2_ne, upd_app, hrP_2 hk, q]
  · simp (decide := true) only [fX5_isLeaf, bn_s, bn2_s, nm_s, onul_n, onul_s, if_true, if_false, and_self, and_true, true_and, and_false, false_and, or_self, or_false, false_or, or_true, true_or, not_true_eq_false, not_false_eq_true, eq_self, ne_eq, i01, up2_same, up2_ne, upd_app, hrP_2 hk, q]
theorem lp_wt {k : Nat} (hk : k < 120) : ∀ (n m i : Nat), i + n = 10 → n < m → fX10_weightOf_4 m (b + 40) (nI k) (wS (fun i => D 43 (10 * k + i)) i) (nI i) (HH b D w T pa dr np mk) = some (wS (fun i => D 43 (10 * k + i)) 10, HH b D w T pa dr np mk) := by
  intro n
  induction n with
  | zero =>
    intro m i hi hm
    obtain ⟨m, rfl⟩ : ∃ m', m = m' + 1 := ⟨m - 1, by omega⟩
    have e : i = 10 := by omega
    subst e
    have c1 : (10 : Int32) ≤ nI 10 := nI_le (a := 10) (Nat.le_refl _) (by omega)
    simp (decide := true) only [fX10_weightOf_4, bn_s, bn2_s, nm_s, onul_n, onul_s, if_true, if_false, and_self, and_true, true_and, and_false, false_and, or_self, or_false, false_or, or_true, true_or, not_true_eq_false, not_false_eq_true, eq_self, ne_eq, i01, up2_same, up2_ne, upd_app, c1]
  | succ n ih =>
    intro m i hi hm
    obtain ⟨m, rfl⟩ : ∃ m', m = m' + 1 := ⟨m - 1, by omega⟩
    have c1 : ¬ (10 : Int32) ≤ nI i := nI_ge (b := 10) (by omega) (by omega)
    have c3 : ¬ nI (10 * k + i) < 0 := nI_pos (by omega)
    have c4 : (nI (10 * k + i)).toNatClampNeg = 10 * k + i := nI_clamp (by omega)
    have c5 : ¬ 1200 ≤ 10 * k + i := by omega
    have ih := ih m (i + 1) (by omega) (by omega)
    have es : wS (fun i => D 43 (10 * k + i)) (i + 1) = wS (fun i => D 43 (10 * k + i)) i + D 43 (10 * k + i) := rfl
    rw [es] at ih
    simp (decide := true) only [fX10_weightOf_4, bn_s, bn2_s, nm_s, onul_n, onul_s, if_true, if_false, and_self, and_true, true_and, and_false, false_and, or_self, or_false, false_or, or_true, true_or, not_true_eq_false, not_false_eq_true, eq_self, ne_eq, i01, up2_same, up2_ne, upd_app, hr40_6, hl43, pm10, c1, c3, c4, c5, nI_1, ih]
theorem f_wt {k : Nat} (hk : k < 120) : fX10_weightOf (b + 40) (nI k) (HH b D w T pa dr np mk) = some (wS (fun i => D 43 (10 * k + i)) 10, HH b D w T pa dr np mk) := by
  have := lp_wt (b := b) (D := D) (w := w) (T := T) (pa := pa) (dr := dr) (np := np) (mk := mk) hk 10 FU 0 (by omega) (by unfold FU; omega)
  rw [nI_0] at this
  exact this
theorem op_weight (hI : Inv D pa dr np) (p : Int32) : Good b (armF (fX9_weight b p) (fX10_weight (b + 40) p) (HH b D w T pa dr np np)) := by
  obtain ⟨s1, s2, s3, s4, s5, s6⟩ := hI
  obtain ⟨nb, hnb, hn, h1, h2, h3, h4, h5, h5', h6, h7⟩ := id s6
  rcases p_split h6 hn p with q | ⟨k, hk, rfl, q1, q2⟩
  · simp (decide := true) only [armF, fX9_weight, fX10_weight, f_livD q hn (Nat.le_refl _) h3, f_isPD q hn, bn_s, bn2_s, nm_s, onul_n, onul_s, if_true, if_false, and_self, and_true, true_and, and_false, false_and, or_self, or_false, false_or, or_true, true_or, not_true_eq_false, not_false_eq_true, eq_self, ne_eq, i01, up2_same, up2_ne, upd_app, hk40, hr40_0, hw40_0, hr40_1, hw40_1, hr40_2, hw40_2, hr40_3, hr40_4, hw40_4, hr40_5, hr40_6, hr40_7, hr40_8, hr40_9, hw40_9, hr40_10, hw40_10, hr40_11, hr40_12, hr40_13, hw40_13, hr40_14, hw40_14, hr40_15, hr40_16, hr40_17, hr40_18, hr40_19, hr40_20, hw40_20, hr40_21, hw40_21, hr40_22, hw40_22, hr40_23, hw40_23, hr40_24, hr40_25, hw40_25, hr40_26, hw40_26, hr40_27, hw40_27, hr40_28, hr40_29, hr40_30, hr40_31, hr40_32, hr40_33, hr40_34, hw40_34, hr40_35, hw40_35, hr40_36, hr40_37, hr40_38, hr40_39, hr40_40, hw40_40, hr40_41, hr40_42, hr40_43, hl41, hs41, hl42, hs42, hl43, hs43, hl44, hs44, hl45, hs45, hl46, hs46, hl47, hs47, hl48, hs48, hl49, hs49, hl50, hs50, hl51, hs51, hl52, hs52, hl53, hs53, hl54, hs54, hl55, hs55, hl56, hs56, hl57, hs57, hl58, hs58, hl59, hs59, hl60, hs60, hl61, hs61, hl62, hs62, hl63, hs63, hl64, hs64, hl65, hs65, hw40_24, hk0, hr0_0, hr0_1, hr0_2, hr0_3, hr0_4, hr0_5, hr0_6, hr0_7, hr0_8, hw0_8, hr0_9, hw0_9, hk1, hr1_0, hr1_1, hr1_2, hr1_3, hw1_3, hr1_4, hw1_4, hl4, hs4, hl5, hs5, hl6, hs6, hk8, hr8_0, hw8_0, hr8_1, hw8_1, hr8_2, hw8_2, hk9, hr9_0, hr9_1, hr9_2, hk10, hr10_0, hr10_1, hw10_1, hr10_2, hw10_2, hr10_3, hw10_3, hr10_4, hw10_4, hl11, hs11, hl12, hs12, hl13, hs13, hk14, hr14_0, hr14_1, hr14_2, hr14_3, hr14_4, hw14_4, hk16, hr16_0, hw16_0, hr16_1, hw16_1, hr16_2, hw16_2, hr16_3, hw16_3, hr16_4, hw16_4, hk17, hr17_0, hw17_0, hr17_1, hw17_1, hr17_2, hw17_2, hr17_3, hw17_3, hr17_4, hw17_4, hk18, hr18_0, hw18_0, hr18_1, hw18_1, hr18_2, hw18_2, hr18_3, hw18_3, hr18_4, hw18_4, hl19, hs19, hl20, hs20, hl21, hs21, hk22, hr22_0, hr22_1, hr22_2, hr22_3, hr22_4, hw22_4, hr22_5, hr22_6, hr22_7, hr22_8, hw22_8, hl23, hs23, hl24, hs24, hl25, hs25, hl26, hs26, hl27, hs27, hl28, hs28, hl29, hs29, hk30, hr30_0, hw30_0, hr30_1, hw30_1, hr30_2, hr30_3, hr30_4, hr30_5, hl31, hs31, hl32, hs32, hl33, hs33, hl34, hs34, hk35, hr35_0, hw35_0, hr35_1, hw35_1, hr35_2, hr35_3, hr35_4, hr35_5, hl36, hs36, hl37, hs37, hl38, hs38, hl39, hs39, hw0_6, hw0_7, hl7, hs7, h4]
    exact ⟨_, _, _, _, _, _, rfl, ⟨s1.1, s1.2⟩, Isk_of s2 rfl rfl rfl rfl rfl rfl rfl rfl rfl rfl rfl rfl, Igt_of s3 rfl rfl rfl rfl rfl rfl rfl rfl rfl rfl rfl rfl rfl rfl rfl rfl rfl rfl, Itp_of s4 rfl rfl rfl rfl, Ipl_of s5 (fun o h1 h2 => by repeat (rw [up2_ne (by omega)])) rfl rfl rfl, Ipc_of s6 rfl rfl rfl rfl rfl rfl rfl rfl rfl rfl rfl rfl rfl rfl (fun x => by repeat (rw [up2_ne (by omega)]))⟩
  · have e := ((h6 k hk).2.2.2.2.1 q1).2
    simp (decide := true) only [armF, fX9_weight, fX10_weight, f_liv0 hk hn (Nat.le_refl _) h3 q2, f_isP1 hk hn, f_wt (show k < 120 by omega), hrP_1 hk, bn_s, bn2_s, nm_s, onul_n, onul_s, if_true, if_false, and_self, and_true, true_and, and_false, false_and, or_self, or_false, false_or, or_true, true_or, not_true_eq_false, not_false_eq_true, eq_self, ne_eq, i01, up2_same, up2_ne, upd_app, hk40, hr40_0, hw40_0, hr40_1, hw40_1, hr40_2, hw40_2, hr40_3, hr40_4, hw40_4, hr40_5, hr40_6, hr40_7, hr40_8, hr40_9, hw40_9, hr40_10, hw40_10, hr40_11, hr40_12, hr40_13, hw40_13, hr40_14, hw40_14, hr40_15, hr40_16, hr40_17, hr40_18, hr40_19, hr40_20, hw40_20, hr40_21, hw40_21, hr40_22, hw40_22, hr40_23, hw40_23, hr40_24, hr40_25, hw40_25, hr40_26, hw40_26, hr40_27, hw40_27, hr40_28, hr40_29, hr40_30, hr40_31, hr40_32, hr40_33, hr40_34, hw40_34, hr40_35, hw40_35, hr40_36, hr40_37, hr40_38, hr40_39, hr40_40, hw40_40, hr40_41, hr40_42, hr40_43, hl41, hs41, hl42, hs42, hl43, hs43, hl44, hs44, hl45, hs45, hl46, hs46, hl47, hs47, hl48, hs48, hl49, hs49, hl50, hs50, hl51, hs51, hl52, hs52, hl53, hs53, hl54, hs54, hl55, hs55, hl56, hs56, hl57, hs57, hl58, hs58, hl59, hs59, hl60, hs60, hl61, hs61, hl62, hs62, hl63, hs63, hl64, hs64, hl65, hs65, hw40_24, hk0, hr0_0, hr0_1, hr0_2, hr0_3, hr0_4, hr0_5, hr0_6, hr0_7, hr0_8, hw0_8, hr0_9, hw0_9, hk1, hr1_0, hr1_1, hr1_2, hr1_3, hw1_3, hr1_4, hw1_4, hl4, hs4, hl5, hs5, hl6, hs6, hk8, hr8_0, hw8_0, hr8_1, hw8_1, hr8_2, hw8_2, hk9, hr9_0, hr9_1, hr9_2, hk10, hr10_0, hr10_1, hw10_1, hr10_2, hw10_2, hr10_3, hw10_3, hr10_4, hw10_4, hl11, hs11, hl12, hs12, hl13, hs13, hk14, hr14_0, hr14_1, hr14_2, hr14_3, hr14_4, hw14_4, hk16, hr16_0, hw16_0, hr16_1, hw16_1, hr16_2, hw16_2, hr16_3, hw16_3, hr16_4, hw16_4, hk17, hr17_0, hw17_0, hr17_1, hw17_1, hr17_2, hw17_2, hr17_3, hw17_3, hr17_4, hw17_4, hk18, hr18_0, hw18_0, hr18_1, hw18_1, hr18_2, hw18_2, hr18_3, hw18_3, hr18_4, hw18_4, hl19, hs19, hl20, hs20, hl21, hs21, hk22, hr22_0, hr22_1, hr22_2, hr22_3, hr22_4, hw22_4, hr22_5, hr22_6, hr22_7, hr22_8, hw22_8, hl23, hs23, hl24, hs24, hl25, hs25, hl26, hs26, hl27, hs27, hl28, hs28, hl29, hs29, hk30, hr30_0, hw30_0, hr30_1, hw30_1, hr30_2, hr30_3, hr30_4, hr30_5, hl31, hs31, hl32, hs32, hl33, hs33, hl34, hs34, hk35, hr35_0, hw35_0, hr35_1, hw35_1, hr35_2, hr35_3, hr35_4, hr35_5, hl36, hs36, hl37, hs37, hl38, hs38, hl39, hs39, hw0_6, hw0_7, hl7, hs7, h4, q1, e]
    exact ⟨_, _, _, _, _, _, rfl, ⟨s1.1, s1.2⟩, Isk_of s2 rfl rfl rfl rfl rfl rfl rfl rfl rfl rfl rfl rfl, Igt_of s3 rfl rfl rfl rfl rfl rfl rfl rfl rfl rfl rfl rfl rfl rfl rfl rfl rfl rfl, Itp_of s4 rfl rfl rfl rfl, Ipl_of s5 (fun o h1 h2 => by repeat (rw [up2_ne (by omega)])) rfl rfl rfl, Ipc_of s6 rfl rfl rfl rfl rfl rfl rfl rfl rfl rfl rfl rfl rfl rfl (fun x => by repeat (rw [up2_ne (by omega)]))⟩
theorem op_book (hI : Inv D pa dr np) (p : Int32) : Good b (armF (fX9_book b p) (fX10_book (b + 40) p) (HH b D w T pa dr np np)) := by
  obtain ⟨s1, s2, s3, s4, s5, s6⟩ := hI
  obtain ⟨nb, hnb, hn, h1, h2, h3, h4, h5, h5', h6, h7⟩ := id s6
  rcases p_split h6 hn p with q | ⟨k, hk, rfl, q1, q2⟩
  · simp (decide := true) only [armF, fX9_book, fX10_book, f_livD q hn (Nat.le_refl _) h3, f_isPD q hn, bn_s, bn2_s, nm_s, onul_n, onul_s, if_true, if_false, and_self, and_true, true_and, and_false, false_and, or_self, or_false, false_or, or_true, true_or, not_true_eq_false, not_false_eq_true, eq_self, ne_eq, i01, up2_same, up2_ne, upd_app, hk40, hr40_0, hw40_0, hr40_1, hw40_1, hr40_2, hw40_2, hr40_3, hr40_4, hw40_4, hr40_5, hr40_6, hr40_7, hr40_8, hr40_9, hw40_9, hr40_10, hw40_10, hr40_11, hr40_12, hr40_13, hw40_13, hr40_14, hw40_14, hr40_15, hr40_16, hr40_17, hr40_18, hr40_19, hr40_20, hw40_20, hr40_21, hw40_21, hr40_22, hw40_22, hr40_23, hw40_23, hr40_24, hr40_25, hw40_25, hr40_26, hw40_26, hr40_27, hw40_27, hr40_28, hr40_29, hr40_30, hr40_31, hr40_32, hr40_33, hr40_34, hw40_34, hr40_35, hw40_35, hr40_36, hr40_37, hr40_38, hr40_39, hr40_40, hw40_40, hr40_41, hr40_42, hr40_43, hl41, hs41, hl42, hs42, hl43, hs43, hl44, hs44, hl45, hs45, hl46, hs46, hl47, hs47, hl48, hs48, hl49, hs49, hl50, hs50, hl51, hs51, hl52, hs52, hl53, hs53, hl54, hs54, hl55, hs55, hl56, hs56, hl57, hs57, hl58, hs58, hl59, hs59, hl60, hs60, hl61, hs61, hl62, hs62, hl63, hs63, hl64, hs64, hl65, hs65, hw40_24, hk0, hr0_0, hr0_1, hr0_2, hr0_3, hr0_4, hr0_5, hr0_6, hr0_7, hr0_8, hw0_8, hr0_9, hw0_9, hk1, hr1_0, hr1_1, hr1_2, hr1_3, hw1_3, hr1_4, hw1_4, hl4, hs4, hl5, hs5, hl6, hs6, hk8, hr8_0, hw8_0, hr8_1, hw8_1, hr8_2, hw8_2, hk9, hr9_0, hr9_1, hr9_2, hk10, hr10_0, hr10_1, hw10_1, hr10_2, hw10_2, hr10_3, hw10_3, hr10_4, hw10_4, hl11, hs11, hl12, hs12, hl13, hs13, hk14, hr14_0, hr14_1, hr14_2, hr14_3, hr14_4, hw14_4, hk16, hr16_0, hw16_0, hr16_1, hw16_1, hr16_2, hw16_2, hr16_3, hw16_3, hr16_4, hw16_4, hk17, hr17_0, hw17_0, hr17_1, hw17_1, hr17_2, hw17_2, hr17_3, hw17_3, hr17_4, hw17_4, hk18, hr18_0, hw18_0, hr18_1, hw18_1, hr18_2, hw18_2, hr18_3, hw18_3, hr18_4, hw18_4, hl19, hs19, hl20, hs20, hl21, hs21, hk22, hr22_0, hr22_1, hr22_2, hr22_3, hr22_4, hw22_4, hr22_5, hr22_6, hr22_7, hr22_8, hw22_8, hl23, hs23, hl24, hs24, hl25, hs25, hl26, hs26, hl27, hs27, hl28, hs28, hl29, hs29, hk30, hr30_0, hw30_0, hr30_1, hw30_1, hr30_2, hr30_3, hr30_4, hr30_5, hl31, hs31, hl32, hs32, hl33, hs33, hl34, hs34, hk35, hr35_0, hw35_0, hr35_1, hw35_1, hr35_2, hr35_3, hr35_4, hr35_5, hl36, hs36, hl37, hs37, hl38, hs38, hl39, hs39, hw0_6, hw0_7, hl7, hs7, h4]
    exact ⟨_, _, _, _, _, _, rfl, ⟨s1.1, s1.2⟩, Isk_of s2 rfl rfl rfl rfl rfl rfl rfl rfl rfl rfl rfl rfl, Igt_of s3 rfl rfl rfl rfl rfl rfl rfl rfl rfl rfl rfl rfl rfl rfl rfl rfl rfl rfl, Itp_of s4 rfl rfl rfl rfl, Ipl_of s5 (fun o h1 h2 => by repeat (rw [up2_ne (by omega)])) rfl rfl rfl, Ipc_of s6 rfl rfl rfl rfl rfl rfl rfl rfl rfl rfl rfl rfl rfl rfl (fun x => by repeat (rw [up2_ne (by omega)]))⟩
  · have e := (h6 k hk).2.2.2.1
    have c1 : ¬ nI k < 0 := nI_pos (by omega)
    have c3 : (nI k).toNatClampNeg = k := nI_clamp (by omega)
    have c4 : ¬ 120 ≤ k := by omega
    simp (decide := true) only [armF, fX9_book, fX10_book, f_liv0 hk hn (Nat.le_refl _) h3 q2, f_isP1 hk hn, hrP_3 hk, bn_s, bn2_s, nm_s, onul_n, onul_s, if_true, if_false, and_self, and_true, true_and, and_false, false_and, or_self, or_false, false_or, or_true, true_or, not_true_eq_false, not_false_eq_true, eq_self, ne_eq, i01, up2_same, up2_ne, upd_app, hk40, hr40_0, hw40_0, hr40_1, hw40_1, hr40_2, hw40_2, hr40_3, hr40_4, hw40_4, hr40_5, hr40_6, hr40_7, hr40_8, hr40_9, hw40_9, hr40_10, hw40_10, hr40_11, hr40_12, hr40_13, hw40_13, hr40_14, hw40_14, hr40_15, hr40_16, hr40_17, hr40_18, hr40_19, hr40_20, hw40_20, hr40_21, hw40_21, hr40_22, hw40_22, hr40_23, hw40_23, hr40_24, hr40_25, hw40_25, hr40_26, hw40_26, hr40_27, hw40_27, hr40_28, hr40_29, hr40_30, hr40_31, hr40_32, hr40_33, hr40_34, hw40_34, hr40_35, hw40_35, hr40_36, hr40_37, hr40_38, hr40_39, hr40_40, hw40_40, hr40_41, hr40_42, hr40_43, hl41, hs41, hl42, hs42, hl43, hs43, hl44, hs44, hl45, hs45, hl46, hs46, hl47, hs47, hl48, hs48, hl49, hs49, hl50, hs50, hl51, hs51, hl52, hs52, hl53, hs53, hl54, hs54, hl55, hs55, hl56, hs56, hl57, hs57, hl58, hs58, hl59, hs59, hl60, hs60, hl61, hs61, hl62, hs62, hl63, hs63, hl64, hs64, hl65, hs65, hw40_24, hk0, hr0_0, hr0_1, hr0_2, hr0_3, hr0_4, hr0_5, hr0_6, hr0_7, hr0_8, hw0_8, hr0_9, hw0_9, hk1, hr1_0, hr1_1, hr1_2, hr1_3, hw1_3, hr1_4, hw1_4, hl4, hs4, hl5, hs5, hl6, hs6, hk8, hr8_0, hw8_0, hr8_1, hw8_1, hr8_2, hw8_2, hk9, hr9_0, hr9_1, hr9_2, hk10, hr10_0, hr10_1, hw10_1, hr10_2, hw10_2, hr10_3, hw10_3, hr10_4, hw10_4, hl11, hs11, hl12, hs12, hl13, hs13, hk14, hr14_0, hr14_1, hr14_2, hr14_3, hr14_4, hw14_4, hk16, hr16_0, hw16_0, hr16_1, hw16_1, hr16_2, hw16_2, hr16_3, hw16_3, hr16_4, hw16_4, hk17, hr17_0, hw17_0, hr17_1, hw17_1, hr17_2, hw17_2, hr17_3, hw17_3, hr17_4, hw17_4, hk18, hr18_0, hw18_0, hr18_1, hw18_1, hr18_2, hw18_2, hr18_3, hw18_3, hr18_4, hw18_4, hl19, hs19, hl20, hs20, hl21, hs21, hk22, hr22_0, hr22_1, hr22_2, hr22_3, hr22_4, hw22_4, hr22_5, hr22_6, hr22_7, hr22_8, hw22_8, hl23, hs23, hl24, hs24, hl25, hs25, hl26, hs26, hl27, hs27, hl28, hs28, hl29, hs29, hk30, hr30_0, hw30_0, hr30_1, hw30_1, hr30_2, hr30_3, hr30_4, hr30_5, hl31, hs31, hl32, hs32, hl33, hs33, hl34, hs34, hk35, hr35_0, hw35_0, hr35_1, hw35_1, hr35_2, hr35_3, hr35_4, hr35_5, hl36, hs36, hl37, hs37, hl38, hs38, hl39, hs39, hw0_6, hw0_7, hl7, hs7, h4, q1, e, c1, c3, c4]
    exact ⟨_, _, _, _, _, _, rfl, ⟨s1.1, s1.2⟩, Isk_of s2 rfl rfl rfl rfl rfl rfl rfl rfl rfl rfl rfl rfl, Igt_of s3 rfl rfl rfl rfl rfl rfl rfl rfl rfl rfl rfl rfl rfl rfl rfl rfl rfl rfl, Itp_of s4 rfl rfl rfl rfl, Ipl_of s5 (fun o h1 h2 => by repeat (rw [up2_ne (by omega)])) rfl rfl rfl, Ipc_of s6 rfl rfl rfl rfl rfl rfl rfl rfl rfl rfl rfl rfl rfl rfl (fun x => by repeat (rw [up2_ne (by omega)]))⟩
theorem op_from (hI : Inv D pa dr np) (p m : Int32) : Good b (armF (fX9_from b p m) (fX10_from (b + 40) p m) (HH b D w T pa dr np np)) := by
  obtain ⟨s1, s2, s3, s4, s5, s6⟩ := hI
  obtain ⟨nb, hnb, hn, h1, h2, h3, h4, h5, h5', h6, h7⟩ := id s6
  rcases p_split h6 hn p with q | ⟨k, hk, rfl, q1, q2⟩
  · simp (decide := true) only [armF, fX9_from, fX10_from, f_livD q hn (Nat.le_refl _) h3, f_isPD q hn, bn_s, bn2_s, nm_s, onul_n, onul_s, if_true, if_false, and_self, and_true, true_and, and_false, false_and, or_self, or_false, false_or, or_true, true_or, not_true_eq_false, not_false_eq_true, eq_self, ne_eq, i01, up2_same, up2_ne, upd_app, hk40, hr40_0, hw40_0, hr40_1, hw40_1, hr40_2, hw40_2, hr40_3, hr40_4, hw40_4, hr40_5, hr40_6, hr40_7, hr40_8, hr40_9, hw40_9, hr40_10, hw40_10, hr40_11, hr40_12, hr40_13, hw40_13, hr40_14, hw40_14, hr40_15, hr40_16, hr40_17, hr40_18, hr40_19, hr40_20, hw40_20, hr40_21, hw40_21, hr40_22, hw40_22, hr40_23, hw40_23, hr40_24, hr40_25, hw40_25, hr40_26, hw40_26, hr40_27, hw40_27, hr40_28, hr40_29, hr40_30, hr40_31, hr40_32, hr40_33, hr40_34, hw40_34, hr40_35, hw40_35, hr40_36, hr40_37, hr40_38, hr40_39, hr40_40, hw40_40, hr40_41, hr40_42, hr40_43, hl41, hs41, hl42, hs42, hl43, hs43, hl44, hs44, hl45, hs45, hl46, hs46, hl47, hs47, hl48, hs48, hl49, hs49, hl50, hs50, hl51, hs51, hl52, hs52, hl53, hs53, hl54, hs54, hl55, hs55, hl56, hs56, hl57, hs57, hl58, hs58, hl59, hs59, hl60, hs60, hl61, hs61, hl62, hs62, hl63, hs63, hl64, hs64, hl65, hs65, hw40_24, hk0, hr0_0, hr0_1, hr0_2, hr0_3, hr0_4, hr0_5, hr0_6, hr0_7, hr0_8, hw0_8, hr0_9, hw0_9, hk1, hr1_0, hr1_1, hr1_2, hr1_3, hw1_3, hr1_4, hw1_4, hl4, hs4, hl5, hs5, hl6, hs6, hk8, hr8_0, hw8_0, hr8_1, hw8_1, hr8_2, hw8_2, hk9, hr9_0, hr9_1, hr9_2, hk10, hr10_0, hr10_1, hw10_1, hr10_2, hw10_2, hr10_3, hw10_3, hr10_4, hw10_4, hl11, hs11, hl12, hs12, hl13, hs13, hk14, hr14_0, hr14_1, hr14_2, hr14_3, hr14_4, hw14_4, hk16, hr16_0, hw16_0, hr16_1, hw16_1, hr16_2, hw16_2, hr16_3, hw16_3, hr16_4, hw16_4, hk17, hr17_0, hw17_0, hr17_1, hw17_1, hr17_2, hw17_2, hr17_3, hw17_3, hr17_4, hw17_4, hk18, hr18_0, hw18_0, hr18_1, hw18_1, hr18_2, hw18_2, hr18_3, hw18_3, hr18_4, hw18_4, hl19, hs19, hl20, hs20, hl21, hs21, hk22, hr22_0, hr22_1, hr22_2, hr22_3, hr22_4, hw22_4, hr22_5, hr22_6, hr22_7, hr22_8, hw22_8, hl23, hs23, hl24, hs24, hl25, hs25, hl26, hs26, hl27, hs27, hl28, hs28, hl29, hs29, hk30, hr30_0, hw30_0, hr30_1, hw30_1, hr30_2, hr30_3, hr30_4, hr30_5, hl31, hs31, hl32, hs32, hl33, hs33, hl34, hs34, hk35, hr35_0, hw35_0, hr35_1, hw35_1, hr35_2, hr35_3, hr35_4, hr35_5, hl36, hs36, hl37, hs37, hl38, hs38, hl39, hs39, hw0_6, hw0_7, hl7, hs7, h4]
    exact ⟨_, _, _, _, _, _, rfl, ⟨s1.1, s1.2⟩, Isk_of s2 rfl rfl rfl rfl rfl rfl rfl rfl rfl rfl rfl rfl, Igt_of s3 rfl rfl rfl rfl rfl rfl rfl rfl rfl rfl rfl rfl rfl rfl rfl rfl rfl rfl, Itp_of s4 rfl rfl rfl rfl, Ipl_of s5 (fun o h1 h2 => by repeat (rw [up2_ne (by omega)])) rfl rfl rfl, Ipc_of s6 rfl rfl rfl rfl rfl rfl rfl rfl rfl rfl rfl rfl rfl rfl (fun x => by repeat (rw [up2_ne (by omega)]))⟩
  · by_cases z : 0 ≤ m ∧ m < nI nb
    · obtain ⟨d3, j, hj, rfl, d4, d5⟩ := ix_of z.1 z.2 hnb (by decide)
      have e := ((h6 k hk).2.2.2.2.1 q1).1 j (by omega)
      have c3 : ¬ nI (10 * k + j) < 0 := nI_pos (by omega)
      have c4 : (nI (10 * k + j)).toNatClampNeg = 10 * k + j := nI_clamp (by omega)
      have c5 : ¬ 1200 ≤ 10 * k + j := by omega
      have z2 := z.2
      simp (decide := true) only [armF, fX9_from, fX10_from, f_liv0 hk hn (Nat.le_refl _) h3 q2, f_isP1 hk hn, f_in, hrP_0 hk, hlP hk, pm10, wid_le, sub1_le, bn_s, bn2_s, nm_s, onul_n, onul_s, if_true, if_false, and_self, and_true, true_and, and_false, false_and, or_self, or_false, false_or, or_true, true_or, not_true_eq_false, not_false_eq_true, eq_self, ne_eq, i01, up2_same, up2_ne, upd_app, hk40, hr40_0, hw40_0, hr40_1, hw40_1, hr40_2, hw40_2, hr40_3, hr40_4, hw40_4, hr40_5, hr40_6, hr40_7, hr40_8, hr40_9, hw40_9, hr40_10, hw40_10, hr40_11, hr40_12, hr40_13, hw40_13, hr40_14, hw40_14, hr40_15, hr40_16, hr40_17, hr40_18, hr40_19, hr40_20, hw40_20, hr40_21, hw40_21, hr40_22, hw40_22, hr40_23, hw40_23, hr40_24, hr40_25, hw40_25, hr40_26, hw40_26, hr40_27, hw40_27, hr40_28, hr40_29, hr40_30, hr40_31, hr40_32, hr40_33, hr40_34, hw40_34, hr40_35, hw40_35, hr40_36, hr40_37, hr40_38, hr40_39, hr40_40, hw40_40, hr40_41, hr40_42, hr40_43, hl41, hs41, hl42, hs42, hl43, hs43, hl44, hs44, hl45, hs45, hl46, hs46, hl47, hs47, hl48, hs48, hl49, hs49, hl50, hs50, hl51, hs51, hl52, hs52, hl53, hs53, hl54, hs54, hl55, hs55, hl56, hs56, hl57, hs57, hl58, hs58, hl59, hs59, hl60, hs60, hl61, hs61, hl62, hs62, hl63, hs63, hl64, hs64, hl65, hs65, hw40_24, hk0, hr0_0, hr0_1, hr0_2, hr0_3, hr0_4, hr0_5, hr0_6, hr0_7, hr0_8, hw0_8, hr0_9, hw0_9, hk1, hr1_0, hr1_1, hr1_2, hr1_3, hw1_3, hr1_4, hw1_4, hl4, hs4, hl5, hs5, hl6, hs6, hk8, hr8_0, hw8_0, hr8_1, hw8_1, hr8_2, hw8_2, hk9, hr9_0, hr9_1, hr9_2, hk10, hr10_0, hr10_1, hw10_1, hr10_2, hw10_2, hr10_3, hw10_3, hr10_4, hw10_4, hl11, hs11, hl12, hs12, hl13, hs13, hk14, hr14_0, hr14_1, hr14_2, hr14_3, hr14_4, hw14_4, hk16, hr16_0, hw16_0, hr16_1, hw16_1, hr16_2, hw16_2, hr16_3, hw16_3, hr16_4, hw16_4, hk17, hr17_0, hw17_0, hr17_1, hw17_1, hr17_2, hw17_2, hr17_3, hw17_3, hr17_4, hw17_4, hk18, hr18_0, hw18_0, hr18_1, hw18_1, hr18_2, hw18_2, hr18_3, hw18_3, hr18_4, hw18_4, hl19, hs19, hl20, hs20, hl21, hs21, hk22, hr22_0, hr22_1, hr22_2, hr22_3, hr22_4, hw22_4, hr22_5, hr22_6, hr22_7, hr22_8, hw22_8, hl23, hs23, hl24, hs24, hl25, hs25, hl26, hs26, hl27, hs27, hl28, hs28, hl29, hs29, hk30, hr30_0, hw30_0, hr30_1, hw30_1, hr30_2, hr30_3, hr30_4, hr30_5, hl31, hs31, hl32, hs32, hl33, hs33, hl34, hs34, hk35, hr35_0, hw35_0, hr35_1, hw35_1, hr35_2, hr35_3, hr35_4, hr35_5, hl36, hs36, hl37, hs37, hl38, hs38, hl39, hs39, hw0_6, hw0_7, hl7, hs7, el_0, el_1, el_2, el_3, el_20, el_50, el_100, el_200, el_1000, el_10000, el_1000000, el_m1000000, el_100000000, er_0, er_1, er_2, er_3, er_20, er_50, er_100, er_200, er_1000, er_10000, er_1000000, er_m1000000, er_100000000, h1, h2, h4, q1, e, c3, c4, c5, d3, d4, d5, z, z2]
      exact ⟨_, _, _, _, _, _, rfl, ⟨s1.1, s1.2⟩, Isk_of s2 rfl rfl rfl rfl rfl rfl rfl rfl rfl rfl rfl rfl, Igt_of s3 rfl rfl rfl rfl rfl rfl rfl rfl rfl rfl rfl rfl rfl rfl rfl rfl rfl rfl, Itp_of s4 rfl rfl rfl rfl, Ipl_of s5 (fun o h1 h2 => by repeat (rw [up2_ne (by omega)])) rfl rfl rfl, Ipc_of s6 rfl rfl rfl rfl rfl rfl rfl rfl rfl rfl rfl rfl rfl rfl (fun x => by repeat (rw [up2_ne (by omega)]))⟩
    · by_cases y : m < 0
      · simp (decide := true) only [armF, fX9_from, fX10_from, f_liv0 hk hn (Nat.le_refl _) h3 q2, f_isP1 hk hn, f_in, wid_le, sub1_le, bn_s, bn2_s, nm_s, onul_n, onul_s, if_true, if_false, and_self, and_true, true_and, and_false, false_and, or_self, or_false, false_or, or_true, true_or, not_true_eq_false, not_false_eq_true, eq_self, ne_eq, i01, up2_same, up2_ne, upd_app, hk40, hr40_0, hw40_0, hr40_1, hw40_1, hr40_2, hw40_2, hr40_3, hr40_4, hw40_4, hr40_5, hr40_6, hr40_7, hr40_8, hr40_9, hw40_9, hr40_10, hw40_10, hr40_11, hr40_12, hr40_13, hw40_13, hr40_14, hw40_14, hr40_15, hr40_16, hr40_17, hr40_18, hr40_19, hr40_20, hw40_20, hr40_21, hw40_21, hr40_22, hw40_22, hr40_23, hw40_23, hr40_24, hr40_25, hw40_25, hr40_26, hw40_26, hr40_27, hw40_27, hr40_28, hr40_29, hr40_30, hr40_31, hr40_32, hr40_33, hr40_34, hw40_34, hr40_35, hw40_35, hr40_36, hr40_37, hr40_38, hr40_39, hr40_40, hw40_40, hr40_41, hr40_42, hr40_43, hl41, hs41, hl42, hs42, hl43, hs43, hl44, hs44, hl45, hs45, hl46, hs46, hl47, hs47, hl48, hs48, hl49, hs49, hl50, hs50, hl51, hs51, hl52, hs52, hl53, hs53, hl54, hs54, hl55, hs55, hl56, hs56, hl57, hs57, hl58, hs58, hl59, hs59, hl60, hs60, hl61, hs61, hl62, hs62, hl63, hs63, hl64, hs64, hl65, hs65, hw40_24, hk0, hr0_0, hr0_1, hr0_2, hr0_3, hr0_4, hr0_5, hr0_6, hr0_7, hr0_8, hw0_8, hr0_9, hw0_9, hk1, hr1_0, hr1_1, hr1_2, hr1_3, hw1_3, hr1_4, hw1_4, hl4, hs4, hl5, hs5, hl6, hs6, hk8, hr8_0, hw8_0, hr8_1, hw8_1, hr8_2, hw8_2, hk9, hr9_0, hr9_1, hr9_2, hk10, hr10_0, hr10_1, hw10_1, hr10_2, hw10_2, hr10_3, hw10_3, hr10_4, hw10_4, hl11, hs11, hl12, hs12, hl13, hs13, hk14, hr14_0, hr14_1, hr14_2, hr14_3, hr14_4, hw14_4, hk16, hr16_0, hw16_0, hr16_1, hw16_1, hr16_2, hw16_2, hr16_3, hw16_3, hr16_4, hw16_4, hk17, hr17_0, hw17_0, hr17_1, hw17_1, hr17_2, hw17_2, hr17_3, hw17_3, hr17_4, hw17_4, hk18, hr18_0, hw18_0, hr18_1, hw18_1, hr18_2, hw18_2, hr18_3, hw18_3, hr18_4, hw18_4, hl19, hs19, hl20, hs20, hl21, hs21, hk22, hr22_0, hr22_1, hr22_2, hr22_3, hr22_4, hw22_4, hr22_5, hr22_6, hr22_7, hr22_8, hw22_8, hl23, hs23, hl24, hs24, hl25, hs25, hl26, hs26, hl27, hs27, hl28, hs28, hl29, hs29, hk30, hr30_0, hw30_0, hr30_1, hw30_1, hr30_2, hr30_3, hr30_4, hr30_5, hl31, hs31, hl32, hs32, hl33, hs33, hl34, hs34, hk35, hr35_0, hw35_0, hr35_1, hw35_1, hr35_2, hr35_3, hr35_4, hr35_5, hl36, hs36, hl37, hs37, hl38, hs38, hl39, hs39, hw0_6, hw0_7, hl7, hs7, el_0, el_1, el_2, el_3, el_20, el_50, el_100, el_200, el_1000, el_10000, el_1000000, el_m1000000, el_100000000, er_0, er_1, er_2, er_3, er_20, er_50, er_100, er_200, er_1000, er_10000, er_1000000, er_m1000000, er_100000000, h1, h2, h4, q1, z, y]
        exact ⟨_, _, _, _, _, _, rfl, ⟨s1.1, s1.2⟩, Isk_of s2 rfl rfl rfl rfl rfl rfl rfl rfl rfl rfl rfl rfl, Igt_of s3 rfl rfl rfl rfl rfl rfl rfl rfl rfl rfl rfl rfl rfl rfl rfl rfl rfl rfl, Itp_of s4 rfl rfl rfl rfl, Ipl_of s5 (fun o h1 h2 => by repeat (rw [up2_ne (by omega)])) rfl rfl rfl, Ipc_of s6 rfl rfl rfl rfl rfl rfl rfl rfl rfl rfl rfl rfl rfl rfl (fun x => by repeat (rw [up2_ne (by omega)]))⟩
      · have y2 : ¬ m < nI nb := fun x => z ⟨by rw [lt3] at y; rw [le3]; omega, x⟩
        simp (decide := true) only [armF, fX9_from, fX10_from, f_liv0 hk hn (Nat.le_refl _) h3 q2, f_isP1 hk hn, f_in, wid_le, sub1_le, bn_s, bn2_s, nm_s, onul_n, onul_s, if_true, if_false, and_self, and_true, true_and, and_false, false_and, or_self, or_false, false_or, or_true, true_or, not_true_eq_false, not_false_eq_true, eq_self, ne_eq, i01, up2_same, up2_ne, upd_app, hk40, hr40_0, hw40_0, hr40_1, hw40_1, hr40_2, hw40_2, hr40_3, hr40_4, hw40_4, hr40_5, hr40_6, hr40_7, hr40_8, hr40_9, hw40_9, hr40_10, hw40_10, hr40_11, hr40_12, hr40_13, hw40_13, hr40_14, hw40_14, hr40_15, hr40_16, hr40_17, hr40_18, hr40_19, hr40_20, hw40_20, hr40_21, hw40_21, hr40_22, hw40_22, hr40_23, hw40_23, hr40_24, hr40_25, hw40_25, hr40_26, hw40_26, hr40_27, hw40_27, hr40_28, hr40_29, hr40_30, hr40_31, hr40_32, hr40_33, hr40_34, hw40_34, hr40_35, hw40_35, hr40_36, hr40_37, hr40_38, hr40_39, hr40_40, hw40_40, hr40_41, hr40_42, hr40_43, hl41, hs41, hl42, hs42, hl43, hs43, hl44, hs44, hl45, hs45, hl46, hs46, hl47, hs47, hl48, hs48, hl49, hs49, hl50, hs50, hl51, hs51, hl52, hs52, hl53, hs53, hl54, hs54, hl55, hs55, hl56, hs56, hl57, hs57, hl58, hs58, hl59, hs59, hl60, hs60, hl61, hs61, hl62, hs62, hl63, hs63, hl64, hs64, hl65, hs65, hw40_24, hk0, hr0_0, hr0_1, hr0_2, hr0_3, hr0_4, hr0_5, hr0_6, hr0_7, hr0_8, hw0_8, hr0_9, hw0_9, hk1, hr1_0, hr1_1, hr1_2, hr1_3, hw1_3, hr1_4, hw1_4, hl4, hs4, hl5, hs5, hl6, hs6, hk8, hr8_0, hw8_0, hr8_1, hw8_1, hr8_2, hw8_2, hk9, hr9_0, hr9_1, hr9_2, hk10, hr10_0, hr10_1, hw10_1, hr10_2, hw10_2, hr10_3, hw10_3, hr10_4, hw10_4, hl11, hs11, hl12, hs12, hl13, hs13, hk14, hr14_0, hr14_1, hr14_2, hr14_3, hr14_4, hw14_4, hk16, hr16_0, hw16_0, hr16_1, hw16_1, hr16_2, hw16_2, hr16_3, hw16_3, hr16_4, hw16_4, hk17, hr17_0, hw17_0, hr17_1, hw17_1, hr17_2, hw17_2, hr17_3, hw17_3, hr17_4, hw17_4, hk18, hr18_0, hw18_0, hr18_1, hw18_1, hr18_2, hw18_2, hr18_3, hw18_3, hr18_4, hw18_4, hl19, hs19, hl20, hs20, hl21, hs21, hk22, hr22_0, hr22_1, hr22_2, hr22_3, hr22_4, hw22_4, hr22_5, hr22_6, hr22_7, hr22_8, hw22_8, hl23, hs23, hl24, hs24, hl25, hs25, hl26, hs26, hl27, hs27, hl28, hs28, hl29, hs29, hk30, hr30_0, hw30_0, hr30_1, hw30_1, hr30_2, hr30_3, hr30_4, hr30_5, hl31, hs31, hl32, hs32, hl33, hs33, hl34, hs34, hk35, hr35_0, hw35_0, hr35_1, hw35_1, hr35_2, hr35_3, hr35_4, hr35_5, hl36, hs36, hl37, hs37, hl38, hs38, hl39, hs39, hw0_6, hw0_7, hl7, hs7, el_0, el_1, el_2, el_3, el_20, el_50, el_100, el_200, el_1000, el_10000, el_1000000, el_m1000000, el_100000000, er_0, er_1, er_2, er_3, er_20, er_50, er_100, er_200, er_1000, er_10000, er_1000000, er_m1000000, er_100000000, h1, h2, h4, q1, z, y, y2]
        exact ⟨_, _, _, _, _, _, rfl, ⟨s1.1, s1.2⟩, Isk_of s2 rfl rfl rfl rfl rfl rfl rfl rfl rfl rfl rfl rfl, Igt_of s3 rfl rfl rfl rfl rfl rfl rfl rfl rfl rfl rfl rfl rfl rfl rfl rfl rfl rfl, Itp_of s4 rfl rfl rfl rfl, Ipl_of s5 (fun o h1 h2 => by repeat (rw [up2_ne (by omega)])) rfl rfl rfl, Ipc_of s6 rfl rfl rfl rfl rfl rfl rfl rfl rfl rfl rfl rfl rfl rfl (fun x => by repeat (rw [up2_ne (by omega)]))⟩
end
