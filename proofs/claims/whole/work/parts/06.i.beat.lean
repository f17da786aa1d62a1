/-! beating: what suits, the oldest of those not chosen, a pack's choice, the ages behind it -/
def sut (A Y : Nat → Int32) (lo hi dl dh : Int32) (i : Nat) : Prop := (lo ≤ A i ∧ A i ≤ hi) ∧ (dl ≤ Y i ∧ Y i ≤ dh)
noncomputable def old (A Y : Nat → Int32) (lo hi dl dh : Int32) (ch : Nat → Int32) : Nat → Int32
  | 0 => -1
  | i + 1 => @ite _ (ch i = 0 ∧ sut A Y lo hi dl dh i ∧ (old A Y lo hi dl dh ch i = -1 ∨ ¬ A i ≤ A (old A Y lo hi dl dh ch i).toNatClampNeg)) (Classical.propDecidable _) (nI i) (old A Y lo hi dl dh ch i)
theorem old_ix {A Y : Nat → Int32} {lo hi dl dh : Int32} {ch : Nat → Int32} : ∀ i, old A Y lo hi dl dh ch i = -1 ∨ ∃ k, k < i ∧ old A Y lo hi dl dh ch i = nI k
  | 0 => Or.inl rfl
  | i + 1 => by
    unfold old
    split
    · exact Or.inr ⟨i, by omega, rfl⟩
    · rcases old_ix i with h | ⟨k, hk, h⟩
      · exact Or.inl h
      · exact Or.inr ⟨k, by omega, h⟩
theorem old_congr {A Y : Nat → Int32} {lo hi dl dh : Int32} {ch c2 : Nat → Int32} : ∀ n, (∀ i, i < n → ch i = c2 i) → old A Y lo hi dl dh ch n = old A Y lo hi dl dh c2 n
  | 0, _ => rfl
  | n + 1, h => by
    unfold old
    rw [old_congr n (fun i hi => h i (by omega)), h n (by omega)]
noncomputable def chF (A Y : Nat → Int32) (lo hi dl dh : Int32) (n : Nat) : Nat → (Nat → Int32) → Int32 × (Nat → Int32)
  | 0, ch => (1, ch)
  | r + 1, ch => if old A Y lo hi dl dh ch n = -1 then (0, ch) else chF A Y lo hi dl dh n r (upd ch (old A Y lo hi dl dh ch n).toNatClampNeg 1)
theorem chF_congr {A Y : Nat → Int32} {lo hi dl dh : Int32} {n : Nat} : ∀ r (ch c2 : Nat → Int32), (∀ i, i < n → ch i = c2 i) → (chF A Y lo hi dl dh n r ch).1 = (chF A Y lo hi dl dh n r c2).1 ∧ ∀ i, i < n → (chF A Y lo hi dl dh n r ch).2 i = (chF A Y lo hi dl dh n r c2).2 i
  | 0, ch, c2, h => ⟨rfl, h⟩
  | r + 1, ch, c2, h => by
    unfold chF
    rw [← old_congr n h]
    by_cases q : old A Y lo hi dl dh ch n = -1
    · rw [if_pos q, if_pos q]
      exact ⟨rfl, h⟩
    · rw [if_neg q, if_neg q]
      refine chF_congr r _ _ (fun i hi => ?_)
      rw [upd_app, upd_app, h i hi]
theorem chF_01 {A Y : Nat → Int32} {lo hi dl dh : Int32} {n : Nat} : ∀ r (ch : Nat → Int32), (chF A Y lo hi dl dh n r ch).1 = 0 ∨ (chF A Y lo hi dl dh n r ch).1 = 1
  | 0, _ => Or.inr rfl
  | r + 1, ch => by
    unfold chF
    split
    · exact Or.inl rfl
    · exact chF_01 r _
def agd (A ch : Nat → Int32) (n : Nat) : Nat → Int32 := fun j => if j < n ∧ ¬ ch j = 0 then A j + 1 else A j
theorem agd_congr {A ch c2 : Nat → Int32} {n : Nat} (h : ∀ i, i < n → ch i = c2 i) : agd A ch n = agd A c2 n := by
  funext j
  unfold agd
  by_cases q : j < n
  · rw [h j q]
  · rw [if_neg (fun z => q z.1), if_neg (fun z => q z.1)]
def clr (r : Nat → Int32) (n : Nat) : Nat → Int32 := fun j => if j < n then 0 else r j
/-- the packs: how many, and the ages behind them; k skins each -/
noncomputable def btF (Y : Nat → Int32) (lo hi dl dh : Int32) (n k : Nat) : Nat → (Nat → Int32) → Nat × (Nat → Int32)
  | 0, A => (0, A)
  | r + 1, A => if (chF A Y lo hi dl dh n k (fun _ => 0)).1 = 0 then (0, A) else ((btF Y lo hi dl dh n k r (agd A (chF A Y lo hi dl dh n k (fun _ => 0)).2 n)).1 + 1, (btF Y lo hi dl dh n k r (agd A (chF A Y lo hi dl dh n k (fun _ => 0)).2 n)).2)
section
variable {b : Nat} {D : Nat → Nat → Int32} {w : Int64} {T : Nat → Int64} {pa dr np mk : Nat}
def isNd (q : Nat) : Prop := q = 16 ∨ q = 17 ∨ q = 18
theorem hN0 {q : Nat} (hq : isNd q) : rdI 3 0 (b + q) (HH b D w T pa dr np mk) = some (D q 0) := by rcases hq with rfl | rfl | rfl; exact hr16_0; exact hr17_0; exact hr18_0
theorem hN1 {q : Nat} (hq : isNd q) : rdI 3 1 (b + q) (HH b D w T pa dr np mk) = some (D q 1) := by rcases hq with rfl | rfl | rfl; exact hr16_1; exact hr17_1; exact hr18_1
theorem hN2 {q : Nat} (hq : isNd q) : rdI 3 2 (b + q) (HH b D w T pa dr np mk) = some (D q 2) := by rcases hq with rfl | rfl | rfl; exact hr16_2; exact hr17_2; exact hr18_2
theorem hN3 {q : Nat} (hq : isNd q) : rdI 3 3 (b + q) (HH b D w T pa dr np mk) = some (D q 3) := by rcases hq with rfl | rfl | rfl; exact hr16_3; exact hr17_3; exact hr18_3
theorem hN4 {q : Nat} (hq : isNd q) : rdI 3 4 (b + q) (HH b D w T pa dr np mk) = some (D q 4) := by rcases hq with rfl | rfl | rfl; exact hr16_4; exact hr17_4; exact hr18_4
theorem c_suits {q i : Nat} (hq : isNd q) (hi : i < 60) : fX6_suits (b + 14) (nI i) (b + q) (HH b D w T pa dr np mk) = some (@ite _ (sut (D 19) (D 20) (D q 1) (D q 2) (D q 3) (D q 4) i) (Classical.propDecidable _) 1 0, HH b D w T pa dr np mk) := by
  have c3 : ¬ nI i < 0 := nI_pos (by omega)
  have c4 : (nI i).toNatClampNeg = i := nI_clamp (by omega)
  have c5 : ¬ 60 ≤ i := by omega
  simp (decide := true) only [fX6_suits, f_within, bn_s, bn2_s, nm_s, onul_n, onul_s, if_true, if_false, and_self, and_true, true_and, and_false, false_and, or_self, or_false, false_or, or_true, true_or, not_true_eq_false, not_false_eq_true, eq_self, ne_eq, i01, up2_same, up2_ne, upd_app, hk0, hr0_0, hr0_1, hr0_2, hr0_3, hr0_4, hr0_5, hr0_6, hr0_7, hr0_8, hw0_8, hr0_9, hw0_9, hk1, hr1_0, hr1_1, hr1_2, hr1_3, hw1_3, hr1_4, hw1_4, hl4, hs4, hl5, hs5, hl6, hs6, hk8, hr8_0, hw8_0, hr8_1, hw8_1, hr8_2, hw8_2, hk9, hr9_0, hr9_1, hr9_2, hk10, hr10_0, hr10_1, hw10_1, hr10_2, hw10_2, hr10_3, hw10_3, hr10_4, hw10_4, hl11, hs11, hl12, hs12, hl13, hs13, hk14, hr14_0, hr14_1, hr14_2, hr14_3, hr14_4, hw14_4, hk16, hr16_0, hw16_0, hr16_1, hw16_1, hr16_2, hw16_2, hr16_3, hw16_3, hr16_4, hw16_4, hk17, hr17_0, hw17_0, hr17_1, hw17_1, hr17_2, hw17_2, hr17_3, hw17_3, hr17_4, hw17_4, hk18, hr18_0, hw18_0, hr18_1, hw18_1, hr18_2, hw18_2, hr18_3, hw18_3, hr18_4, hw18_4, hl19, hs19, hl20, hs20, hl21, hs21, hk22, hr22_0, hr22_1, hr22_2, hr22_3, hr22_4, hw22_4, hr22_5, hr22_6, hr22_7, hr22_8, hw22_8, hl23, hs23, hl24, hs24, hl25, hs25, hl26, hs26, hl27, hs27, hl28, hs28, hl29, hs29, hk30, hr30_0, hw30_0, hr30_1, hw30_1, hr30_2, hr30_3, hr30_4, hr30_5, hl31, hs31, hl32, hs32, hl33, hs33, hl34, hs34, hk35, hr35_0, hw35_0, hr35_1, hw35_1, hr35_2, hr35_3, hr35_4, hr35_5, hl36, hs36, hl37, hs37, hl38, hs38, hl39, hs39, hw0_6, hw0_7, hl7, hs7, hN1 hq, hN2 hq, hN3 hq, hN4 hq, c3, c4, c5]
  by_cases q1 : D q 1 ≤ D 19 i ∧ D 19 i ≤ D q 2
  · by_cases q2 : D q 3 ≤ D 20 i ∧ D 20 i ≤ D q 4
    · rw [if_pos (show sut (D 19) (D 20) (D q 1) (D q 2) (D q 3) (D q 4) i from ⟨q1, q2⟩)]
      simp (decide := true) only [q1, q2, bn_s, bn2_s, nm_s, onul_n, onul_s, if_true, if_false, and_self, and_true, true_and, and_false, false_and, or_self, or_false, false_or, or_true, true_or, not_true_eq_false, not_false_eq_true, eq_self, ne_eq, i01, up2_same, up2_ne, upd_app]
    · rw [if_neg (show ¬ sut (D 19) (D 20) (D q 1) (D q 2) (D q 3) (D q 4) i from fun z => q2 z.2)]
      simp (decide := true) only [q1, q2, bn_s, bn2_s, nm_s, onul_n, onul_s, if_true, if_false, and_self, and_true, true_and, and_false, false_and, or_self, or_false, false_or, or_true, true_or, not_true_eq_false, not_false_eq_true, eq_self, ne_eq, i01, up2_same, up2_ne, upd_app]
  · rw [if_neg (show ¬ sut (D 19) (D 20) (D q 1) (D q 2) (D q 3) (D q 4) i from fun z => q1 z.1)]
    simp (decide := true) only [q1, bn_s, bn2_s, nm_s, onul_n, onul_s, if_true, if_false, and_self, and_true, true_and, and_false, false_and, or_self, or_false, false_or, or_true, true_or, not_true_eq_false, not_false_eq_true, eq_self, ne_eq, i01, up2_same, up2_ne, upd_app]
theorem lp_old {q n : Nat} (hq : isNd q) (hn : n ≤ 60) (h1 : D 14 4 = nI n) : ∀ (k m i : Nat), i + k = n → k < m → fX6_oldestFor_4 m (b + 14) (b + q) (old (D 19) (D 20) (D q 1) (D q 2) (D q 3) (D q 4) (D 21) i) (nI i) (HH b D w T pa dr np mk) = some (old (D 19) (D 20) (D q 1) (D q 2) (D q 3) (D q 4) (D 21) n, HH b D w T pa dr np mk) := by
  intro k
  induction k with
  | zero =>
    intro m i hi hm
    obtain ⟨m, rfl⟩ : ∃ m', m = m' + 1 := ⟨m - 1, by omega⟩
    have e : i = n := by omega
    subst e
    have c1 : nI i ≤ nI i := nI_le (Nat.le_refl _) (by omega)
    simp (decide := true) only [fX6_oldestFor_4, bn_s, bn2_s, nm_s, onul_n, onul_s, if_true, if_false, and_self, and_true, true_and, and_false, false_and, or_self, or_false, false_or, or_true, true_or, not_true_eq_false, not_false_eq_true, eq_self, ne_eq, i01, up2_same, up2_ne, upd_app, hk0, hr0_0, hr0_1, hr0_2, hr0_3, hr0_4, hr0_5, hr0_6, hr0_7, hr0_8, hw0_8, hr0_9, hw0_9, hk1, hr1_0, hr1_1, hr1_2, hr1_3, hw1_3, hr1_4, hw1_4, hl4, hs4, hl5, hs5, hl6, hs6, hk8, hr8_0, hw8_0, hr8_1, hw8_1, hr8_2, hw8_2, hk9, hr9_0, hr9_1, hr9_2, hk10, hr10_0, hr10_1, hw10_1, hr10_2, hw10_2, hr10_3, hw10_3, hr10_4, hw10_4, hl11, hs11, hl12, hs12, hl13, hs13, hk14, hr14_0, hr14_1, hr14_2, hr14_3, hr14_4, hw14_4, hk16, hr16_0, hw16_0, hr16_1, hw16_1, hr16_2, hw16_2, hr16_3, hw16_3, hr16_4, hw16_4, hk17, hr17_0, hw17_0, hr17_1, hw17_1, hr17_2, hw17_2, hr17_3, hw17_3, hr17_4, hw17_4, hk18, hr18_0, hw18_0, hr18_1, hw18_1, hr18_2, hw18_2, hr18_3, hw18_3, hr18_4, hw18_4, hl19, hs19, hl20, hs20, hl21, hs21, hk22, hr22_0, hr22_1, hr22_2, hr22_3, hr22_4, hw22_4, hr22_5, hr22_6, hr22_7, hr22_8, hw22_8, hl23, hs23, hl24, hs24, hl25, hs25, hl26, hs26, hl27, hs27, hl28, hs28, hl29, hs29, hk30, hr30_0, hw30_0, hr30_1, hw30_1, hr30_2, hr30_3, hr30_4, hr30_5, hl31, hs31, hl32, hs32, hl33, hs33, hl34, hs34, hk35, hr35_0, hw35_0, hr35_1, hw35_1, hr35_2, hr35_3, hr35_4, hr35_5, hl36, hs36, hl37, hs37, hl38, hs38, hl39, hs39, hw0_6, hw0_7, hl7, hs7, h1, c1]
  | succ k ih =>
    intro m i hi hm
    obtain ⟨m, rfl⟩ : ∃ m', m = m' + 1 := ⟨m - 1, by omega⟩
    have c1 : ¬ nI n ≤ nI i := nI_ge (by omega) (by omega)
    have c3 : ¬ nI i < 0 := nI_pos (by omega)
    have c4 : (nI i).toNatClampNeg = i := nI_clamp (by omega)
    have c5 : ¬ 60 ≤ i := by omega
    have cs := c_suits (b := b) (D := D) (w := w) (T := T) (pa := pa) (dr := dr) (np := np) (mk := mk) hq (show i < 60 by omega)
    have ih := ih m (i + 1) (by omega) (by omega)
    have hix := old_ix (A := D 19) (Y := D 20) (lo := D q 1) (hi := D q 2) (dl := D q 3) (dh := D q 4) (ch := D 21) i
    rw [show old (D 19) (D 20) (D q 1) (D q 2) (D q 3) (D q 4) (D 21) (i + 1) = @ite _ (D 21 i = 0 ∧ sut (D 19) (D 20) (D q 1) (D q 2) (D q 3) (D q 4) i ∧ (old (D 19) (D 20) (D q 1) (D q 2) (D q 3) (D q 4) (D 21) i = -1 ∨ ¬ D 19 i ≤ D 19 (old (D 19) (D 20) (D q 1) (D q 2) (D q 3) (D q 4) (D 21) i).toNatClampNeg)) (Classical.propDecidable _) (nI i) (old (D 19) (D 20) (D q 1) (D q 2) (D q 3) (D q 4) (D 21) i) from rfl] at ih
    generalize old (D 19) (D 20) (D q 1) (D q 2) (D q 3) (D q 4) (D 21) i = a at ih hix ⊢
    by_cases q1 : D 21 i = 0
    · by_cases q2 : sut (D 19) (D 20) (D q 1) (D q 2) (D q 3) (D q 4) i
      · rw [if_pos q2] at cs
        by_cases q3 : a = -1
        · subst q3
          rw [if_pos ⟨q1, q2, Or.inl rfl⟩] at ih
          simp (decide := true) only [fX6_oldestFor_4, fX6_oldestFor_50, fX6_oldestFor_52, cs, bn_s, bn2_s, nm_s, onul_n, onul_s, if_true, if_false, and_self, and_true, true_and, and_false, false_and, or_self, or_false, false_or, or_true, true_or, not_true_eq_false, not_false_eq_true, eq_self, ne_eq, i01, up2_same, up2_ne, upd_app, hk0, hr0_0, hr0_1, hr0_2, hr0_3, hr0_4, hr0_5, hr0_6, hr0_7, hr0_8, hw0_8, hr0_9, hw0_9, hk1, hr1_0, hr1_1, hr1_2, hr1_3, hw1_3, hr1_4, hw1_4, hl4, hs4, hl5, hs5, hl6, hs6, hk8, hr8_0, hw8_0, hr8_1, hw8_1, hr8_2, hw8_2, hk9, hr9_0, hr9_1, hr9_2, hk10, hr10_0, hr10_1, hw10_1, hr10_2, hw10_2, hr10_3, hw10_3, hr10_4, hw10_4, hl11, hs11, hl12, hs12, hl13, hs13, hk14, hr14_0, hr14_1, hr14_2, hr14_3, hr14_4, hw14_4, hk16, hr16_0, hw16_0, hr16_1, hw16_1, hr16_2, hw16_2, hr16_3, hw16_3, hr16_4, hw16_4, hk17, hr17_0, hw17_0, hr17_1, hw17_1, hr17_2, hw17_2, hr17_3, hw17_3, hr17_4, hw17_4, hk18, hr18_0, hw18_0, hr18_1, hw18_1, hr18_2, hw18_2, hr18_3, hw18_3, hr18_4, hw18_4, hl19, hs19, hl20, hs20, hl21, hs21, hk22, hr22_0, hr22_1, hr22_2, hr22_3, hr22_4, hw22_4, hr22_5, hr22_6, hr22_7, hr22_8, hw22_8, hl23, hs23, hl24, hs24, hl25, hs25, hl26, hs26, hl27, hs27, hl28, hs28, hl29, hs29, hk30, hr30_0, hw30_0, hr30_1, hw30_1, hr30_2, hr30_3, hr30_4, hr30_5, hl31, hs31, hl32, hs32, hl33, hs33, hl34, hs34, hk35, hr35_0, hw35_0, hr35_1, hw35_1, hr35_2, hr35_3, hr35_4, hr35_5, hl36, hs36, hl37, hs37, hl38, hs38, hl39, hs39, hw0_6, hw0_7, hl7, hs7, h1, c1, c3, c4, c5, q1, nI_1, ih]
        · obtain ⟨j, hj, rfl⟩ : ∃ j, j < i ∧ a = nI j := by
            rcases hix with z | z
            · exact absurd z q3
            · exact z
          have d3 : ¬ nI j < 0 := nI_pos (by omega)
          have d4 : (nI j).toNatClampNeg = j := nI_clamp (by omega)
          have d5 : ¬ 60 ≤ j := by omega
          rw [d4] at ih
          by_cases q4 : D 19 i ≤ D 19 j
          · rw [if_neg (fun z => z.2.2.elim q3 (fun z => z q4))] at ih
            simp (decide := true) only [fX6_oldestFor_4, fX6_oldestFor_50, fX6_oldestFor_52, cs, bn_s, bn2_s, nm_s, onul_n, onul_s, if_true, if_false, and_self, and_true, true_and, and_false, false_and, or_self, or_false, false_or, or_true, true_or, not_true_eq_false, not_false_eq_true, eq_self, ne_eq, i01, up2_same, up2_ne, upd_app, hk0, hr0_0, hr0_1, hr0_2, hr0_3, hr0_4, hr0_5, hr0_6, hr0_7, hr0_8, hw0_8, hr0_9, hw0_9, hk1, hr1_0, hr1_1, hr1_2, hr1_3, hw1_3, hr1_4, hw1_4, hl4, hs4, hl5, hs5, hl6, hs6, hk8, hr8_0, hw8_0, hr8_1, hw8_1, hr8_2, hw8_2, hk9, hr9_0, hr9_1, hr9_2, hk10, hr10_0, hr10_1, hw10_1, hr10_2, hw10_2, hr10_3, hw10_3, hr10_4, hw10_4, hl11, hs11, hl12, hs12, hl13, hs13, hk14, hr14_0, hr14_1, hr14_2, hr14_3, hr14_4, hw14_4, hk16, hr16_0, hw16_0, hr16_1, hw16_1, hr16_2, hw16_2, hr16_3, hw16_3, hr16_4, hw16_4, hk17, hr17_0, hw17_0, hr17_1, hw17_1, hr17_2, hw17_2, hr17_3, hw17_3, hr17_4, hw17_4, hk18, hr18_0, hw18_0, hr18_1, hw18_1, hr18_2, hw18_2, hr18_3, hw18_3, hr18_4, hw18_4, hl19, hs19, hl20, hs20, hl21, hs21, hk22, hr22_0, hr22_1, hr22_2, hr22_3, hr22_4, hw22_4, hr22_5, hr22_6, hr22_7, hr22_8, hw22_8, hl23, hs23, hl24, hs24, hl25, hs25, hl26, hs26, hl27, hs27, hl28, hs28, hl29, hs29, hk30, hr30_0, hw30_0, hr30_1, hw30_1, hr30_2, hr30_3, hr30_4, hr30_5, hl31, hs31, hl32, hs32, hl33, hs33, hl34, hs34, hk35, hr35_0, hw35_0, hr35_1, hw35_1, hr35_2, hr35_3, hr35_4, hr35_5, hl36, hs36, hl37, hs37, hl38, hs38, hl39, hs39, hw0_6, hw0_7, hl7, hs7, h1, c1, c3, c4, c5, d3, d4, d5, q1, q3, q4, nI_1, ih]
          · rw [if_pos ⟨q1, q2, Or.inr q4⟩] at ih
            simp (decide := true) only [fX6_oldestFor_4, fX6_oldestFor_50, fX6_oldestFor_52, cs, bn_s, bn2_s, nm_s, onul_n, onul_s, if_true, if_false, and_self, and_true, true_and, and_false, false_and, or_self, or_false, false_or, or_true, true_or, not_true_eq_false, not_false_eq_true, eq_self, ne_eq, i01, up2_same, up2_ne, upd_app, hk0, hr0_0, hr0_1, hr0_2, hr0_3, hr0_4, hr0_5, hr0_6, hr0_7, hr0_8, hw0_8, hr0_9, hw0_9, hk1, hr1_0, hr1_1, hr1_2, hr1_3, hw1_3, hr1_4, hw1_4, hl4, hs4, hl5, hs5, hl6, hs6, hk8, hr8_0, hw8_0, hr8_1, hw8_1, hr8_2, hw8_2, hk9, hr9_0, hr9_1, hr9_2, hk10, hr10_0, hr10_1, hw10_1, hr10_2, hw10_2, hr10_3, hw10_3, hr10_4, hw10_4, hl11, hs11, hl12, hs12, hl13, hs13, hk14, hr14_0, hr14_1, hr14_2, hr14_3, hr14_4, hw14_4, hk16, hr16_0, hw16_0, hr16_1, hw16_1, hr16_2, hw16_2, hr16_3, hw16_3, hr16_4, hw16_4, hk17, hr17_0, hw17_0, hr17_1, hw17_1, hr17_2, hw17_2, hr17_3, hw17_3, hr17_4, hw17_4, hk18, hr18_0, hw18_0, hr18_1, hw18_1, hr18_2, hw18_2, hr18_3, hw18_3, hr18_4, hw18_4, hl19, hs19, hl20, hs20, hl21, hs21, hk22, hr22_0, hr22_1, hr22_2, hr22_3, hr22_4, hw22_4, hr22_5, hr22_6, hr22_7, hr22_8, hw22_8, hl23, hs23, hl24, hs24, hl25, hs25, hl26, hs26, hl27, hs27, hl28, hs28, hl29, hs29, hk30, hr30_0, hw30_0, hr30_1, hw30_1, hr30_2, hr30_3, hr30_4, hr30_5, hl31, hs31, hl32, hs32, hl33, hs33, hl34, hs34, hk35, hr35_0, hw35_0, hr35_1, hw35_1, hr35_2, hr35_3, hr35_4, hr35_5, hl36, hs36, hl37, hs37, hl38, hs38, hl39, hs39, hw0_6, hw0_7, hl7, hs7, h1, c1, c3, c4, c5, d3, d4, d5, q1, q3, q4, nI_1, ih]
      · rw [if_neg q2] at cs
        rw [if_neg (fun z => q2 z.2.1)] at ih
        simp (decide := true) only [fX6_oldestFor_4, fX6_oldestFor_50, fX6_oldestFor_52, cs, bn_s, bn2_s, nm_s, onul_n, onul_s, if_true, if_false, and_self, and_true, true_and, and_false, false_and, or_self, or_false, false_or, or_true, true_or, not_true_eq_false, not_false_eq_true, eq_self, ne_eq, i01, up2_same, up2_ne, upd_app, hk0, hr0_0, hr0_1, hr0_2, hr0_3, hr0_4, hr0_5, hr0_6, hr0_7, hr0_8, hw0_8, hr0_9, hw0_9, hk1, hr1_0, hr1_1, hr1_2, hr1_3, hw1_3, hr1_4, hw1_4, hl4, hs4, hl5, hs5, hl6, hs6, hk8, hr8_0, hw8_0, hr8_1, hw8_1, hr8_2, hw8_2, hk9, hr9_0, hr9_1, hr9_2, hk10, hr10_0, hr10_1, hw10_1, hr10_2, hw10_2, hr10_3, hw10_3, hr10_4, hw10_4, hl11, hs11, hl12, hs12, hl13, hs13, hk14, hr14_0, hr14_1, hr14_2, hr14_3, hr14_4, hw14_4, hk16, hr16_0, hw16_0, hr16_1, hw16_1, hr16_2, hw16_2, hr16_3, hw16_3, hr16_4, hw16_4, hk17, hr17_0, hw17_0, hr17_1, hw17_1, hr17_2, hw17_2, hr17_3, hw17_3, hr17_4, hw17_4, hk18, hr18_0, hw18_0, hr18_1, hw18_1, hr18_2, hw18_2, hr18_3, hw18_3, hr18_4, hw18_4, hl19, hs19, hl20, hs20, hl21, hs21, hk22, hr22_0, hr22_1, hr22_2, hr22_3, hr22_4, hw22_4, hr22_5, hr22_6, hr22_7, hr22_8, hw22_8, hl23, hs23, hl24, hs24, hl25, hs25, hl26, hs26, hl27, hs27, hl28, hs28, hl29, hs29, hk30, hr30_0, hw30_0, hr30_1, hw30_1, hr30_2, hr30_3, hr30_4, hr30_5, hl31, hs31, hl32, hs32, hl33, hs33, hl34, hs34, hk35, hr35_0, hw35_0, hr35_1, hw35_1, hr35_2, hr35_3, hr35_4, hr35_5, hl36, hs36, hl37, hs37, hl38, hs38, hl39, hs39, hw0_6, hw0_7, hl7, hs7, h1, c1, c3, c4, c5, q1, nI_1, ih]
    · rw [if_neg (fun z => q1 z.1)] at ih
      simp (decide := true) only [fX6_oldestFor_4, fX6_oldestFor_50, fX6_oldestFor_52, cs, bn_s, bn2_s, nm_s, onul_n, onul_s, if_true, if_false, and_self, and_true, true_and, and_false, false_and, or_self, or_false, false_or, or_true, true_or, not_true_eq_false, not_false_eq_true, eq_self, ne_eq, i01, up2_same, up2_ne, upd_app, hk0, hr0_0, hr0_1, hr0_2, hr0_3, hr0_4, hr0_5, hr0_6, hr0_7, hr0_8, hw0_8, hr0_9, hw0_9, hk1, hr1_0, hr1_1, hr1_2, hr1_3, hw1_3, hr1_4, hw1_4, hl4, hs4, hl5, hs5, hl6, hs6, hk8, hr8_0, hw8_0, hr8_1, hw8_1, hr8_2, hw8_2, hk9, hr9_0, hr9_1, hr9_2, hk10, hr10_0, hr10_1, hw10_1, hr10_2, hw10_2, hr10_3, hw10_3, hr10_4, hw10_4, hl11, hs11, hl12, hs12, hl13, hs13, hk14, hr14_0, hr14_1, hr14_2, hr14_3, hr14_4, hw14_4, hk16, hr16_0, hw16_0, hr16_1, hw16_1, hr16_2, hw16_2, hr16_3, hw16_3, hr16_4, hw16_4, hk17, hr17_0, hw17_0, hr17_1, hw17_1, hr17_2, hw17_2, hr17_3, hw17_3, hr17_4, hw17_4, hk18, hr18_0, hw18_0, hr18_1, hw18_1, hr18_2, hw18_2, hr18_3, hw18_3, hr18_4, hw18_4, hl19, hs19, hl20, hs20, hl21, hs21, hk22, hr22_0, hr22_1, hr22_2, hr22_3, hr22_4, hw22_4, hr22_5, hr22_6, hr22_7, hr22_8, hw22_8, hl23, hs23, hl24, hs24, hl25, hs25, hl26, hs26, hl27, hs27, hl28, hs28, hl29, hs29, hk30, hr30_0, hw30_0, hr30_1, hw30_1, hr30_2, hr30_3, hr30_4, hr30_5, hl31, hs31, hl32, hs32, hl33, hs33, hl34, hs34, hk35, hr35_0, hw35_0, hr35_1, hw35_1, hr35_2, hr35_3, hr35_4, hr35_5, hl36, hs36, hl37, hs37, hl38, hs38, hl39, hs39, hw0_6, hw0_7, hl7, hs7, h1, c1, c3, c4, c5, q1, nI_1, ih]
theorem c_old {q n : Nat} (hq : isNd q) (hn : n ≤ 60) (h1 : D 14 4 = nI n) : fX6_oldestFor (b + 14) (b + q) (HH b D w T pa dr np mk) = some (old (D 19) (D 20) (D q 1) (D q 2) (D q 3) (D q 4) (D 21) n, HH b D w T pa dr np mk) := by
  have e := lp_old (b := b) (w := w) (T := T) (pa := pa) (dr := dr) (np := np) (mk := mk) hq hn h1 n FU 0 (by omega) (by unfold FU; omega)
  rw [show old (D 19) (D 20) (D q 1) (D q 2) (D q 3) (D q 4) (D 21) 0 = -1 from rfl, nI_0] at e
  exact e
theorem upR_up {D : Nat → Nat → Int32} {o k : Nat} {v : Int32} : up2 D o k v = upR D o (upd (D o) k v) := rfl
theorem upR_upR {D : Nat → Nat → Int32} {o : Nat} {r s : Nat → Int32} : upR (upR D o r) o s = upR D o s := by
  funext x
  by_cases q : x = o
  · subst q
    rw [upR_same, upR_same]
  · rw [upR_ne q, upR_ne q, upR_ne q]
theorem upR_self {D : Nat → Nat → Int32} {o : Nat} : upR D o (D o) = D := by
  funext x
  by_cases q : x = o
  · subst q
    rw [upR_same]
  · rw [upR_ne q]
theorem isNd_ne {q x : Nat} (hq : isNd q) (h : x ≠ 16 ∧ x ≠ 17 ∧ x ≠ 18) : q ≠ x := by
  rcases hq with rfl | rfl | rfl
  · exact fun z => h.1 z.symm
  · exact fun z => h.2.1 z.symm
  · exact fun z => h.2.2 z.symm
theorem lp_ch {q n kk : Nat} (hq : isNd q) (hn : n ≤ 60) (hk : kk ≤ 20) (h1 : D 14 4 = nI n) (hK : D q 0 = nI kk) : ∀ (k m i : Nat) (ch : Nat → Int32), i + k = kk → k < m → fX6_chooseFor_23 m (b + 14) (b + q) (nI i) (HH b (upR D 21 ch) w T pa dr np mk) = some ((chF (D 19) (D 20) (D q 1) (D q 2) (D q 3) (D q 4) n k ch).1, HH b (upR D 21 (chF (D 19) (D 20) (D q 1) (D q 2) (D q 3) (D q 4) n k ch).2) w T pa dr np mk) := by
  have hqe : q ≠ 21 := isNd_ne hq (by decide)
  intro k
  induction k with
  | zero =>
    intro m i ch hi hm
    obtain ⟨m, rfl⟩ : ∃ m', m = m' + 1 := ⟨m - 1, by omega⟩
    have e : i = kk := by omega
    subst e
    have c1 : nI i ≤ nI i := nI_le (Nat.le_refl _) (by omega)
    simp (decide := true) only [fX6_chooseFor_23, bn_s, bn2_s, nm_s, onul_n, onul_s, if_true, if_false, and_self, and_true, true_and, and_false, false_and, or_self, or_false, false_or, or_true, true_or, not_true_eq_false, not_false_eq_true, eq_self, ne_eq, i01, up2_same, up2_ne, upd_app, hN0 hq, upR_ne hqe, hK, c1, chF]
  | succ k ih =>
    intro m i ch hi hm
    obtain ⟨m, rfl⟩ : ∃ m', m = m' + 1 := ⟨m - 1, by omega⟩
    have c1 : ¬ nI kk ≤ nI i := nI_ge (by omega) (by omega)
    have co := c_old (b := b) (D := upR D 21 ch) (w := w) (T := T) (pa := pa) (dr := dr) (np := np) (mk := mk) hq hn h1
    rw [upR_ne hqe, show upR D 21 ch 19 = D 19 from rfl, show upR D 21 ch 20 = D 20 from rfl, upR_same] at co
    have hix := old_ix (A := D 19) (Y := D 20) (lo := D q 1) (hi := D q 2) (dl := D q 3) (dh := D q 4) (ch := ch) n
    unfold chF
    by_cases q3 : old (D 19) (D 20) (D q 1) (D q 2) (D q 3) (D q 4) ch n = -1
    · rw [q3] at co
      simp (decide := true) only [fX6_chooseFor_23, bn_s, bn2_s, nm_s, onul_n, onul_s, if_true, if_false, and_self, and_true, true_and, and_false, false_and, or_self, or_false, false_or, or_true, true_or, not_true_eq_false, not_false_eq_true, eq_self, ne_eq, i01, up2_same, up2_ne, upd_app, hk0, hr0_0, hr0_1, hr0_2, hr0_3, hr0_4, hr0_5, hr0_6, hr0_7, hr0_8, hw0_8, hr0_9, hw0_9, hk1, hr1_0, hr1_1, hr1_2, hr1_3, hw1_3, hr1_4, hw1_4, hl4, hs4, hl5, hs5, hl6, hs6, hk8, hr8_0, hw8_0, hr8_1, hw8_1, hr8_2, hw8_2, hk9, hr9_0, hr9_1, hr9_2, hk10, hr10_0, hr10_1, hw10_1, hr10_2, hw10_2, hr10_3, hw10_3, hr10_4, hw10_4, hl11, hs11, hl12, hs12, hl13, hs13, hk14, hr14_0, hr14_1, hr14_2, hr14_3, hr14_4, hw14_4, hk16, hr16_0, hw16_0, hr16_1, hw16_1, hr16_2, hw16_2, hr16_3, hw16_3, hr16_4, hw16_4, hk17, hr17_0, hw17_0, hr17_1, hw17_1, hr17_2, hw17_2, hr17_3, hw17_3, hr17_4, hw17_4, hk18, hr18_0, hw18_0, hr18_1, hw18_1, hr18_2, hw18_2, hr18_3, hw18_3, hr18_4, hw18_4, hl19, hs19, hl20, hs20, hl21, hs21, hk22, hr22_0, hr22_1, hr22_2, hr22_3, hr22_4, hw22_4, hr22_5, hr22_6, hr22_7, hr22_8, hw22_8, hl23, hs23, hl24, hs24, hl25, hs25, hl26, hs26, hl27, hs27, hl28, hs28, hl29, hs29, hk30, hr30_0, hw30_0, hr30_1, hw30_1, hr30_2, hr30_3, hr30_4, hr30_5, hl31, hs31, hl32, hs32, hl33, hs33, hl34, hs34, hk35, hr35_0, hw35_0, hr35_1, hw35_1, hr35_2, hr35_3, hr35_4, hr35_5, hl36, hs36, hl37, hs37, hl38, hs38, hl39, hs39, hw0_6, hw0_7, hl7, hs7, hN0 hq, upR_ne hqe, hK, c1, co, q3]
    · obtain ⟨j, hj, ej⟩ : ∃ j, j < n ∧ old (D 19) (D 20) (D q 1) (D q 2) (D q 3) (D q 4) ch n = nI j := by
        rcases hix with z | z
        · exact absurd z q3
        · exact z
      have d3 : ¬ nI j < 0 := nI_pos (by omega)
      have d4 : (nI j).toNatClampNeg = j := nI_clamp (by omega)
      have d5 : ¬ 60 ≤ j := by omega
      rw [ej] at co q3
      rw [ej, d4]
      have ih := ih m (i + 1) (upd ch j 1) (by omega) (by omega)
      have eu : up2 (upR D 21 ch) 21 j 1 = upR D 21 (upd ch j 1) := by rw [upR_up, upR_upR, upR_same]
      simp (decide := true) only [fX6_chooseFor_23, bn_s, bn2_s, nm_s, onul_n, onul_s, if_true, if_false, and_self, and_true, true_and, and_false, false_and, or_self, or_false, false_or, or_true, true_or, not_true_eq_false, not_false_eq_true, eq_self, ne_eq, i01, up2_same, up2_ne, upd_app, hk0, hr0_0, hr0_1, hr0_2, hr0_3, hr0_4, hr0_5, hr0_6, hr0_7, hr0_8, hw0_8, hr0_9, hw0_9, hk1, hr1_0, hr1_1, hr1_2, hr1_3, hw1_3, hr1_4, hw1_4, hl4, hs4, hl5, hs5, hl6, hs6, hk8, hr8_0, hw8_0, hr8_1, hw8_1, hr8_2, hw8_2, hk9, hr9_0, hr9_1, hr9_2, hk10, hr10_0, hr10_1, hw10_1, hr10_2, hw10_2, hr10_3, hw10_3, hr10_4, hw10_4, hl11, hs11, hl12, hs12, hl13, hs13, hk14, hr14_0, hr14_1, hr14_2, hr14_3, hr14_4, hw14_4, hk16, hr16_0, hw16_0, hr16_1, hw16_1, hr16_2, hw16_2, hr16_3, hw16_3, hr16_4, hw16_4, hk17, hr17_0, hw17_0, hr17_1, hw17_1, hr17_2, hw17_2, hr17_3, hw17_3, hr17_4, hw17_4, hk18, hr18_0, hw18_0, hr18_1, hw18_1, hr18_2, hw18_2, hr18_3, hw18_3, hr18_4, hw18_4, hl19, hs19, hl20, hs20, hl21, hs21, hk22, hr22_0, hr22_1, hr22_2, hr22_3, hr22_4, hw22_4, hr22_5, hr22_6, hr22_7, hr22_8, hw22_8, hl23, hs23, hl24, hs24, hl25, hs25, hl26, hs26, hl27, hs27, hl28, hs28, hl29, hs29, hk30, hr30_0, hw30_0, hr30_1, hw30_1, hr30_2, hr30_3, hr30_4, hr30_5, hl31, hs31, hl32, hs32, hl33, hs33, hl34, hs34, hk35, hr35_0, hw35_0, hr35_1, hw35_1, hr35_2, hr35_3, hr35_4, hr35_5, hl36, hs36, hl37, hs37, hl38, hs38, hl39, hs39, hw0_6, hw0_7, hl7, hs7, hN0 hq, upR_ne hqe, hK, c1, co, q3, d3, d4, d5, eu, nI_1, ih]
theorem lp_clr {q n kk : Nat} (hq : isNd q) (hn : n ≤ 60) (hk : kk ≤ 20) (h1 : D 14 4 = nI n) (hK : D q 0 = nI kk) : ∀ (k m i : Nat) (ch : Nat → Int32), i + k = 60 → k < m → fX6_chooseFor_2 m (b + 14) (b + q) (nI i) (HH b (upR D 21 (clr ch i)) w T pa dr np mk) = fX6_chooseFor_23 FU (b + 14) (b + q) 0 (HH b (upR D 21 (clr ch 60)) w T pa dr np mk) := by
  intro k
  induction k with
  | zero =>
    intro m i ch hi hm
    obtain ⟨m, rfl⟩ : ∃ m', m = m' + 1 := ⟨m - 1, by omega⟩
    have e : i = 60 := by omega
    subst e
    have c1 : (60 : Int32) ≤ nI 60 := by decide
    simp (decide := true) only [fX6_chooseFor_2, c1, bn_s, bn2_s, nm_s, onul_n, onul_s, if_true, if_false, and_self, and_true, true_and, and_false, false_and, or_self, or_false, false_or, or_true, true_or, not_true_eq_false, not_false_eq_true, eq_self, ne_eq, i01, up2_same, up2_ne, upd_app]
  | succ k ih =>
    intro m i ch hi hm
    obtain ⟨m, rfl⟩ : ∃ m', m = m' + 1 := ⟨m - 1, by omega⟩
    have c1 : ¬ (60 : Int32) ≤ nI i := nI_ge (b := 60) (by omega) (by omega)
    have c3 : ¬ nI i < 0 := nI_pos (by omega)
    have c4 : (nI i).toNatClampNeg = i := nI_clamp (by omega)
    have c5 : ¬ 60 ≤ i := by omega
    have ih := ih m (i + 1) ch (by omega) (by omega)
    have eu : up2 (upR D 21 (clr ch i)) 21 i 0 = upR D 21 (clr ch (i + 1)) := by
      rw [upR_up, upR_upR, upR_same]
      congr 1
      funext j
      rw [upd_app]
      unfold clr
      by_cases z : j = i
      · rw [if_pos z, if_pos (by omega)]
      · rw [if_neg z]
        by_cases z2 : j < i
        · rw [if_pos z2, if_pos (by omega)]
        · rw [if_neg z2, if_neg (by omega)]
    simp (decide := true) only [fX6_chooseFor_2, bn_s, bn2_s, nm_s, onul_n, onul_s, if_true, if_false, and_self, and_true, true_and, and_false, false_and, or_self, or_false, false_or, or_true, true_or, not_true_eq_false, not_false_eq_true, eq_self, ne_eq, i01, up2_same, up2_ne, upd_app, hk0, hr0_0, hr0_1, hr0_2, hr0_3, hr0_4, hr0_5, hr0_6, hr0_7, hr0_8, hw0_8, hr0_9, hw0_9, hk1, hr1_0, hr1_1, hr1_2, hr1_3, hw1_3, hr1_4, hw1_4, hl4, hs4, hl5, hs5, hl6, hs6, hk8, hr8_0, hw8_0, hr8_1, hw8_1, hr8_2, hw8_2, hk9, hr9_0, hr9_1, hr9_2, hk10, hr10_0, hr10_1, hw10_1, hr10_2, hw10_2, hr10_3, hw10_3, hr10_4, hw10_4, hl11, hs11, hl12, hs12, hl13, hs13, hk14, hr14_0, hr14_1, hr14_2, hr14_3, hr14_4, hw14_4, hk16, hr16_0, hw16_0, hr16_1, hw16_1, hr16_2, hw16_2, hr16_3, hw16_3, hr16_4, hw16_4, hk17, hr17_0, hw17_0, hr17_1, hw17_1, hr17_2, hw17_2, hr17_3, hw17_3, hr17_4, hw17_4, hk18, hr18_0, hw18_0, hr18_1, hw18_1, hr18_2, hw18_2, hr18_3, hw18_3, hr18_4, hw18_4, hl19, hs19, hl20, hs20, hl21, hs21, hk22, hr22_0, hr22_1, hr22_2, hr22_3, hr22_4, hw22_4, hr22_5, hr22_6, hr22_7, hr22_8, hw22_8, hl23, hs23, hl24, hs24, hl25, hs25, hl26, hs26, hl27, hs27, hl28, hs28, hl29, hs29, hk30, hr30_0, hw30_0, hr30_1, hw30_1, hr30_2, hr30_3, hr30_4, hr30_5, hl31, hs31, hl32, hs32, hl33, hs33, hl34, hs34, hk35, hr35_0, hw35_0, hr35_1, hw35_1, hr35_2, hr35_3, hr35_4, hr35_5, hl36, hs36, hl37, hs37, hl38, hs38, hl39, hs39, hw0_6, hw0_7, hl7, hs7, c1, c3, c4, c5, eu, nI_1, ih]
theorem c_choose {q n kk : Nat} (hq : isNd q) (hn : n ≤ 60) (hk : kk ≤ 20) (h1 : D 14 4 = nI n) (hK : D q 0 = nI kk) : fX6_chooseFor (b + 14) (b + q) (HH b D w T pa dr np mk) = some ((chF (D 19) (D 20) (D q 1) (D q 2) (D q 3) (D q 4) n kk (clr (D 21) 60)).1, HH b (upR D 21 (chF (D 19) (D 20) (D q 1) (D q 2) (D q 3) (D q 4) n kk (clr (D 21) 60)).2) w T pa dr np mk) := by
  have e1 := lp_clr (b := b) (w := w) (T := T) (pa := pa) (dr := dr) (np := np) (mk := mk) hq hn hk h1 hK 60 FU 0 (D 21) (by omega) (by unfold FU; omega)
  have e2 := lp_ch (b := b) (w := w) (T := T) (pa := pa) (dr := dr) (np := np) (mk := mk) hq hn hk h1 hK kk FU 0 (clr (D 21) 60) (by omega) (by unfold FU; omega)
  have e0 : clr (D 21) 0 = D 21 := by funext j; exact if_neg (by omega)
  rw [e0, upR_self, nI_0] at e1
  rw [nI_0] at e2
  unfold fX6_chooseFor
  rw [e1, e2]
theorem lp_age {n : Nat} {ch : Nat → Int32} (hn : n ≤ 60) (h1 : D 14 4 = nI n) (h2 : D 21 = ch) : ∀ (k m i : Nat), i + k = n → k < m → fX6_ageChosen_2 m (b + 14) (nI i) (HH b (upR D 19 (agd (D 19) ch i)) w T pa dr np mk) = some ((), HH b (upR D 19 (agd (D 19) ch n)) w T pa dr np mk) := by
  intro k
  induction k with
  | zero =>
    intro m i hi hm
    obtain ⟨m, rfl⟩ : ∃ m', m = m' + 1 := ⟨m - 1, by omega⟩
    have e : i = n := by omega
    subst e
    have c1 : nI i ≤ nI i := nI_le (Nat.le_refl _) (by omega)
    simp (decide := true) only [fX6_ageChosen_2, bn_s, bn2_s, nm_s, onul_n, onul_s, if_true, if_false, and_self, and_true, true_and, and_false, false_and, or_self, or_false, false_or, or_true, true_or, not_true_eq_false, not_false_eq_true, eq_self, ne_eq, i01, up2_same, up2_ne, upd_app, hk0, hr0_0, hr0_1, hr0_2, hr0_3, hr0_4, hr0_5, hr0_6, hr0_7, hr0_8, hw0_8, hr0_9, hw0_9, hk1, hr1_0, hr1_1, hr1_2, hr1_3, hw1_3, hr1_4, hw1_4, hl4, hs4, hl5, hs5, hl6, hs6, hk8, hr8_0, hw8_0, hr8_1, hw8_1, hr8_2, hw8_2, hk9, hr9_0, hr9_1, hr9_2, hk10, hr10_0, hr10_1, hw10_1, hr10_2, hw10_2, hr10_3, hw10_3, hr10_4, hw10_4, hl11, hs11, hl12, hs12, hl13, hs13, hk14, hr14_0, hr14_1, hr14_2, hr14_3, hr14_4, hw14_4, hk16, hr16_0, hw16_0, hr16_1, hw16_1, hr16_2, hw16_2, hr16_3, hw16_3, hr16_4, hw16_4, hk17, hr17_0, hw17_0, hr17_1, hw17_1, hr17_2, hw17_2, hr17_3, hw17_3, hr17_4, hw17_4, hk18, hr18_0, hw18_0, hr18_1, hw18_1, hr18_2, hw18_2, hr18_3, hw18_3, hr18_4, hw18_4, hl19, hs19, hl20, hs20, hl21, hs21, hk22, hr22_0, hr22_1, hr22_2, hr22_3, hr22_4, hw22_4, hr22_5, hr22_6, hr22_7, hr22_8, hw22_8, hl23, hs23, hl24, hs24, hl25, hs25, hl26, hs26, hl27, hs27, hl28, hs28, hl29, hs29, hk30, hr30_0, hw30_0, hr30_1, hw30_1, hr30_2, hr30_3, hr30_4, hr30_5, hl31, hs31, hl32, hs32, hl33, hs33, hl34, hs34, hk35, hr35_0, hw35_0, hr35_1, hw35_1, hr35_2, hr35_3, hr35_4, hr35_5, hl36, hs36, hl37, hs37, hl38, hs38, hl39, hs39, hw0_6, hw0_7, hl7, hs7, upR_ne, h1, c1]
  | succ k ih =>
    intro m i hi hm
    obtain ⟨m, rfl⟩ : ∃ m', m = m' + 1 := ⟨m - 1, by omega⟩
    have c1 : ¬ nI n ≤ nI i := nI_ge (by omega) (by omega)
    have c3 : ¬ nI i < 0 := nI_pos (by omega)
    have c4 : (nI i).toNatClampNeg = i := nI_clamp (by omega)
    have c5 : ¬ 60 ≤ i := by omega
    have ih := ih m (i + 1) (by omega) (by omega)
    have ei : agd (D 19) ch i i = D 19 i := if_neg (fun z => by omega)
    by_cases q1 : ch i = 0
    · have eu : agd (D 19) ch i = agd (D 19) ch (i + 1) := by
        funext j
        unfold agd
        by_cases z : j < i
        · by_cases z2 : ch j = 0
          · rw [if_neg (fun y => y.2 z2), if_neg (fun y => y.2 z2)]
          · rw [if_pos ⟨z, z2⟩, if_pos ⟨by omega, z2⟩]
        · rw [if_neg (fun y => z y.1)]
          by_cases z3 : j = i
          · subst z3
            rw [if_neg (fun y => y.2 q1)]
          · rw [if_neg (fun y => by omega)]
      rw [← eu] at ih
      simp (decide := true) only [fX6_ageChosen_2, fX6_ageChosen_29, bn_s, bn2_s, nm_s, onul_n, onul_s, if_true, if_false, and_self, and_true, true_and, and_false, false_and, or_self, or_false, false_or, or_true, true_or, not_true_eq_false, not_false_eq_true, eq_self, ne_eq, i01, up2_same, up2_ne, upd_app, hk0, hr0_0, hr0_1, hr0_2, hr0_3, hr0_4, hr0_5, hr0_6, hr0_7, hr0_8, hw0_8, hr0_9, hw0_9, hk1, hr1_0, hr1_1, hr1_2, hr1_3, hw1_3, hr1_4, hw1_4, hl4, hs4, hl5, hs5, hl6, hs6, hk8, hr8_0, hw8_0, hr8_1, hw8_1, hr8_2, hw8_2, hk9, hr9_0, hr9_1, hr9_2, hk10, hr10_0, hr10_1, hw10_1, hr10_2, hw10_2, hr10_3, hw10_3, hr10_4, hw10_4, hl11, hs11, hl12, hs12, hl13, hs13, hk14, hr14_0, hr14_1, hr14_2, hr14_3, hr14_4, hw14_4, hk16, hr16_0, hw16_0, hr16_1, hw16_1, hr16_2, hw16_2, hr16_3, hw16_3, hr16_4, hw16_4, hk17, hr17_0, hw17_0, hr17_1, hw17_1, hr17_2, hw17_2, hr17_3, hw17_3, hr17_4, hw17_4, hk18, hr18_0, hw18_0, hr18_1, hw18_1, hr18_2, hw18_2, hr18_3, hw18_3, hr18_4, hw18_4, hl19, hs19, hl20, hs20, hl21, hs21, hk22, hr22_0, hr22_1, hr22_2, hr22_3, hr22_4, hw22_4, hr22_5, hr22_6, hr22_7, hr22_8, hw22_8, hl23, hs23, hl24, hs24, hl25, hs25, hl26, hs26, hl27, hs27, hl28, hs28, hl29, hs29, hk30, hr30_0, hw30_0, hr30_1, hw30_1, hr30_2, hr30_3, hr30_4, hr30_5, hl31, hs31, hl32, hs32, hl33, hs33, hl34, hs34, hk35, hr35_0, hw35_0, hr35_1, hw35_1, hr35_2, hr35_3, hr35_4, hr35_5, hl36, hs36, hl37, hs37, hl38, hs38, hl39, hs39, hw0_6, hw0_7, hl7, hs7, upR_ne, upR_same, h1, h2, c1, c3, c4, c5, q1, nI_1, ih]
    · have eu : up2 (upR D 19 (agd (D 19) ch i)) 19 i (D 19 i + 1) = upR D 19 (agd (D 19) ch (i + 1)) := by
        rw [upR_up, upR_upR, upR_same]
        congr 1
        funext j
        rw [upd_app]
        unfold agd
        by_cases z : j = i
        · subst z
          rw [if_pos rfl, if_pos ⟨by omega, q1⟩]
        · rw [if_neg z]
          by_cases z2 : j < i ∧ ¬ ch j = 0
          · rw [if_pos z2, if_pos ⟨by omega, z2.2⟩]
          · rw [if_neg z2, if_neg (fun y => z2 ⟨by omega, y.2⟩)]
      simp (decide := true) only [fX6_ageChosen_2, fX6_ageChosen_29, bn_s, bn2_s, nm_s, onul_n, onul_s, if_true, if_false, and_self, and_true, true_and, and_false, false_and, or_self, or_false, false_or, or_true, true_or, not_true_eq_false, not_false_eq_true, eq_self, ne_eq, i01, up2_same, up2_ne, upd_app, hk0, hr0_0, hr0_1, hr0_2, hr0_3, hr0_4, hr0_5, hr0_6, hr0_7, hr0_8, hw0_8, hr0_9, hw0_9, hk1, hr1_0, hr1_1, hr1_2, hr1_3, hw1_3, hr1_4, hw1_4, hl4, hs4, hl5, hs5, hl6, hs6, hk8, hr8_0, hw8_0, hr8_1, hw8_1, hr8_2, hw8_2, hk9, hr9_0, hr9_1, hr9_2, hk10, hr10_0, hr10_1, hw10_1, hr10_2, hw10_2, hr10_3, hw10_3, hr10_4, hw10_4, hl11, hs11, hl12, hs12, hl13, hs13, hk14, hr14_0, hr14_1, hr14_2, hr14_3, hr14_4, hw14_4, hk16, hr16_0, hw16_0, hr16_1, hw16_1, hr16_2, hw16_2, hr16_3, hw16_3, hr16_4, hw16_4, hk17, hr17_0, hw17_0, hr17_1, hw17_1, hr17_2, hw17_2, hr17_3, hw17_3, hr17_4, hw17_4, hk18, hr18_0, hw18_0, hr18_1, hw18_1, hr18_2, hw18_2, hr18_3, hw18_3, hr18_4, hw18_4, hl19, hs19, hl20, hs20, hl21, hs21, hk22, hr22_0, hr22_1, hr22_2, hr22_3, hr22_4, hw22_4, hr22_5, hr22_6, hr22_7, hr22_8, hw22_8, hl23, hs23, hl24, hs24, hl25, hs25, hl26, hs26, hl27, hs27, hl28, hs28, hl29, hs29, hk30, hr30_0, hw30_0, hr30_1, hw30_1, hr30_2, hr30_3, hr30_4, hr30_5, hl31, hs31, hl32, hs32, hl33, hs33, hl34, hs34, hk35, hr35_0, hw35_0, hr35_1, hw35_1, hr35_2, hr35_3, hr35_4, hr35_5, hl36, hs36, hl37, hs37, hl38, hs38, hl39, hs39, hw0_6, hw0_7, hl7, hs7, upR_ne, upR_same, h1, h2, c1, c3, c4, c5, q1, ei, eu, nI_1, ih]
theorem c_age {n : Nat} (hn : n ≤ 60) (h1 : D 14 4 = nI n) : fX6_ageChosen (b + 14) (HH b D w T pa dr np mk) = some ((), HH b (upR D 19 (agd (D 19) (D 21) n)) w T pa dr np mk) := by
  have e1 := lp_age (b := b) (w := w) (T := T) (pa := pa) (dr := dr) (np := np) (mk := mk) hn h1 rfl n FU 0 (by omega) (by unfold FU; omega)
  have e0 : agd (D 19) (D 21) 0 = D 19 := by funext j; exact if_neg (fun z => by omega)
  rw [e0, upR_self, nI_0] at e1
  exact e1
end
