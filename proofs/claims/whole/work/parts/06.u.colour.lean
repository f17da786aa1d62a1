section
variable {b : Nat} {D : Nat → Nat → Int32} {w : Int64} {T : Nat → Int64} {pa dr np mk : Nat}
theorem hq_k {p : Nat} (hp : p = 30 ∨ p = 35) : chk 4 (b + p) (HH b D w T pa dr np mk) = some () := by
  rcases hp with rfl | rfl
  · exact hk30
  · exact hk35
theorem hq_r0 {p : Nat} (hp : p = 30 ∨ p = 35) : rdI 4 0 (b + p) (HH b D w T pa dr np mk) = some (D p 0) := by
  rcases hp with rfl | rfl
  · exact hr30_0
  · exact hr35_0
theorem hq_w0 {p : Nat} (hp : p = 30 ∨ p = 35) (v : Int32) : wr 4 0 (.int v) (b + p) (HH b D w T pa dr np mk) = some (HH b (up2 D p 0 v) w T pa dr np mk) := by
  rcases hp with rfl | rfl
  · exact hw30_0 v
  · exact hw35_0 v
theorem hq_r1 {p : Nat} (hp : p = 30 ∨ p = 35) : rdI 4 1 (b + p) (HH b D w T pa dr np mk) = some (D p 1) := by
  rcases hp with rfl | rfl
  · exact hr30_1
  · exact hr35_1
theorem hq_w1 {p : Nat} (hp : p = 30 ∨ p = 35) (v : Int32) : wr 4 1 (.int v) (b + p) (HH b D w T pa dr np mk) = some (HH b (up2 D p 1 v) w T pa dr np mk) := by
  rcases hp with rfl | rfl
  · exact hw30_1 v
  · exact hw35_1 v
theorem hq_R1 {p : Nat} (hp : p = 30 ∨ p = 35) : rdR 4 2 (b + p) (HH b D w T pa dr np mk) = some (b + (p + 1)) := by
  rcases hp with rfl | rfl
  · exact hr30_2
  · exact hr35_2
theorem hq_l1 {p : Nat} (hp : p = 30 ∨ p = 35) (i : Int32) : aldI 0 (b + (p + 1)) i (HH b D w T pa dr np mk) = if i < 0 ∨ 30 ≤ i.toNatClampNeg then none else some (D (p + 1) i.toNatClampNeg) := by
  rcases hp with rfl | rfl
  · exact hl31 i
  · exact hl36 i
theorem hq_s1 {p : Nat} (hp : p = 30 ∨ p = 35) (i v : Int32) : astI (b + (p + 1)) i v (HH b D w T pa dr np mk) = if i < 0 ∨ 30 ≤ i.toNatClampNeg then none else some (HH b (up2 D (p + 1) i.toNatClampNeg v) w T pa dr np mk) := by
  rcases hp with rfl | rfl
  · exact hs31 i v
  · exact hs36 i v
theorem hq_R2 {p : Nat} (hp : p = 30 ∨ p = 35) : rdR 4 3 (b + p) (HH b D w T pa dr np mk) = some (b + (p + 2)) := by
  rcases hp with rfl | rfl
  · exact hr30_3
  · exact hr35_3
theorem hq_l2 {p : Nat} (hp : p = 30 ∨ p = 35) (i : Int32) : aldI 0 (b + (p + 2)) i (HH b D w T pa dr np mk) = if i < 0 ∨ 30 ≤ i.toNatClampNeg then none else some (D (p + 2) i.toNatClampNeg) := by
  rcases hp with rfl | rfl
  · exact hl32 i
  · exact hl37 i
theorem hq_s2 {p : Nat} (hp : p = 30 ∨ p = 35) (i v : Int32) : astI (b + (p + 2)) i v (HH b D w T pa dr np mk) = if i < 0 ∨ 30 ≤ i.toNatClampNeg then none else some (HH b (up2 D (p + 2) i.toNatClampNeg v) w T pa dr np mk) := by
  rcases hp with rfl | rfl
  · exact hs32 i v
  · exact hs37 i v
theorem hq_R3 {p : Nat} (hp : p = 30 ∨ p = 35) : rdR 4 4 (b + p) (HH b D w T pa dr np mk) = some (b + (p + 3)) := by
  rcases hp with rfl | rfl
  · exact hr30_4
  · exact hr35_4
theorem hq_l3 {p : Nat} (hp : p = 30 ∨ p = 35) (i : Int32) : aldI 0 (b + (p + 3)) i (HH b D w T pa dr np mk) = if i < 0 ∨ 30 ≤ i.toNatClampNeg then none else some (D (p + 3) i.toNatClampNeg) := by
  rcases hp with rfl | rfl
  · exact hl33 i
  · exact hl38 i
theorem hq_s3 {p : Nat} (hp : p = 30 ∨ p = 35) (i v : Int32) : astI (b + (p + 3)) i v (HH b D w T pa dr np mk) = if i < 0 ∨ 30 ≤ i.toNatClampNeg then none else some (HH b (up2 D (p + 3) i.toNatClampNeg v) w T pa dr np mk) := by
  rcases hp with rfl | rfl
  · exact hs33 i v
  · exact hs38 i v
theorem hq_R4 {p : Nat} (hp : p = 30 ∨ p = 35) : rdR 4 5 (b + p) (HH b D w T pa dr np mk) = some (b + (p + 4)) := by
  rcases hp with rfl | rfl
  · exact hr30_5
  · exact hr35_5
theorem hq_l4 {p : Nat} (hp : p = 30 ∨ p = 35) (i : Int32) : aldI 0 (b + (p + 4)) i (HH b D w T pa dr np mk) = if i < 0 ∨ 30 ≤ i.toNatClampNeg then none else some (D (p + 4) i.toNatClampNeg) := by
  rcases hp with rfl | rfl
  · exact hl34 i
  · exact hl39 i
theorem hq_s4 {p : Nat} (hp : p = 30 ∨ p = 35) (i v : Int32) : astI (b + (p + 4)) i v (HH b D w T pa dr np mk) = if i < 0 ∨ 30 ≤ i.toNatClampNeg then none else some (HH b (up2 D (p + 4) i.toNatClampNeg v) w T pa dr np mk) := by
  rcases hp with rfl | rfl
  · exact hs34 i v
  · exact hs39 i v
/-! a piece's colour -/
/-- whether test j holds for a piece of weight W, P the metals in it -/
def hld (D : Nat → Nat → Int32) (W : Int32) (P : Nat → Int64) (j : Nat) : Prop := ¬ P (D 47 (3 * j)).toNatClampNeg < (D 47 (3 * j + 1)).toInt64 * W.toInt64 ∧ ¬ (D 47 (3 * j + 2)).toInt64 * W.toInt64 < P (D 47 (3 * j)).toNatClampNeg
def pmF (D : Nat → Nat → Int32) (k nb : Nat) (t : Nat) : Int64 := sJ (fun i => (D 43 (10 * k + i)).toInt64 * (D 41 (3 * i + t)).toInt64) nb
theorem of3 {x : Int32} (h : x = 0 ∨ x = 1 ∨ x = 2) : x.toNatClampNeg < 3 ∧ x = nI x.toNatClampNeg := by
  rcases h with rfl | rfl | rfl
  · exact ⟨by decide, rfl⟩
  · exact ⟨by decide, rfl⟩
  · exact ⟨by decide, rfl⟩
theorem f_hold {p k j nb : Nat} {W : Int32} (hp : p = 30 ∨ p = 35) (hk : k < mk) (hj : j < 30) (hnb : nb ≤ 10) (h5 : ∀ i, i < nb → D 4 i = D 41 (3 * i) ∧ D 5 i = D 41 (3 * i + 1) ∧ D 6 i = D 41 (3 * i + 2)) (h5' : ∀ i, nb ≤ i → D 4 i = 0 ∧ D 5 i = 0 ∧ D 6 i = 0) (hg : ∀ i, i < 10 → D (66 + 2 * k + 1) i = D 43 (10 * k + i)) (hW : D (66 + 2 * k) 1 = W) (e2 : D (p + 2) j = D 47 (3 * j)) (e3 : D (p + 3) j = D 47 (3 * j + 1)) (e4 : D (p + 4) j = D 47 (3 * j + 2)) (hm : D (p + 2) j = 0 ∨ D (p + 2) j = 1 ∨ D (p + 2) j = 2) : (hld D W (pmF D k nb) j → fX4_holds (b + p) (nI j) (b + 66 + 2 * k) (b + 1) (HH b D w T pa dr np mk) = some (1, HH b D w T pa dr np mk)) ∧ (¬ hld D W (pmF D k nb) j → fX4_holds (b + p) (nI j) (b + 66 + 2 * k) (b + 1) (HH b D w T pa dr np mk) = some (0, HH b D w T pa dr np mk)) := by
  have c3 : ¬ nI j < 0 := nI_pos (by omega)
  have c4 : (nI j).toNatClampNeg = j := nI_clamp (by omega)
  have c5 : ¬ 30 ≤ j := by omega
  rw [e2] at hm
  obtain ⟨m1, m2⟩ := of3 hm
  have mi := f_mi (b := b) (D := D) (w := w) (T := T) (pa := pa) (dr := dr) (np := np) hk m1
  rw [← m2, part_eq m1 hnb h5 h5' hg] at mi
  have mi : fX7_metalIn (b + 1) (b + 66 + 2 * k) (D 47 (3 * j)) (HH b D w T pa dr np mk) = some (pmF D k nb (D 47 (3 * j)).toNatClampNeg, HH b D w T pa dr np mk) := mi
  unfold hld
  generalize pmF D k nb (D 47 (3 * j)).toNatClampNeg = X at mi
  have base : fX4_holds (b + p) (nI j) (b + 66 + 2 * k) (b + 1) (HH b D w T pa dr np mk) = if X < (D 47 (3 * j + 1)).toInt64 * W.toInt64 then some (0, HH b D w T pa dr np mk) else if (D 47 (3 * j + 2)).toInt64 * W.toInt64 < X then some (0, HH b D w T pa dr np mk) else some (1, HH b D w T pa dr np mk) := by
    simp (decide := true) only [fX4_holds, bn_s, bn2_s, or_self, if_false, hq_R2 hp, hq_R3 hp, hq_R4 hp, hq_l2 hp, hq_l3 hp, hq_l4 hp, hk1, hrP_1 hk, c3, c4, c5, e2, e3, e4, hW, mi]
  rw [base]
  refine ⟨fun h => ?_, fun h => ?_⟩
  · rw [if_neg h.1, if_neg h.2]
  · by_cases y : X < (D 47 (3 * j + 1)).toInt64 * W.toInt64
    · rw [if_pos y]
    · rw [if_neg y, if_pos (Classical.byContradiction (fun z => h ⟨y, z⟩))]
end
