theorem cf_ex {cf : Nat → Nat} {j : Nat} : ∀ c, cf 0 ≤ j → j < cf c → ∃ i, i < c ∧ cf i ≤ j ∧ j < cf (i + 1)
  | 0, h0, h => by omega
  | c + 1, h0, h => by
    by_cases q : j < cf c
    · obtain ⟨i, h1, h2, h3⟩ := cf_ex c h0 q
      exact ⟨i, by omega, h2, h3⟩
    · exact ⟨c, by omega, by omega, h⟩
theorem cf_le {cf : Nat → Nat} {c : Nat} (h : ∀ i, i < c → cf i ≤ cf (i + 1)) {i : Nat} : ∀ d, i + d ≤ c → cf i ≤ cf (i + d)
  | 0, _ => Nat.le_refl _
  | d + 1, hd => Nat.le_trans (cf_le h d (by omega)) (h (i + d) (by omega))
section
variable {b : Nat} {D : Nat → Nat → Int32} {w : Int64} {T : Nat → Int64} {pa dr np mk : Nat}
theorem lp_all1 {p k i t : Nat} {G : Nat → Prop} (hp : p = 30 ∨ p = 35) (ht : t ≤ 30) (h1 : D p 1 = nI t) (hF : ∀ j, j < t → (G j → fX4_holds (b + p) (nI j) (b + 66 + 2 * k) (b + 1) (HH b D w T pa dr np mk) = some (1, HH b D w T pa dr np mk)) ∧ (¬ G j → fX4_holds (b + p) (nI j) (b + 66 + 2 * k) (b + 1) (HH b D w T pa dr np mk) = some (0, HH b D w T pa dr np mk))) : ∀ (r m j : Nat), j + r = t → r < m → (∀ x, j ≤ x → x < t → D (p + 1) x = nI i → G x) → fX4_allHold_3 m (b + p) (nI i) (b + 66 + 2 * k) (b + 1) (nI j) (HH b D w T pa dr np mk) = some (1, HH b D w T pa dr np mk) := by
  intro r
  induction r with
  | zero =>
    intro m j hj hm _
    obtain ⟨m, rfl⟩ : ∃ m', m = m' + 1 := ⟨m - 1, by omega⟩
    have e : j = t := by omega
    subst e
    have c1 : nI j ≤ nI j := nI_le (Nat.le_refl _) (by omega)
    simp (decide := true) only [fX4_allHold_3, bn_s, hq_r1 hp, h1, c1, if_true]
  | succ r ih =>
    intro m j hj hm hx
    obtain ⟨m, rfl⟩ : ∃ m', m = m' + 1 := ⟨m - 1, by omega⟩
    have c1 : ¬ nI t ≤ nI j := nI_ge (by omega) (by omega)
    have c3 : ¬ nI j < 0 := nI_pos (by omega)
    have c4 : (nI j).toNatClampNeg = j := nI_clamp (by omega)
    have c5 : ¬ 30 ≤ j := by omega
    have ih := ih m (j + 1) (by omega) (by omega) (fun x a1 a2 a3 => hx x (by omega) a2 a3)
    by_cases q : D (p + 1) j = nI i
    · have hh := (hF j (by omega)).1 (hx j (Nat.le_refl _) (by omega) q)
      simp (decide := true) only [fX4_allHold_3, fX4_allHold_36, bn_s, bn2_s, or_self, if_false, if_true, hq_k hp, hq_r1 hp, hq_R1 hp, hq_l1 hp, h1, c1, c3, c4, c5, q, hh, nI_1, ih]
    · simp (decide := true) only [fX4_allHold_3, fX4_allHold_36, bn_s, bn2_s, or_self, if_false, if_true, hq_k hp, hq_r1 hp, hq_R1 hp, hq_l1 hp, h1, c1, c3, c4, c5, q, nI_1, ih]
theorem lp_all0 {p k i t x0 : Nat} {G : Nat → Prop} (hp : p = 30 ∨ p = 35) (ht : t ≤ 30) (h1 : D p 1 = nI t) (hF : ∀ j, j < t → (G j → fX4_holds (b + p) (nI j) (b + 66 + 2 * k) (b + 1) (HH b D w T pa dr np mk) = some (1, HH b D w T pa dr np mk)) ∧ (¬ G j → fX4_holds (b + p) (nI j) (b + 66 + 2 * k) (b + 1) (HH b D w T pa dr np mk) = some (0, HH b D w T pa dr np mk))) (hx0 : x0 < t) (ho : D (p + 1) x0 = nI i) (hn : ¬ G x0) : ∀ (r m j : Nat), j + r = x0 → r < m → fX4_allHold_3 m (b + p) (nI i) (b + 66 + 2 * k) (b + 1) (nI j) (HH b D w T pa dr np mk) = some (0, HH b D w T pa dr np mk) := by
  intro r
  induction r with
  | zero =>
    intro m j hj hm
    obtain ⟨m, rfl⟩ : ∃ m', m = m' + 1 := ⟨m - 1, by omega⟩
    have e : j = x0 := by omega
    subst e
    have c1 : ¬ nI t ≤ nI j := nI_ge (by omega) (by omega)
    have c3 : ¬ nI j < 0 := nI_pos (by omega)
    have c4 : (nI j).toNatClampNeg = j := nI_clamp (by omega)
    have c5 : ¬ 30 ≤ j := by omega
    have hh := (hF j (by omega)).2 hn
    simp (decide := true) only [fX4_allHold_3, fX4_allHold_36, bn_s, bn2_s, or_self, if_false, if_true, hq_k hp, hq_r1 hp, hq_R1 hp, hq_l1 hp, h1, c1, c3, c4, c5, ho, hh]
  | succ r ih =>
    intro m j hj hm
    obtain ⟨m, rfl⟩ : ∃ m', m = m' + 1 := ⟨m - 1, by omega⟩
    have c1 : ¬ nI t ≤ nI j := nI_ge (by omega) (by omega)
    have c3 : ¬ nI j < 0 := nI_pos (by omega)
    have c4 : (nI j).toNatClampNeg = j := nI_clamp (by omega)
    have c5 : ¬ 30 ≤ j := by omega
    have ih := ih m (j + 1) (by omega) (by omega)
    by_cases q : D (p + 1) j = nI i
    · by_cases y : G j
      · have hh := (hF j (by omega)).1 y
        simp (decide := true) only [fX4_allHold_3, fX4_allHold_36, bn_s, bn2_s, or_self, if_false, if_true, hq_k hp, hq_r1 hp, hq_R1 hp, hq_l1 hp, h1, c1, c3, c4, c5, q, hh, nI_1, ih]
      · have hh := (hF j (by omega)).2 y
        simp (decide := true) only [fX4_allHold_3, fX4_allHold_36, bn_s, bn2_s, or_self, if_false, if_true, hq_k hp, hq_r1 hp, hq_R1 hp, hq_l1 hp, h1, c1, c3, c4, c5, q, hh]
    · simp (decide := true) only [fX4_allHold_3, fX4_allHold_36, bn_s, bn2_s, or_self, if_false, if_true, hq_k hp, hq_r1 hp, hq_R1 hp, hq_l1 hp, h1, c1, c3, c4, c5, q, nI_1, ih]
theorem lp_46 {k i nb hi : Nat} {W : Int32} (r25 : Nat → Int32 → Int64 → Int32 → PH → Option (Int32 × PH)) (hk : k < 120) (hi10 : i < 10) (hhi : hi ≤ 30) (hnb : nb ≤ 10) (h2 : D 40 2 = nI nb) (e46 : D 46 (i + 1) = nI hi) (hm : ∀ j, j < hi → (D 47 (3 * j) = 0 ∨ D 47 (3 * j) = 1 ∨ D 47 (3 * j) = 2)) : ∀ (r m j : Nat) (a : Int32), j + r = hi → r < m → (a = 1 → (∀ x, j ≤ x → x < hi → hld D W (pmF D k nb) x) → fX10_colour_46 r25 m (b + 40) (nI k) W.toInt64 (nI i) a (nI j) (HH b D w T pa dr np mk) = some (nI i, HH b D w T pa dr np mk)) ∧ ((a = 0 ∨ a = 1 ∧ ∃ x, j ≤ x ∧ x < hi ∧ ¬ hld D W (pmF D k nb) x) → fX10_colour_46 r25 m (b + 40) (nI k) W.toInt64 (nI i) a (nI j) (HH b D w T pa dr np mk) = r25 (b + 40) (nI k) W.toInt64 (nI (i + 1)) (HH b D w T pa dr np mk)) := by
  have i3 : ¬ nI (i + 1) < 0 := nI_pos (by omega)
  have i4 : (nI (i + 1)).toNatClampNeg = i + 1 := nI_clamp (by omega)
  have i5 : ¬ 11 ≤ i + 1 := by omega
  intro r
  induction r with
  | zero =>
    intro m j a hj hm
    obtain ⟨m, rfl⟩ : ∃ m', m = m' + 1 := ⟨m - 1, by omega⟩
    have e : j = hi := by omega
    subst e
    have c1 : nI j ≤ nI j := nI_le (Nat.le_refl _) (by omega)
    refine ⟨fun ha _ => ?_, fun ha => ?_⟩
    · subst ha
      simp (decide := true) only [fX10_colour_46, bn_s, or_self, if_false, if_true, hr40_11, hl46, nI_1, i3, i4, i5, e46, c1]
    · have ha : a = 0 := ha.resolve_right (fun z => by obtain ⟨_, x, h1, h2, _⟩ := z; omega)
      subst ha
      simp (decide := true) only [fX10_colour_46, bn_s, or_self, if_false, if_true, hr40_11, hl46, nI_1, i3, i4, i5, e46, c1]
  | succ r ih =>
    intro m j a hj hmm
    obtain ⟨m, rfl⟩ : ∃ m', m = m' + 1 := ⟨m - 1, by omega⟩
    have c1 : ¬ nI hi ≤ nI j := nI_ge (by omega) (by omega)
    have k3 : ¬ nI (3 * j) < 0 := nI_pos (by omega)
    have k4 : (nI (3 * j)).toNatClampNeg = 3 * j := nI_clamp (by omega)
    have k5 : ¬ 90 ≤ 3 * j := by omega
    have l3 : ¬ nI (3 * j + 1) < 0 := nI_pos (by omega)
    have l4 : (nI (3 * j + 1)).toNatClampNeg = 3 * j + 1 := nI_clamp (by omega)
    have l5 : ¬ 90 ≤ 3 * j + 1 := by omega
    have m3 : ¬ nI (3 * j + 2) < 0 := nI_pos (by omega)
    have m4 : (nI (3 * j + 2)).toNatClampNeg = 3 * j + 2 := nI_clamp (by omega)
    have m5 : ¬ 90 ≤ 3 * j + 2 := by omega
    obtain ⟨g1, g2⟩ := of3 (hm j (by omega))
    have po := f_po (b := b) (D := D) (w := w) (T := T) (pa := pa) (dr := dr) (np := np) (mk := mk) hk g1 hnb h2
    rw [← g2] at po
    have po : fX10_partOf (b + 40) (nI k) (D 47 (3 * j)) (HH b D w T pa dr np mk) = some (pmF D k nb (D 47 (3 * j)).toNatClampNeg, HH b D w T pa dr np mk) := po
    have hj' : hld D W (pmF D k nb) j ↔ (¬ pmF D k nb (D 47 (3 * j)).toNatClampNeg < (D 47 (3 * j + 1)).toInt64 * W.toInt64 ∧ ¬ (D 47 (3 * j + 2)).toInt64 * W.toInt64 < pmF D k nb (D 47 (3 * j)).toNatClampNeg) := Iff.rfl
    generalize pmF D k nb (D 47 (3 * j)).toNatClampNeg = X at po hj'
    have base : fX10_colour_46 r25 (m + 1) (b + 40) (nI k) W.toInt64 (nI i) a (nI j) (HH b D w T pa dr np mk) = if a = 0 then fX10_colour_46 r25 m (b + 40) (nI k) W.toInt64 (nI i) 0 (nI (j + 1)) (HH b D w T pa dr np mk) else if X < (D 47 (3 * j + 1)).toInt64 * W.toInt64 then fX10_colour_46 r25 m (b + 40) (nI k) W.toInt64 (nI i) 0 (nI (j + 1)) (HH b D w T pa dr np mk) else if (D 47 (3 * j + 2)).toInt64 * W.toInt64 < X then fX10_colour_46 r25 m (b + 40) (nI k) W.toInt64 (nI i) 0 (nI (j + 1)) (HH b D w T pa dr np mk) else fX10_colour_46 r25 m (b + 40) (nI k) W.toInt64 (nI i) 1 (nI (j + 1)) (HH b D w T pa dr np mk) := by
      rw [fX10_colour_46]
      simp (decide := true) only [fX10_colour_125, fX10_colour_126, bn_s, bn2_s, or_self, if_false, hk40, hr40_11, hr40_12, hl46, hl47, nI_1, nI_2, pm3_0, i3, i4, i5, k3, k4, k5, l3, l4, l5, m3, m4, m5, e46, c1, po]
    rw [base]
    refine ⟨fun ha hx => ?_, fun ha => ?_⟩
    · subst ha
      obtain ⟨y1, y2⟩ := hj'.mp (hx j (Nat.le_refl _) (by omega))
      rw [if_neg (by decide), if_neg y1, if_neg y2]
      exact (ih m (j + 1) 1 (by omega) (by omega)).1 rfl (fun x a1 a2 => hx x (by omega) a2)
    · rcases ha with ha | ⟨ha, x, x1, x2, x3⟩
      · rw [if_pos ha]
        exact (ih m (j + 1) 0 (by omega) (by omega)).2 (Or.inl rfl)
      · subst ha
        rw [if_neg (by decide)]
        by_cases y1 : X < (D 47 (3 * j + 1)).toInt64 * W.toInt64
        · rw [if_pos y1]
          exact (ih m (j + 1) 0 (by omega) (by omega)).2 (Or.inl rfl)
        · rw [if_neg y1]
          by_cases y2 : (D 47 (3 * j + 2)).toInt64 * W.toInt64 < X
          · rw [if_pos y2]
            exact (ih m (j + 1) 0 (by omega) (by omega)).2 (Or.inl rfl)
          · rw [if_neg y2]
            have : x ≠ j := fun z => x3 (by rw [z]; exact hj'.mpr ⟨y1, y2⟩)
            exact (ih m (j + 1) 1 (by omega) (by omega)).2 (Or.inr ⟨rfl, x, by omega, x2, x3⟩)
/-- both walks over the colours -/
theorem lp_col {E : Nat → Nat → Int32} {p k c t nb : Nat} {W : Int32} {cf : Nat → Nat} {G : Nat → Prop} (hp : p = 30 ∨ p = 35) (hk : k < 120) (hnb : nb ≤ 10) (hc : c ≤ 10) (ht : t ≤ 30) (p4 : D p 0 = nI c) (p5 : D p 1 = nI t) (p6 : E 40 10 = nI c) (p7 : cf 0 = 0) (p8 : cf c = t) (p9 : ∀ i, i < c → cf i ≤ cf (i + 1)) (p10 : ∀ i, i ≤ c → E 46 i = nI (cf i)) (p11 : ∀ i j, i < c → cf i ≤ j → j < cf (i + 1) → D (p + 1) j = nI i) (h2 : E 40 2 = nI nb) (hm : ∀ j, j < t → (E 47 (3 * j) = 0 ∨ E 47 (3 * j) = 1 ∨ E 47 (3 * j) = 2)) (hG : ∀ j, G j ↔ hld E W (pmF E k nb) j) (hF : ∀ j, j < t → (G j → fX4_holds (b + p) (nI j) (b + 66 + 2 * k) (b + 1) (HH b D w T pa dr np mk) = some (1, HH b D w T pa dr np mk)) ∧ (¬ G j → fX4_holds (b + p) (nI j) (b + 66 + 2 * k) (b + 1) (HH b D w T pa dr np mk) = some (0, HH b D w T pa dr np mk))) : ∀ (r m m2 i : Nat), i + r = c → r < m → r < m2 → ∃ v, fX4_firstThatSuits_2 m (b + p) (b + 66 + 2 * k) (b + 1) (nI i) (HH b D w T pa dr np mk) = some (v, HH b D w T pa dr np mk) ∧ fX10_colour_25 m2 (b + 40) (nI k) W.toInt64 (nI i) (HH b E w T pa dr np mk) = some (v, HH b E w T pa dr np mk) := by
  intro r
  induction r with
  | zero =>
    intro m m2 i hi hm1 hm2
    obtain ⟨m, rfl⟩ : ∃ m', m = m' + 1 := ⟨m - 1, by omega⟩
    obtain ⟨m2, rfl⟩ : ∃ m', m2 = m' + 1 := ⟨m2 - 1, by omega⟩
    have e : i = c := by omega
    subst e
    have c1 : nI i ≤ nI i := nI_le (Nat.le_refl _) (by omega)
    refine ⟨-1, ?_, ?_⟩
    · simp (decide := true) only [fX4_firstThatSuits_2, bn_s, hq_r0 hp, p4, c1, if_true]
    · simp (decide := true) only [fX10_colour_25, bn_s, hr40_10, p6, c1, if_true]
  | succ r ih =>
    intro m m2 i hi hm1 hm2
    obtain ⟨m, rfl⟩ : ∃ m', m = m' + 1 := ⟨m - 1, by omega⟩
    obtain ⟨m2, rfl⟩ : ∃ m', m2 = m' + 1 := ⟨m2 - 1, by omega⟩
    have c1 : ¬ nI c ≤ nI i := nI_ge (by omega) (by omega)
    have c3 : ¬ nI i < 0 := nI_pos (by omega)
    have c4 : (nI i).toNatClampNeg = i := nI_clamp (by omega)
    have c5 : ¬ 11 ≤ i := by omega
    have hle : cf (i + 1) ≤ t := by
      have := cf_le p9 (i := i + 1) (c - (i + 1)) (by omega)
      rw [show i + 1 + (c - (i + 1)) = c by omega] at this
      omega
    have hmono := p9 i (by omega)
    have e46 := p10 i (by omega)
    have L := lp_46 (b := b) (D := E) (w := w) (T := T) (pa := pa) (dr := dr) (np := np) (mk := mk) (W := W) (i := i) (hi := cf (i + 1)) (fX10_colour_25 m2) hk (by omega) (by omega) hnb h2 (p10 (i + 1) (by omega)) (fun j hj => hm j (by omega)) (cf (i + 1) - cf i) FU (cf i) 1 (by omega) (by unfold FU; omega)
    by_cases q : ∀ x, cf i ≤ x → x < cf (i + 1) → G x
    · have A := lp_all1 (b := b) (D := D) (w := w) (T := T) (pa := pa) (dr := dr) (np := np) (mk := mk) (i := i) hp ht p5 hF t FU 0 (by omega) (by unfold FU; omega) (fun x _ hx ho => by
        obtain ⟨i', a1, a2, a3⟩ := cf_ex (cf := cf) (j := x) c (by omega) (by omega)
        have := p11 i' x a1 a2 a3
        rw [ho] at this
        have := (nI_eq (by omega) (by omega)).mp this
        subst this
        exact q x a2 a3)
      rw [nI_0] at A
      have L := L.1 rfl (fun x a1 a2 => (hG x).mp (q x a1 a2))
      refine ⟨nI i, ?_, ?_⟩
      · simp (decide := true) only [fX4_firstThatSuits_2, fX4_allHold, bn_s, bn2_s, hq_r0 hp, hq_k hp, p4, c1, if_false, A]
      · simp (decide := true) only [fX10_colour_25, bn_s, or_self, hr40_10, hr40_11, hl46, p6, c1, c3, c4, c5, e46, if_false, L]
    · have q : ∃ x, cf i ≤ x ∧ x < cf (i + 1) ∧ ¬ G x := Classical.byContradiction (fun z => q (fun x a1 a2 => Classical.byContradiction (fun y => z ⟨x, a1, a2, y⟩)))
      obtain ⟨x, x1, x2, x3⟩ := q
      have A := lp_all0 (b := b) (D := D) (w := w) (T := T) (pa := pa) (dr := dr) (np := np) (mk := mk) (i := i) hp ht p5 hF (show x < t by omega) (p11 i x (by omega) x1 x2) x3 x FU 0 (by omega) (by unfold FU; omega)
      rw [nI_0] at A
      have L := L.2 (Or.inr ⟨rfl, x, x1, x2, fun z => x3 ((hG x).mpr z)⟩)
      obtain ⟨v, ih1, ih2⟩ := ih m m2 (i + 1) (by omega) (by omega) (by omega)
      refine ⟨v, ?_, ?_⟩
      · simp (decide := true) only [fX4_firstThatSuits_2, fX4_allHold, bn_s, bn2_s, hq_r0 hp, hq_k hp, p4, c1, if_false, if_true, A, nI_1, ih1]
      · simp (decide := true) only [fX10_colour_25, bn_s, or_self, hr40_10, hr40_11, hl46, p6, c1, c3, c4, c5, e46, if_false, L, ih2]
theorem op_colour (hI : Inv D pa dr np) (p : Int32) : Good b (armF (fX9_colour b p) (fX10_colour (b + 40) p) (HH b D w T pa dr np np)) := by
  obtain ⟨s1, s2, s3, s4, s5, s6⟩ := hI
  obtain ⟨nb, hnb, hn, h1, h2, h3, h4, h5, h5', h6, h7⟩ := id s6
  rcases p_split h6 hn p with q | ⟨k, hk, rfl, q1, q2⟩
  · simp (decide := true) only [armF, fX9_colour, fX10_colour, f_livD q hn (Nat.le_refl _) h3, f_isPD q hn, bn_s, bn2_s, nm_s, onul_n, onul_s, if_true, if_false, and_self, and_true, true_and, and_false, false_and, or_self, or_false, false_or, or_true, true_or, not_true_eq_false, not_false_eq_true, eq_self, ne_eq, i01, up2_same, up2_ne, upd_app, hk40, hr40_0, hw40_0, hr40_1, hw40_1, hr40_2, hw40_2, hr40_3, hr40_4, hw40_4, hr40_5, hr40_6, hr40_7, hr40_8, hr40_9, hw40_9, hr40_10, hw40_10, hr40_11, hr40_12, hr40_13, hw40_13, hr40_14, hw40_14, hr40_15, hr40_16, hr40_17, hr40_18, hr40_19, hr40_20, hw40_20, hr40_21, hw40_21, hr40_22, hw40_22, hr40_23, hw40_23, hr40_24, hr40_25, hw40_25, hr40_26, hw40_26, hr40_27, hw40_27, hr40_28, hr40_29, hr40_30, hr40_31, hr40_32, hr40_33, hr40_34, hw40_34, hr40_35, hw40_35, hr40_36, hr40_37, hr40_38, hr40_39, hr40_40, hw40_40, hr40_41, hr40_42, hr40_43, hl41, hs41, hl42, hs42, hl43, hs43, hl44, hs44, hl45, hs45, hl46, hs46, hl47, hs47, hl48, hs48, hl49, hs49, hl50, hs50, hl51, hs51, hl52, hs52, hl53, hs53, hl54, hs54, hl55, hs55, hl56, hs56, hl57, hs57, hl58, hs58, hl59, hs59, hl60, hs60, hl61, hs61, hl62, hs62, hl63, hs63, hl64, hs64, hl65, hs65, hw40_24, hr0_0, hk1, h4]
    exact ⟨_, _, _, _, _, _, rfl, ⟨s1.1, s1.2⟩, Isk_of s2 rfl rfl rfl rfl rfl rfl rfl rfl rfl rfl rfl rfl, Igt_of s3 rfl rfl rfl rfl rfl rfl rfl rfl rfl rfl rfl rfl rfl rfl rfl rfl rfl rfl, Itp_of s4 rfl rfl rfl rfl, Ipl_of s5 (fun o h1 h2 => by repeat (rw [up2_ne (by omega)])) rfl rfl rfl, Ipc_of s6 rfl rfl rfl rfl rfl rfl rfl rfl rfl rfl rfl rfl rfl rfl (fun x => by repeat (rw [up2_ne (by omega)]))⟩
  · obtain ⟨w1, w2, w3, w4, w5, w6, w7⟩ := h6 k hk
    obtain ⟨hg, hW⟩ := w5 q1
    obtain ⟨pp, c, t, cf, p2, p3, p4, p5, p6, p7, p8, p9, p10, p11, p12⟩ := id s5
    have hp : pa = 30 ∨ pa = 35 := by omega
    have hF : ∀ j, j < t → (hld D (wS (fun i => D 43 (10 * k + i)) 10) (pmF D k nb) j → fX4_holds (b + pa) (nI j) (b + 66 + 2 * k) (b + 1) (HH b D w T pa dr np np) = some (1, HH b D w T pa dr np np)) ∧ (¬ hld D (wS (fun i => D 43 (10 * k + i)) 10) (pmF D k nb) j → fX4_holds (b + pa) (nI j) (b + 66 + 2 * k) (b + 1) (HH b D w T pa dr np np) = some (0, HH b D w T pa dr np np)) := fun j hj => f_hold hp hk (by omega) hnb h5 h5' hg hW (p12 j hj).1 (p12 j hj).2.1 (p12 j hj).2.2.1 (p12 j hj).2.2.2
    obtain ⟨v, e1, e2⟩ := lp_col (b := b) (D := D) (E := up2 D 40 0 0) (w := w) (T := T) (pa := pa) (dr := dr) (np := np) (mk := np) (W := wS (fun i => D 43 (10 * k + i)) 10) (nb := nb) hp (show k < 120 by omega) hnb p2 p3 p4 p5 p6 p7 p8 p9 p10 p11 h2 (fun j hj => by
      show D 47 (3 * j) = 0 ∨ D 47 (3 * j) = 1 ∨ D 47 (3 * j) = 2
      rw [← (p12 j hj).1]
      exact (p12 j hj).2.2.2) (fun j => Iff.rfl) hF c FU FU 0 (by omega) (by unfold FU; omega) (by unfold FU; omega)
    rw [nI_0] at e1 e2
    simp (decide := true) only [armF, fX9_colour, fX4_firstThatSuits, fX10_colour, f_liv0 hk hn (Nat.le_refl _) h3 q2, f_isP1 hk hn, f_wt (show k < 120 by omega), bn_s, bn2_s, nm_s, onul_n, onul_s, if_true, if_false, and_self, and_true, true_and, and_false, false_and, or_self, or_false, false_or, or_true, true_or, not_true_eq_false, not_false_eq_true, eq_self, ne_eq, i01, up2_same, up2_ne, upd_app, hk40, hw40_0, hr0_0, hr0_6, hk1, hq_k hp, h4, q1, e1, e2]
    exact ⟨_, _, _, _, _, _, rfl, ⟨s1.1, s1.2⟩, Isk_of s2 rfl rfl rfl rfl rfl rfl rfl rfl rfl rfl rfl rfl, Igt_of s3 rfl rfl rfl rfl rfl rfl rfl rfl rfl rfl rfl rfl rfl rfl rfl rfl rfl rfl, Itp_of s4 rfl rfl rfl rfl, Ipl_of s5 (fun o h1 h2 => by repeat (rw [up2_ne (by omega)])) rfl rfl rfl, Ipc_of s6 rfl rfl rfl rfl rfl rfl rfl rfl rfl rfl rfl rfl rfl rfl (fun x => by repeat (rw [up2_ne (by omega)]))⟩
end
