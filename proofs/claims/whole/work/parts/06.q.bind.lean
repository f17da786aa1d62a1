/-! binding: which leaves get a book, and which -/
def bkB (D : Nat → Nat → Int32) (K n j : Nat) : Int32 := if frL D j = true ∧ cN (frL D) j < K then D 8 1 + nI (cN (frL D) j) / nI n else D 45 j
def bkM (D : Nat → Nat → Int32) (K n i : Nat) : Nat → Int32 := fun j => if j < i then bkB D K n j else D 45 j
def bkC (D : Nat → Nat → Int32) (K n i : Nat) : Nat → Nat → Int32 := fun x => if 66 ≤ x ∧ x < 66 + 2 * i ∧ x % 2 = 0 then upd (D x) 3 (bkB D K n ((x - 66) / 2)) else D x
theorem cN_mono {f : Nat → Bool} {i : Nat} : ∀ j, cN f i ≤ cN f (i + j)
  | 0 => Nat.le_refl _
  | j + 1 => by
    show cN f i ≤ cN f (i + j) + _
    have := cN_mono (f := f) (i := i) j
    omega
theorem cN_m {f : Nat → Bool} {i j : Nat} (h : i ≤ j) : cN f i ≤ cN f j := by
  have := cN_mono (f := f) (i := i) (j - i)
  rwa [show i + (j - i) = j by omega] at this
theorem upd_self (f : Nat → Int32) (k : Nat) : upd f k (f k) = f := by
  funext j
  rw [upd_app]
  split
  · rename_i h; rw [h]
  · rfl
theorem bkB_full {D : Nat → Nat → Int32} {K n i j : Nat} (h : K ≤ cN (frL D) i) (hj : i ≤ j) : bkB D K n j = D 45 j := by
  unfold bkB
  have := cN_m (f := frL D) hj
  rw [if_neg (fun z => by omega)]
theorem bkM_full {D : Nat → Nat → Int32} {K n i k : Nat} (h : K ≤ cN (frL D) i) (hk : i ≤ k) : bkM D K n i = bkM D K n k := by
  funext j
  unfold bkM
  by_cases q : j < i
  · rw [if_pos q, if_pos (by omega)]
  · rw [if_neg q]
    by_cases q2 : j < k
    · rw [if_pos q2, bkB_full h (by omega)]
    · rw [if_neg q2]
theorem bkC_full {D : Nat → Nat → Int32} {K n i k : Nat} (h : K ≤ cN (frL D) i) (hk : i ≤ k) (h4 : ∀ p, p < k → D (66 + 2 * p) 3 = D 45 p) : bkC D K n i = bkC D K n k := by
  funext x
  unfold bkC
  by_cases q : 66 ≤ x ∧ x < 66 + 2 * i ∧ x % 2 = 0
  · rw [if_pos q, if_pos (by omega)]
  · rw [if_neg q]
    by_cases q2 : 66 ≤ x ∧ x < 66 + 2 * k ∧ x % 2 = 0
    · rw [if_pos q2, bkB_full h (by omega), ← h4 _ (by omega), show 66 + 2 * ((x - 66) / 2) = x by omega, upd_self]
    · rw [if_neg q2]
theorem bkC_lt {D : Nat → Nat → Int32} {K n i x : Nat} (h : x < 66) : bkC D K n i x = D x := if_neg (by omega)
theorem bkC_ge {D : Nat → Nat → Int32} {K n i x : Nat} (h : 66 + 2 * i ≤ x) : bkC D K n i x = D x := if_neg (by omega)
theorem bkC_odd {D : Nat → Nat → Int32} {K n i p : Nat} : bkC D K n i (66 + 2 * p + 1) = D (66 + 2 * p + 1) := if_neg (by omega)
theorem bkC_at {D : Nat → Nat → Int32} {K n i p : Nat} (h : p < i) : bkC D K n i (66 + 2 * p) = upd (D (66 + 2 * p)) 3 (bkB D K n p) := by
  unfold bkC
  rw [if_pos (by omega), show (66 + 2 * p - 66) / 2 = p by omega]
theorem bkC_step {D : Nat → Nat → Int32} {K n i : Nat} : up2 (bkC D K n i) (66 + 2 * i) 3 (bkB D K n i) = bkC D K n (i + 1) := by
  funext x
  by_cases q : x = 66 + 2 * i
  · subst q
    rw [up2_same, bkC_ge (i := i) (Nat.le_refl _), bkC_at (i := i + 1) (Nat.lt_succ_self _)]
  · rw [up2_ne q]
    unfold bkC
    by_cases q2 : 66 ≤ x ∧ x < 66 + 2 * i ∧ x % 2 = 0
    · rw [if_pos q2, if_pos (by omega)]
    · rw [if_neg q2, if_neg (by omega)]
theorem bkC_stay {D : Nat → Nat → Int32} {K n i : Nat} (h : bkB D K n i = D (66 + 2 * i) 3) : bkC D K n (i + 1) = bkC D K n i := by
  rw [← bkC_step, h]
  funext x
  by_cases q : x = 66 + 2 * i
  · subst q
    rw [up2_same, bkC_ge (by omega), upd_self]
  · rw [up2_ne q]
theorem bkM_step {D : Nat → Nat → Int32} {K n i : Nat} : upd (bkM D K n i) i (bkB D K n i) = bkM D K n (i + 1) := by
  funext j
  rw [upd_app]
  unfold bkM
  by_cases q : j = i
  · subst q
    rw [if_pos rfl, if_pos (by omega)]
  · rw [if_neg q]
    by_cases q2 : j < i
    · rw [if_pos q2, if_pos (by omega)]
    · rw [if_neg q2, if_neg (by omega)]
theorem bkM_stay {D : Nat → Nat → Int32} {K n i : Nat} (h : bkB D K n i = D 45 i) : bkM D K n (i + 1) = bkM D K n i := by
  rw [← bkM_step, h]
  have : bkM D K n i i = D 45 i := if_neg (by omega)
  rw [← this, upd_self]
theorem frL_t {D : Nat → Nat → Int32} {p : Nat} (h : frL D p = true) : ¬ D 44 p ≤ 0 ∧ D 45 p = -1 := of_decide_eq_true h
theorem frL_f {D : Nat → Nat → Int32} {p : Nat} (h : ¬ frL D p = true) : ¬ (¬ D 44 p ≤ 0 ∧ D 45 p = -1) := fun z => h (decide_eq_true z)
section
variable {b : Nat} {D : Nat → Nat → Int32} {w : Int64} {T : Nat → Int64} {pa dr np mk : Nat}
theorem c103 {E : Nat → Nat → Int32} (e : E 8 = D 8) (x y : Int32) : fX0_bindBooks_100 (b + 8) x y (HH b E w T pa dr np mk) = some (x, HH b (up2 (up2 E 8 2 (D 8 2 + y)) 8 1 (D 8 1 + x)) w T pa dr np mk) := by
  simp (decide := true) only [fX0_bindBooks_100, bn_s, bn2_s, nm_s, onul_n, onul_s, if_true, if_false, and_self, and_true, true_and, and_false, false_and, or_self, or_false, false_or, or_true, true_or, not_true_eq_false, not_false_eq_true, eq_self, ne_eq, i01, up2_same, up2_ne, upd_app, hr8_1, hr8_2, hw8_1, hw8_2, e]
theorem lp_bi {n K fr : Nat} (hn : np ≤ 120) (hm : np ≤ mk) (h3 : D 1 4 = nI np) (h6 : ∀ p, p < np → Pc1 D p) (hn1 : 1 ≤ n) (hn2 : n ≤ 50) (hK : fr * n = K) (hK1 : K ≤ 120) : ∀ (r m i : Nat), i + r = np → r < m → fX0_bindBooks_30 m (b + 8) (b + 1) (nI n) (nI fr) (nI (min (cN (frL D) i) K)) (nI i) (HH b (bkC D K n i) w T pa dr np mk) = some (nI fr, HH b (up2 (up2 (bkC D K n np) 8 2 (D 8 2 + nI (min (cN (frL D) np) K))) 8 1 (D 8 1 + nI fr)) w T pa dr np mk) := by
  have hmul : nI fr * nI n = nI K := by rw [pk_mul, hK]
  intro r
  induction r with
  | zero =>
    intro m i hi hm
    obtain ⟨m, rfl⟩ : ∃ m', m = m' + 1 := ⟨m - 1, by omega⟩
    have e : i = np := by omega
    subst e
    have c1 : nI i ≤ nI i := nI_le (Nat.le_refl _) (by omega)
    have e1 : bkC D K n i 1 = D 1 := bkC_lt (by decide)
    have e8 : bkC D K n i 8 = D 8 := bkC_lt (by decide)
    simp (decide := true) only [fX0_bindBooks_30, bn_s, hr1_4, e1, h3, c1, if_true, c103 e8]
  | succ r ih =>
    intro m i hi hmm
    obtain ⟨m, rfl⟩ : ∃ m', m = m' + 1 := ⟨m - 1, by omega⟩
    have c1 : ¬ nI np ≤ nI i := nI_ge (by omega) (by omega)
    have e1 : bkC D K n i 1 = D 1 := bkC_lt (by decide)
    have e8 : bkC D K n i 8 = D 8 := bkC_lt (by decide)
    obtain ⟨w1, w2, w3, w4, w5, w6, w7⟩ := h6 i (by omega)
    have ep : bkC D K n i (66 + 2 * i) = D (66 + 2 * i) := bkC_ge (by omega)
    have L := f_living (b := b) (D := bkC D K n i) (w := w) (T := T) (pa := pa) (dr := dr) (mk := mk) (show i < np by omega) hn hm (by rw [e1]; exact h3)
    have cl := f_cLeaf (b := b) (D := bkC D K n i) (w := w) (T := T) (pa := pa) (dr := dr) (np := np) (mk := mk) (show i < mk by omega)
    rw [ep, w2] at L
    rw [ep, w3] at cl
    have ih := ih m (i + 1) (by omega) (by omega)
    have es : cN (frL D) (i + 1) = cN (frL D) i + (if frL D i = true then 1 else 0) := rfl
    by_cases q0 : K ≤ cN (frL D) i
    · have d1 : nI K ≤ nI (min (cN (frL D) i) K) := nI_le (by omega) (by have := cN_le (f := frL D) i; omega)
      have ef := bkC_full (n := n) q0 (show i ≤ np by omega) (fun p hp => (h6 p hp).2.2.2.1)
      have eq : min (cN (frL D) i) K = min (cN (frL D) np) K := by have := cN_m (f := frL D) (show i ≤ np by omega); omega
      simp (decide := true) only [fX0_bindBooks_30, bn_s, hr1_4, e1, h3, c1, if_false, hmul, d1, if_true, c103 e8]
      rw [ef, eq]
    · have d1 : ¬ nI K ≤ nI (min (cN (frL D) i) K) := nI_ge (by omega) (by omega)
      have em : min (cN (frL D) i) K = cN (frL D) i := by omega
      rw [em] at d1 ⊢
      have hi9 := cN_le (f := frL D) i
      by_cases q : frL D i = true
      · obtain ⟨v1, v2⟩ := frL_t q
        have q42 : D 42 i = 0 := w1.resolve_right (fun z => v1 (w6 z))
        have hB : bkB D K n i = D 8 1 + nI (cN (frL D) i) / nI n := if_pos ⟨q, by omega⟩
        have z0 : ¬ nI n = 0 := nI_ne0 (by omega) (by omega)
        have v3 : bkC D K n i (66 + 2 * i) 3 = -1 := by rw [ep, w4, v2]
        have st := bkC_step (D := D) (K := K) (n := n) (i := i)
        rw [hB] at st
        have em2 : min (cN (frL D) (i + 1)) K = cN (frL D) i + 1 := by rw [es, if_pos q]; omega
        rw [em2] at ih
        simp (decide := true) only [fX0_bindBooks_30, fX0_bindBooks_94, bn_s, bn2_s, onul_s, hr8_1, hr1_4, hk1, hkP (show i < mk by omega), hrP_3 (show i < mk by omega), hwP_3 (show i < mk by omega), L, cl, e1, e8, h3, c1, if_false, if_true, hmul, d1, q42, v1, v3, z0, st, nI_1, ih]
      · have hB : bkB D K n i = D 45 i := if_neg (fun z => q z.1)
        have st := bkC_stay (D := D) (K := K) (n := n) (i := i) (by rw [hB, w4])
        have em2 : min (cN (frL D) (i + 1)) K = cN (frL D) i := by rw [es, if_neg q]; omega
        rw [em2, st] at ih
        by_cases q42 : D 42 i = 0
        · by_cases v1 : D 44 i ≤ 0
          · simp (decide := true) only [fX0_bindBooks_30, fX0_bindBooks_94, bn_s, bn2_s, onul_s, hr1_4, hk1, hkP (show i < mk by omega), L, cl, e1, e8, h3, c1, if_false, if_true, hmul, d1, q42, v1, nI_1, ih]
          · have v3 : ¬ bkC D K n i (66 + 2 * i) 3 = -1 := by rw [ep, w4]; exact fun z => frL_f q ⟨v1, z⟩
            simp (decide := true) only [fX0_bindBooks_30, fX0_bindBooks_94, bn_s, bn2_s, onul_s, hr1_4, hk1, hkP (show i < mk by omega), hrP_3 (show i < mk by omega), L, cl, e1, e8, h3, c1, if_false, if_true, hmul, d1, q42, v1, v3, nI_1, ih]
        · simp (decide := true) only [fX0_bindBooks_30, fX0_bindBooks_94, bn_s, bn2_s, onul_n, hr1_4, hk1, L, e1, e8, h3, c1, if_false, if_true, hmul, d1, q42, nI_1, ih]
/-- the reference's count -/
theorem lp_b27 {n0 n : Nat} (hn : n0 ≤ 120) (h4 : D 40 4 = nI n0) (hn1 : 1 ≤ n) (hn2 : n ≤ 50) : ∀ (r m i : Nat), i + r = n0 → r < m → fX10_bind_27 m (b + 40) (nI n) (nI (cN (frL D) i)) (nI i) (HH b D w T pa dr np mk) = fX10_bind_79 FU (b + 40) (nI n) (nI (cN (frL D) n0 / n)) (nI (cN (frL D) n0 / n * n)) 0 (HH b D w T pa dr np mk) := by
  intro r
  induction r with
  | zero =>
    intro m i hi hm
    obtain ⟨m, rfl⟩ : ∃ m', m = m' + 1 := ⟨m - 1, by omega⟩
    have e : i = n0 := by omega
    subst e
    have c1 : nI i ≤ nI i := nI_le (Nat.le_refl _) (by omega)
    have z0 : ¬ nI n = 0 := nI_ne0 (by omega) (by omega)
    have hi9 := cN_le (f := frL D) i
    have dv : nI (cN (frL D) i) / nI n = nI (cN (frL D) i / n) := pk_div (by omega) (by omega) (by omega)
    simp (decide := true) only [fX10_bind_27, bn_s, nm_s, hr40_4, h4, c1, if_true, z0, if_false, dv, pk_mul]
  | succ r ih =>
    intro m i hi hmm
    obtain ⟨m, rfl⟩ : ∃ m', m = m' + 1 := ⟨m - 1, by omega⟩
    have c1 : ¬ nI n0 ≤ nI i := nI_ge (by omega) (by omega)
    have c2 : ¬ nI i < 0 := nI_pos (by omega)
    have c3 : (nI i).toNatClampNeg = i := nI_clamp (by omega)
    have c4 : ¬ 120 ≤ i := by omega
    have ih := ih m (i + 1) (by omega) (by omega)
    have es : cN (frL D) (i + 1) = cN (frL D) i + (if frL D i = true then 1 else 0) := rfl
    have cl := f_mLeaf (b := b) (D := D) (w := w) (T := T) (pa := pa) (dr := dr) (np := np) (mk := mk) (show i < 120 by omega)
    by_cases q : frL D i = true
    · obtain ⟨v1, v2⟩ := frL_t q
      rw [es, if_pos q] at ih
      simp (decide := true) only [fX10_bind_27, fX10_bind_59, bn_s, bn2_s, nm_s, hk40, hr40_4, hr40_8, hl45, cl, h4, c1, c2, c3, c4, or_self, if_false, if_true, v1, v2, nI_1, ih]
    · rw [es, if_neg q] at ih
      simp only [Nat.add_zero] at ih
      by_cases v1 : D 44 i ≤ 0
      · simp (decide := true) only [fX10_bind_27, fX10_bind_58, fX10_bind_59, bn_s, bn2_s, nm_s, hk40, hr40_4, hr40_8, hl45, cl, h4, c1, c2, c3, c4, or_self, if_false, if_true, v1, Int32.add_zero, nI_1, ih]
      · have v2 : ¬ D 45 i = -1 := fun z => frL_f q ⟨v1, z⟩
        simp (decide := true) only [fX10_bind_27, fX10_bind_58, fX10_bind_59, bn_s, bn2_s, nm_s, hk40, hr40_4, hr40_8, hl45, cl, h4, c1, c2, c3, c4, or_self, if_false, if_true, v1, v2, Int32.add_zero, nI_1, ih]
theorem lp_b79 {E : Nat → Nat → Int32} {n0 n K fr : Nat} (hn : n0 ≤ 120) (h4 : E 40 4 = nI n0) (h9 : E 40 9 = D 8 1) (h44 : E 44 = D 44) (hn1 : 1 ≤ n) (hn2 : n ≤ 50) (hK : fr * n = K) (hK1 : K ≤ 120) : ∀ (r m i : Nat), i + r = n0 → r < m → fX10_bind_79 m (b + 40) (nI n) (nI fr) (nI (K - min (cN (frL D) i) K)) (nI i) (HH b (upR E 45 (bkM D K n i)) w T pa dr np mk) = some (nI fr, HH b (up2 (up2 (upR E 45 (bkM D K n n0)) 40 9 (D 8 1 + nI fr)) 40 1 (if nI fr < 0 then nI fr else 0)) w T pa dr np mk) := by
  have hmul : nI fr * nI n = nI K := by rw [pk_mul, hK]
  intro r
  induction r with
  | zero =>
    intro m i hi hm
    obtain ⟨m, rfl⟩ : ∃ m', m = m' + 1 := ⟨m - 1, by omega⟩
    have e : i = n0 := by omega
    subst e
    have c1 : nI i ≤ nI i := nI_le (Nat.le_refl _) (by omega)
    simp (decide := true) only [fX10_bind_79, bn_s, bn2_s, nm_s, onul_n, onul_s, if_true, if_false, and_self, and_true, true_and, and_false, false_and, or_self, or_false, false_or, or_true, true_or, not_true_eq_false, not_false_eq_true, eq_self, ne_eq, i01, up2_same, up2_ne, upd_app, hk40, hr40_4, hr40_9, hw40_9, f_told, upR_ne, h4, h9, c1]
  | succ r ih =>
    intro m i hi hmm
    obtain ⟨m, rfl⟩ : ∃ m', m = m' + 1 := ⟨m - 1, by omega⟩
    have c1 : ¬ nI n0 ≤ nI i := nI_ge (by omega) (by omega)
    have c2 : ¬ nI i < 0 := nI_pos (by omega)
    have c3 : (nI i).toNatClampNeg = i := nI_clamp (by omega)
    have c4 : ¬ 120 ≤ i := by omega
    have ih := ih m (i + 1) (by omega) (by omega)
    have es : cN (frL D) (i + 1) = cN (frL D) i + (if frL D i = true then 1 else 0) := rfl
    have hi9 := cN_le (f := frL D) i
    by_cases q0 : K ≤ cN (frL D) i
    · have d1 : nI (K - min (cN (frL D) i) K) ≤ 0 := nI_le (b := 0) (by omega) (by omega)
      have ef := bkM_full (n := n) q0 (show i ≤ n0 by omega)
      simp (decide := true) only [fX10_bind_79, bn_s, bn2_s, nm_s, onul_n, onul_s, if_true, if_false, and_self, and_true, true_and, and_false, false_and, or_self, or_false, false_or, or_true, true_or, not_true_eq_false, not_false_eq_true, eq_self, ne_eq, i01, up2_same, up2_ne, upd_app, hk40, hr40_4, hr40_9, hw40_9, f_told, upR_ne, h4, h9, c1, d1]
      rw [ef]
    · have d1 : ¬ nI (K - min (cN (frL D) i) K) ≤ 0 := nI_nle (by omega) (by omega)
      have em : min (cN (frL D) i) K = cN (frL D) i := by omega
      rw [em] at d1 ⊢
      have cl := f_mLeaf (b := b) (D := upR E 45 (bkM D K n i)) (w := w) (T := T) (pa := pa) (dr := dr) (np := np) (mk := mk) (show i < 120 by omega)
      rw [upR_ne (show 44 ≠ 45 by decide), h44] at cl
      have eb : bkM D K n i i = D 45 i := if_neg (by omega)
      by_cases q : frL D i = true
      · obtain ⟨v1, v2⟩ := frL_t q
        have hB : bkB D K n i = D 8 1 + nI (cN (frL D) i) / nI n := if_pos ⟨q, by omega⟩
        have z0 : ¬ nI n = 0 := nI_ne0 (by omega) (by omega)
        have st := bkM_step (D := D) (K := K) (n := n) (i := i)
        rw [hB] at st
        have em2 : K - min (cN (frL D) (i + 1)) K = K - cN (frL D) i - 1 := by rw [es, if_pos q]; omega
        rw [em2] at ih
        have em3 : nI (K - cN (frL D) i) + (-1) = nI (K - cN (frL D) i - 1) := by
          have := pk_m1 (K - cN (frL D) i - 1)
          rwa [show K - cN (frL D) i - 1 + 1 = K - cN (frL D) i by omega] at this
        have em4 : nI K - nI (K - cN (frL D) i) = nI (cN (frL D) i) := by rw [pk_sub (by omega), show K - (K - cN (frL D) i) = cN (frL D) i by omega]
        simp (decide := true) only [fX10_bind_79, fX10_bind_136, bn_s, bn2_s, hk40, hr40_4, hr40_8, hr40_9, hl45, hs45, cl, upR_ne, upR_same, h4, h9, c1, c2, c3, c4, or_self, if_false, if_true, d1, v1, eb, v2, z0, hmul, em3, em4, upd_1, st, nI_1, ih]
      · have hB : bkB D K n i = D 45 i := if_neg (fun z => q z.1)
        have st := bkM_stay (D := D) (K := K) (n := n) (i := i) hB
        have em2 : K - min (cN (frL D) (i + 1)) K = K - cN (frL D) i := by rw [es, if_neg q]; omega
        rw [em2, st] at ih
        by_cases v1 : D 44 i ≤ 0
        · simp (decide := true) only [fX10_bind_79, fX10_bind_136, bn_s, bn2_s, hk40, hr40_4, hr40_8, hl45, cl, upR_ne, upR_same, h4, c1, c2, c3, c4, or_self, if_false, if_true, d1, v1, nI_1, ih]
        · have v2 : ¬ D 45 i = -1 := fun z => frL_f q ⟨v1, z⟩
          simp (decide := true) only [fX10_bind_79, fX10_bind_136, bn_s, bn2_s, hk40, hr40_4, hr40_8, hl45, cl, upR_ne, upR_same, h4, c1, c2, c3, c4, or_self, if_false, if_true, d1, v1, eb, v2, nI_1, ih]
theorem Ipc_bind {D E : Nat → Nat → Int32} {np n f : Nat} (h : Ipc D np) (hn1 : 1 ≤ n) (hn2 : n ≤ 50) (hf : cN (frL D) np = f) (e1 : E 1 = D 1) (e4 : E 4 = D 4) (e5 : E 5 = D 5) (e6 : E 6 = D 6) (f2 : E 40 2 = D 40 2) (f4 : E 40 4 = D 40 4) (f34 : E 40 34 = D 40 34) (a1 : E 41 = D 41) (a2 : E 42 = D 42) (a3 : E 43 = D 43) (a4 : E 44 = D 44) (a5 : E 45 = bkM D (f / n * n) n np) (b1 : E 8 0 = D 8 0) (b2 : E 8 1 = D 8 1 + nI (f / n)) (b3 : E 8 2 = D 8 2 + nI (f / n * n)) (f9 : E 40 9 = D 8 1 + nI (f / n)) (c1 : ∀ p, p < np → E (66 + 2 * p) = upd (D (66 + 2 * p)) 3 (bkB D (f / n * n) n p)) (c2 : ∀ p, E (66 + 2 * p + 1) = D (66 + 2 * p + 1)) : Ipc E np := by
  obtain ⟨nb, hnb, hn, h1, h2, h3, h4, h5, h5', h6, h7, h8, h9, g1, g2, g3, g4, g5, g6⟩ := h
  have l1 : isL E = isL D := by funext p; unfold isL; rw [a4]
  have ff : ∀ j, np + j ≤ 120 → cN (frL D) (np + j) = cN (frL D) np := by
    intro j
    induction j with
    | zero => intro _; rfl
    | succ j ih =>
      intro hj
      show cN (frL D) (np + j) + (if frL D (np + j) = true then 1 else 0) = _
      rw [ih (by omega), if_neg (fun z => (frL_t z).1 (by rw [(h7 (np + j) (by omega)).1]; decide)), Nat.add_zero]
  have f120 : cN (frL D) 120 = f := by
    have := ff (120 - np) (by omega)
    rw [show np + (120 - np) = 120 by omega] at this
    omega
  have hdm := Nat.div_add_mod f n
  rw [Nat.mul_comm] at hdm
  have hfl := cN_le (f := frL D) 120
  have hL := cN_le (f := isL D) 120
  have hKf : f / n * n ≤ f := by omega
  have hfr : f / n ≤ f / n * n := Nat.le_mul_of_pos_right _ (by omega)
  have hbk : (D 8 1).toInt = (D 40 9).toInt := by rw [g2]
  have neg : ∀ p, frL D p = true → cN (frL D) p < f / n * n → ¬ bkB D (f / n * n) n p = -1 := by
    intro p z1 z2 z3
    unfold bkB at z3
    rw [if_pos ⟨z1, z2⟩, pk_div (by omega) (by omega) (by omega)] at z3
    have hd := Nat.div_le_self (cN (frL D) p) n
    generalize cN (frL D) p / n = d at hd z3
    have := congrArg Int32.toInt z3
    have e1 : (-1 : Int32).toInt = -1 := rfl
    rw [ta _ _ (by rw [nI_ti (by omega)]; omega) (by rw [nI_ti (by omega)]; omega), nI_ti (by omega)] at this
    omega
  have fE : ∀ p, frL E p = (frL D p && decide (¬ (p < np ∧ cN (frL D) p < f / n * n))) := by
    intro p
    have e0 : frL E p = decide (¬ D 44 p ≤ 0 ∧ bkM D (f / n * n) n np p = -1) := by unfold frL; rw [a4, a5]
    rw [e0]
    by_cases z1 : frL D p = true
    · obtain ⟨v1, v2⟩ := frL_t z1
      rw [z1, Bool.true_and]
      by_cases z2 : p < np ∧ cN (frL D) p < f / n * n
      · rw [show decide (¬ (p < np ∧ cN (frL D) p < f / n * n)) = false from decide_eq_false (fun y => y z2), decide_eq_false]
        intro y
        have y2 := y.2
        unfold bkM at y2
        rw [if_pos z2.1] at y2
        exact neg p z1 z2.2 y2
      · rw [show decide (¬ (p < np ∧ cN (frL D) p < f / n * n)) = true from decide_eq_true z2]
        refine decide_eq_true ⟨v1, ?_⟩
        unfold bkM
        by_cases z3 : p < np
        · rw [if_pos z3]
          unfold bkB
          rw [if_neg (fun y => z2 ⟨z3, y.2⟩), v2]
        · rw [if_neg z3, v2]
    · rw [Bool.eq_false_iff.mpr z1, Bool.false_and]
      refine decide_eq_false (fun y => ?_)
      have y2 := y.2
      unfold bkM at y2
      by_cases z3 : p < np
      · rw [if_pos z3] at y2
        unfold bkB at y2
        rw [if_neg (fun x => z1 x.1)] at y2
        exact frL_f z1 ⟨y.1, y2⟩
      · rw [if_neg z3] at y2
        exact frL_f z1 ⟨y.1, y2⟩
  have cE : ∀ m, m ≤ 120 → cN (frL E) m = cN (frL D) m - min (cN (frL D) m) (f / n * n) := by
    intro m
    induction m with
    | zero => intro _; rfl
    | succ m ih =>
      intro hm
      show cN (frL E) m + (if frL E m = true then 1 else 0) = cN (frL D) m + (if frL D m = true then 1 else 0) - min (cN (frL D) m + (if frL D m = true then 1 else 0)) (f / n * n)
      rw [ih (by omega), fE m]
      by_cases z1 : frL D m = true
      · have zm : m < np := by
          by_cases y : m < np
          · exact y
          · exact absurd (by rw [(h7 m (by omega)).1]; decide) (frL_t z1).1
        rw [z1, Bool.true_and]
        by_cases z2 : cN (frL D) m < f / n * n
        · rw [show decide (¬ (m < np ∧ cN (frL D) m < f / n * n)) = false from decide_eq_false (fun y => y ⟨zm, z2⟩)]
          simp only [if_true, Bool.false_eq_true, if_false]
          omega
        · rw [show decide (¬ (m < np ∧ cN (frL D) m < f / n * n)) = true from decide_eq_true (fun y => z2 y.2)]
          simp only [if_true]
          omega
      · rw [Bool.eq_false_iff.mpr z1, Bool.false_and]
        simp only [Bool.false_eq_true, if_false, Nat.add_zero]
  have c120 := cE 120 (Nat.le_refl _)
  rw [f120] at c120
  have hnn : (0 : Int) ≤ ((f / n : Nat) : Int) := Int.natCast_nonneg _
  have hf9 : f / n ≤ 120 := by omega
  have hf8 : ((f / n : Nat) : Int) ≤ 120 := by exact_mod_cast hf9
  have t9 : (D 8 1 + nI (f / n)).toInt = (D 40 9).toInt + (f / n : Nat) := by
    rw [ta _ _ (by rw [nI_ti (by omega)]; omega) (by rw [nI_ti (by omega)]; omega), nI_ti (by omega), hbk]
  refine ⟨nb, hnb, hn, by rw [e1]; exact h1, by rw [f2]; exact h2, by rw [e1]; exact h3, by rw [f4]; exact h4, by rw [e4, e5, e6, a1]; exact h5, by rw [e4, e5, e6]; exact h5', ?_, ?_, by rw [a3]; exact h8, by rw [a3]; exact h9, by rw [b1, f34]; exact g1, by rw [b2, f9], by rw [b1, l1]; exact g3, ?_, by rw [f9, t9]; omega, by rw [f9, t9, l1, c120]; omega⟩
  · intro p hp
    obtain ⟨w1, w2, w3, w4, w5, w6, w7⟩ := h6 p hp
    have e45 : E 45 p = bkB D (f / n * n) n p := by rw [a5]; unfold bkM; rw [if_pos hp]
    refine ⟨by rw [a2]; exact w1, ?_, ?_, ?_, ?_, ?_, ?_⟩
    · rw [c1 p hp, a2]
      exact w2
    · rw [c1 p hp, a4]
      exact w3
    · rw [c1 p hp, e45]
      rfl
    · rw [a2, a3, c1 p hp, c2 p]
      exact w5
    · rw [a2, a4]
      exact w6
    · rw [a4, e45]
      intro z
      unfold bkB
      rw [if_neg (fun y => (frL_t y.1).1 z)]
      exact w7 z
  · rw [a4, a2]
    exact h7
  · have ey : D 8 0 - (D 8 2 + nI (f / n * n)) = (D 8 0 - D 8 2) - nI (f / n * n) := by
      rw [Int32.sub_eq_add_neg, Int32.neg_add, Int32.sub_eq_add_neg, Int32.sub_eq_add_neg, Int32.sub_eq_add_neg, Int32.add_assoc]
    rw [b1, b3, ey, tsub _ _ (by rw [nI_ti (by omega)]; omega) (by rw [nI_ti (by omega)]; omega), nI_ti (by omega), c120]
    omega
theorem op_bind (hI : Inv D pa dr np) (v : Int32) : Good b (armF (fX9_bind b v) (fX10_bind (b + 40) v) (HH b D w T pa dr np np)) := by
  obtain ⟨s1, s2, s3, s4, s5, s6⟩ := hI
  by_cases q : 1 ≤ v ∧ v ≤ 50
  · obtain ⟨n, hn1, hn2, rfl⟩ := nI_in3 (l := 1) (u := 50) (by decide) (by decide) q
    obtain ⟨nb, hnb, hn, h1, h2, h3, h4, h5, h5', h6, h7, h8, h9, g1, g2, g3, g4, g5, g6⟩ := id s6
    have ff : ∀ j, np + j ≤ 120 → cN (frL D) (np + j) = cN (frL D) np := by
      intro j
      induction j with
      | zero => intro _; rfl
      | succ j ih =>
        intro hj
        show cN (frL D) (np + j) + (if frL D (np + j) = true then 1 else 0) = _
        rw [ih (by omega), if_neg (fun z => (frL_t z).1 (by rw [(h7 (np + j) (by omega)).1]; decide)), Nat.add_zero]
    have f120 : cN (frL D) 120 = cN (frL D) np := by
      have := ff (120 - np) (by omega)
      rwa [show np + (120 - np) = 120 by omega] at this
    generalize hf : cN (frL D) np = f at f120
    have hfl := cN_le (f := frL D) 120
    have hdm := Nat.div_add_mod f n
    rw [Nat.mul_comm] at hdm
    have efree : D 8 0 - D 8 2 = nI f := (eq3 _ _).mpr (by rw [g4, f120, nI_ti (by omega)])
    have dv : nI f / nI n = nI (f / n) := pk_div (by omega) (by omega) (by omega)
    have z0 : ¬ nI n = 0 := nI_ne0 (by omega) (by omega)
    have cl := lp_bi (b := b) (D := D) (w := w) (T := T) (pa := pa) (dr := dr) (np := np) (mk := np) hn (Nat.le_refl _) h3 h6 hn1 hn2 (rfl : f / n * n = f / n * n) (by omega) np FU 0 (by omega) (by unfold FU; omega)
    rw [show cN (frL D) 0 = 0 from rfl, Nat.zero_min, nI_0, hf, show min f (f / n * n) = f / n * n by omega, show bkC D (f / n * n) n 0 = D from funext (fun x => if_neg (by omega))] at cl
    have ce : fX9_bind b (nI n) (HH b D w T pa dr np np) = some (nI (f / n), HH b (up2 (up2 (up2 (bkC D (f / n * n) n np) 8 2 (D 8 2 + nI (f / n * n))) 8 1 (D 8 1 + nI (f / n))) 0 9 (if nI (f / n) < 0 then nI (f / n) else 0)) w T pa dr np np) := by
      simp (decide := true) only [fX9_bind, fX0_bindBooks, f_within, f_noted, bn_s, bn2_s, nm_s, onul_n, onul_s, if_true, if_false, and_self, and_true, true_and, and_false, false_and, or_self, or_false, false_or, or_true, true_or, not_true_eq_false, not_false_eq_true, eq_self, ne_eq, i01, up2_same, up2_ne, upd_app, hk0, hr0_0, hr0_1, hr0_2, hr0_3, hr0_4, hr0_5, hr0_6, hr0_7, hr0_8, hw0_8, hr0_9, hw0_9, hk1, hr1_0, hr1_1, hr1_2, hr1_3, hw1_3, hr1_4, hw1_4, hl4, hs4, hl5, hs5, hl6, hs6, hk8, hr8_0, hw8_0, hr8_1, hw8_1, hr8_2, hw8_2, hk9, hr9_0, hr9_1, hr9_2, hk10, hr10_0, hr10_1, hw10_1, hr10_2, hw10_2, hr10_3, hw10_3, hr10_4, hw10_4, hl11, hs11, hl12, hs12, hl13, hs13, hk14, hr14_0, hr14_1, hr14_2, hr14_3, hr14_4, hw14_4, hk16, hr16_0, hw16_0, hr16_1, hw16_1, hr16_2, hw16_2, hr16_3, hw16_3, hr16_4, hw16_4, hk17, hr17_0, hw17_0, hr17_1, hw17_1, hr17_2, hw17_2, hr17_3, hw17_3, hr17_4, hw17_4, hk18, hr18_0, hw18_0, hr18_1, hw18_1, hr18_2, hw18_2, hr18_3, hw18_3, hr18_4, hw18_4, hl19, hs19, hl20, hs20, hl21, hs21, hk22, hr22_0, hr22_1, hr22_2, hr22_3, hr22_4, hw22_4, hr22_5, hr22_6, hr22_7, hr22_8, hw22_8, hl23, hs23, hl24, hs24, hl25, hs25, hl26, hs26, hl27, hs27, hl28, hs28, hl29, hs29, hk30, hr30_0, hw30_0, hr30_1, hw30_1, hr30_2, hr30_3, hr30_4, hr30_5, hl31, hs31, hl32, hs32, hl33, hs33, hl34, hs34, hk35, hr35_0, hw35_0, hr35_1, hw35_1, hr35_2, hr35_3, hr35_4, hr35_5, hl36, hs36, hl37, hs37, hl38, hs38, hl39, hs39, hw0_6, hw0_7, hl7, hs7, el_0, el_1, el_2, el_3, el_20, el_50, el_100, el_200, el_1000, el_10000, el_1000000, el_m1000000, el_100000000, er_0, er_1, er_2, er_3, er_20, er_50, er_100, er_200, er_1000, er_10000, er_1000000, er_m1000000, er_100000000, q, z0, efree, dv, cl]
    clear cl
    have fE : ∀ z, z < 66 → z ≠ 0 → z ≠ 8 → up2 (up2 (up2 (bkC D (f / n * n) n np) 8 2 (D 8 2 + nI (f / n * n))) 8 1 (D 8 1 + nI (f / n))) 0 9 (if nI (f / n) < 0 then nI (f / n) else 0) z = D z := fun z z1 z2 z3 => by rw [up2_ne z2, up2_ne z3, up2_ne z3, bkC_lt z1]
    have fP : ∀ p, p < np → up2 (up2 (up2 (bkC D (f / n * n) n np) 8 2 (D 8 2 + nI (f / n * n))) 8 1 (D 8 1 + nI (f / n))) 0 9 (if nI (f / n) < 0 then nI (f / n) else 0) (66 + 2 * p) = upd (D (66 + 2 * p)) 3 (bkB D (f / n * n) n p) := fun p hp => by rw [up2_ne (by omega), up2_ne (by omega), up2_ne (by omega), bkC_at hp]
    have fO : ∀ p, up2 (up2 (up2 (bkC D (f / n * n) n np) 8 2 (D 8 2 + nI (f / n * n))) 8 1 (D 8 1 + nI (f / n))) 0 9 (if nI (f / n) < 0 then nI (f / n) else 0) (66 + 2 * p + 1) = D (66 + 2 * p + 1) := fun p => by rw [up2_ne (by omega), up2_ne (by omega), up2_ne (by omega), bkC_odd]
    have f81 : up2 (up2 (up2 (bkC D (f / n * n) n np) 8 2 (D 8 2 + nI (f / n * n))) 8 1 (D 8 1 + nI (f / n))) 0 9 (if nI (f / n) < 0 then nI (f / n) else 0) 8 0 = D 8 0 := by rw [up2_ne (by decide), up2_k (by decide), up2_k (by decide), bkC_lt (by decide)]
    have f82 : up2 (up2 (up2 (bkC D (f / n * n) n np) 8 2 (D 8 2 + nI (f / n * n))) 8 1 (D 8 1 + nI (f / n))) 0 9 (if nI (f / n) < 0 then nI (f / n) else 0) 8 1 = D 8 1 + nI (f / n) := by rw [up2_ne (by decide), up2_v]
    have f83 : up2 (up2 (up2 (bkC D (f / n * n) n np) 8 2 (D 8 2 + nI (f / n * n))) 8 1 (D 8 1 + nI (f / n))) 0 9 (if nI (f / n) < 0 then nI (f / n) else 0) 8 2 = D 8 2 + nI (f / n * n) := by rw [up2_ne (by decide), up2_k (by decide), up2_v]
    have f09 : up2 (up2 (up2 (bkC D (f / n * n) n np) 8 2 (D 8 2 + nI (f / n * n))) 8 1 (D 8 1 + nI (f / n))) 0 9 (if nI (f / n) < 0 then nI (f / n) else 0) 0 9 = if nI (f / n) < 0 then nI (f / n) else 0 := up2_v
    have f08 : up2 (up2 (up2 (bkC D (f / n * n) n np) 8 2 (D 8 2 + nI (f / n * n))) 8 1 (D 8 1 + nI (f / n))) 0 9 (if nI (f / n) < 0 then nI (f / n) else 0) 0 8 = D 0 8 := by rw [up2_k (by decide), up2_ne (by decide), up2_ne (by decide), bkC_lt (by decide)]
    rw [armF, ce, bn2_s]
    clear ce
    generalize up2 (up2 (up2 (bkC D (f / n * n) n np) 8 2 (D 8 2 + nI (f / n * n))) 8 1 (D 8 1 + nI (f / n))) 0 9 (if nI (f / n) < 0 then nI (f / n) else 0) = X at fE fP fO f81 f82 f83 f09 f08
    have fe : ∀ z, (z < 66 ∧ z ≠ 0 ∧ z ≠ 8) → X z = D z := fun z h => fE z h.1 h.2.1 h.2.2
    have f40 := fe 40 (by decide)
    have f42 := fe 42 (by decide)
    have f44 := fe 44 (by decide)
    have f45 := fe 45 (by decide)
    have frX : ∀ E : Nat → Nat → Int32, E 44 = D 44 → E 45 = D 45 → frL E = frL D := fun E y1 y2 => by funext p; unfold frL; rw [y1, y2]
    have frx := frX (up2 X 40 0 0) f44 f45
    have m1 := lp_b27 (b := b) (D := up2 X 40 0 0) (w := w) (T := T) (pa := pa) (dr := dr) (np := np) (mk := np) hn (n0 := np) (show up2 X 40 0 0 40 4 = nI np by rw [up2_k (by decide), f40, h4]) hn1 hn2 np FU 0 (by omega) (by unfold FU; omega)
    rw [show cN (frL (up2 X 40 0 0)) 0 = 0 from rfl, nI_0, frx, hf] at m1
    have m2 := lp_b79 (b := b) (D := D) (E := up2 X 40 0 0) (w := w) (T := T) (pa := pa) (dr := dr) (np := np) (mk := np) hn (n0 := np) (show up2 X 40 0 0 40 4 = nI np by rw [up2_k (by decide), f40, h4]) (show up2 X 40 0 0 40 9 = D 8 1 by rw [up2_k (by decide), f40, g2]) f44 hn1 hn2 (rfl : f / n * n = f / n * n) (by omega) np FU 0 (by omega) (by unfold FU; omega)
    rw [show cN (frL D) 0 = 0 from rfl, Nat.zero_min, Nat.sub_zero, nI_0, show bkM D (f / n * n) n 0 = up2 X 40 0 0 45 from funext (fun x => by rw [up2_ne (by decide), f45]; exact if_neg (by omega)), upR_self] at m2
    simp (decide := true) only [fX10_bind, f_in, wid_le, bn_s, bn2_s, nm_s, onul_n, onul_s, if_true, if_false, and_self, and_true, true_and, and_false, false_and, or_self, or_false, false_or, or_true, true_or, not_true_eq_false, not_false_eq_true, eq_self, ne_eq, i01, up2_same, up2_ne, upd_app, el_0, el_1, el_2, el_3, el_20, el_50, el_100, el_200, el_1000, el_10000, el_1000000, el_m1000000, el_100000000, er_0, er_1, er_2, er_3, er_20, er_50, er_100, er_200, er_1000, er_10000, er_1000000, er_m1000000, er_100000000, hw40_0, q, m1, m2]
    refine ⟨_, _, _, _, _, _, rfl, ⟨?_, ?_⟩, inv4 s2 s3 s4 s5 ?_ (fun o z1 z2 => ?_) (fun o z1 z2 => ?_) ?_ ?_ ?_ ?_ ?_⟩
    · rw [up2_v]
      exact (by (repeat (first | rw [up2_ne (by omega)] | rw [upR_ne (by omega)] | rw [up2_k (by omega)] | rw [up2_v])) : _ = X 0 9).trans f09
    · exact ((by (repeat (first | rw [up2_ne (by omega)] | rw [upR_ne (by omega)] | rw [up2_k (by omega)] | rw [up2_v])) : _ = X 0 8).trans f08).trans (s1.2.trans ((by (repeat (first | rw [up2_ne (by omega)] | rw [upR_ne (by omega)] | rw [up2_k (by omega)] | rw [up2_v])) : _ = X 40 25).trans (by rw [f40])).symm)
    · refine Ipc_bind s6 hn1 hn2 hf ?_ ?_ ?_ ?_ ?_ ?_ ?_ ?_ ?_ ?_ ?_ ?_ ?_ ?_ ?_ ?_ (fun p hp => ?_) (fun p => ?_)
      · exact (by (repeat (first | rw [up2_ne (by omega)] | rw [upR_ne (by omega)] | rw [up2_k (by omega)] | rw [up2_v])) : _ = X 1).trans (fe 1 (by decide))
      · exact (by (repeat (first | rw [up2_ne (by omega)] | rw [upR_ne (by omega)] | rw [up2_k (by omega)] | rw [up2_v])) : _ = X 4).trans (fe 4 (by decide))
      · exact (by (repeat (first | rw [up2_ne (by omega)] | rw [upR_ne (by omega)] | rw [up2_k (by omega)] | rw [up2_v])) : _ = X 5).trans (fe 5 (by decide))
      · exact (by (repeat (first | rw [up2_ne (by omega)] | rw [upR_ne (by omega)] | rw [up2_k (by omega)] | rw [up2_v])) : _ = X 6).trans (fe 6 (by decide))
      · exact (by (repeat (first | rw [up2_ne (by omega)] | rw [upR_ne (by omega)] | rw [up2_k (by omega)] | rw [up2_v])) : _ = X 40 2).trans (by rw [f40])
      · exact (by (repeat (first | rw [up2_ne (by omega)] | rw [upR_ne (by omega)] | rw [up2_k (by omega)] | rw [up2_v])) : _ = X 40 4).trans (by rw [f40])
      · exact (by (repeat (first | rw [up2_ne (by omega)] | rw [upR_ne (by omega)] | rw [up2_k (by omega)] | rw [up2_v])) : _ = X 40 34).trans (by rw [f40])
      · exact (by (repeat (first | rw [up2_ne (by omega)] | rw [upR_ne (by omega)] | rw [up2_k (by omega)] | rw [up2_v])) : _ = X 41).trans (fe 41 (by decide))
      · exact (by (repeat (first | rw [up2_ne (by omega)] | rw [upR_ne (by omega)] | rw [up2_k (by omega)] | rw [up2_v])) : _ = X 42).trans (fe 42 (by decide))
      · exact (by (repeat (first | rw [up2_ne (by omega)] | rw [upR_ne (by omega)] | rw [up2_k (by omega)] | rw [up2_v])) : _ = X 43).trans (fe 43 (by decide))
      · exact (by (repeat (first | rw [up2_ne (by omega)] | rw [upR_ne (by omega)] | rw [up2_k (by omega)] | rw [up2_v])) : _ = X 44).trans (fe 44 (by decide))
      · rw [up2_ne (by decide), up2_ne (by decide), upR_same]
      · exact (by (repeat (first | rw [up2_ne (by omega)] | rw [upR_ne (by omega)] | rw [up2_k (by omega)] | rw [up2_v])) : _ = X 8 0).trans f81
      · exact (by (repeat (first | rw [up2_ne (by omega)] | rw [upR_ne (by omega)] | rw [up2_k (by omega)] | rw [up2_v])) : _ = X 8 1).trans f82
      · exact (by (repeat (first | rw [up2_ne (by omega)] | rw [upR_ne (by omega)] | rw [up2_k (by omega)] | rw [up2_v])) : _ = X 8 2).trans f83
      · rw [up2_k (by decide), up2_v]
      · exact (by (repeat (first | rw [up2_ne (by omega)] | rw [upR_ne (by omega)] | rw [up2_k (by omega)] | rw [up2_v])) : _ = X (66 + 2 * p)).trans (fP p hp)
      · exact (by (repeat (first | rw [up2_ne (by omega)] | rw [upR_ne (by omega)] | rw [up2_k (by omega)] | rw [up2_v])) : _ = X (66 + 2 * p + 1)).trans (fO p)
    · exact (by (repeat (first | rw [up2_ne (by omega)] | rw [upR_ne (by omega)] | rw [up2_k (by omega)] | rw [up2_v])) : _ = X o).trans (fe o (by omega))
    · exact (by (repeat (first | rw [up2_ne (by omega)] | rw [upR_ne (by omega)] | rw [up2_k (by omega)] | rw [up2_v])) : _ = X o).trans (fe o (by omega))
    · exact (by (repeat (first | rw [up2_ne (by omega)] | rw [upR_ne (by omega)] | rw [up2_k (by omega)] | rw [up2_v])) : _ = X 40 10).trans (by rw [f40])
    · exact (by (repeat (first | rw [up2_ne (by omega)] | rw [upR_ne (by omega)] | rw [up2_k (by omega)] | rw [up2_v])) : _ = X 40 20).trans (by rw [f40])
    · exact (by (repeat (first | rw [up2_ne (by omega)] | rw [upR_ne (by omega)] | rw [up2_k (by omega)] | rw [up2_v])) : _ = X 40 27).trans (by rw [f40])
    · exact (by (repeat (first | rw [up2_ne (by omega)] | rw [upR_ne (by omega)] | rw [up2_k (by omega)] | rw [up2_v])) : _ = X 40 35).trans (by rw [f40])
    · exact (by (repeat (first | rw [up2_ne (by omega)] | rw [upR_ne (by omega)] | rw [up2_k (by omega)] | rw [up2_v])) : _ = X 40 40).trans (by rw [f40])
  · simp (decide := true) only [armF, fX9_bind, fX0_bindBooks, fX10_bind, f_within, f_in, f_noted, f_told, wid_le, bn_s, bn2_s, nm_s, onul_n, onul_s, if_true, if_false, and_self, and_true, true_and, and_false, false_and, or_self, or_false, false_or, or_true, true_or, not_true_eq_false, not_false_eq_true, eq_self, ne_eq, i01, up2_same, up2_ne, upd_app, hk40, hr40_0, hw40_0, hr40_1, hw40_1, hr40_2, hw40_2, hr40_3, hr40_4, hw40_4, hr40_5, hr40_6, hr40_7, hr40_8, hr40_9, hw40_9, hr40_10, hw40_10, hr40_11, hr40_12, hr40_13, hw40_13, hr40_14, hw40_14, hr40_15, hr40_16, hr40_17, hr40_18, hr40_19, hr40_20, hw40_20, hr40_21, hw40_21, hr40_22, hw40_22, hr40_23, hw40_23, hr40_24, hr40_25, hw40_25, hr40_26, hw40_26, hr40_27, hw40_27, hr40_28, hr40_29, hr40_30, hr40_31, hr40_32, hr40_33, hr40_34, hw40_34, hr40_35, hw40_35, hr40_36, hr40_37, hr40_38, hr40_39, hr40_40, hw40_40, hr40_41, hr40_42, hr40_43, hl41, hs41, hl42, hs42, hl43, hs43, hl44, hs44, hl45, hs45, hl46, hs46, hl47, hs47, hl48, hs48, hl49, hs49, hl50, hs50, hl51, hs51, hl52, hs52, hl53, hs53, hl54, hs54, hl55, hs55, hl56, hs56, hl57, hs57, hl58, hs58, hl59, hs59, hl60, hs60, hl61, hs61, hl62, hs62, hl63, hs63, hl64, hs64, hl65, hs65, hw40_24, hk0, hr0_0, hr0_1, hr0_2, hr0_3, hr0_4, hr0_5, hr0_6, hr0_7, hr0_8, hw0_8, hr0_9, hw0_9, hk1, hr1_0, hr1_1, hr1_2, hr1_3, hw1_3, hr1_4, hw1_4, hl4, hs4, hl5, hs5, hl6, hs6, hk8, hr8_0, hw8_0, hr8_1, hw8_1, hr8_2, hw8_2, hk9, hr9_0, hr9_1, hr9_2, hk10, hr10_0, hr10_1, hw10_1, hr10_2, hw10_2, hr10_3, hw10_3, hr10_4, hw10_4, hl11, hs11, hl12, hs12, hl13, hs13, hk14, hr14_0, hr14_1, hr14_2, hr14_3, hr14_4, hw14_4, hk16, hr16_0, hw16_0, hr16_1, hw16_1, hr16_2, hw16_2, hr16_3, hw16_3, hr16_4, hw16_4, hk17, hr17_0, hw17_0, hr17_1, hw17_1, hr17_2, hw17_2, hr17_3, hw17_3, hr17_4, hw17_4, hk18, hr18_0, hw18_0, hr18_1, hw18_1, hr18_2, hw18_2, hr18_3, hw18_3, hr18_4, hw18_4, hl19, hs19, hl20, hs20, hl21, hs21, hk22, hr22_0, hr22_1, hr22_2, hr22_3, hr22_4, hw22_4, hr22_5, hr22_6, hr22_7, hr22_8, hw22_8, hl23, hs23, hl24, hs24, hl25, hs25, hl26, hs26, hl27, hs27, hl28, hs28, hl29, hs29, hk30, hr30_0, hw30_0, hr30_1, hw30_1, hr30_2, hr30_3, hr30_4, hr30_5, hl31, hs31, hl32, hs32, hl33, hs33, hl34, hs34, hk35, hr35_0, hw35_0, hr35_1, hw35_1, hr35_2, hr35_3, hr35_4, hr35_5, hl36, hs36, hl37, hs37, hl38, hs38, hl39, hs39, hw0_6, hw0_7, hl7, hs7, el_0, el_1, el_2, el_3, el_20, el_50, el_100, el_200, el_1000, el_10000, el_1000000, el_m1000000, el_100000000, er_0, er_1, er_2, er_3, er_20, er_50, er_100, er_200, er_1000, er_10000, er_1000000, er_m1000000, er_100000000, q]
    exact ⟨_, _, _, _, _, _, rfl, ⟨rfl, s1.2⟩, Isk_of s2 rfl rfl rfl rfl rfl rfl rfl rfl rfl rfl rfl rfl, Igt_of s3 rfl rfl rfl rfl rfl rfl rfl rfl rfl rfl rfl rfl rfl rfl rfl rfl rfl rfl, Itp_of s4 rfl rfl rfl rfl, Ipl_of s5 (fun o h1 h2 => by repeat (rw [up2_ne (by omega)])) rfl rfl rfl, Ipc_of s6 rfl rfl rfl rfl rfl rfl rfl rfl rfl rfl rfl rfl rfl rfl (fun x => by repeat (rw [up2_ne (by omega)]))⟩
end
