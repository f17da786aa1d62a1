theorem wS_add (f g : Nat → Int32) : ∀ n, wS (fun i => f i + g i) n = wS f n + wS g n
  | 0 => rfl
  | n + 1 => by
    show wS (fun i => f i + g i) n + (f n + g n) = (wS f n + f n) + (wS g n + g n)
    rw [wS_add f g n]
    ac_rfl
theorem sI_add (f g : Nat → Int) : ∀ n, sI (fun i => f i + g i) n = sI f n + sI g n
  | 0 => rfl
  | n + 1 => by
    show sI (fun i => f i + g i) n + (f n + g n) = (sI f n + f n) + (sI g n + g n)
    rw [sI_add f g n]
    omega
theorem sI_0 : ∀ n, sI (fun _ => 0) n = 0
  | 0 => rfl
  | n + 1 => by
    show sI (fun _ => 0) n + 0 = 0
    rw [sI_0 n]
    rfl
theorem upd_up {D : Nat → Nat → Int32} {o x y : Nat} {f : Nat → Int32} {u v : Int32} : up2 (up2 (upR D o f) o x u) o y v = upR D o (upd (upd f x u) y v) := by
  rw [upR_up, upR_up, upR_upR, upR_upR, upR_same, upR_same]
theorem upd_1 {D : Nat → Nat → Int32} {o x : Nat} {f : Nat → Int32} {u : Int32} : up2 (upR D o f) o x u = upR D o (upd f x u) := by
  rw [upR_up, upR_upR, upR_same]
/-- the class's pot behind i bars -/
def mlA (A B : Nat → Int32) (i : Nat) : Nat → Int32 := fun j => if j < i then A j + B j else A j
/-- the reference's rows behind i bars -/
def mlM (g : Nat → Int32) (a c i : Nat) : Nat → Int32 := fun j => if 10 * a ≤ j ∧ j < 10 * a + i then g j + g (j - 10 * a + 10 * c) else if 10 * c ≤ j ∧ j < 10 * c + i then 0 else g j
section
variable {b : Nat} {D : Nat → Nat → Int32} {w : Int64} {T : Nat → Int64} {pa dr np mk : Nat}
theorem lp_ml {a c : Nat} (ha : a < mk) (hc : c < mk) (hac : a ≠ c) : ∀ (n m i : Nat), i + n = 10 → n < m → fX7_meltInto_51 m (b + 66 + 2 * a) (b + 66 + 2 * c) (nI i) (HH b (upR D (66 + 2 * a + 1) (mlA (D (66 + 2 * a + 1)) (D (66 + 2 * c + 1)) i)) w T pa dr np mk) = some (D (66 + 2 * a) 1 + D (66 + 2 * c) 1, HH b (up2 (up2 (upR D (66 + 2 * a + 1) (mlA (D (66 + 2 * a + 1)) (D (66 + 2 * c + 1)) 10)) (66 + 2 * a) 1 (D (66 + 2 * a) 1 + D (66 + 2 * c) 1)) (66 + 2 * c) 4 1) w T pa dr np mk) := by
  have e1 : ∀ f, upR D (66 + 2 * a + 1) f (66 + 2 * a) = D (66 + 2 * a) := fun f => upR_ne (by omega)
  have e2 : ∀ f, upR D (66 + 2 * a + 1) f (66 + 2 * c) = D (66 + 2 * c) := fun f => upR_ne (by omega)
  have e3 : ∀ f, upR D (66 + 2 * a + 1) f (66 + 2 * c + 1) = D (66 + 2 * c + 1) := fun f => upR_ne (by omega)
  have e4 : ∀ (E : Nat → Nat → Int32) v, up2 E (66 + 2 * c) 4 v (66 + 2 * a) = E (66 + 2 * a) := fun E v => up2_ne (by omega)
  intro n
  induction n with
  | zero =>
    intro m i hi hm
    obtain ⟨m, rfl⟩ : ∃ m', m = m' + 1 := ⟨m - 1, by omega⟩
    have e : i = 10 := by omega
    subst e
    have c1 : (10 : Int32) ≤ nI 10 := nI_le (a := 10) (Nat.le_refl _) (by omega)
    simp (decide := true) only [fX7_meltInto_51, bn_s, bn2_s, nm_s, onul_n, onul_s, if_true, if_false, and_self, and_true, true_and, and_false, false_and, or_self, or_false, false_or, or_true, true_or, not_true_eq_false, not_false_eq_true, eq_self, ne_eq, i01, up2_same, up2_ne, upd_app, c1, hrP_1 ha, hrP_1 hc, hwP_1 ha, hwP_4 hc, e1, e2, e4]
  | succ n ih =>
    intro m i hi hm
    obtain ⟨m, rfl⟩ : ∃ m', m = m' + 1 := ⟨m - 1, by omega⟩
    have c1 : ¬ (10 : Int32) ≤ nI i := nI_ge (b := 10) (by omega) (by omega)
    have c3 : ¬ nI i < 0 := nI_pos (by omega)
    have c4 : (nI i).toNatClampNeg = i := nI_clamp (by omega)
    have c5 : ¬ 10 ≤ i := by omega
    have ih := ih m (i + 1) (by omega) (by omega)
    have g1 : mlA (D (66 + 2 * a + 1)) (D (66 + 2 * c + 1)) i i = D (66 + 2 * a + 1) i := if_neg (by omega)
    have g2 : upd (mlA (D (66 + 2 * a + 1)) (D (66 + 2 * c + 1)) i) i (D (66 + 2 * a + 1) i + D (66 + 2 * c + 1) i) = mlA (D (66 + 2 * a + 1)) (D (66 + 2 * c + 1)) (i + 1) := by
      funext j
      rw [upd_app]
      unfold mlA
      by_cases z : j = i
      · subst z
        rw [if_pos rfl, if_pos (by omega)]
      · rw [if_neg z]
        by_cases z2 : j < i
        · rw [if_pos z2, if_pos (by omega)]
        · rw [if_neg z2, if_neg (by omega)]
    simp (decide := true) only [fX7_meltInto_51, bn_s, bn2_s, or_self, if_false, hrP_0 ha, hrP_0 hc, hlP ha, hlP hc, hsP ha, c1, c3, c4, c5, upR_same, e3, g1, upd_1, g2, nI_1, ih]
theorem lp_mm {a c : Nat} (ha : a < 120) (hc : c < 120) (hac : a ≠ c) : ∀ (n m i : Nat), i + n = 10 → n < m → fX10_melt_58 m (b + 40) (nI a) (nI c) (nI i) (HH b (upR D 43 (mlM (D 43) a c i)) w T pa dr np mk) = some (wS (fun i => D 43 (10 * a + i)) 10 + wS (fun i => D 43 (10 * c + i)) 10, HH b (up2 (up2 (upR D 43 (mlM (D 43) a c 10)) 42 c 1) 40 1 (if wS (fun i => D 43 (10 * a + i)) 10 + wS (fun i => D 43 (10 * c + i)) 10 < 0 then wS (fun i => D 43 (10 * a + i)) 10 + wS (fun i => D 43 (10 * c + i)) 10 else 0)) w T pa dr np mk) := by
  intro n
  induction n with
  | zero =>
    intro m i hi hm
    obtain ⟨m, rfl⟩ : ∃ m', m = m' + 1 := ⟨m - 1, by omega⟩
    have e : i = 10 := by omega
    subst e
    have c1 : (10 : Int32) ≤ nI 10 := nI_le (a := 10) (Nat.le_refl _) (by omega)
    have c3 : ¬ nI c < 0 := nI_pos (by omega)
    have c4 : (nI c).toNatClampNeg = c := nI_clamp (by omega)
    have c5 : ¬ 120 ≤ c := by omega
    have ew : wS (fun i => mlM (D 43) a c 10 (10 * a + i)) 10 = wS (fun i => D 43 (10 * a + i)) 10 + wS (fun i => D 43 (10 * c + i)) 10 := by
      rw [← wS_add]
      refine wS_congr 10 (fun i hi => ?_)
      show (if 10 * a ≤ 10 * a + i ∧ 10 * a + i < 10 * a + 10 then D 43 (10 * a + i) + D 43 (10 * a + i - 10 * a + 10 * c) else _) = _
      rw [if_pos (by omega), show 10 * a + i - 10 * a + 10 * c = 10 * c + i by omega]
    generalize wS (fun i => D 43 (10 * a + i)) 10 + wS (fun i => D 43 (10 * c + i)) 10 = X at ew
    simp (decide := true) only [fX10_melt_58, bn_s, bn2_s, nm_s, onul_n, onul_s, if_true, if_false, and_self, and_true, true_and, and_false, false_and, or_self, or_false, false_or, or_true, true_or, not_true_eq_false, not_false_eq_true, eq_self, ne_eq, i01, up2_same, up2_ne, upd_app, c1, c3, c4, c5, hk40, hr40_5, hs42, f_wt ha, f_told, upR_same, ew]
  | succ n ih =>
    intro m i hi hm
    obtain ⟨m, rfl⟩ : ∃ m', m = m' + 1 := ⟨m - 1, by omega⟩
    have c1 : ¬ (10 : Int32) ≤ nI i := nI_ge (b := 10) (by omega) (by omega)
    have c3 : ¬ nI (10 * a + i) < 0 := nI_pos (by omega)
    have c4 : (nI (10 * a + i)).toNatClampNeg = 10 * a + i := nI_clamp (by omega)
    have c5 : ¬ 1200 ≤ 10 * a + i := by omega
    have d3 : ¬ nI (10 * c + i) < 0 := nI_pos (by omega)
    have d4 : (nI (10 * c + i)).toNatClampNeg = 10 * c + i := nI_clamp (by omega)
    have d5 : ¬ 1200 ≤ 10 * c + i := by omega
    have ih := ih m (i + 1) (by omega) (by omega)
    have g1 : mlM (D 43) a c i (10 * a + i) = D 43 (10 * a + i) := by
      unfold mlM
      rw [if_neg (by omega), if_neg (by omega)]
    have g2 : mlM (D 43) a c i (10 * c + i) = D 43 (10 * c + i) := by
      unfold mlM
      rw [if_neg (by omega), if_neg (by omega)]
    have g3 : upd (upd (mlM (D 43) a c i) (10 * a + i) (D 43 (10 * a + i) + D 43 (10 * c + i))) (10 * c + i) 0 = mlM (D 43) a c (i + 1) := by
      funext j
      rw [upd_app, upd_app]
      unfold mlM
      by_cases z : j = 10 * c + i
      · rw [if_pos z, if_neg (by omega), if_pos (by omega)]
      · rw [if_neg z]
        by_cases z2 : j = 10 * a + i
        · subst z2
          rw [if_pos rfl, if_pos (by omega), show 10 * a + i - 10 * a + 10 * c = 10 * c + i by omega]
        · rw [if_neg z2]
          by_cases z3 : 10 * a ≤ j ∧ j < 10 * a + i
          · rw [if_pos z3, if_pos (by omega)]
          · rw [if_neg z3, if_neg (show ¬ (10 * a ≤ j ∧ j < 10 * a + (i + 1)) by omega)]
            by_cases z4 : 10 * c ≤ j ∧ j < 10 * c + i
            · rw [if_pos z4, if_pos (by omega)]
            · rw [if_neg z4, if_neg (by omega)]
    simp (decide := true) only [fX10_melt_58, bn_s, bn2_s, or_self, if_false, hr40_6, hl43, hs43, pm10, c1, c3, c4, c5, d3, d4, d5, upR_same, g1, g2, upd_1, g3, nI_1, ih]
theorem g_le {D : Nat → Nat → Int32} {nb : Nat} (hnb : nb ≤ 10) (h8 : ∀ j, 0 ≤ (D 43 j).toInt) (h9 : sI (fun p => sI (fun k => (D 43 (10 * p + k)).toInt) 10) 120 ≤ 1000000 * nb) {p : Nat} (hp : p < 120) : sI (fun k => (D 43 (10 * p + k)).toInt) 10 ≤ 10000000 ∧ ∀ k, k < 10 → (D 43 (10 * p + k)).toInt ≤ sI (fun k => (D 43 (10 * p + k)).toInt) 10 := by
  have h := sI_mem (f := fun p => sI (fun k => (D 43 (10 * p + k)).toInt) 10) (fun i => sI_pos (fun j => h8 _) 10) 120 hp
  refine ⟨by omega, fun k hk => sI_mem (f := fun k => (D 43 (10 * p + k)).toInt) (fun i => h8 _) 10 hk⟩
theorem Ipc_melt {D E : Nat → Nat → Int32} {np a c : Nat} (h : Ipc D np) (ha : a < np) (hc : c < np) (hac : a ≠ c) (q1 : D 42 a = 0) (r1 : D 42 c = 0) (z2 : D 44 c ≤ 0) (e1 : E 1 = D 1) (e4 : E 4 = D 4) (e5 : E 5 = D 5) (e6 : E 6 = D 6) (f2 : E 40 2 = D 40 2) (f4 : E 40 4 = D 40 4) (f9 : E 40 9 = D 40 9) (f34 : E 40 34 = D 40 34) (e8 : E 8 = D 8) (a1 : E 41 = D 41) (a4 : E 44 = D 44) (a5 : E 45 = D 45) (a2 : E 42 = upd (D 42) c 1) (a3 : E 43 = mlM (D 43) a c 10) (b1 : E (66 + 2 * a + 1) = mlA (D (66 + 2 * a + 1)) (D (66 + 2 * c + 1)) 10) (b2 : E (66 + 2 * a) = upd (D (66 + 2 * a)) 1 (D (66 + 2 * a) 1 + D (66 + 2 * c) 1)) (b3 : E (66 + 2 * c) = upd (D (66 + 2 * c)) 4 1) (c2 : ∀ x, x ≠ 2 * a → x ≠ 2 * a + 1 → x ≠ 2 * c → E (66 + x) = D (66 + x)) : Ipc E np := by
  obtain ⟨nb, hnb, hn, h1, h2, h3, h4, h5, h5', h6, h7, h8, h9, g1, g2, g3, g4, g5, g6⟩ := h
  have l1 : isL E = isL D := by funext p; unfold isL; rw [a4]
  have l2 : frL E = frL D := by funext p; unfold frL; rw [a4, a5]
  have ga := g_le hnb h8 h9 (show a < 120 by omega)
  have gc := g_le hnb h8 h9 (show c < 120 by omega)
  have u1 : ∀ i, i < 10 → E 43 (10 * a + i) = D 43 (10 * a + i) + D 43 (10 * c + i) := by
    intro i hi
    rw [a3]
    unfold mlM
    rw [if_pos (by omega), show 10 * a + i - 10 * a + 10 * c = 10 * c + i by omega]
  have u2 : ∀ i, i < 10 → E 43 (10 * c + i) = 0 := by
    intro i hi
    rw [a3]
    unfold mlM
    rw [if_neg (by omega), if_pos (by omega)]
  have u3 : ∀ p i, p ≠ a → p ≠ c → i < 10 → E 43 (10 * p + i) = D 43 (10 * p + i) := by
    intro p i z1 z2 hi
    rw [a3]
    unfold mlM
    rw [if_neg (by omega), if_neg (by omega)]
  have u4 : ∀ i, i < 10 → (E 43 (10 * a + i)).toInt = (D 43 (10 * a + i)).toInt + (D 43 (10 * c + i)).toInt := by
    intro i hi
    rw [u1 i hi]
    have := ga.2 i hi
    have := gc.2 i hi
    have := h8 (10 * a + i)
    have := h8 (10 * c + i)
    exact ta _ _ (by omega) (by omega)
  have u5 : ∀ p, p ≠ c → E 42 p = D 42 p := fun p hp => by rw [a2, upd_app, if_neg hp]
  refine ⟨nb, hnb, hn, by rw [e1]; exact h1, by rw [f2]; exact h2, by rw [e1]; exact h3, by rw [f4]; exact h4, by rw [e4, e5, e6, a1]; exact h5, by rw [e4, e5, e6]; exact h5', ?_, ?_, ?_, ?_, by rw [e8, f34]; exact g1, by rw [e8, f9]; exact g2, by rw [e8, l1]; exact g3, by rw [e8, l2]; exact g4, by rw [f9]; exact g5, by rw [f9, l1, l2]; exact g6⟩
  · intro p hp
    by_cases y : p = a
    · subst y
      obtain ⟨w1, w2, w3, w4, w5, w6, w7⟩ := h6 p hp
      obtain ⟨x1, x2, x3, x4, x5, x6, x7⟩ := h6 c hc
      have ep := u5 p hac
      refine ⟨by rw [ep]; exact w1, ?_, ?_, ?_, ?_, ?_, ?_⟩
      · rw [b2, ep]
        exact w2
      · rw [b2, a4]
        exact w3
      · rw [b2, a5]
        exact w4
      · intro _
        refine ⟨?_, ?_⟩
        · intro i hi
          rw [b1, u1 i hi]
          unfold mlA
          rw [if_pos hi, (w5 q1).1 i hi, (x5 r1).1 i hi]
        · rw [b2, upd_app, if_pos rfl, (w5 q1).2, (x5 r1).2, ← wS_add]
          exact wS_congr 10 (fun i hi => (u1 i hi).symm)
      · rw [ep, q1]
        exact fun x => absurd x (by decide)
      · rw [a4, a5]
        exact w7
    · by_cases y2 : p = c
      · subst y2
        obtain ⟨x1, x2, x3, x4, x5, x6, x7⟩ := h6 p hp
        have ep : E 42 p = 1 := by rw [a2, upd_app, if_pos rfl]
        refine ⟨Or.inr ep, ?_, ?_, ?_, ?_, ?_, ?_⟩
        · rw [b3, ep]
          rfl
        · rw [b3, a4]
          exact x3
        · rw [b3, a5]
          exact x4
        · rw [ep]
          exact fun x => absurd x (by decide)
        · rw [a4]
          exact fun _ => z2
        · rw [a4, a5]
          exact x7
      · exact Pc1_of (h6 p hp) (u5 p y2) (by rw [a4]) (by rw [a5]) (c2 (2 * p) (by omega) (by omega) (by omega)) (c2 (2 * p + 1) (by omega) (by omega) (by omega)) (fun i hi => u3 p i y y2 hi)
  · intro p hp
    rw [a4, u5 p (by omega)]
    exact h7 p hp
  · intro j
    by_cases y : j / 10 = a
    · have := u4 (j % 10) (by omega)
      rw [show 10 * a + j % 10 = j by omega] at this
      have := h8 j
      have := h8 (10 * c + j % 10)
      omega
    · by_cases y2 : j / 10 = c
      · have := u2 (j % 10) (by omega)
        rw [show 10 * c + j % 10 = j by omega] at this
        rw [this]
        exact Int.le_refl 0
      · have := u3 (j / 10) (j % 10) y y2 (by omega)
        rw [show 10 * (j / 10) + j % 10 = j by omega] at this
        rw [this]
        exact h8 j
  · have t1 : sI (fun k => (E 43 (10 * a + k)).toInt) 10 = sI (fun k => (D 43 (10 * a + k)).toInt) 10 + sI (fun k => (D 43 (10 * c + k)).toInt) 10 := by
      rw [← sI_add]
      exact sI_congr 10 u4
    have t2 : sI (fun k => (E 43 (10 * c + k)).toInt) 10 = 0 := by
      rw [← sI_0 10]
      exact sI_congr 10 (fun i hi => by rw [u2 i hi]; rfl)
    have t3 : ∀ p, p ≠ a → p ≠ c → sI (fun k => (E 43 (10 * p + k)).toInt) 10 = sI (fun k => (D 43 (10 * p + k)).toInt) 10 := fun p z1 z2 => sI_congr 10 (fun i hi => by rw [u3 p i z1 z2 hi])
    have t4 := sI_one (f := fun p => sI (fun k => (D 43 (10 * p + k)).toInt) 10) (g := fun p => if p = a then sI (fun k => (E 43 (10 * a + k)).toInt) 10 else sI (fun k => (D 43 (10 * p + k)).toInt) 10) (p := a) (fun i hi => if_neg hi) 120 (by omega)
    have t5 := sI_one (f := fun p => if p = a then sI (fun k => (E 43 (10 * a + k)).toInt) 10 else sI (fun k => (D 43 (10 * p + k)).toInt) 10) (g := fun p => sI (fun k => (E 43 (10 * p + k)).toInt) 10) (p := c) (fun i hi => by
      show sI (fun k => (E 43 (10 * i + k)).toInt) 10 = if i = a then _ else _
      by_cases z : i = a
      · rw [if_pos z, z]
      · rw [if_neg z, t3 i z hi]) 120 (by omega)
    simp only [if_true, if_neg (Ne.symm hac)] at t4 t5
    omega
theorem op_melt (hI : Inv D pa dr np) (p m : Int32) : Good b (armF (fX9_melt b p m) (fX10_melt (b + 40) p m) (HH b D w T pa dr np np)) := by
  obtain ⟨s1, s2, s3, s4, s5, s6⟩ := hI
  obtain ⟨nb, hnb, hn, h1, h2, h3, h4, h5, h5', h6, h7⟩ := id s6
  rcases p_split h6 hn p with q | ⟨k, hk, rfl, q1, q2⟩
  · rcases p_split h6 hn m with r | ⟨j, hj, rfl, r1, r2⟩
    · simp (decide := true) only [armF, fX9_melt, fX7_meltInto, fX10_melt, f_noted, f_told, f_livD q hn (Nat.le_refl _) h3, f_livD r hn (Nat.le_refl _) h3, f_isPD q hn, bn_s, bn2_s, nm_s, onul_n, onul_s, if_true, if_false, and_self, and_true, true_and, and_false, false_and, or_self, or_false, false_or, or_true, true_or, not_true_eq_false, not_false_eq_true, eq_self, ne_eq, i01, up2_same, up2_ne, upd_app, hk40, hr40_0, hw40_0, hr40_1, hw40_1, hr40_2, hw40_2, hr40_3, hr40_4, hw40_4, hr40_5, hr40_6, hr40_7, hr40_8, hr40_9, hw40_9, hr40_10, hw40_10, hr40_11, hr40_12, hr40_13, hw40_13, hr40_14, hw40_14, hr40_15, hr40_16, hr40_17, hr40_18, hr40_19, hr40_20, hw40_20, hr40_21, hw40_21, hr40_22, hw40_22, hr40_23, hw40_23, hr40_24, hr40_25, hw40_25, hr40_26, hw40_26, hr40_27, hw40_27, hr40_28, hr40_29, hr40_30, hr40_31, hr40_32, hr40_33, hr40_34, hw40_34, hr40_35, hw40_35, hr40_36, hr40_37, hr40_38, hr40_39, hr40_40, hw40_40, hr40_41, hr40_42, hr40_43, hl41, hs41, hl42, hs42, hl43, hs43, hl44, hs44, hl45, hs45, hl46, hs46, hl47, hs47, hl48, hs48, hl49, hs49, hl50, hs50, hl51, hs51, hl52, hs52, hl53, hs53, hl54, hs54, hl55, hs55, hl56, hs56, hl57, hs57, hl58, hs58, hl59, hs59, hl60, hs60, hl61, hs61, hl62, hs62, hl63, hs63, hl64, hs64, hl65, hs65, hw40_24, hk0, hr0_0, hr0_1, hr0_2, hr0_3, hr0_4, hr0_5, hr0_6, hr0_7, hr0_8, hw0_8, hr0_9, hw0_9, hk1, hr1_0, hr1_1, hr1_2, hr1_3, hw1_3, hr1_4, hw1_4, hl4, hs4, hl5, hs5, hl6, hs6, hk8, hr8_0, hw8_0, hr8_1, hw8_1, hr8_2, hw8_2, hk9, hr9_0, hr9_1, hr9_2, hk10, hr10_0, hr10_1, hw10_1, hr10_2, hw10_2, hr10_3, hw10_3, hr10_4, hw10_4, hl11, hs11, hl12, hs12, hl13, hs13, hk14, hr14_0, hr14_1, hr14_2, hr14_3, hr14_4, hw14_4, hk16, hr16_0, hw16_0, hr16_1, hw16_1, hr16_2, hw16_2, hr16_3, hw16_3, hr16_4, hw16_4, hk17, hr17_0, hw17_0, hr17_1, hw17_1, hr17_2, hw17_2, hr17_3, hw17_3, hr17_4, hw17_4, hk18, hr18_0, hw18_0, hr18_1, hw18_1, hr18_2, hw18_2, hr18_3, hw18_3, hr18_4, hw18_4, hl19, hs19, hl20, hs20, hl21, hs21, hk22, hr22_0, hr22_1, hr22_2, hr22_3, hr22_4, hw22_4, hr22_5, hr22_6, hr22_7, hr22_8, hw22_8, hl23, hs23, hl24, hs24, hl25, hs25, hl26, hs26, hl27, hs27, hl28, hs28, hl29, hs29, hk30, hr30_0, hw30_0, hr30_1, hw30_1, hr30_2, hr30_3, hr30_4, hr30_5, hl31, hs31, hl32, hs32, hl33, hs33, hl34, hs34, hk35, hr35_0, hw35_0, hr35_1, hw35_1, hr35_2, hr35_3, hr35_4, hr35_5, hl36, hs36, hl37, hs37, hl38, hs38, hl39, hs39, hw0_6, hw0_7, hl7, hs7, el_0, el_1, el_2, el_3, el_20, el_50, el_100, el_200, el_1000, el_10000, el_1000000, el_m1000000, el_100000000, er_0, er_1, er_2, er_3, er_20, er_50, er_100, er_200, er_1000, er_10000, er_1000000, er_m1000000, er_100000000, h4]
      exact ⟨_, _, _, _, _, _, rfl, ⟨rfl, s1.2⟩, Isk_of s2 rfl rfl rfl rfl rfl rfl rfl rfl rfl rfl rfl rfl, Igt_of s3 rfl rfl rfl rfl rfl rfl rfl rfl rfl rfl rfl rfl rfl rfl rfl rfl rfl rfl, Itp_of s4 rfl rfl rfl rfl, Ipl_of s5 (fun o h1 h2 => by repeat (rw [up2_ne (by omega)])) rfl rfl rfl, Ipc_of s6 rfl rfl rfl rfl rfl rfl rfl rfl rfl rfl rfl rfl rfl rfl (fun x => by repeat (rw [up2_ne (by omega)]))⟩
    · simp (decide := true) only [armF, fX9_melt, fX7_meltInto, fX10_melt, f_noted, f_told, f_livD q hn (Nat.le_refl _) h3, f_liv0 hj hn (Nat.le_refl _) h3 r2, f_isPD q hn, bn_s, bn2_s, nm_s, onul_n, onul_s, if_true, if_false, and_self, and_true, true_and, and_false, false_and, or_self, or_false, false_or, or_true, true_or, not_true_eq_false, not_false_eq_true, eq_self, ne_eq, i01, up2_same, up2_ne, upd_app, hk40, hr40_0, hw40_0, hr40_1, hw40_1, hr40_2, hw40_2, hr40_3, hr40_4, hw40_4, hr40_5, hr40_6, hr40_7, hr40_8, hr40_9, hw40_9, hr40_10, hw40_10, hr40_11, hr40_12, hr40_13, hw40_13, hr40_14, hw40_14, hr40_15, hr40_16, hr40_17, hr40_18, hr40_19, hr40_20, hw40_20, hr40_21, hw40_21, hr40_22, hw40_22, hr40_23, hw40_23, hr40_24, hr40_25, hw40_25, hr40_26, hw40_26, hr40_27, hw40_27, hr40_28, hr40_29, hr40_30, hr40_31, hr40_32, hr40_33, hr40_34, hw40_34, hr40_35, hw40_35, hr40_36, hr40_37, hr40_38, hr40_39, hr40_40, hw40_40, hr40_41, hr40_42, hr40_43, hl41, hs41, hl42, hs42, hl43, hs43, hl44, hs44, hl45, hs45, hl46, hs46, hl47, hs47, hl48, hs48, hl49, hs49, hl50, hs50, hl51, hs51, hl52, hs52, hl53, hs53, hl54, hs54, hl55, hs55, hl56, hs56, hl57, hs57, hl58, hs58, hl59, hs59, hl60, hs60, hl61, hs61, hl62, hs62, hl63, hs63, hl64, hs64, hl65, hs65, hw40_24, hk0, hr0_0, hr0_1, hr0_2, hr0_3, hr0_4, hr0_5, hr0_6, hr0_7, hr0_8, hw0_8, hr0_9, hw0_9, hk1, hr1_0, hr1_1, hr1_2, hr1_3, hw1_3, hr1_4, hw1_4, hl4, hs4, hl5, hs5, hl6, hs6, hk8, hr8_0, hw8_0, hr8_1, hw8_1, hr8_2, hw8_2, hk9, hr9_0, hr9_1, hr9_2, hk10, hr10_0, hr10_1, hw10_1, hr10_2, hw10_2, hr10_3, hw10_3, hr10_4, hw10_4, hl11, hs11, hl12, hs12, hl13, hs13, hk14, hr14_0, hr14_1, hr14_2, hr14_3, hr14_4, hw14_4, hk16, hr16_0, hw16_0, hr16_1, hw16_1, hr16_2, hw16_2, hr16_3, hw16_3, hr16_4, hw16_4, hk17, hr17_0, hw17_0, hr17_1, hw17_1, hr17_2, hw17_2, hr17_3, hw17_3, hr17_4, hw17_4, hk18, hr18_0, hw18_0, hr18_1, hw18_1, hr18_2, hw18_2, hr18_3, hw18_3, hr18_4, hw18_4, hl19, hs19, hl20, hs20, hl21, hs21, hk22, hr22_0, hr22_1, hr22_2, hr22_3, hr22_4, hw22_4, hr22_5, hr22_6, hr22_7, hr22_8, hw22_8, hl23, hs23, hl24, hs24, hl25, hs25, hl26, hs26, hl27, hs27, hl28, hs28, hl29, hs29, hk30, hr30_0, hw30_0, hr30_1, hw30_1, hr30_2, hr30_3, hr30_4, hr30_5, hl31, hs31, hl32, hs32, hl33, hs33, hl34, hs34, hk35, hr35_0, hw35_0, hr35_1, hw35_1, hr35_2, hr35_3, hr35_4, hr35_5, hl36, hs36, hl37, hs37, hl38, hs38, hl39, hs39, hw0_6, hw0_7, hl7, hs7, el_0, el_1, el_2, el_3, el_20, el_50, el_100, el_200, el_1000, el_10000, el_1000000, el_m1000000, el_100000000, er_0, er_1, er_2, er_3, er_20, er_50, er_100, er_200, er_1000, er_10000, er_1000000, er_m1000000, er_100000000, h4]
      exact ⟨_, _, _, _, _, _, rfl, ⟨rfl, s1.2⟩, Isk_of s2 rfl rfl rfl rfl rfl rfl rfl rfl rfl rfl rfl rfl, Igt_of s3 rfl rfl rfl rfl rfl rfl rfl rfl rfl rfl rfl rfl rfl rfl rfl rfl rfl rfl, Itp_of s4 rfl rfl rfl rfl, Ipl_of s5 (fun o h1 h2 => by repeat (rw [up2_ne (by omega)])) rfl rfl rfl, Ipc_of s6 rfl rfl rfl rfl rfl rfl rfl rfl rfl rfl rfl rfl rfl rfl (fun x => by repeat (rw [up2_ne (by omega)]))⟩
  · rcases p_split h6 hn m with r | ⟨j, hj, rfl, r1, r2⟩
    · simp (decide := true) only [armF, fX9_melt, fX7_meltInto, fX10_melt, f_noted, f_told, f_liv0 hk hn (Nat.le_refl _) h3 q2, f_livD r hn (Nat.le_refl _) h3, f_isP1 hk hn, f_isPD r hn, bn_s, bn2_s, nm_s, onul_n, onul_s, if_true, if_false, and_self, and_true, true_and, and_false, false_and, or_self, or_false, false_or, or_true, true_or, not_true_eq_false, not_false_eq_true, eq_self, ne_eq, i01, up2_same, up2_ne, upd_app, hk40, hr40_0, hw40_0, hr40_1, hw40_1, hr40_2, hw40_2, hr40_3, hr40_4, hw40_4, hr40_5, hr40_6, hr40_7, hr40_8, hr40_9, hw40_9, hr40_10, hw40_10, hr40_11, hr40_12, hr40_13, hw40_13, hr40_14, hw40_14, hr40_15, hr40_16, hr40_17, hr40_18, hr40_19, hr40_20, hw40_20, hr40_21, hw40_21, hr40_22, hw40_22, hr40_23, hw40_23, hr40_24, hr40_25, hw40_25, hr40_26, hw40_26, hr40_27, hw40_27, hr40_28, hr40_29, hr40_30, hr40_31, hr40_32, hr40_33, hr40_34, hw40_34, hr40_35, hw40_35, hr40_36, hr40_37, hr40_38, hr40_39, hr40_40, hw40_40, hr40_41, hr40_42, hr40_43, hl41, hs41, hl42, hs42, hl43, hs43, hl44, hs44, hl45, hs45, hl46, hs46, hl47, hs47, hl48, hs48, hl49, hs49, hl50, hs50, hl51, hs51, hl52, hs52, hl53, hs53, hl54, hs54, hl55, hs55, hl56, hs56, hl57, hs57, hl58, hs58, hl59, hs59, hl60, hs60, hl61, hs61, hl62, hs62, hl63, hs63, hl64, hs64, hl65, hs65, hw40_24, hk0, hr0_0, hr0_1, hr0_2, hr0_3, hr0_4, hr0_5, hr0_6, hr0_7, hr0_8, hw0_8, hr0_9, hw0_9, hk1, hr1_0, hr1_1, hr1_2, hr1_3, hw1_3, hr1_4, hw1_4, hl4, hs4, hl5, hs5, hl6, hs6, hk8, hr8_0, hw8_0, hr8_1, hw8_1, hr8_2, hw8_2, hk9, hr9_0, hr9_1, hr9_2, hk10, hr10_0, hr10_1, hw10_1, hr10_2, hw10_2, hr10_3, hw10_3, hr10_4, hw10_4, hl11, hs11, hl12, hs12, hl13, hs13, hk14, hr14_0, hr14_1, hr14_2, hr14_3, hr14_4, hw14_4, hk16, hr16_0, hw16_0, hr16_1, hw16_1, hr16_2, hw16_2, hr16_3, hw16_3, hr16_4, hw16_4, hk17, hr17_0, hw17_0, hr17_1, hw17_1, hr17_2, hw17_2, hr17_3, hw17_3, hr17_4, hw17_4, hk18, hr18_0, hw18_0, hr18_1, hw18_1, hr18_2, hw18_2, hr18_3, hw18_3, hr18_4, hw18_4, hl19, hs19, hl20, hs20, hl21, hs21, hk22, hr22_0, hr22_1, hr22_2, hr22_3, hr22_4, hw22_4, hr22_5, hr22_6, hr22_7, hr22_8, hw22_8, hl23, hs23, hl24, hs24, hl25, hs25, hl26, hs26, hl27, hs27, hl28, hs28, hl29, hs29, hk30, hr30_0, hw30_0, hr30_1, hw30_1, hr30_2, hr30_3, hr30_4, hr30_5, hl31, hs31, hl32, hs32, hl33, hs33, hl34, hs34, hk35, hr35_0, hw35_0, hr35_1, hw35_1, hr35_2, hr35_3, hr35_4, hr35_5, hl36, hs36, hl37, hs37, hl38, hs38, hl39, hs39, hw0_6, hw0_7, hl7, hs7, el_0, el_1, el_2, el_3, el_20, el_50, el_100, el_200, el_1000, el_10000, el_1000000, el_m1000000, el_100000000, er_0, er_1, er_2, er_3, er_20, er_50, er_100, er_200, er_1000, er_10000, er_1000000, er_m1000000, er_100000000, h4, q1]
      exact ⟨_, _, _, _, _, _, rfl, ⟨rfl, s1.2⟩, Isk_of s2 rfl rfl rfl rfl rfl rfl rfl rfl rfl rfl rfl rfl, Igt_of s3 rfl rfl rfl rfl rfl rfl rfl rfl rfl rfl rfl rfl rfl rfl rfl rfl rfl rfl, Itp_of s4 rfl rfl rfl rfl, Ipl_of s5 (fun o h1 h2 => by repeat (rw [up2_ne (by omega)])) rfl rfl rfl, Ipc_of s6 rfl rfl rfl rfl rfl rfl rfl rfl rfl rfl rfl rfl rfl rfl (fun x => by repeat (rw [up2_ne (by omega)]))⟩
    · by_cases hkj : k = j
      · subst hkj
        simp (decide := true) only [armF, fX9_melt, fX7_meltInto, fX10_melt, f_noted, f_told, f_liv0 hk hn (Nat.le_refl _) h3 q2, f_isP1 hk hn, bn_s, bn2_s, nm_s, onul_n, onul_s, if_true, if_false, and_self, and_true, true_and, and_false, false_and, or_self, or_false, false_or, or_true, true_or, not_true_eq_false, not_false_eq_true, eq_self, ne_eq, i01, up2_same, up2_ne, upd_app, hk40, hr40_0, hw40_0, hr40_1, hw40_1, hr40_2, hw40_2, hr40_3, hr40_4, hw40_4, hr40_5, hr40_6, hr40_7, hr40_8, hr40_9, hw40_9, hr40_10, hw40_10, hr40_11, hr40_12, hr40_13, hw40_13, hr40_14, hw40_14, hr40_15, hr40_16, hr40_17, hr40_18, hr40_19, hr40_20, hw40_20, hr40_21, hw40_21, hr40_22, hw40_22, hr40_23, hw40_23, hr40_24, hr40_25, hw40_25, hr40_26, hw40_26, hr40_27, hw40_27, hr40_28, hr40_29, hr40_30, hr40_31, hr40_32, hr40_33, hr40_34, hw40_34, hr40_35, hw40_35, hr40_36, hr40_37, hr40_38, hr40_39, hr40_40, hw40_40, hr40_41, hr40_42, hr40_43, hl41, hs41, hl42, hs42, hl43, hs43, hl44, hs44, hl45, hs45, hl46, hs46, hl47, hs47, hl48, hs48, hl49, hs49, hl50, hs50, hl51, hs51, hl52, hs52, hl53, hs53, hl54, hs54, hl55, hs55, hl56, hs56, hl57, hs57, hl58, hs58, hl59, hs59, hl60, hs60, hl61, hs61, hl62, hs62, hl63, hs63, hl64, hs64, hl65, hs65, hw40_24, hk0, hr0_0, hr0_1, hr0_2, hr0_3, hr0_4, hr0_5, hr0_6, hr0_7, hr0_8, hw0_8, hr0_9, hw0_9, hk1, hr1_0, hr1_1, hr1_2, hr1_3, hw1_3, hr1_4, hw1_4, hl4, hs4, hl5, hs5, hl6, hs6, hk8, hr8_0, hw8_0, hr8_1, hw8_1, hr8_2, hw8_2, hk9, hr9_0, hr9_1, hr9_2, hk10, hr10_0, hr10_1, hw10_1, hr10_2, hw10_2, hr10_3, hw10_3, hr10_4, hw10_4, hl11, hs11, hl12, hs12, hl13, hs13, hk14, hr14_0, hr14_1, hr14_2, hr14_3, hr14_4, hw14_4, hk16, hr16_0, hw16_0, hr16_1, hw16_1, hr16_2, hw16_2, hr16_3, hw16_3, hr16_4, hw16_4, hk17, hr17_0, hw17_0, hr17_1, hw17_1, hr17_2, hw17_2, hr17_3, hw17_3, hr17_4, hw17_4, hk18, hr18_0, hw18_0, hr18_1, hw18_1, hr18_2, hw18_2, hr18_3, hw18_3, hr18_4, hw18_4, hl19, hs19, hl20, hs20, hl21, hs21, hk22, hr22_0, hr22_1, hr22_2, hr22_3, hr22_4, hw22_4, hr22_5, hr22_6, hr22_7, hr22_8, hw22_8, hl23, hs23, hl24, hs24, hl25, hs25, hl26, hs26, hl27, hs27, hl28, hs28, hl29, hs29, hk30, hr30_0, hw30_0, hr30_1, hw30_1, hr30_2, hr30_3, hr30_4, hr30_5, hl31, hs31, hl32, hs32, hl33, hs33, hl34, hs34, hk35, hr35_0, hw35_0, hr35_1, hw35_1, hr35_2, hr35_3, hr35_4, hr35_5, hl36, hs36, hl37, hs37, hl38, hs38, hl39, hs39, hw0_6, hw0_7, hl7, hs7, el_0, el_1, el_2, el_3, el_20, el_50, el_100, el_200, el_1000, el_10000, el_1000000, el_m1000000, el_100000000, er_0, er_1, er_2, er_3, er_20, er_50, er_100, er_200, er_1000, er_10000, er_1000000, er_m1000000, er_100000000, h4, q1]
        exact ⟨_, _, _, _, _, _, rfl, ⟨rfl, s1.2⟩, Isk_of s2 rfl rfl rfl rfl rfl rfl rfl rfl rfl rfl rfl rfl, Igt_of s3 rfl rfl rfl rfl rfl rfl rfl rfl rfl rfl rfl rfl rfl rfl rfl rfl rfl rfl, Itp_of s4 rfl rfl rfl rfl, Ipl_of s5 (fun o h1 h2 => by repeat (rw [up2_ne (by omega)])) rfl rfl rfl, Ipc_of s6 rfl rfl rfl rfl rfl rfl rfl rfl rfl rfl rfl rfl rfl rfl (fun x => by repeat (rw [up2_ne (by omega)]))⟩
      · have nkj : ¬ nI k = nI j := nne hkj (by omega) (by omega)
        have a1 := (h6 k hk).2.2.1
        have a2 := (h6 j hj).2.2.1
        by_cases z1 : D 44 k ≤ 0
        · by_cases z2 : D 44 j ≤ 0
          · have e1 := ((h6 k hk).2.2.2.2.1 q1).2
            have e2 := ((h6 j hj).2.2.2.2.1 r1).2
            have cl := lp_ml (b := b) (D := D) (w := w) (T := T) (pa := pa) (dr := dr) (np := np) (mk := np) hk hj hkj 10 FU 0 (by omega) (by unfold FU; omega)
            rw [show mlA (D (66 + 2 * k + 1)) (D (66 + 2 * j + 1)) 0 = D (66 + 2 * k + 1) from funext (fun x => if_neg (by omega)), upR_self, nI_0] at cl
            have ce : fX9_melt b (nI k) (nI j) (HH b D w T pa dr np np) = some (D (66 + 2 * k) 1 + D (66 + 2 * j) 1, HH b (up2 (up2 (up2 (upR D (66 + 2 * k + 1) (mlA (D (66 + 2 * k + 1)) (D (66 + 2 * j + 1)) 10)) (66 + 2 * k) 1 (D (66 + 2 * k) 1 + D (66 + 2 * j) 1)) (66 + 2 * j) 4 1) 0 9 (if D (66 + 2 * k) 1 + D (66 + 2 * j) 1 < 0 then D (66 + 2 * k) 1 + D (66 + 2 * j) 1 else 0)) w T pa dr np np) := by
              simp (decide := true) only [fX9_melt, fX7_meltInto, f_noted, f_liv0 hk hn (Nat.le_refl _) h3 q2, f_liv0 hj hn (Nat.le_refl _) h3 r2, hkP hk, hkP hj, f_cLeaf hk, f_cLeaf hj, bn_s, bn2_s, nm_s, onul_n, onul_s, if_true, if_false, and_self, and_true, true_and, and_false, false_and, or_self, or_false, false_or, or_true, true_or, not_true_eq_false, not_false_eq_true, eq_self, ne_eq, i01, up2_same, up2_ne, upd_app, hk0, hr0_0, hr0_1, hr0_2, hr0_3, hr0_4, hr0_5, hr0_6, hr0_7, hr0_8, hw0_8, hr0_9, hw0_9, hk1, hr1_0, hr1_1, hr1_2, hr1_3, hw1_3, hr1_4, hw1_4, hl4, hs4, hl5, hs5, hl6, hs6, hk8, hr8_0, hw8_0, hr8_1, hw8_1, hr8_2, hw8_2, hk9, hr9_0, hr9_1, hr9_2, hk10, hr10_0, hr10_1, hw10_1, hr10_2, hw10_2, hr10_3, hw10_3, hr10_4, hw10_4, hl11, hs11, hl12, hs12, hl13, hs13, hk14, hr14_0, hr14_1, hr14_2, hr14_3, hr14_4, hw14_4, hk16, hr16_0, hw16_0, hr16_1, hw16_1, hr16_2, hw16_2, hr16_3, hw16_3, hr16_4, hw16_4, hk17, hr17_0, hw17_0, hr17_1, hw17_1, hr17_2, hw17_2, hr17_3, hw17_3, hr17_4, hw17_4, hk18, hr18_0, hw18_0, hr18_1, hw18_1, hr18_2, hw18_2, hr18_3, hw18_3, hr18_4, hw18_4, hl19, hs19, hl20, hs20, hl21, hs21, hk22, hr22_0, hr22_1, hr22_2, hr22_3, hr22_4, hw22_4, hr22_5, hr22_6, hr22_7, hr22_8, hw22_8, hl23, hs23, hl24, hs24, hl25, hs25, hl26, hs26, hl27, hs27, hl28, hs28, hl29, hs29, hk30, hr30_0, hw30_0, hr30_1, hw30_1, hr30_2, hr30_3, hr30_4, hr30_5, hl31, hs31, hl32, hs32, hl33, hs33, hl34, hs34, hk35, hr35_0, hw35_0, hr35_1, hw35_1, hr35_2, hr35_3, hr35_4, hr35_5, hl36, hs36, hl37, hs37, hl38, hs38, hl39, hs39, hw0_6, hw0_7, hl7, hs7, nkj, a1, a2, z1, z2, cl]
            clear cl
            have fE : ∀ x, x < 66 → x ≠ 0 → up2 (up2 (up2 (upR D (66 + 2 * k + 1) (mlA (D (66 + 2 * k + 1)) (D (66 + 2 * j + 1)) 10)) (66 + 2 * k) 1 (D (66 + 2 * k) 1 + D (66 + 2 * j) 1)) (66 + 2 * j) 4 1) 0 9 (if D (66 + 2 * k) 1 + D (66 + 2 * j) 1 < 0 then D (66 + 2 * k) 1 + D (66 + 2 * j) 1 else 0) x = D x := fun x hx hx0 => by rw [up2_ne hx0, up2_ne (by omega), up2_ne (by omega), upR_ne (by omega)]
            have fP : ∀ x, x ≠ 2 * k → x ≠ 2 * k + 1 → x ≠ 2 * j → up2 (up2 (up2 (upR D (66 + 2 * k + 1) (mlA (D (66 + 2 * k + 1)) (D (66 + 2 * j + 1)) 10)) (66 + 2 * k) 1 (D (66 + 2 * k) 1 + D (66 + 2 * j) 1)) (66 + 2 * j) 4 1) 0 9 (if D (66 + 2 * k) 1 + D (66 + 2 * j) 1 < 0 then D (66 + 2 * k) 1 + D (66 + 2 * j) 1 else 0) (66 + x) = D (66 + x) := fun x x1 x2 x3 => by rw [up2_ne (by omega), up2_ne (by omega), up2_ne (by omega), upR_ne (by omega)]
            have fA : up2 (up2 (up2 (upR D (66 + 2 * k + 1) (mlA (D (66 + 2 * k + 1)) (D (66 + 2 * j + 1)) 10)) (66 + 2 * k) 1 (D (66 + 2 * k) 1 + D (66 + 2 * j) 1)) (66 + 2 * j) 4 1) 0 9 (if D (66 + 2 * k) 1 + D (66 + 2 * j) 1 < 0 then D (66 + 2 * k) 1 + D (66 + 2 * j) 1 else 0) (66 + 2 * k + 1) = mlA (D (66 + 2 * k + 1)) (D (66 + 2 * j + 1)) 10 := by rw [up2_ne (by omega), up2_ne (by omega), up2_ne (by omega), upR_same]
            have fB : up2 (up2 (up2 (upR D (66 + 2 * k + 1) (mlA (D (66 + 2 * k + 1)) (D (66 + 2 * j + 1)) 10)) (66 + 2 * k) 1 (D (66 + 2 * k) 1 + D (66 + 2 * j) 1)) (66 + 2 * j) 4 1) 0 9 (if D (66 + 2 * k) 1 + D (66 + 2 * j) 1 < 0 then D (66 + 2 * k) 1 + D (66 + 2 * j) 1 else 0) (66 + 2 * k) = upd (D (66 + 2 * k)) 1 (D (66 + 2 * k) 1 + D (66 + 2 * j) 1) := by rw [up2_ne (by omega), up2_ne (by omega), up2_same, upR_ne (by omega)]
            have fC : up2 (up2 (up2 (upR D (66 + 2 * k + 1) (mlA (D (66 + 2 * k + 1)) (D (66 + 2 * j + 1)) 10)) (66 + 2 * k) 1 (D (66 + 2 * k) 1 + D (66 + 2 * j) 1)) (66 + 2 * j) 4 1) 0 9 (if D (66 + 2 * k) 1 + D (66 + 2 * j) 1 < 0 then D (66 + 2 * k) 1 + D (66 + 2 * j) 1 else 0) (66 + 2 * j) = upd (D (66 + 2 * j)) 4 1 := by rw [up2_ne (by omega), up2_same, up2_ne (by omega), upR_ne (by omega)]
            have f09 : up2 (up2 (up2 (upR D (66 + 2 * k + 1) (mlA (D (66 + 2 * k + 1)) (D (66 + 2 * j + 1)) 10)) (66 + 2 * k) 1 (D (66 + 2 * k) 1 + D (66 + 2 * j) 1)) (66 + 2 * j) 4 1) 0 9 (if D (66 + 2 * k) 1 + D (66 + 2 * j) 1 < 0 then D (66 + 2 * k) 1 + D (66 + 2 * j) 1 else 0) 0 9 = if D (66 + 2 * k) 1 + D (66 + 2 * j) 1 < 0 then D (66 + 2 * k) 1 + D (66 + 2 * j) 1 else 0 := up2_v
            have f08 : up2 (up2 (up2 (upR D (66 + 2 * k + 1) (mlA (D (66 + 2 * k + 1)) (D (66 + 2 * j + 1)) 10)) (66 + 2 * k) 1 (D (66 + 2 * k) 1 + D (66 + 2 * j) 1)) (66 + 2 * j) 4 1) 0 9 (if D (66 + 2 * k) 1 + D (66 + 2 * j) 1 < 0 then D (66 + 2 * k) 1 + D (66 + 2 * j) 1 else 0) 0 8 = D 0 8 := by rw [up2_k (by decide), up2_ne (by omega), up2_ne (by omega), upR_ne (by omega)]
            rw [armF, ce, bn2_s]
            clear ce
            generalize up2 (up2 (up2 (upR D (66 + 2 * k + 1) (mlA (D (66 + 2 * k + 1)) (D (66 + 2 * j + 1)) 10)) (66 + 2 * k) 1 (D (66 + 2 * k) 1 + D (66 + 2 * j) 1)) (66 + 2 * j) 4 1) 0 9 (if D (66 + 2 * k) 1 + D (66 + 2 * j) 1 < 0 then D (66 + 2 * k) 1 + D (66 + 2 * j) 1 else 0) = X at fE fP fA fB fC f09 f08
            have f40 := fE 40 (by decide) (by decide)
            have f42 := fE 42 (by decide) (by decide)
            have f43 := fE 43 (by decide) (by decide)
            have f44 := fE 44 (by decide) (by decide)
            have ml := lp_mm (b := b) (D := up2 X 40 0 0) (w := w) (T := T) (pa := pa) (dr := dr) (np := np) (mk := np) (show k < 120 by omega) (show j < 120 by omega) hkj 10 FU 0 (by omega) (by unfold FU; omega)
            rw [show mlM (up2 X 40 0 0 43) k j 0 = up2 X 40 0 0 43 from funext (fun x => by unfold mlM; rw [if_neg (by omega), if_neg (by omega)]), upR_self, nI_0, up2_ne (show 43 ≠ 40 by decide), f43] at ml
            simp (decide := true) only [fX10_melt, f_isP1 hk hn, f_isP1 hj hn, f_mLeaf (show k < 120 by omega), f_mLeaf (show j < 120 by omega), bn_s, bn2_s, nm_s, onul_n, onul_s, if_true, if_false, and_self, and_true, true_and, and_false, false_and, or_self, or_false, false_or, or_true, true_or, not_true_eq_false, not_false_eq_true, eq_self, ne_eq, i01, up2_same, up2_ne, upd_app, hk40, hr40_0, hw40_0, hr40_1, hw40_1, hr40_2, hw40_2, hr40_3, hr40_4, hw40_4, hr40_5, hr40_6, hr40_7, hr40_8, hr40_9, hw40_9, hr40_10, hw40_10, hr40_11, hr40_12, hr40_13, hw40_13, hr40_14, hw40_14, hr40_15, hr40_16, hr40_17, hr40_18, hr40_19, hr40_20, hw40_20, hr40_21, hw40_21, hr40_22, hw40_22, hr40_23, hw40_23, hr40_24, hr40_25, hw40_25, hr40_26, hw40_26, hr40_27, hw40_27, hr40_28, hr40_29, hr40_30, hr40_31, hr40_32, hr40_33, hr40_34, hw40_34, hr40_35, hw40_35, hr40_36, hr40_37, hr40_38, hr40_39, hr40_40, hw40_40, hr40_41, hr40_42, hr40_43, hl41, hs41, hl42, hs42, hl43, hs43, hl44, hs44, hl45, hs45, hl46, hs46, hl47, hs47, hl48, hs48, hl49, hs49, hl50, hs50, hl51, hs51, hl52, hs52, hl53, hs53, hl54, hs54, hl55, hs55, hl56, hs56, hl57, hs57, hl58, hs58, hl59, hs59, hl60, hs60, hl61, hs61, hl62, hs62, hl63, hs63, hl64, hs64, hl65, hs65, hw40_24, f40, f42, f44, h4, q1, r1, nkj, z1, z2, ml, e1, e2]
            refine ⟨_, _, _, _, _, _, rfl, ⟨?_, ?_⟩, inv4 s2 s3 s4 s5 ?_ (fun o z1 z2 => ?_) (fun o z1 z2 => ?_) ?_ ?_ ?_ ?_ ?_⟩
            · rw [up2_ne (by decide), up2_ne (by decide), upR_ne (by decide), up2_ne (by decide), f09, up2_v, e1, e2]
            · rw [up2_ne (by decide), up2_ne (by decide), upR_ne (by decide), up2_ne (by decide), f08, up2_k (by decide), up2_ne (by decide), upR_ne (by decide), up2_k (by decide), f40]
              exact s1.2
            · refine Ipc_melt s6 hk hj hkj q1 r1 z2 ?_ ?_ ?_ ?_ ?_ ?_ ?_ ?_ ?_ ?_ ?_ ?_ ?_ ?_ ?_ ?_ ?_ (fun x x1 x2 x3 => ?_)
              · exact (by (repeat (first | rw [up2_ne (by omega)] | rw [upR_ne (by omega)] | rw [up2_k (by omega)] | rw [up2_v])) : _ = X 1).trans (fE 1 (by decide) (by decide))
              · exact (by (repeat (first | rw [up2_ne (by omega)] | rw [upR_ne (by omega)] | rw [up2_k (by omega)] | rw [up2_v])) : _ = X 4).trans (fE 4 (by decide) (by decide))
              · exact (by (repeat (first | rw [up2_ne (by omega)] | rw [upR_ne (by omega)] | rw [up2_k (by omega)] | rw [up2_v])) : _ = X 5).trans (fE 5 (by decide) (by decide))
              · exact (by (repeat (first | rw [up2_ne (by omega)] | rw [upR_ne (by omega)] | rw [up2_k (by omega)] | rw [up2_v])) : _ = X 6).trans (fE 6 (by decide) (by decide))
              · exact (by (repeat (first | rw [up2_ne (by omega)] | rw [upR_ne (by omega)] | rw [up2_k (by omega)] | rw [up2_v])) : _ = X 40 2).trans (by rw [f40])
              · exact (by (repeat (first | rw [up2_ne (by omega)] | rw [upR_ne (by omega)] | rw [up2_k (by omega)] | rw [up2_v])) : _ = X 40 4).trans (by rw [f40])
              · exact (by (repeat (first | rw [up2_ne (by omega)] | rw [upR_ne (by omega)] | rw [up2_k (by omega)] | rw [up2_v])) : _ = X 40 9).trans (by rw [f40])
              · exact (by (repeat (first | rw [up2_ne (by omega)] | rw [upR_ne (by omega)] | rw [up2_k (by omega)] | rw [up2_v])) : _ = X 40 34).trans (by rw [f40])
              · exact (by (repeat (first | rw [up2_ne (by omega)] | rw [upR_ne (by omega)] | rw [up2_k (by omega)] | rw [up2_v])) : _ = X 8).trans (fE 8 (by decide) (by decide))
              · exact (by (repeat (first | rw [up2_ne (by omega)] | rw [upR_ne (by omega)] | rw [up2_k (by omega)] | rw [up2_v])) : _ = X 41).trans (fE 41 (by decide) (by decide))
              · exact (by (repeat (first | rw [up2_ne (by omega)] | rw [upR_ne (by omega)] | rw [up2_k (by omega)] | rw [up2_v])) : _ = X 44).trans f44
              · exact (by (repeat (first | rw [up2_ne (by omega)] | rw [upR_ne (by omega)] | rw [up2_k (by omega)] | rw [up2_v])) : _ = X 45).trans (fE 45 (by decide) (by decide))
              · rw [up2_ne (by decide), up2_same, upR_ne (by decide), up2_ne (by decide), f42]
              · rw [up2_ne (by decide), up2_ne (by decide), upR_same]
              · exact (by (repeat (first | rw [up2_ne (by omega)] | rw [upR_ne (by omega)] | rw [up2_k (by omega)] | rw [up2_v])) : _ = X (66 + 2 * k + 1)).trans fA
              · exact (by (repeat (first | rw [up2_ne (by omega)] | rw [upR_ne (by omega)] | rw [up2_k (by omega)] | rw [up2_v])) : _ = X (66 + 2 * k)).trans fB
              · exact (by (repeat (first | rw [up2_ne (by omega)] | rw [upR_ne (by omega)] | rw [up2_k (by omega)] | rw [up2_v])) : _ = X (66 + 2 * j)).trans fC
              · exact (by (repeat (first | rw [up2_ne (by omega)] | rw [upR_ne (by omega)] | rw [up2_k (by omega)] | rw [up2_v])) : _ = X (66 + x)).trans (fP x x1 x2 x3)
            · exact (by (repeat (first | rw [up2_ne (by omega)] | rw [upR_ne (by omega)] | rw [up2_k (by omega)] | rw [up2_v])) : _ = X o).trans (fE o (by omega) (by omega))
            · exact (by (repeat (first | rw [up2_ne (by omega)] | rw [upR_ne (by omega)] | rw [up2_k (by omega)] | rw [up2_v])) : _ = X o).trans (fE o (by omega) (by omega))
            · exact (by (repeat (first | rw [up2_ne (by omega)] | rw [upR_ne (by omega)] | rw [up2_k (by omega)] | rw [up2_v])) : _ = X 40 10).trans (by rw [f40])
            · exact (by (repeat (first | rw [up2_ne (by omega)] | rw [upR_ne (by omega)] | rw [up2_k (by omega)] | rw [up2_v])) : _ = X 40 20).trans (by rw [f40])
            · exact (by (repeat (first | rw [up2_ne (by omega)] | rw [upR_ne (by omega)] | rw [up2_k (by omega)] | rw [up2_v])) : _ = X 40 27).trans (by rw [f40])
            · exact (by (repeat (first | rw [up2_ne (by omega)] | rw [upR_ne (by omega)] | rw [up2_k (by omega)] | rw [up2_v])) : _ = X 40 35).trans (by rw [f40])
            · exact (by (repeat (first | rw [up2_ne (by omega)] | rw [upR_ne (by omega)] | rw [up2_k (by omega)] | rw [up2_v])) : _ = X 40 40).trans (by rw [f40])
          · simp (decide := true) only [armF, fX9_melt, fX7_meltInto, fX10_melt, f_noted, f_told, f_liv0 hk hn (Nat.le_refl _) h3 q2, f_liv0 hj hn (Nat.le_refl _) h3 r2, f_isP1 hk hn, f_isP1 hj hn, hkP hk, hkP hj, f_cLeaf hk, f_cLeaf hj, f_mLeaf (show k < 120 by omega), f_mLeaf (show j < 120 by omega), bn_s, bn2_s, nm_s, onul_n, onul_s, if_true, if_false, and_self, and_true, true_and, and_false, false_and, or_self, or_false, false_or, or_true, true_or, not_true_eq_false, not_false_eq_true, eq_self, ne_eq, i01, up2_same, up2_ne, upd_app, hk40, hr40_0, hw40_0, hr40_1, hw40_1, hr40_2, hw40_2, hr40_3, hr40_4, hw40_4, hr40_5, hr40_6, hr40_7, hr40_8, hr40_9, hw40_9, hr40_10, hw40_10, hr40_11, hr40_12, hr40_13, hw40_13, hr40_14, hw40_14, hr40_15, hr40_16, hr40_17, hr40_18, hr40_19, hr40_20, hw40_20, hr40_21, hw40_21, hr40_22, hw40_22, hr40_23, hw40_23, hr40_24, hr40_25, hw40_25, hr40_26, hw40_26, hr40_27, hw40_27, hr40_28, hr40_29, hr40_30, hr40_31, hr40_32, hr40_33, hr40_34, hw40_34, hr40_35, hw40_35, hr40_36, hr40_37, hr40_38, hr40_39, hr40_40, hw40_40, hr40_41, hr40_42, hr40_43, hl41, hs41, hl42, hs42, hl43, hs43, hl44, hs44, hl45, hs45, hl46, hs46, hl47, hs47, hl48, hs48, hl49, hs49, hl50, hs50, hl51, hs51, hl52, hs52, hl53, hs53, hl54, hs54, hl55, hs55, hl56, hs56, hl57, hs57, hl58, hs58, hl59, hs59, hl60, hs60, hl61, hs61, hl62, hs62, hl63, hs63, hl64, hs64, hl65, hs65, hw40_24, hk0, hr0_0, hr0_1, hr0_2, hr0_3, hr0_4, hr0_5, hr0_6, hr0_7, hr0_8, hw0_8, hr0_9, hw0_9, hk1, hr1_0, hr1_1, hr1_2, hr1_3, hw1_3, hr1_4, hw1_4, hl4, hs4, hl5, hs5, hl6, hs6, hk8, hr8_0, hw8_0, hr8_1, hw8_1, hr8_2, hw8_2, hk9, hr9_0, hr9_1, hr9_2, hk10, hr10_0, hr10_1, hw10_1, hr10_2, hw10_2, hr10_3, hw10_3, hr10_4, hw10_4, hl11, hs11, hl12, hs12, hl13, hs13, hk14, hr14_0, hr14_1, hr14_2, hr14_3, hr14_4, hw14_4, hk16, hr16_0, hw16_0, hr16_1, hw16_1, hr16_2, hw16_2, hr16_3, hw16_3, hr16_4, hw16_4, hk17, hr17_0, hw17_0, hr17_1, hw17_1, hr17_2, hw17_2, hr17_3, hw17_3, hr17_4, hw17_4, hk18, hr18_0, hw18_0, hr18_1, hw18_1, hr18_2, hw18_2, hr18_3, hw18_3, hr18_4, hw18_4, hl19, hs19, hl20, hs20, hl21, hs21, hk22, hr22_0, hr22_1, hr22_2, hr22_3, hr22_4, hw22_4, hr22_5, hr22_6, hr22_7, hr22_8, hw22_8, hl23, hs23, hl24, hs24, hl25, hs25, hl26, hs26, hl27, hs27, hl28, hs28, hl29, hs29, hk30, hr30_0, hw30_0, hr30_1, hw30_1, hr30_2, hr30_3, hr30_4, hr30_5, hl31, hs31, hl32, hs32, hl33, hs33, hl34, hs34, hk35, hr35_0, hw35_0, hr35_1, hw35_1, hr35_2, hr35_3, hr35_4, hr35_5, hl36, hs36, hl37, hs37, hl38, hs38, hl39, hs39, hw0_6, hw0_7, hl7, hs7, el_0, el_1, el_2, el_3, el_20, el_50, el_100, el_200, el_1000, el_10000, el_1000000, el_m1000000, el_100000000, er_0, er_1, er_2, er_3, er_20, er_50, er_100, er_200, er_1000, er_10000, er_1000000, er_m1000000, er_100000000, h4, q1, r1, nkj, a1, a2, z1, z2]
            exact ⟨_, _, _, _, _, _, rfl, ⟨rfl, s1.2⟩, Isk_of s2 rfl rfl rfl rfl rfl rfl rfl rfl rfl rfl rfl rfl, Igt_of s3 rfl rfl rfl rfl rfl rfl rfl rfl rfl rfl rfl rfl rfl rfl rfl rfl rfl rfl, Itp_of s4 rfl rfl rfl rfl, Ipl_of s5 (fun o h1 h2 => by repeat (rw [up2_ne (by omega)])) rfl rfl rfl, Ipc_of s6 rfl rfl rfl rfl rfl rfl rfl rfl rfl rfl rfl rfl rfl rfl (fun x => by repeat (rw [up2_ne (by omega)]))⟩
        · simp (decide := true) only [armF, fX9_melt, fX7_meltInto, fX10_melt, f_noted, f_told, f_liv0 hk hn (Nat.le_refl _) h3 q2, f_liv0 hj hn (Nat.le_refl _) h3 r2, f_isP1 hk hn, f_isP1 hj hn, hkP hk, hkP hj, f_cLeaf hk, f_mLeaf (show k < 120 by omega), bn_s, bn2_s, nm_s, onul_n, onul_s, if_true, if_false, and_self, and_true, true_and, and_false, false_and, or_self, or_false, false_or, or_true, true_or, not_true_eq_false, not_false_eq_true, eq_self, ne_eq, i01, up2_same, up2_ne, upd_app, hk40, hr40_0, hw40_0, hr40_1, hw40_1, hr40_2, hw40_2, hr40_3, hr40_4, hw40_4, hr40_5, hr40_6, hr40_7, hr40_8, hr40_9, hw40_9, hr40_10, hw40_10, hr40_11, hr40_12, hr40_13, hw40_13, hr40_14, hw40_14, hr40_15, hr40_16, hr40_17, hr40_18, hr40_19, hr40_20, hw40_20, hr40_21, hw40_21, hr40_22, hw40_22, hr40_23, hw40_23, hr40_24, hr40_25, hw40_25, hr40_26, hw40_26, hr40_27, hw40_27, hr40_28, hr40_29, hr40_30, hr40_31, hr40_32, hr40_33, hr40_34, hw40_34, hr40_35, hw40_35, hr40_36, hr40_37, hr40_38, hr40_39, hr40_40, hw40_40, hr40_41, hr40_42, hr40_43, hl41, hs41, hl42, hs42, hl43, hs43, hl44, hs44, hl45, hs45, hl46, hs46, hl47, hs47, hl48, hs48, hl49, hs49, hl50, hs50, hl51, hs51, hl52, hs52, hl53, hs53, hl54, hs54, hl55, hs55, hl56, hs56, hl57, hs57, hl58, hs58, hl59, hs59, hl60, hs60, hl61, hs61, hl62, hs62, hl63, hs63, hl64, hs64, hl65, hs65, hw40_24, hk0, hr0_0, hr0_1, hr0_2, hr0_3, hr0_4, hr0_5, hr0_6, hr0_7, hr0_8, hw0_8, hr0_9, hw0_9, hk1, hr1_0, hr1_1, hr1_2, hr1_3, hw1_3, hr1_4, hw1_4, hl4, hs4, hl5, hs5, hl6, hs6, hk8, hr8_0, hw8_0, hr8_1, hw8_1, hr8_2, hw8_2, hk9, hr9_0, hr9_1, hr9_2, hk10, hr10_0, hr10_1, hw10_1, hr10_2, hw10_2, hr10_3, hw10_3, hr10_4, hw10_4, hl11, hs11, hl12, hs12, hl13, hs13, hk14, hr14_0, hr14_1, hr14_2, hr14_3, hr14_4, hw14_4, hk16, hr16_0, hw16_0, hr16_1, hw16_1, hr16_2, hw16_2, hr16_3, hw16_3, hr16_4, hw16_4, hk17, hr17_0, hw17_0, hr17_1, hw17_1, hr17_2, hw17_2, hr17_3, hw17_3, hr17_4, hw17_4, hk18, hr18_0, hw18_0, hr18_1, hw18_1, hr18_2, hw18_2, hr18_3, hw18_3, hr18_4, hw18_4, hl19, hs19, hl20, hs20, hl21, hs21, hk22, hr22_0, hr22_1, hr22_2, hr22_3, hr22_4, hw22_4, hr22_5, hr22_6, hr22_7, hr22_8, hw22_8, hl23, hs23, hl24, hs24, hl25, hs25, hl26, hs26, hl27, hs27, hl28, hs28, hl29, hs29, hk30, hr30_0, hw30_0, hr30_1, hw30_1, hr30_2, hr30_3, hr30_4, hr30_5, hl31, hs31, hl32, hs32, hl33, hs33, hl34, hs34, hk35, hr35_0, hw35_0, hr35_1, hw35_1, hr35_2, hr35_3, hr35_4, hr35_5, hl36, hs36, hl37, hs37, hl38, hs38, hl39, hs39, hw0_6, hw0_7, hl7, hs7, el_0, el_1, el_2, el_3, el_20, el_50, el_100, el_200, el_1000, el_10000, el_1000000, el_m1000000, el_100000000, er_0, er_1, er_2, er_3, er_20, er_50, er_100, er_200, er_1000, er_10000, er_1000000, er_m1000000, er_100000000, h4, q1, r1, nkj, a1, z1]
          exact ⟨_, _, _, _, _, _, rfl, ⟨rfl, s1.2⟩, Isk_of s2 rfl rfl rfl rfl rfl rfl rfl rfl rfl rfl rfl rfl, Igt_of s3 rfl rfl rfl rfl rfl rfl rfl rfl rfl rfl rfl rfl rfl rfl rfl rfl rfl rfl, Itp_of s4 rfl rfl rfl rfl, Ipl_of s5 (fun o h1 h2 => by repeat (rw [up2_ne (by omega)])) rfl rfl rfl, Ipc_of s6 rfl rfl rfl rfl rfl rfl rfl rfl rfl rfl rfl rfl rfl rfl (fun x => by repeat (rw [up2_ne (by omega)]))⟩
end
