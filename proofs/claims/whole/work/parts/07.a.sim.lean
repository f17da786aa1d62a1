/-! class and reference read the tape alike: two heaps, one for each -/
theorem tok_f {B : Nat → Int32} {n p : Nat} (hp : p ≤ n) : p ≤ tS B n p ∧ tS B n p ≤ tE B n p ∧ tE B n p ≤ n ∧ tK B n p ≤ 3 ∧ (tK B n p = 1 → (∀ x, tS B n p ≤ x → x < tE B n p → isLt (B x) = true) ∧ tW B n p = wdW B (tS B n p) (tE B n p - tS B n p)) ∧ (tK B n p = 2 → (∀ x, tS B n p ≤ x → x < tE B n p → isDg (B x) = true) ∧ tW B n p = dgW B (tS B n p) (tE B n p - tS B n p)) ∧ (tK B n p = 3 → tW B n p = (B (tS B n p)).toInt64 ∧ tS B n p < n) := by
  obtain ⟨r1, r2, r3, r4⟩ := run_b (P := isBl) (B := B) (n - p) p
  have hS : tS B n p = run isBl B (n - p) p := rfl
  rw [← hS] at r1 r2 r4
  have hk := kdO_r (B (tS B n p))
  by_cases q : tS B n p = n
  · have eK : tK B n p = 0 := if_pos q
    have eE : tE B n p = tS B n p := if_pos eK
    rw [eK, eE]
    refine ⟨r1, Nat.le_refl _, by omega, by omega, fun z => absurd z (by decide), fun z => absurd z (by decide), fun z => absurd z (by decide)⟩
  · have eK : tK B n p = kdO (B (tS B n p)) := if_neg q
    by_cases k3 : tK B n p = 3
    · have eE : tE B n p = tS B n p + 1 := by unfold tE; rw [k3, if_neg (by decide), if_pos rfl]
      rw [k3, eE]
      refine ⟨r1, by omega, by omega, by omega, fun z => absurd z (by decide), fun z => absurd z (by decide), fun _ => ⟨by unfold tW; rw [k3, if_neg (by decide), if_neg (by decide), if_pos rfl], by omega⟩⟩
    · have eE : tE B n p = run (fun x => decide (kdO x = tK B n p)) B (n - (tS B n p + 1)) (tS B n p + 1) := by unfold tE; rw [if_neg (by omega), if_neg k3]
      obtain ⟨s1, s2, s3, s4⟩ := run_b (P := fun x => decide (kdO x = tK B n p)) (B := B) (n - (tS B n p + 1)) (tS B n p + 1)
      rw [← eE] at s1 s2 s3
      refine ⟨r1, by omega, by omega, by omega, fun z => ?_, fun z => ?_, fun z => absurd z k3⟩
      · refine ⟨fun x x1 x2 => ?_, by unfold tW; rw [if_pos z]⟩
        by_cases y : x = tS B n p
        · rw [y, ← kd1, ← eK]; exact decide_eq_true z
        · have := s3 x (by omega) x2
          rw [z, kd1] at this
          exact this
      · refine ⟨fun x x1 x2 => ?_, by unfold tW; rw [if_neg (by omega), if_pos z]⟩
        by_cases y : x = tS B n p
        · rw [y, ← kd2, ← eK]; exact decide_eq_true z
        · have := s3 x (by omega) x2
          rw [z, kd2] at this
          exact this
def TkR (B : Nat → Int32) (n p : Nat) (D E : Nat → Nat → Int32) (w : Int64) : Prop := p ≤ n ∧ D 10 1 = nI n ∧ D 10 2 = nI (tK B n p) ∧ D 10 3 = nI (tS B n p) ∧ D 10 4 = nI (tE B n p) ∧ D 11 = B ∧ E 40 20 = nI n ∧ E 40 23 = nI (tK B n p) ∧ E 40 21 = nI (tS B n p) ∧ E 40 22 = nI (tE B n p) ∧ E 52 = B ∧ w = tW B n p
def PlR (dr c t lo : Nat) (ns ne cf : Nat → Nat) (D E : Nat → Nat → Int32) (st : Nat) : Prop := D dr 0 = nI c ∧ D dr 1 = nI t ∧ E 40 13 = nI c ∧ E 40 14 = nI t ∧ c ≤ 10 ∧ t ≤ 30 ∧ (∀ i, i < c → D 12 i = nI (ns i) ∧ D 13 i = nI (ne i) ∧ E 50 i = nI (ns i) ∧ E 51 i = nI (ne i - ns i) ∧ ns i ≤ ne i ∧ ne i ≤ st) ∧ (∀ j, j < t → D (dr + 2) j = E 49 (3 * j) ∧ D (dr + 3) j = E 49 (3 * j + 1) ∧ D (dr + 4) j = E 49 (3 * j + 2) ∧ (D (dr + 2) j = 0 ∨ D (dr + 2) j = 1 ∨ D (dr + 2) j = 2)) ∧ cf 0 = 0 ∧ (∀ i, i < c → cf i ≤ cf (i + 1)) ∧ (∀ i, i ≤ c → E 48 i = nI (cf i)) ∧ cf c = lo ∧ lo ≤ t ∧ (∀ i j, i < c → cf i ≤ j → j < cf (i + 1) → D (dr + 1) j = nI i) ∧ (∀ j, lo ≤ j → j < t → D (dr + 1) j = nI c)
def PS (dr : Nat) (B : Nat → Int32) (n c t lo : Nat) (D E : Nat → Nat → Int32) (w : Int64) : Prop := ∃ p ns ne cf, TkR B n p D E w ∧ PlR dr c t lo ns ne cf D E (tS B n p) ∧ (E 40 26 = 0 ∧ E 40 25 = -1)
def CT (dr : Nat) (D D' : Nat → Nat → Int32) : Prop := (∀ x, x ≠ 10 → ¬ (dr ≤ x ∧ x ≤ dr + 4) → D' x = D x) ∧ (D 10 3).toInt ≤ (D' 10 3).toInt
def CF (dr : Nat) (D D' : Nat → Nat → Int32) : Prop := ∀ x, x ≠ 10 → x ≠ 12 → x ≠ 13 → ¬ (dr ≤ x ∧ x ≤ dr + 4) → D' x = D x
def MF (E E' : Nat → Nat → Int32) : Prop := (∀ y, y ≠ 13 → y ≠ 14 → y ≠ 21 → y ≠ 22 → y ≠ 23 → y ≠ 25 → y ≠ 26 → E' 40 y = E 40 y) ∧ ∀ x, x ≠ 40 → x ≠ 48 → x ≠ 49 → x ≠ 50 → x ≠ 51 → E' x = E x
def FLd (D E : Nat → Nat → Int32) : Prop := E 40 26 = 1 ∧ E 40 25 = D 10 3
theorem CT_r {dr : Nat} (D : Nat → Nat → Int32) : CT dr D D := ⟨fun _ _ _ => rfl, Int.le_refl _⟩
theorem CT_t {dr : Nat} {D D1 D2 : Nat → Nat → Int32} (h1 : CT dr D D1) (h2 : CT dr D1 D2) : CT dr D D2 := ⟨fun x a1 a4 => (h2.1 x a1 a4).trans (h1.1 x a1 a4), Int.le_trans h1.2 h2.2⟩
theorem CF_o {dr : Nat} {D D1 : Nat → Nat → Int32} (h : CT dr D D1) : CF dr D D1 := fun x a1 _ _ a4 => h.1 x a1 a4
theorem CF_r {dr : Nat} (D : Nat → Nat → Int32) : CF dr D D := fun _ _ _ _ _ => rfl
theorem MF_r (E : Nat → Nat → Int32) : MF E E := ⟨fun _ _ _ _ _ _ _ _ => rfl, fun _ _ _ _ _ _ => rfl⟩
theorem CF_t {dr : Nat} {D D1 D2 : Nat → Nat → Int32} (h1 : CF dr D D1) (h2 : CF dr D1 D2) : CF dr D D2 := fun x a1 a2 a3 a4 => (h2 x a1 a2 a3 a4).trans (h1 x a1 a2 a3 a4)
theorem MF_t {E E1 E2 : Nat → Nat → Int32} (h1 : MF E E1) (h2 : MF E1 E2) : MF E E2 := ⟨fun y a1 a2 a3 a4 a5 a6 a7 => (h2.1 y a1 a2 a3 a4 a5 a6 a7).trans (h1.1 y a1 a2 a3 a4 a5 a6 a7), fun x a1 a2 a3 a4 a5 => (h2.2 x a1 a2 a3 a4 a5).trans (h1.2 x a1 a2 a3 a4 a5)⟩
section
variable {b : Nat} {D E : Nat → Nat → Int32} {wc w : Int64} {Tc Tm : Nat → Int64} {pc dc pm dm np mk : Nat} {dr n c t lo : Nat} {B : Nat → Int32}
theorem s_nextX (hp : dr = 30 ∨ dr = 35) (hn : n ≤ 300) (h : PS dr B n c t lo D E w) : ∃ D' E' w', fX8_toNextToken (b + 10) (HH b D wc Tc pc dc np mk) = some ((), HH b D' wc Tc pc dc np mk) ∧ fX10_next (b + 40) (HH b E w Tm pm dm np mk) = some ((), HH b E' w' Tm pm dm np mk) ∧ PS dr B n c t lo D' E' w' ∧ CT dr D D' ∧ MF E E' ∧ (D 10 4).toInt ≤ (D' 10 3).toInt := by
  obtain ⟨p, ns, ne, cf, ⟨t0, t1, t2, t3, t4, t5, t6, t7, t8, t9, t10, t11⟩, ⟨p1, p2, p3, p4, p5, p6, p7, p8, p9, p10, p11, p12, p13, p14, p15⟩, hb⟩ := h
  obtain ⟨f1, f2, f3, f4, f5, f6, f7⟩ := tok_f (B := B) t0
  obtain ⟨D', c0, c1, c2, c3, c4, c5⟩ := c_next (b := b) (w := wc) (T := Tc) (pa := pc) (dr := dc) (np := np) (mk := mk) hn f3 t1 t4 t5
  obtain ⟨E', m0, m1, m2, m3, m4, m5⟩ := m_next (b := b) (w := w) (T := Tm) (pa := pm) (dr := dm) (np := np) (mk := mk) hn f3 t6 t9 t10
  obtain ⟨g1, g2, g3, g4, g5, g6, g7⟩ := tok_f (B := B) f3
  have k0 : ∀ k, k ≤ 4 → D' (dr + k) = D (dr + k) := fun k hk => c5 (dr + k) (by omega)
  refine ⟨D', E', _, c0, m0, ⟨tE B n p, ns, ne, cf, ⟨f3, c1, c2, c3, c4, (c5 11 (by decide)).trans t5, (m4 20 (by decide) (by decide) (by decide)).trans t6, m1, m2, m3, (m5 52 (by decide)).trans t10, rfl⟩, ⟨?_, ?_, (m4 13 (by decide) (by decide) (by decide)).trans p3, (m4 14 (by decide) (by decide) (by decide)).trans p4, p5, p6, ?_, ?_, p9, p10, ?_, p12, p13, ?_, ?_⟩, (m4 26 (by decide) (by decide) (by decide)).trans hb.1, (m4 25 (by decide) (by decide) (by decide)).trans hb.2⟩, ?_, ?_, ?_⟩
  · have := k0 0 (by decide); rw [Nat.add_zero] at this; rw [this]; exact p1
  · have := k0 0 (by decide); rw [Nat.add_zero] at this; rw [this]; exact p2
  · intro i hi
    obtain ⟨a1, a2, a3, a4, a5, a6⟩ := p7 i hi
    rw [c5 12 (by decide), c5 13 (by decide), m5 50 (by decide), m5 51 (by decide)]
    exact ⟨a1, a2, a3, a4, a5, by omega⟩
  · intro j hj
    rw [k0 2 (by decide), k0 3 (by decide), k0 4 (by decide), m5 49 (by decide)]
    exact p8 j hj
  · intro i hi
    rw [m5 48 (by decide)]
    exact p11 i hi
  · intro i j a1 a2 a3
    rw [k0 1 (by decide)]
    exact p14 i j a1 a2 a3
  · intro j a1 a2
    rw [k0 1 (by decide)]
    exact p15 j a1 a2
  · refine ⟨fun x a1 a4 => c5 x a1, ?_⟩
    rw [t3, c3, nI_ti (by omega), nI_ti (by omega)]
    omega
  · exact ⟨fun y a1 a2 a3 a4 a5 a6 a7 => m4 y a3 a4 a5, fun x a1 a2 a3 a4 a5 => m5 x a1⟩
  · rw [t4, c3, nI_ti (by omega), nI_ti (by omega)]
    omega
theorem s_next (hp : dr = 30 ∨ dr = 35) (hn : n ≤ 300) (h : PS dr B n c t lo D E w) : ∃ D' E' w', fX8_toNextToken (b + 10) (HH b D wc Tc pc dc np mk) = some ((), HH b D' wc Tc pc dc np mk) ∧ fX10_next (b + 40) (HH b E w Tm pm dm np mk) = some ((), HH b E' w' Tm pm dm np mk) ∧ PS dr B n c t lo D' E' w' ∧ CT dr D D' ∧ MF E E' := by
  obtain ⟨D', E', w', a1, a2, a3, a4, a5, _⟩ := s_nextX (b := b) (wc := wc) (Tc := Tc) (pc := pc) (dc := dc) (Tm := Tm) (pm := pm) (dm := dm) (np := np) (mk := mk) hp hn h
  exact ⟨D', E', w', a1, a2, a3, a4, a5⟩
/-- a sign -/
theorem s_mark (hn : n ≤ 300) (h : PS dr B n c t lo D E w) (v : Int32) : (fX8_isMark (b + 10) v (HH b D wc Tc pc dc np mk) = some (1, HH b D wc Tc pc dc np mk) ∧ fX10_isSign (b + 40) v (HH b E w Tm pm dm np mk) = some (1, HH b E w Tm pm dm np mk) ∧ D 10 2 = nI 3) ∨ (fX8_isMark (b + 10) v (HH b D wc Tc pc dc np mk) = some (0, HH b D wc Tc pc dc np mk) ∧ fX10_isSign (b + 40) v (HH b E w Tm pm dm np mk) = some (0, HH b E w Tm pm dm np mk)) := by
  obtain ⟨p, ns, ne, cf, ⟨t0, t1, t2, t3, t4, t5, t6, t7, t8, t9, t10, t11⟩, _, _⟩ := h
  obtain ⟨f1, f2, f3, f4, f5, f6, f7⟩ := tok_f (B := B) t0
  by_cases q : tK B n p = 3
  · obtain ⟨g1, g2⟩ := f7 q
    have k3 : nI 3 = 3 := rfl
    rw [q] at t2 t7
    have c3 : ¬ nI (tS B n p) < 0 := nI_pos (by omega)
    have c4 : (nI (tS B n p)).toNatClampNeg = tS B n p := nI_clamp (by omega)
    have c5 : ¬ 300 ≤ tS B n p := by omega
    by_cases q2 : B (tS B n p) = v
    · have q3 : w = v.toInt64 := by rw [t11, g1, q2]
      refine Or.inl ⟨?_, ?_, t2⟩
      · simp (decide := true) only [fX8_isMark, bn_s, or_self, hr10_0, hr10_2, hr10_3, hl11, t2, t3, t5, k3, c3, c4, c5, q2, if_true, if_false]
      · simp (decide := true) only [fX10_isSign, bn_s, hr40_23, hr40_24, t7, k3, q3, if_true]
    · have q3 : ¬ w = v.toInt64 := by rw [t11, g1]; exact fun z => q2 ((wid_eq _ _).mp z)
      refine Or.inr ⟨?_, ?_⟩
      · simp (decide := true) only [fX8_isMark, bn_s, or_self, hr10_0, hr10_2, hr10_3, hl11, t2, t3, t5, k3, c3, c4, c5, q2, if_true, if_false]
      · simp (decide := true) only [fX10_isSign, bn_s, hr40_23, hr40_24, t7, k3, q3, if_true, if_false]
  · have k3 : ¬ nI (tK B n p) = 3 := nne (K := 3) q (by omega) (by decide)
    refine Or.inr ⟨?_, ?_⟩
    · simp (decide := true) only [fX8_isMark, bn_s, hr10_2, t2, k3, if_false]
    · simp (decide := true) only [fX10_isSign, bn_s, hr40_23, t7, k3, if_false]
/-- a word -/
theorem s_word (hn : n ≤ 300) (h : PS dr B n c t lo D E w) {s : Nat} (hs : s < 4) : (fX8_isWord (b + 10) s (HH b D wc Tc pc dc np mk) = some (1, HH b D wc Tc pc dc np mk) ∧ (E 40 23 = 1 ∧ w = wVal s)) ∨ (fX8_isWord (b + 10) s (HH b D wc Tc pc dc np mk) = some (0, HH b D wc Tc pc dc np mk) ∧ ¬ (E 40 23 = 1 ∧ w = wVal s)) := by
  obtain ⟨p, ns, ne, cf, ⟨t0, t1, t2, t3, t4, t5, t6, t7, t8, t9, t10, t11⟩, _, _⟩ := h
  obtain ⟨f1, f2, f3, f4, f5, f6, f7⟩ := tok_f (B := B) t0
  have W := c_word (b := b) (D := D) (w := wc) (T := Tc) (pa := pc) (dr := dc) (np := np) (mk := mk) hs f4 f2 (by omega) t2 t3 t4 t5
  have iff1 : (E 40 23 = 1 ∧ w = wVal s) ↔ (tK B n p = 1 ∧ tE B n p - tS B n p = sle s ∧ ∀ i, i < tE B n p - tS B n p → B (tS B n p + i) = chr s i) := by
    constructor
    · intro h
      have k1 : tK B n p = 1 := (nI_eq (b := 1) (by omega) (by decide)).mp (t7.symm.trans h.1)
      obtain ⟨g1, g2⟩ := f5 k1
      have := (word_iff (B := B) (st := tS B n p) (n := tE B n p - tS B n p) hs (fun i hi => g1 _ (by omega) (by omega))).mp (by rw [← g2, ← t11]; exact h.2)
      exact ⟨k1, this⟩
    · intro h
      obtain ⟨g1, g2⟩ := f5 h.1
      have := (word_iff (B := B) (st := tS B n p) (n := tE B n p - tS B n p) hs (fun i hi => g1 _ (by omega) (by omega))).mpr h.2
      exact ⟨by rw [t7, h.1]; rfl, by rw [t11, g2, this]⟩
  by_cases q : tK B n p = 1 ∧ tE B n p - tS B n p = sle s ∧ ∀ i, i < tE B n p - tS B n p → B (tS B n p + i) = chr s i
  · exact Or.inl ⟨W.1 q, iff1.mpr q⟩
  · exact Or.inr ⟨W.2 q, fun z => q (iff1.mp z)⟩
/-- a number -/
theorem s_num (hn : n ≤ 300) (h : PS dr B n c t lo D E w) : (∃ u, fX8_numberToThousand (b + 10) (HH b D wc Tc pc dc np mk) = some (u, HH b D wc Tc pc dc np mk) ∧ E 40 23 = 2 ∧ w = u.toInt64 ∧ 0 ≤ u.toInt ∧ u.toInt ≤ 1000) ∨ (fX8_numberToThousand (b + 10) (HH b D wc Tc pc dc np mk) = some (-1, HH b D wc Tc pc dc np mk) ∧ ¬ (E 40 23 = 2 ∧ w ≤ 1000)) := by
  obtain ⟨p, ns, ne, cf, ⟨t0, t1, t2, t3, t4, t5, t6, t7, t8, t9, t10, t11⟩, _, _⟩ := h
  obtain ⟨f1, f2, f3, f4, f5, f6, f7⟩ := tok_f (B := B) t0
  have W := c_num (b := b) (D := D) (w := wc) (T := Tc) (pa := pc) (dr := dc) (np := np) (mk := mk) f4 f2 (by omega) t2 t3 t4 t5 (fun z => (f6 z).1)
  by_cases q : tK B n p = 2 ∧ dgW B (tS B n p) (tE B n p - tS B n p) ≤ 1000
  · obtain ⟨u, u1, u2, u3, u4⟩ := W.1 q
    refine Or.inl ⟨u, u1, by rw [t7, q.1]; rfl, by rw [t11, (f6 q.1).2, u2], u3, u4⟩
  · refine Or.inr ⟨W.2 q, fun z => q ?_⟩
    have k1 : tK B n p = 2 := (nI_eq (b := 2) (by omega) (by decide)).mp (t7.symm.trans z.1)
    refine ⟨k1, ?_⟩
    rw [← (f6 k1).2, ← t11]
    exact z.2
end
section
variable {b : Nat} {E : Nat → Nat → Int32} {w : Int64} {Tm : Nat → Int64} {pm dm np mk : Nat}
theorem m_must1 (h : E 40 26 = 0) : fX10_must (b + 40) 1 (HH b E w Tm pm dm np mk) = bn2 (fX10_next (b + 40) (HH b E w Tm pm dm np mk)) fun _ h5 => some ((), h5) := by
  simp (decide := true) only [fX10_must, bn_s, hr40_26, hk40, h, if_true, if_false]
theorem m_must0 (h : E 40 26 = 0) : fX10_must (b + 40) 0 (HH b E w Tm pm dm np mk) = some ((), HH b (up2 (up2 E 40 26 1) 40 25 (E 40 21)) w Tm pm dm np mk) := by
  simp (decide := true) only [fX10_must, bn_s, hr40_26, hr40_21, hw40_26, hw40_25, h, up2_same, up2_ne, upd_app, if_true, if_false]
theorem m_mustB (h : ¬ E 40 26 = 0) (x : Int32) : fX10_must (b + 40) x (HH b E w Tm pm dm np mk) = some ((), HH b E w Tm pm dm np mk) := by
  simp (decide := true) only [fX10_must, bn_s, hr40_26, h, if_true, if_false]
theorem m_numB (h : ¬ E 40 26 = 0) (x : Int64) : fX10_number (b + 40) x (HH b E w Tm pm dm np mk) = some (w.toInt32, HH b E w Tm pm dm np mk) := by
  by_cases q : E 40 23 = 2
  · by_cases q2 : x ≤ w ∧ w ≤ 1000
    · simp (decide := true) only [fX10_number, f_in, bn_s, bn2_s, hr40_23, hr40_24, hk40, m_mustB h, q, q2, and_self, if_true, if_false]
    · simp (decide := true) only [fX10_number, f_in, bn_s, bn2_s, hr40_23, hr40_24, hk40, m_mustB h, q, q2, if_true, if_false]
  · simp (decide := true) only [fX10_number, bn_s, bn2_s, hr40_23, hr40_24, hk40, m_mustB h, q, if_true, if_false]
end
