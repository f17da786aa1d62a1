section
variable {b : Nat} {wc : Int64} {Tc Tm : Nat → Int64} {pc dc pm dm np mk : Nat} {dr n c lo : Nat} {B : Nat → Int32}
/-- a colour's end -/
theorem PS_col {D E : Nat → Nat → Int32} {w : Int64} {t a0 e0 : Nat} (hp : dr = 30 ∨ dr = 35) (h : PS dr B n c t lo D E w) (hn : n ≤ 300) (hc : c < 10) (h12 : D 12 c = nI a0) (h13 : D 13 c = nI e0) (hae : a0 ≤ e0) (he : (e0 : Int) ≤ (D 10 3).toInt) : PS dr B n (c + 1) t t (up2 D dr 0 (nI (c + 1))) (up2 (up2 (up2 (up2 E 50 c (nI a0)) 51 c (nI (e0 - a0))) 40 13 (nI (c + 1))) 48 (c + 1) (nI t)) w := by
  obtain ⟨p, ns, ne, cf, ⟨t0, t1, t2, t3, t4, t5, t6, t7, t8, t9, t10, t11⟩, ⟨p1, p2, p3, p4, p5, p6, p7, p8, p9, p10, p11, p12, p13, p14, p15⟩, hb⟩ := h
  obtain ⟨f1, f2, f3, f4, f5, f6, f7⟩ := tok_f (B := B) t0
  rw [t3, nI_ti (by omega)] at he
  have o9 : ∀ x', x' ≠ dr → up2 D dr 0 (nI (c + 1)) x' = D x' := fun x' hx' => up2_ne hx'
  have eo : ∀ y, y ≠ 40 → y ≠ 48 → y ≠ 50 → y ≠ 51 → up2 (up2 (up2 (up2 E 50 c (nI a0)) 51 c (nI (e0 - a0))) 40 13 (nI (c + 1))) 48 (c + 1) (nI t) y = E y := fun y h1 h2 h3 h4 => by rw [up2_ne h2, up2_ne h1, up2_ne h4, up2_ne h3]
  have e40 : ∀ y, y ≠ 13 → up2 (up2 (up2 (up2 E 50 c (nI a0)) 51 c (nI (e0 - a0))) 40 13 (nI (c + 1))) 48 (c + 1) (nI t) 40 y = E 40 y := fun y h1 => by rw [up2_ne (by decide), up2_k h1, up2_ne (by decide), up2_ne (by decide)]
  have e48 : up2 (up2 (up2 (up2 E 50 c (nI a0)) 51 c (nI (e0 - a0))) 40 13 (nI (c + 1))) 48 (c + 1) (nI t) 48 = upd (E 48) (c + 1) (nI t) := by rw [up2_same, up2_ne (by decide), up2_ne (by decide), up2_ne (by decide)]
  have e50 : up2 (up2 (up2 (up2 E 50 c (nI a0)) 51 c (nI (e0 - a0))) 40 13 (nI (c + 1))) 48 (c + 1) (nI t) 50 = upd (E 50) c (nI a0) := by rw [up2_ne (by decide), up2_ne (by decide), up2_ne (by decide), up2_same]
  have e51 : up2 (up2 (up2 (up2 E 50 c (nI a0)) 51 c (nI (e0 - a0))) 40 13 (nI (c + 1))) 48 (c + 1) (nI t) 51 = upd (E 51) c (nI (e0 - a0)) := by rw [up2_ne (by decide), up2_ne (by decide), up2_same, up2_ne (by decide)]
  refine ⟨p, fun i => if i = c then a0 else ns i, fun i => if i = c then e0 else ne i, fun i => if i = c + 1 then t else cf i, ⟨t0, ?_, ?_, ?_, ?_, ?_, ?_, ?_, ?_, ?_, ?_, t11⟩, ⟨?_, ?_, ?_, ?_, by omega, p6, ?_, ?_, ?_, ?_, ?_, ?_, Nat.le_refl _, ?_, ?_⟩, ?_⟩
  · rw [o9 10 (by omega)]; exact t1
  · rw [o9 10 (by omega)]; exact t2
  · rw [o9 10 (by omega)]; exact t3
  · rw [o9 10 (by omega)]; exact t4
  · rw [o9 11 (by omega)]; exact t5
  · rw [e40 20 (by decide)]; exact t6
  · rw [e40 23 (by decide)]; exact t7
  · rw [e40 21 (by decide)]; exact t8
  · rw [e40 22 (by decide)]; exact t9
  · rw [eo 52 (by decide) (by decide) (by decide) (by decide)]; exact t10
  · rw [up2_v]
  · rw [up2_k (by decide)]; exact p2
  · rw [up2_ne (by decide), up2_v]
  · rw [e40 14 (by decide)]; exact p4
  · intro i hi
    rw [o9 12 (by omega), o9 13 (by omega), e50, e51]
    simp only [upd_app]
    by_cases q : i = c
    · rw [if_pos q, if_pos q, if_pos q, if_pos q, q]
      exact ⟨h12, h13, rfl, rfl, hae, by omega⟩
    · rw [if_neg q, if_neg q, if_neg q, if_neg q]
      exact p7 i (by omega)
  · intro j hj
    rw [o9 _ (by omega), o9 _ (by omega), o9 _ (by omega), eo 49 (by decide) (by decide) (by decide) (by decide)]
    exact p8 j hj
  · show (if 0 = c + 1 then t else cf 0) = 0
    rw [if_neg (by omega)]
    exact p9
  · intro i hi
    show (if i = c + 1 then t else cf i) ≤ (if i + 1 = c + 1 then t else cf (i + 1))
    rw [if_neg (by omega)]
    by_cases q : i = c
    · rw [if_pos (by omega), q, p12]
      exact p13
    · rw [if_neg (by omega)]
      exact p10 i (by omega)
  · intro i hi
    rw [e48, upd_app]
    show (if i = c + 1 then nI t else E 48 i) = nI (if i = c + 1 then t else cf i)
    by_cases q : i = c + 1
    · rw [if_pos q, if_pos q]
    · rw [if_neg q, if_neg q]
      exact p11 i (by omega)
  · show (if c + 1 = c + 1 then t else cf (c + 1)) = t
    rw [if_pos rfl]
  · intro i j a1 a2 a3
    change (if i = c + 1 then t else cf i) ≤ j at a2
    change j < (if i + 1 = c + 1 then t else cf (i + 1)) at a3
    rw [if_neg (by omega)] at a2
    rw [o9 _ (by omega)]
    by_cases q : i = c
    · rw [if_pos (by omega)] at a3
      rw [q, p12] at a2
      rw [q]
      exact p15 j a2 a3
    · rw [if_neg (by omega)] at a3
      exact p14 i j (by omega) a2 a3
  · intro j a1 a2
    omega
  · exact ⟨by rw [e40 26 (by decide)]; exact hb.1, by rw [e40 25 (by decide)]; exact hb.2⟩
theorem s_tests {a0 e0 : Nat} (hp : dr = 30 ∨ dr = 35) (hn : n ≤ 300) (hc : c < 10) (hae : a0 ≤ e0) : ∀ (r m m2 i t : Nat) (D E : Nat → Nat → Int32) (w : Int64), t + r = 31 → r < m → r < m2 → i ≤ t → PS dr B n c t lo D E w → D 12 c = nI a0 → D 13 c = nI e0 → (e0 : Int) ≤ (D 10 3).toInt → ∃ D' E' w', CT dr D D' ∧ MF E E' ∧ (bn2 (fX10_readTest (b + 40) (HH b E w Tm pm dm np mk)) fun _ h => fX10_readColour_83 m2 (b + 40) (nI a0) (nI (e0 - a0)) h) = some ((), HH b E' w' Tm pm dm np mk) ∧ ((fX1_readColour_24 m (b + 9) (b + dr) (nI i) (HH b D wc Tc pc dc np mk) = some (1, HH b D' wc Tc pc dc np mk) ∧ ∃ t', PS dr B n (c + 1) t' t' D' E' w') ∨ (fX1_readColour_24 m (b + 9) (b + dr) (nI i) (HH b D wc Tc pc dc np mk) = some (0, HH b D' wc Tc pc dc np mk) ∧ FLd D' E')) := by
  intro r
  induction r with
  | zero =>
    intro m m2 i t D E w ht hm hm2 hi h
    have := (PS_cnt h).2.2.2.2.2.1
    omega
  | succ r ih =>
    intro m m2 i t D E w ht hm hm2 hi h h12 h13 he
    obtain ⟨m, rfl⟩ : ∃ m', m = m' + 1 := ⟨m - 1, by omega⟩
    obtain ⟨m2, rfl⟩ : ∃ m', m2 = m' + 1 := ⟨m2 - 1, by omega⟩
    have ht30 := (PS_cnt h).2.2.2.2.2.1
    have c1 : ¬ (30 : Int32) < nI i := nI_nlt (a := 30) (by omega) (by decide)
    obtain ⟨D1, E1, w1, a1, a2, a3, a4⟩ := s_test (b := b) (wc := wc) (Tc := Tc) (pc := pc) (dc := dc) (Tm := Tm) (pm := pm) (dm := dm) (np := np) (mk := mk) hp hn h
    rw [a3, bn2_s]
    rcases a4 with ⟨a4, P1, _⟩ | ⟨a4, F1⟩
    · obtain ⟨q0, q1, q2, q3, q4, q5, q6, q7, q8, q9⟩ := PS_cnt P1
      have g12 : D1 12 c = nI a0 := by rw [a1.1 12 (by decide) (by omega)]; exact h12
      have g13 : D1 13 c = nI e0 := by rw [a1.1 13 (by decide) (by omega)]; exact h13
      have ge : (e0 : Int) ≤ (D1 10 3).toInt := Int.le_trans he a1.2
      rcases s_mark (b := b) (wc := wc) (Tc := Tc) (pc := pc) (dc := dc) (Tm := Tm) (pm := pm) (dm := dm) (np := np) (mk := mk) hn P1 44 with ⟨k1, k2, _⟩ | ⟨k1, k2⟩
      · obtain ⟨D2, E2, w2, b1, b2, P2, b4, b5⟩ := s_next (b := b) (wc := wc) (Tc := Tc) (pc := pc) (dc := dc) (Tm := Tm) (pm := pm) (dm := dm) (np := np) (mk := mk) hp hn P1
        obtain ⟨D3, E3, w3, d1, d2, d3, d4⟩ := ih m m2 (i + 1) (t + 1) D2 E2 w2 (by omega) (by omega) (by omega) (by omega) P2 (by rw [b4.1 12 (by decide) (by omega)]; exact g12) (by rw [b4.1 13 (by decide) (by omega)]; exact g13) (Int.le_trans ge b4.2)
        have cb : fX1_readColour_24 (m + 1) (b + 9) (b + dr) (nI i) (HH b D wc Tc pc dc np mk) = fX1_readColour_24 m (b + 9) (b + dr) (nI (i + 1)) (HH b D2 wc Tc pc dc np mk) := by
          rw [fX1_readColour_24]
          simp (decide := true) only [bn_s, bn2_s, hk9, hk10, hr9_0, c1, a4, k1, b1, nI_1, if_true, if_false]
        rw [cb]
        refine ⟨D3, E3, w3, CT_t (CT_t a1 b4) d1, MF_t (MF_t a2 b5) d2, ?_, d4⟩
        rw [← d3, fX10_readColour_83]
        simp (decide := true) only [bn_s, bn2_s, hk40, hr40_26, q6, k2, b2, if_true, if_false]
      · have P2 := PS_col hp P1 hn hc g12 g13 hae ge
        have c3 : ¬ nI c < 0 := nI_pos (by omega)
        have c4 : (nI c).toNatClampNeg = c := nI_clamp (by omega)
        have c5 : ¬ 10 ≤ c := by omega
        have d3 : ¬ nI (c + 1) < 0 := nI_pos (by omega)
        have d4 : (nI (c + 1)).toNatClampNeg = c + 1 := nI_clamp (by omega)
        have d5 : ¬ 11 ≤ c + 1 := by omega
        refine ⟨_, _, w1, CT_t a1 ⟨fun x x1 x2 => up2_ne (by omega), ?_⟩, MF_t a2 ⟨fun y y1 y2 y3 y4 y5 y6 y7 => ?_, fun y y1 y2 y3 y4 y5 => ?_⟩, ?_, Or.inl ⟨?_, t + 1, P2⟩⟩
        · rw [up2_ne (by omega)]
          exact Int.le_refl _
        · rw [up2_ne (by decide), up2_k y1, up2_ne (by decide), up2_ne (by decide)]
        · rw [up2_ne y2, up2_ne y1, up2_ne y5, up2_ne y4]
        · rw [fX10_readColour_83]
          simp (decide := true) only [fX10_readColour_110, bn_s, bn2_s, or_self, hk40, hr40_26, hr40_13, hr40_14, hr40_15, hr40_17, hr40_18, hw40_13, hs50, hs51, hs48, up2_ne, up2_same, upd_app, ne_eq, not_false_eq_true, q2, q3, q6, k2, c3, c4, c5, d3, d4, d5, nI_1, if_true, if_false]
        · rw [fX1_readColour_24]
          simp (decide := true) only [bn_s, bn2_s, hk9, hk10, hr9_0, hq_r0 hp, hq_w0 hp, q0, c1, a4, k1, nI_1, if_true, if_false]
    · have nb : ¬ E1 40 26 = 0 := by rw [F1.1]; decide
      refine ⟨D1, E1, w1, a1, a2, ?_, Or.inr ⟨?_, F1⟩⟩
      · rw [fX10_readColour_83]
        simp (decide := true) only [fX10_readColour_110, bn_s, hr40_26, nb, if_false]
      · rw [fX1_readColour_24]
        simp (decide := true) only [bn_s, bn2_s, hk9, c1, a4, if_true, if_false]
end
