theorem up2_id {E : Nat → Nat → Int32} {o k : Nat} {v : Int32} (h : E o k = v) : up2 E o k v = E := by
  funext x
  by_cases q : x = o
  · subst q
    rw [up2_same, ← h, upd_self]
  · rw [up2_ne q]
section
variable {b : Nat} {D E : Nat → Nat → Int32} {wc w : Int64} {Tc Tm : Nat → Int64} {pc dc pm dm np mk : Nat} {dr n c t lo : Nat} {B : Nat → Int32}
theorem PS_nm (hp : dr = 30 ∨ dr = 35) (h : PS dr B n c t lo D E w) (x y : Int32) : PS dr B n c t lo (up2 (up2 D 12 c x) 13 c y) E w := by
  obtain ⟨p, ns, ne, cf, ⟨t0, t1, t2, t3, t4, t5, t6, t7, t8, t9, t10, t11⟩, ⟨p1, p2, p3, p4, p5, p6, p7, p8, p9, p10, p11, p12, p13, p14, p15⟩, hb⟩ := h
  have o : ∀ z, z ≠ 12 → z ≠ 13 → up2 (up2 D 12 c x) 13 c y z = D z := fun z h1 h2 => by rw [up2_ne h2, up2_ne h1]
  refine ⟨p, ns, ne, cf, ⟨t0, ?_, ?_, ?_, ?_, ?_, t6, t7, t8, t9, t10, t11⟩, ⟨?_, ?_, p3, p4, p5, p6, ?_, ?_, p9, p10, p11, p12, p13, ?_, ?_⟩, hb⟩
  · rw [o 10 (by decide) (by decide)]; exact t1
  · rw [o 10 (by decide) (by decide)]; exact t2
  · rw [o 10 (by decide) (by decide)]; exact t3
  · rw [o 10 (by decide) (by decide)]; exact t4
  · rw [o 11 (by decide) (by decide)]; exact t5
  · rw [o dr (by omega) (by omega)]; exact p1
  · rw [o dr (by omega) (by omega)]; exact p2
  · intro i hi
    rw [up2_k (by omega), up2_k (by omega), up2_k (by omega), up2_k (by omega)]
    exact p7 i hi
  · intro j hj
    rw [o _ (by omega) (by omega), o _ (by omega) (by omega), o _ (by omega) (by omega)]
    exact p8 j hj
  · intro i j a1 a2 a3
    rw [o _ (by omega) (by omega)]
    exact p14 i j a1 a2 a3
  · intro j a1 a2
    rw [o _ (by omega) (by omega)]
    exact p15 j a1 a2
theorem PS_48 (h : PS dr B n c t lo D E w) : E 48 c = nI lo := by
  obtain ⟨p, ns, ne, cf, _, ⟨p1, p2, p3, p4, p5, p6, p7, p8, p9, p10, p11, p12, p13, p14, p15⟩, hb⟩ := h
  rw [p11 c (Nat.le_refl _), p12]
/-- a name: taken by both, or by none -/
theorem s_name (hp : dr = 30 ∨ dr = 35) (hn : n ≤ 300) (h : PS dr B n c t lo D E w) : ∃ a0 e0 : Nat, a0 ≤ e0 ∧ D 10 3 = nI a0 ∧ D 10 4 = nI e0 ∧ e0 ≤ 300 ∧ E 40 21 = nI a0 ∧ E 40 22 = nI e0 ∧ ((c < 10 ∧ (∃ m', fX1_takeName (b + 9) (nI c) (HH b D wc Tc pc dc np mk) = fX1_takeName_21 (m' + 1) (b + 9) (nI c) (nI c) (HH b D wc Tc pc dc np mk)) ∧ fX10_readColour (b + 40) (HH b E w Tm pm dm np mk) = fX10_readColour_45 (b + 40) (nI a0) (nI (e0 - a0)) 1 (b + 40) (HH b E w Tm pm dm np mk)) ∨ (fX1_takeName (b + 9) (nI c) (HH b D wc Tc pc dc np mk) = some (0, HH b D wc Tc pc dc np mk) ∧ fX10_readColour (b + 40) (HH b E w Tm pm dm np mk) = fX10_readColour_45 (b + 40) (nI a0) (nI (e0 - a0)) 0 (b + 40) (HH b E w Tm pm dm np mk))) := by
  obtain ⟨p, ns, ne, cf, ⟨t0, t1, t2, t3, t4, t5, t6, t7, t8, t9, t10, t11⟩, ⟨p1, p2, p3, p4, p5, p6, p7, p8, p9, p10, p11, p12, p13, p14, p15⟩, hb⟩ := h
  obtain ⟨f1, f2, f3, f4, f5, f6, f7⟩ := tok_f (B := B) t0
  have d2 : nI (tE B n p) - nI (tS B n p) = nI (tE B n p - tS B n p) := pk_sub f2
  refine ⟨tS B n p, tE B n p, f2, t3, t4, by omega, t8, t9, ?_⟩
  by_cases q1 : tK B n p = 1
  · have k1 : nI (tK B n p) = 1 := by rw [q1]; rfl
    by_cases q2 : c < 10
    · have c1 : ¬ (10 : Int32) ≤ nI c := nI_ge (b := 10) q2 (by omega)
      have L := lp_tn (b := b) (D := D) (w := wc) (T := Tc) (pa := pc) (dr := dc) (np := np) (mk := mk) q2 f2 (by omega) t3 t4 t5 (fun i hi => ⟨(p7 i hi).1, (p7 i hi).2.1, (p7 i hi).2.2.2.2.1, (p7 i hi).2.2.2.2.2⟩) c FU 0 (by omega) (by unfold FU; omega)
      have M := lp_mn (b := b) (D := E) (w := w) (T := Tm) (pa := pm) (dr := dm) (np := np) (mk := mk) (show c ≤ 10 by omega) f2 (by omega) p3 t8 t9 t10 (fun i hi => ⟨(p7 i hi).2.2.1, (p7 i hi).2.2.2.1, (p7 i hi).2.2.2.2.1, (p7 i hi).2.2.2.2.2⟩) c FU 0 0 (by omega) (by unfold FU; omega)
      rw [nI_0] at L M
      by_cases q3 : ∃ x, 0 ≤ x ∧ x < c ∧ NM B (tS B n p) (tE B n p) (ns x) (ne x)
      · have L := L.1 q3
        have M := M.1 (Or.inr ⟨rfl, q3⟩)
        refine Or.inr ⟨?_, ?_⟩
        · simp (decide := true) only [fX1_takeName, bn_s, hr9_0, hr10_2, t2, k1, c1, L, if_true, if_false]
        · simp (decide := true) only [fX10_readColour, fX10_readColour_44, fX10_isNamed, bn_s, bn2_s, nm_s, hk40, hr40_21, hr40_22, hr40_23, hr40_13, t7, t8, t9, p3, d2, k1, c1, M, if_true, if_false]
      · have q3' : ∀ x, 0 ≤ x → x < c → ¬ NM B (tS B n p) (tE B n p) (ns x) (ne x) := fun x x1 x2 x3 => q3 ⟨x, x1, x2, x3⟩
        obtain ⟨m', L⟩ := L.2 q3'
        have M := M.2 ⟨rfl, q3'⟩
        refine Or.inl ⟨q2, ⟨m', ?_⟩, ?_⟩
        · rw [← L]
          simp (decide := true) only [fX1_takeName, bn_s, hr9_0, hr10_2, t2, k1, c1, if_true, if_false]
        · simp (decide := true) only [fX10_readColour, fX10_readColour_44, fX10_isNamed, bn_s, bn2_s, nm_s, hk40, hr40_21, hr40_22, hr40_23, hr40_13, t7, t8, t9, p3, d2, k1, c1, M, if_true, if_false]
    · have c1 : (10 : Int32) ≤ nI c := nI_le (a := 10) (by omega) (by omega)
      refine Or.inr ⟨?_, ?_⟩
      · simp (decide := true) only [fX1_takeName, c1, if_true]
      · simp (decide := true) only [fX10_readColour, fX10_readColour_44, bn_s, nm_s, hr40_21, hr40_22, hr40_23, hr40_13, t7, t8, t9, p3, d2, k1, c1, if_true, if_false]
  · have k1 : ¬ nI (tK B n p) = 1 := nne (K := 1) q1 (by omega) (by decide)
    refine Or.inr ⟨?_, ?_⟩
    · by_cases c1 : (10 : Int32) ≤ nI c
      · simp (decide := true) only [fX1_takeName, c1, if_true]
      · simp (decide := true) only [fX1_takeName, bn_s, hr9_0, hr10_2, t2, k1, c1, if_false]
    · simp (decide := true) only [fX10_readColour, fX10_readColour_44, bn_s, nm_s, hr40_21, hr40_22, hr40_23, t7, t8, t9, d2, k1, if_false]
theorem s_colour (hp : dr = 30 ∨ dr = 35) (hn : n ≤ 300) (h : PS dr B n c t t D E w) : ∃ D' E' w', CF dr D D' ∧ MF E E' ∧ fX10_readColour (b + 40) (HH b E w Tm pm dm np mk) = some ((), HH b E' w' Tm pm dm np mk) ∧ ((fX1_readColour (b + 9) (b + dr) (HH b D wc Tc pc dc np mk) = some (1, HH b D' wc Tc pc dc np mk) ∧ ∃ t', PS dr B n (c + 1) t' t' D' E' w') ∨ (fX1_readColour (b + 9) (b + dr) (HH b D wc Tc pc dc np mk) = some (0, HH b D' wc Tc pc dc np mk) ∧ FLd D' E')) := by
  obtain ⟨k0, k1, k2, k3, k4, k5, k6, k7, k8, k9⟩ := PS_cnt h
  obtain ⟨a0, e0, hae, h3, h4, he3, h21, h22, hh⟩ := s_name (b := b) (wc := wc) (Tc := Tc) (pc := pc) (dc := dc) (Tm := Tm) (pm := pm) (dm := dm) (np := np) (mk := mk) hp hn h
  rcases hh with ⟨hc, ⟨m', C⟩, M⟩ | ⟨C, M⟩
  · have c3 : ¬ nI c < 0 := nI_pos (by omega)
    have c4 : (nI c).toNatClampNeg = c := nI_clamp (by omega)
    have c5 : ¬ 10 ≤ c := by omega
    have c6 : nI c ≤ nI c := nI_le (Nat.le_refl _) (by omega)
    have P1 := PS_nm hp h (nI a0) (nI e0)
    obtain ⟨D2, E2, w2, b1, b2, P2, b4, b5, b6⟩ := s_nextX (b := b) (wc := wc) (Tc := Tc) (pc := pc) (dc := dc) (Tm := Tm) (pm := pm) (dm := dm) (np := np) (mk := mk) hp hn P1
    have g12 : D2 12 c = nI a0 := by rw [b4.1 12 (by decide) (by omega), up2_ne (by decide), up2_v]
    have g13 : D2 13 c = nI e0 := by rw [b4.1 13 (by decide) (by omega), up2_v]
    have ge : (e0 : Int) ≤ (D2 10 3).toInt := by
      have := b6
      rw [up2_ne (by decide), up2_ne (by decide), h4, nI_ti (by omega)] at this
      exact this
    have tn : fX1_takeName (b + 9) (nI c) (HH b D wc Tc pc dc np mk) = some (1, HH b D2 wc Tc pc dc np mk) := by
      rw [C, fX1_takeName_21]
      simp (decide := true) only [bn_s, bn2_s, or_self, hr9_0, hr9_1, hr9_2, hk10, hr10_3, hr10_4, hs12, hs13, h3, h4, up2_ne, ne_eq, not_false_eq_true, c3, c4, c5, c6, b1, if_true, if_false]
    have cf0 : CF dr D D2 := CF_t (fun x x1 x2 x3 x4 => by rw [up2_ne x3, up2_ne x2]) (CF_o b4)
    obtain ⟨_, _, _, q3, _, _, q6, _, _, _⟩ := PS_cnt P2
    rcases s_mark (b := b) (wc := wc) (Tc := Tc) (pc := pc) (dc := dc) (Tm := Tm) (pm := pm) (dm := dm) (np := np) (mk := mk) hn P2 58 with ⟨j1, j2, _⟩ | ⟨j1, j2⟩
    · obtain ⟨D3, E3, w3, d1, d2, P3, d4, d5⟩ := s_next (b := b) (wc := wc) (Tc := Tc) (pc := pc) (dc := dc) (Tm := Tm) (pm := pm) (dm := dm) (np := np) (mk := mk) hp hn P2
      obtain ⟨_, _, r2, r3, _, _, r6, _, _, _⟩ := PS_cnt P3
      have r48 : up2 E3 48 c (nI t) = E3 := up2_id (PS_48 P3)
      obtain ⟨D4, E4, w4, e1, e2, e3, e4⟩ := s_tests (b := b) (wc := wc) (Tc := Tc) (pc := pc) (dc := dc) (Tm := Tm) (pm := pm) (dm := dm) (np := np) (mk := mk) hp hn hc hae (31 - t) FU FU 0 t D3 E3 w3 (by omega) (by unfold FU; omega) (by unfold FU; omega) (by omega) P3 (by rw [d4.1 12 (by decide) (by omega)]; exact g12) (by rw [d4.1 13 (by decide) (by omega)]; exact g13) (Int.le_trans ge d4.2)
      rw [nI_0] at e4
      have cb : fX1_readColour (b + 9) (b + dr) (HH b D wc Tc pc dc np mk) = fX1_readColour_24 FU (b + 9) (b + dr) 0 (HH b D3 wc Tc pc dc np mk) := by
        simp (decide := true) only [fX1_readColour, fX1_takeMark, bn_s, bn2_s, hq_r0 hp, hk9, hk10, hr9_0, k0, tn, j1, d1, if_true, if_false]
      rw [cb]
      refine ⟨D4, E4, w4, CF_t cf0 (CF_t (CF_o d4) (CF_o e1)), MF_t b5 (MF_t d5 e2), ?_, e4⟩
      have d11 : ¬ 11 ≤ c := by omega
      rw [M, ← e3]
      simp (decide := true) only [fX10_readColour_45, bn_s, bn2_s, or_self, hk40, m_must1 k6, b2, j2, m_must1 q6, d2, hr40_26, hr40_15, hr40_13, hr40_14, hs48, r2, r3, r6, r48, c3, c4, d11, if_true, if_false]
    · have nb : ¬ up2 (up2 E2 40 26 1) 40 25 (E2 40 21) 40 26 = 0 := by rw [up2_k (by decide), up2_v]; decide
      refine ⟨D2, up2 (up2 E2 40 26 1) 40 25 (E2 40 21), w2, cf0, MF_t b5 (MF_bad E2 _), ?_, Or.inr ⟨?_, FL_bad P2⟩⟩
      · rw [M]
        simp (decide := true) only [fX10_readColour_45, bn_s, bn2_s, hk40, m_must1 k6, b2, j2, m_must0 q6, hr40_26, nb, if_false]
      · simp (decide := true) only [fX1_readColour, fX1_takeMark, bn_s, bn2_s, hq_r0 hp, hk9, hk10, hr9_0, k0, tn, j1, if_true, if_false]
  · have nb : ¬ up2 (up2 E 40 26 1) 40 25 (E 40 21) 40 26 = 0 := by rw [up2_k (by decide), up2_v]; decide
    have sg : ∃ z, fX10_isSign (b + 40) 58 (HH b (up2 (up2 E 40 26 1) 40 25 (E 40 21)) w Tm pm dm np mk) = some (z, HH b (up2 (up2 E 40 26 1) 40 25 (E 40 21)) w Tm pm dm np mk) := by
      unfold fX10_isSign
      rw [hr40_23, bn_s]
      split
      · rw [hr40_24, bn_s]
        split
        · exact ⟨_, rfl⟩
        · exact ⟨_, rfl⟩
      · exact ⟨_, rfl⟩
    obtain ⟨z, sg⟩ := sg
    refine ⟨D, up2 (up2 E 40 26 1) 40 25 (E 40 21), w, fun _ _ _ _ _ => rfl, MF_bad E _, ?_, Or.inr ⟨?_, FL_bad h⟩⟩
    · rw [M]
      simp (decide := true) only [fX10_readColour_45, bn_s, bn2_s, hk40, m_must0 k6, sg, m_mustB nb, hr40_26, nb, if_false]
    · simp (decide := true) only [fX1_readColour, bn_s, bn2_s, hq_r0 hp, hk9, k0, C, if_true]
end
section
variable {b : Nat} {wc : Int64} {Tc Tm : Nat → Int64} {pc dc pm dm np mk : Nat} {dr n : Nat} {B : Nat → Int32}
theorem s_into (hp : dr = 30 ∨ dr = 35) (hn : n ≤ 300) : ∀ (r m m2 i c t : Nat) (D E : Nat → Nat → Int32) (w : Int64), c + r = 11 → r < m → r < m2 → i ≤ c → PS dr B n c t t D E w → ∃ D' E' w', CF dr D D' ∧ MF E E' ∧ (bn2 (fX10_readColour (b + 40) (HH b E w Tm pm dm np mk)) fun _ h => fX10_colours_52 m2 (b + 40) h) = fX10_colours_98 (b + 40) (HH b E' w' Tm pm dm np mk) ∧ ((fX1_readInto_25 m (b + 9) (b + dr) (nI i) (HH b D wc Tc pc dc np mk) = some (1, HH b D' wc Tc pc dc np mk) ∧ ∃ c' t', PS dr B n c' t' t' D' E' w') ∨ (fX1_readInto_25 m (b + 9) (b + dr) (nI i) (HH b D wc Tc pc dc np mk) = some (0, HH b D' wc Tc pc dc np mk) ∧ FLd D' E')) := by
  intro r
  induction r with
  | zero =>
    intro m m2 i c t D E w hc hm hm2 hi h
    have := (PS_cnt h).2.2.2.2.1
    omega
  | succ r ih =>
    intro m m2 i c t D E w hc hm hm2 hi h
    obtain ⟨m, rfl⟩ : ∃ m', m = m' + 1 := ⟨m - 1, by omega⟩
    obtain ⟨m2, rfl⟩ : ∃ m', m2 = m' + 1 := ⟨m2 - 1, by omega⟩
    have hc10 := (PS_cnt h).2.2.2.2.1
    have c1 : ¬ (10 : Int32) < nI i := nI_nlt (a := 10) (by omega) (by decide)
    obtain ⟨D1, E1, w1, a1, a2, a3, a4⟩ := s_colour (b := b) (wc := wc) (Tc := Tc) (pc := pc) (dc := dc) (Tm := Tm) (pm := pm) (dm := dm) (np := np) (mk := mk) hp hn h
    rw [a3, bn2_s]
    rcases a4 with ⟨a4, t', P1⟩ | ⟨a4, F1⟩
    · obtain ⟨q0, q1, q2, q3, q4, q5, q6, q7, q8, q9⟩ := PS_cnt P1
      by_cases z : D1 10 2 = 0
      · have z2 : E1 40 23 = 0 := q8.trans z
        have j2 : fX10_isSign (b + 40) 59 (HH b E1 w1 Tm pm dm np mk) = some (0, HH b E1 w1 Tm pm dm np mk) := by
          rcases s_mark (b := b) (wc := wc) (Tc := Tc) (pc := pc) (dc := dc) (Tm := Tm) (pm := pm) (dm := dm) (np := np) (mk := mk) hn P1 59 with ⟨_, _, j⟩ | ⟨_, j⟩
          · exact absurd (j.symm.trans z) (by decide)
          · exact j
        refine ⟨D1, E1, w1, a1, a2, ?_, Or.inl ⟨?_, c + 1, t', P1⟩⟩
        · rw [fX10_colours_52]
          simp (decide := true) only [fX10_colours_79, bn_s, bn2_s, hk40, hr40_26, hr40_23, q6, z2, j2, if_true]
        · rw [fX1_readInto_25]
          simp (decide := true) only [bn_s, bn2_s, hk9, hr9_0, hr10_2, c1, a4, z, if_true, if_false]
      · have z2 : ¬ E1 40 23 = 0 := fun y => z (q8.symm.trans y)
        rcases s_mark (b := b) (wc := wc) (Tc := Tc) (pc := pc) (dc := dc) (Tm := Tm) (pm := pm) (dm := dm) (np := np) (mk := mk) hn P1 59 with ⟨j1, j2, _⟩ | ⟨j1, j2⟩
        · obtain ⟨D2, E2, w2, b1, b2, P2, b4, b5⟩ := s_next (b := b) (wc := wc) (Tc := Tc) (pc := pc) (dc := dc) (Tm := Tm) (pm := pm) (dm := dm) (np := np) (mk := mk) hp hn P1
          obtain ⟨D3, E3, w3, d1, d2, d3, d4⟩ := ih m m2 (i + 1) (c + 1) t' D2 E2 w2 (by omega) (by omega) (by omega) (by omega) P2
          have cb : fX1_readInto_25 (m + 1) (b + 9) (b + dr) (nI i) (HH b D wc Tc pc dc np mk) = fX1_readInto_25 m (b + 9) (b + dr) (nI (i + 1)) (HH b D2 wc Tc pc dc np mk) := by
            rw [fX1_readInto_25]
            simp (decide := true) only [fX1_takeMark, bn_s, bn2_s, hk9, hk10, hr9_0, hr10_2, c1, a4, z, j1, b1, nI_1, if_true, if_false]
          rw [cb]
          refine ⟨D3, E3, w3, CF_t a1 (CF_t (CF_o b4) d1), MF_t a2 (MF_t b5 d2), ?_, d4⟩
          rw [← d3, fX10_colours_52]
          simp (decide := true) only [bn_s, bn2_s, hk40, hr40_26, q6, j2, b2, if_true, if_false]
        · refine ⟨D1, up2 (up2 E1 40 26 1) 40 25 (E1 40 21), w1, a1, MF_t a2 (MF_bad E1 _), ?_, Or.inr ⟨?_, FL_bad P1⟩⟩
          · rw [fX10_colours_52]
            simp (decide := true) only [fX10_colours_79, bn_s, bn2_s, hk40, hr40_26, hr40_23, q6, z2, j2, m_must0 q6, if_true, if_false]
          · rw [fX1_readInto_25]
            simp (decide := true) only [fX1_takeMark, bn_s, bn2_s, hk9, hk10, hr9_0, hr10_2, c1, a4, z, j1, if_true, if_false]
    · have nb : ¬ E1 40 26 = 0 := by rw [F1.1]; decide
      refine ⟨D1, E1, w1, a1, a2, ?_, Or.inr ⟨?_, F1⟩⟩
      · rw [fX10_colours_52]
        simp (decide := true) only [fX10_colours_79, bn_s, hr40_26, nb, if_false]
      · rw [fX1_readInto_25]
        simp (decide := true) only [bn_s, bn2_s, hk9, c1, a4, if_true, if_false]
end
