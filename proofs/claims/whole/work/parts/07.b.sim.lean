section
variable {b : Nat} {D E : Nat → Nat → Int32} {wc w : Int64} {Tc Tm : Nat → Int64} {pc dc pm dm np mk : Nat} {dr n c t lo : Nat} {B : Nat → Int32}
theorem s_metal (hn : n ≤ 300) (h : PS dr B n c t lo D E w) : ∃ x : Int32, (x = -1 ∨ x = 0 ∨ x = 1 ∨ x = 2) ∧ fX1_metalTold (b + 9) (HH b D wc Tc pc dc np mk) = some (x, HH b D wc Tc pc dc np mk) ∧ fX10_readTest (b + 40) (HH b E w Tm pm dm np mk) = fX10_readTest_68 (b + 40) x (HH b E w Tm pm dm np mk) := by
  rcases s_word (b := b) (wc := wc) (Tc := Tc) (pc := pc) (dc := dc) (np := np) (mk := mk) hn h (s := 0) (by decide) with ⟨a1, a2⟩ | ⟨a1, a2⟩
  · refine ⟨0, Or.inr (Or.inl rfl), ?_, ?_⟩
    · simp (decide := true) only [fX1_metalTold, bn_s, bn2_s, hr9_0, hk10, a1, if_false]
    · simp (decide := true) only [fX10_readTest, bn_s, bn2_s, hk40, m_gold, a2, and_self, if_true, if_false]
  · rcases s_word (b := b) (wc := wc) (Tc := Tc) (pc := pc) (dc := dc) (np := np) (mk := mk) hn h (s := 1) (by decide) with ⟨c1, c2⟩ | ⟨c1, c2⟩
    · refine ⟨1, Or.inr (Or.inr (Or.inl rfl)), ?_, ?_⟩
      · simp (decide := true) only [fX1_metalTold, bn_s, bn2_s, hr9_0, hk10, a1, c1, if_true, if_false]
      · rw [fX10_readTest, hk40, bn_s, m_gold, if_neg a2, bn2_s, if_pos rfl, hk40, bn_s, m_silver, if_pos c2, bn2_s, if_neg (by decide)]
    · rcases s_word (b := b) (wc := wc) (Tc := Tc) (pc := pc) (dc := dc) (np := np) (mk := mk) hn h (s := 2) (by decide) with ⟨d1, d2⟩ | ⟨d1, d2⟩
      · refine ⟨2, Or.inr (Or.inr (Or.inr rfl)), ?_, ?_⟩
        · simp (decide := true) only [fX1_metalTold, bn_s, bn2_s, hr9_0, hk10, a1, c1, d1, if_true, if_false]
        · rw [fX10_readTest, hk40, bn_s, m_gold, if_neg a2, bn2_s, if_pos rfl, hk40, bn_s, m_silver, if_neg c2, bn2_s, if_pos rfl, hk40, bn_s, m_copper, if_pos d2, bn2_s, if_neg (by decide)]
      · refine ⟨-1, Or.inl rfl, ?_, ?_⟩
        · simp (decide := true) only [fX1_metalTold, bn_s, bn2_s, hr9_0, hk10, a1, c1, d1, if_true]
        · rw [fX10_readTest, hk40, bn_s, m_gold, if_neg a2, bn2_s, if_pos rfl, hk40, bn_s, m_silver, if_neg c2, bn2_s, if_pos rfl, hk40, bn_s, m_copper, if_neg d2, bn2_s, if_pos rfl]
theorem PS_cnt (h : PS dr B n c t lo D E w) : D dr 0 = nI c ∧ D dr 1 = nI t ∧ E 40 13 = nI c ∧ E 40 14 = nI t ∧ c ≤ 10 ∧ t ≤ 30 ∧ E 40 26 = 0 ∧ E 40 21 = D 10 3 ∧ E 40 23 = D 10 2 ∧ lo ≤ t := by
  obtain ⟨p, ns, ne, cf, ⟨t0, t1, t2, t3, t4, t5, t6, t7, t8, t9, t10, t11⟩, ⟨p1, p2, p3, p4, p5, p6, p7, p8, p9, p10, p11, p12, p13, p14, p15⟩, hb⟩ := h
  exact ⟨p1, p2, p3, p4, p5, p6, hb.1, t8.trans t3.symm, t7.trans t2.symm, p13⟩
/-- the text is bad here -/
theorem MF_bad (E : Nat → Nat → Int32) (v : Int32) : MF E (up2 (up2 E 40 26 1) 40 25 v) := ⟨fun y a1 a2 a3 a4 a5 a6 a7 => by rw [up2_k a6, up2_k a7], fun x a1 a2 a3 a4 a5 => by rw [up2_ne a1, up2_ne a1]⟩
theorem FL_bad (h : PS dr B n c t lo D E w) : FLd D (up2 (up2 E 40 26 1) 40 25 (E 40 21)) := ⟨by rw [up2_k (by decide), up2_v], by rw [up2_v, (PS_cnt h).2.2.2.2.2.2.2.1]⟩
theorem PS_add {x u v : Int32} (hp : dr = 30 ∨ dr = 35) (h : PS dr B n c t lo D E w) (ht : t < 30) (hx : x = 0 ∨ x = 1 ∨ x = 2) : PS dr B n c (t + 1) lo (up2 (up2 (up2 (up2 (up2 D (dr + 1) t (nI c)) (dr + 2) t x) (dr + 3) t u) (dr + 4) t v) dr 1 (nI (t + 1))) (up2 (up2 (up2 (up2 E 49 (3 * t) x) 49 (3 * t + 1) u) 49 (3 * t + 2) v) 40 14 (nI (t + 1))) w := by
  obtain ⟨p, ns, ne, cf, ⟨t0, t1, t2, t3, t4, t5, t6, t7, t8, t9, t10, t11⟩, ⟨p1, p2, p3, p4, p5, p6, p7, p8, p9, p10, p11, p12, p13, p14, p15⟩, hb⟩ := h
  have o9 : ∀ x', x' < 30 → up2 (up2 (up2 (up2 (up2 D (dr + 1) t (nI c)) (dr + 2) t x) (dr + 3) t u) (dr + 4) t v) dr 1 (nI (t + 1)) x' = D x' := fun x' hx' => by rw [up2_ne (by omega), up2_ne (by omega), up2_ne (by omega), up2_ne (by omega), up2_ne (by omega)]
  have r1 : up2 (up2 (up2 (up2 (up2 D (dr + 1) t (nI c)) (dr + 2) t x) (dr + 3) t u) (dr + 4) t v) dr 1 (nI (t + 1)) (dr + 1) = upd (D (dr + 1)) t (nI c) := by rw [up2_ne (by omega), up2_ne (by omega), up2_ne (by omega), up2_ne (by omega), up2_same]
  have r2 : up2 (up2 (up2 (up2 (up2 D (dr + 1) t (nI c)) (dr + 2) t x) (dr + 3) t u) (dr + 4) t v) dr 1 (nI (t + 1)) (dr + 2) = upd (D (dr + 2)) t x := by rw [up2_ne (by omega), up2_ne (by omega), up2_ne (by omega), up2_same, up2_ne (by omega)]
  have r3 : up2 (up2 (up2 (up2 (up2 D (dr + 1) t (nI c)) (dr + 2) t x) (dr + 3) t u) (dr + 4) t v) dr 1 (nI (t + 1)) (dr + 3) = upd (D (dr + 3)) t u := by rw [up2_ne (by omega), up2_ne (by omega), up2_same, up2_ne (by omega), up2_ne (by omega)]
  have r4 : up2 (up2 (up2 (up2 (up2 D (dr + 1) t (nI c)) (dr + 2) t x) (dr + 3) t u) (dr + 4) t v) dr 1 (nI (t + 1)) (dr + 4) = upd (D (dr + 4)) t v := by rw [up2_ne (by omega), up2_same, up2_ne (by omega), up2_ne (by omega), up2_ne (by omega)]
  have e49 : up2 (up2 (up2 (up2 E 49 (3 * t) x) 49 (3 * t + 1) u) 49 (3 * t + 2) v) 40 14 (nI (t + 1)) 49 = upd (upd (upd (E 49) (3 * t) x) (3 * t + 1) u) (3 * t + 2) v := by rw [up2_ne (by decide), up2_same, up2_same, up2_same]
  have eo : ∀ y, y ≠ 40 → y ≠ 49 → up2 (up2 (up2 (up2 E 49 (3 * t) x) 49 (3 * t + 1) u) 49 (3 * t + 2) v) 40 14 (nI (t + 1)) y = E y := fun y h1 h2 => by rw [up2_ne h1, up2_ne h2, up2_ne h2, up2_ne h2]
  have e40 : ∀ y, y ≠ 14 → up2 (up2 (up2 (up2 E 49 (3 * t) x) 49 (3 * t + 1) u) 49 (3 * t + 2) v) 40 14 (nI (t + 1)) 40 y = E 40 y := fun y h1 => by rw [up2_k h1, up2_ne (by decide), up2_ne (by decide), up2_ne (by decide)]
  refine ⟨p, ns, ne, cf, ⟨t0, ?_, ?_, ?_, ?_, ?_, ?_, ?_, ?_, ?_, ?_, t11⟩, ⟨?_, ?_, ?_, ?_, p5, by omega, ?_, ?_, p9, p10, ?_, p12, by omega, ?_, ?_⟩, ?_⟩
  · rw [o9 10 (by decide)]; exact t1
  · rw [o9 10 (by decide)]; exact t2
  · rw [o9 10 (by decide)]; exact t3
  · rw [o9 10 (by decide)]; exact t4
  · rw [o9 11 (by decide)]; exact t5
  · rw [e40 20 (by decide)]; exact t6
  · rw [e40 23 (by decide)]; exact t7
  · rw [e40 21 (by decide)]; exact t8
  · rw [e40 22 (by decide)]; exact t9
  · rw [eo 52 (by decide) (by decide)]; exact t10
  · rw [up2_k (by decide), up2_ne (by omega), up2_ne (by omega), up2_ne (by omega), up2_ne (by omega)]; exact p1
  · rw [up2_v]
  · rw [e40 13 (by decide)]; exact p3
  · rw [up2_v]
  · intro i hi
    rw [o9 12 (by decide), o9 13 (by decide), eo 50 (by decide) (by decide), eo 51 (by decide) (by decide)]
    exact p7 i hi
  · intro j hj
    rw [r2, r3, r4, e49]
    simp only [upd_app]
    by_cases q : j = t
    · subst q
      rw [if_pos rfl, if_pos rfl, if_pos rfl, if_neg (by omega), if_neg (by omega), if_pos rfl, if_neg (by omega), if_pos rfl, if_pos rfl]
      exact ⟨rfl, rfl, rfl, hx⟩
    · rw [if_neg q, if_neg q, if_neg q, if_neg (by omega), if_neg (by omega), if_neg (by omega), if_neg (by omega), if_neg (by omega), if_neg (by omega), if_neg (by omega), if_neg (by omega), if_neg (by omega)]
      exact p8 j (by omega)
  · intro i hi
    rw [eo 48 (by decide) (by decide)]
    exact p11 i hi
  · intro i j a1 a2 a3
    have : cf (i + 1) ≤ lo := by
      have := cf_le p10 (i := i + 1) (c - (i + 1)) (by omega)
      rw [show i + 1 + (c - (i + 1)) = c by omega] at this
      omega
    rw [r1, upd_app, if_neg (by omega)]
    exact p14 i j a1 a2 a3
  · intro j a1 a2
    rw [r1, upd_app]
    by_cases q : j = t
    · rw [if_pos q]
    · rw [if_neg q]
      exact p15 j a1 (by omega)
  · exact ⟨by rw [e40 26 (by decide)]; exact hb.1, by rw [e40 25 (by decide)]; exact hb.2⟩
set_option maxHeartbeats 1000000 in
theorem s_test (hp : dr = 30 ∨ dr = 35) (hn : n ≤ 300) (h : PS dr B n c t lo D E w) : ∃ D' E' w', CT dr D D' ∧ MF E E' ∧ fX10_readTest (b + 40) (HH b E w Tm pm dm np mk) = some ((), HH b E' w' Tm pm dm np mk) ∧ ((fX1_readTest (b + 9) (b + dr) (HH b D wc Tc pc dc np mk) = some (1, HH b D' wc Tc pc dc np mk) ∧ PS dr B n c (t + 1) lo D' E' w' ∧ t < 30) ∨ (fX1_readTest (b + 9) (b + dr) (HH b D wc Tc pc dc np mk) = some (0, HH b D' wc Tc pc dc np mk) ∧ FLd D' E')) := by
  obtain ⟨k0, k1, k2, k3, k4, k5, k6, k7, k8, k9⟩ := PS_cnt h
  obtain ⟨x, hx, m1, m2⟩ := s_metal (b := b) (wc := wc) (Tc := Tc) (pc := pc) (dc := dc) (Tm := Tm) (pm := pm) (dm := dm) (np := np) (mk := mk) hn h
  have bad : ∀ {E1 : Nat → Nat → Int32} {w1 : Int64}, ¬ E1 40 26 = 0 → True := fun _ => trivial
  by_cases q : 30 ≤ t ∨ x = -1
  · have nb : ¬ up2 (up2 E 40 26 1) 40 25 (E 40 21) 40 26 = 0 := by rw [up2_k (by decide), up2_v]; decide
    refine ⟨D, up2 (up2 E 40 26 1) 40 25 (E 40 21), w, CT_r D, MF_bad E _, ?_, Or.inr ⟨?_, FL_bad h⟩⟩
    · rw [m2]
      have go : fX10_readTest_68 (b + 40) x (HH b E w Tm pm dm np mk) = fX10_readTest_88 (b + 40) x 0 (b + 40) (HH b E w Tm pm dm np mk) := by
        by_cases y : x < 0
        · simp (decide := true) only [fX10_readTest_68, fX10_readTest_87, y, if_true]
        · have c1 : (30 : Int32) ≤ nI t := nI_le (a := 30) (q.resolve_right (fun z => y (by rw [z]; decide))) (by omega)
          simp (decide := true) only [fX10_readTest_68, fX10_readTest_87, bn_s, hr40_14, k3, y, c1, if_true, if_false]
      rw [go]
      simp (decide := true) only [fX10_readTest_88, bn_s, bn2_s, hk40, m_must0 k6, hr40_26, m_numB nb, m_to, m_mustB nb, nb, if_false]
    · by_cases y : 30 ≤ t
      · have c1 : (30 : Int32) ≤ nI t := nI_le (a := 30) y (by omega)
        simp (decide := true) only [fX1_readTest, fX4_hasRoomForTest, bn_s, bn2_s, hk9, hq_k hp, hq_r1 hp, m1, k1, c1, if_true]
      · have c1 : ¬ (30 : Int32) ≤ nI t := nI_ge (b := 30) (by omega) (by omega)
        have y2 : x = -1 := q.resolve_left y
        simp (decide := true) only [fX1_readTest, fX4_hasRoomForTest, bn_s, bn2_s, hk9, hq_k hp, hq_r1 hp, m1, k1, c1, y2, if_true, if_false]
  · have ht : t < 30 := by omega
    have hx1 : ¬ x = -1 := fun z => q (Or.inr z)
    have hx2 : x = 0 ∨ x = 1 ∨ x = 2 := hx.resolve_left hx1
    have hx3 : ¬ x < 0 := by rcases hx2 with rfl | rfl | rfl <;> decide
    have c1 : ¬ (30 : Int32) ≤ nI t := nI_ge (b := 30) (by omega) (by omega)
    have go : fX10_readTest (b + 40) (HH b E w Tm pm dm np mk) = fX10_readTest_88 (b + 40) x 1 (b + 40) (HH b E w Tm pm dm np mk) := by
      rw [m2]
      simp (decide := true) only [fX10_readTest_68, bn_s, hr40_14, k3, hx3, c1, if_false]
    rw [go]
    obtain ⟨D1, E1, w1, a1, a2, P1, a4, a5⟩ := s_next (b := b) (wc := wc) (Tc := Tc) (pc := pc) (dc := dc) (Tm := Tm) (pm := pm) (dm := dm) (np := np) (mk := mk) hp hn h
    obtain ⟨_, _, _, _, _, _, b1, _, _, _⟩ := PS_cnt P1
    have hwr : ∀ u : Int32, (u.toInt64).toInt32 = u := fun u => by simp
    have f1000 : (1000 : Int64).toInt = 1000 := rfl
    have f0 : (0 : Int64).toInt = 0 := rfl
    rcases s_num (b := b) (wc := wc) (Tc := Tc) (pc := pc) (dc := dc) (np := np) (mk := mk) hn P1 with ⟨u, n1, n2, n3, n4, n5⟩ | ⟨n1, n2⟩
    · have g1 : (0 : Int64) ≤ u.toInt64 ∧ u.toInt64 ≤ 1000 := ⟨by rw [le6, ti64, f0]; exact n4, by rw [le6, ti64, f1000]; exact n5⟩
      have hu : ¬ u = -1 := fun z => by rw [z] at n4; exact absurd n4 (by decide)
      obtain ⟨D2, E2, w2, c2a, c2b, P2, c2c, c2d⟩ := s_next (b := b) (wc := wc) (Tc := Tc) (pc := pc) (dc := dc) (Tm := Tm) (pm := pm) (dm := dm) (np := np) (mk := mk) hp hn P1
      obtain ⟨_, _, _, _, _, _, b2, _, _, _⟩ := PS_cnt P2
      rw [n3] at a2
      rw [n3] at c2b
      rcases s_word (b := b) (wc := wc) (Tc := Tc) (pc := pc) (dc := dc) (np := np) (mk := mk) hn P2 (s := 3) (by decide) with ⟨o1, o2⟩ | ⟨o1, o2⟩
      · obtain ⟨D3, E3, w3, c3a, c3b, P3, c3c, c3d⟩ := s_next (b := b) (wc := wc) (Tc := Tc) (pc := pc) (dc := dc) (Tm := Tm) (pm := pm) (dm := dm) (np := np) (mk := mk) hp hn P2
        obtain ⟨_, _, _, _, _, _, b3, _, _, _⟩ := PS_cnt P3
        have pre : fX10_readTest_88 (b + 40) x 1 (b + 40) (HH b E w Tm pm dm np mk) = (bn (chk 10 (b + 40) (HH b E3 w3 Tm pm dm np mk)) fun _ => bn2 (fX10_number (b + 40) u.toInt64 (HH b E3 w3 Tm pm dm np mk)) fun x14 h13 => bn (rdI 10 26 (b + 40) h13) fun x15 => if x15 = 0 then (bn (rdR 10 16 (b + 40) h13) fun a16 => bn (rdI 10 14 (b + 40) h13) fun x17 => bn (astI a16 ((3 : Int32) * x17) x h13) fun h18 => bn (rdR 10 16 (b + 40) h18) fun a19 => bn (rdI 10 14 (b + 40) h18) fun x20 => bn (astI a19 (((3 : Int32) * x20) + (1 : Int32)) u h18) fun h21 => bn (rdR 10 16 (b + 40) h21) fun a22 => bn (rdI 10 14 (b + 40) h21) fun x23 => bn (astI a22 (((3 : Int32) * x23) + (2 : Int32)) x14 h21) fun h24 => bn (rdI 10 14 (b + 40) h24) fun x25 => bn (wr 10 14 (.int (x25 + (1 : Int32))) (b + 40) h24) fun h26 => some ((), h26)) else some ((), h13)) := by
          unfold fX10_readTest_88
          rw [hk40, bn_s, m_must1 k6, a2, bn2_s, bn2_s, hk40, bn_s]
          have num : fX10_number (b + 40) 0 (HH b E1 u.toInt64 Tm pm dm np mk) = some (u, HH b E2 w2 Tm pm dm np mk) := by
            unfold fX10_number
            rw [hr40_24, bn_s, hr40_23, bn_s, n2, if_pos rfl, bn_s, f_in, if_pos g1, bn2_s, if_neg (by decide), hk40, bn_s, m_must1 b1, c2b, bn2_s, bn2_s, hwr]
          rw [num, bn2_s, hk40, bn_s, m_to, if_pos o2, bn2_s, hk40, bn_s, m_must1 b2, c3b, bn2_s, bn2_s]
        rw [pre]
        have cpre : ∀ (r : Option (Int32 × PH)), (bn2 (fX8_numberToThousand (b + 10) (HH b D3 wc Tc pc dc np mk)) fun x19 h18 => if x19 = (-1 : Int32) then (some ((0 : Int32), h18)) else if u ≤ x19 then (bn (rdR 1 0 (b + 9) h18) fun a20 => bn (chk 8 a20 h18) fun _ => bn2 (fX8_toNextToken a20 h18) fun _ h21 => bn (chk 4 (b + dr) h21) fun _ => bn2 (fX4_addTest (b + dr) x u x19 h21) fun _ h22 => some ((1 : Int32), h22)) else some ((0 : Int32), h18)) = r → fX1_readTest (b + 9) (b + dr) (HH b D wc Tc pc dc np mk) = r := by
          intro r hr
          rw [← hr]
          simp (decide := true) only [fX1_readTest, fX4_hasRoomForTest, bn_s, bn2_s, hk9, hk10, hr9_0, hq_k hp, hq_r1 hp, m1, k1, c1, hx1, a1, n1, hu, c2a, o1, c3a, if_true, if_false]
        have fail : ¬ (u.toInt64 ≤ w3 ∧ w3 ≤ 1000 ∧ E3 40 23 = 2) → fX10_number (b + 40) u.toInt64 (HH b E3 w3 Tm pm dm np mk) = some (w3.toInt32, HH b (up2 (up2 E3 40 26 1) 40 25 (E3 40 21)) w3 Tm pm dm np mk) := by
          intro z
          unfold fX10_number
          rw [hr40_24, bn_s, hr40_23, bn_s]
          by_cases y : E3 40 23 = 2
          · rw [y, if_pos rfl, bn_s, f_in, if_neg (fun v => z ⟨v.1, v.2, y⟩), bn2_s, if_pos rfl, hk40, bn_s, m_must0 b3, bn2_s]
          · rw [if_neg y, hk40, bn_s, m_must0 b3, bn2_s]
        have nb3 : ¬ up2 (up2 E3 40 26 1) 40 25 (E3 40 21) 40 26 = 0 := by rw [up2_k (by decide), up2_v]; decide
        have mfail : ¬ (u.toInt64 ≤ w3 ∧ w3 ≤ 1000 ∧ E3 40 23 = 2) → MF E (up2 (up2 E3 40 26 1) 40 25 (E3 40 21)) := fun _ => MF_t (MF_t (MF_t a5 c2d) c3d) (MF_bad E3 _)
        rcases s_num (b := b) (wc := wc) (Tc := Tc) (pc := pc) (dc := dc) (np := np) (mk := mk) hn P3 with ⟨v, e1, e2, e3, e4, e5⟩ | ⟨e1, e2⟩
        · by_cases le : u ≤ v
          · have le' : u.toInt64 ≤ v.toInt64 ∧ v.toInt64 ≤ 1000 := ⟨by rw [wid_le]; exact le, by rw [le6, ti64, f1000]; exact e5⟩
            have hv : ¬ v = -1 := fun z => by rw [z] at e4; exact absurd e4 (by decide)
            obtain ⟨D4, E4, w4, c4a, c4b, P4, c4c, c4d⟩ := s_next (b := b) (wc := wc) (Tc := Tc) (pc := pc) (dc := dc) (Tm := Tm) (pm := pm) (dm := dm) (np := np) (mk := mk) hp hn P3
            obtain ⟨j0, j1, j2, j3, _, _, b4, _, _, _⟩ := PS_cnt P4
            have A := PS_add (x := x) (u := u) (v := v) hp P4 ht hx2
            refine ⟨_, _, w4, ?_, ?_, ?_, Or.inl ⟨cpre _ ?_, A, ht⟩⟩
            · refine CT_t (CT_t (CT_t (CT_t a4 c2c) c3c) c4c) ⟨fun y y1 y4 => ?_, ?_⟩
              · rw [up2_ne (by omega), up2_ne (by omega), up2_ne (by omega), up2_ne (by omega), up2_ne (by omega)]
              · rw [up2_ne (by omega), up2_ne (by omega), up2_ne (by omega), up2_ne (by omega), up2_ne (by omega)]
                exact Int.le_refl _
            · refine MF_t (MF_t (MF_t (MF_t a5 c2d) c3d) c4d) ⟨fun y y1 y2 y3 y4 y5 y6 y7 => ?_, fun y y1 y2 y3 y4 y5 => ?_⟩
              · rw [up2_k y2, up2_ne (by decide), up2_ne (by decide), up2_ne (by decide)]
              · rw [up2_ne y1, up2_ne y3, up2_ne y3, up2_ne y3]
            · have num : fX10_number (b + 40) u.toInt64 (HH b E3 w3 Tm pm dm np mk) = some (v, HH b E4 w4 Tm pm dm np mk) := by
                rw [e3] at c4b ⊢
                unfold fX10_number
                rw [hr40_24, bn_s, hr40_23, bn_s, e2, if_pos rfl, bn_s, f_in, if_pos le', bn2_s, if_neg (by decide), hk40, bn_s, m_must1 b3, c4b, bn2_s, bn2_s, hwr]
              have l3 : ¬ nI (3 * t) < 0 := nI_pos (by omega)
              have l4 : (nI (3 * t)).toNatClampNeg = 3 * t := nI_clamp (by omega)
              have l5 : ¬ 90 ≤ 3 * t := by omega
              have o3 : ¬ nI (3 * t + 1) < 0 := nI_pos (by omega)
              have o4 : (nI (3 * t + 1)).toNatClampNeg = 3 * t + 1 := nI_clamp (by omega)
              have o5 : ¬ 90 ≤ 3 * t + 1 := by omega
              have q3 : ¬ nI (3 * t + 2) < 0 := nI_pos (by omega)
              have q4 : (nI (3 * t + 2)).toNatClampNeg = 3 * t + 2 := nI_clamp (by omega)
              have q5 : ¬ 90 ≤ 3 * t + 2 := by omega
              simp (decide := true) only [bn_s, bn2_s, or_self, hk40, num, hr40_26, b4, hr40_14, hr40_16, hs49, hw40_14, j3, pm3_0, nI_1, nI_2, l3, l4, l5, o3, o4, o5, q3, q4, q5, up2_ne, ne_eq, not_false_eq_true, if_true, if_false]
            · have i3 : ¬ nI t < 0 := nI_pos (by omega)
              have i4 : (nI t).toNatClampNeg = t := nI_clamp (by omega)
              have i5 : ¬ 30 ≤ t := by omega
              have x1 : ∀ (y : Nat) (z : Int32) (F : Nat → Nat → Int32), up2 F (dr + 1) y z dr = F dr := fun y z F => up2_ne (by omega)
              have x2 : ∀ (y : Nat) (z : Int32) (F : Nat → Nat → Int32), up2 F (dr + 2) y z dr = F dr := fun y z F => up2_ne (by omega)
              have x3 : ∀ (y : Nat) (z : Int32) (F : Nat → Nat → Int32), up2 F (dr + 3) y z dr = F dr := fun y z F => up2_ne (by omega)
              have x4 : ∀ (y : Nat) (z : Int32) (F : Nat → Nat → Int32), up2 F (dr + 4) y z dr = F dr := fun y z F => up2_ne (by omega)
              have add : fX4_addTest (b + dr) x u v (HH b D4 wc Tc pc dc np mk) = some ((), HH b (up2 (up2 (up2 (up2 (up2 D4 (dr + 1) t (nI c)) (dr + 2) t x) (dr + 3) t u) (dr + 4) t v) dr 1 (nI (t + 1))) wc Tc pc dc np mk) := by
                simp (decide := true) only [fX4_addTest, bn_s, or_self, hq_r0 hp, hq_r1 hp, hq_w1 hp, hq_R1 hp, hq_R2 hp, hq_R3 hp, hq_R4 hp, hq_s1 hp, hq_s2 hp, hq_s3 hp, hq_s4 hp, x1, x2, x3, x4, j0, j1, c1, i3, i4, i5, nI_1, if_false]
              simp (decide := true) only [bn_s, bn2_s, e1, hv, le, hr9_0, hk10, c4a, hq_k hp, add, if_true, if_false]
          · have nz : ¬ (u.toInt64 ≤ w3 ∧ w3 ≤ 1000 ∧ E3 40 23 = 2) := fun z => le (by have := z.1; rw [e3, wid_le] at this; exact this)
            have hv : ¬ v = -1 := fun z => by rw [z] at e4; exact absurd e4 (by decide)
            refine ⟨D3, up2 (up2 E3 40 26 1) 40 25 (E3 40 21), w3, CT_t (CT_t a4 c2c) c3c, mfail nz, ?_, Or.inr ⟨cpre _ ?_, FL_bad P3⟩⟩
            · rw [hk40, bn_s, fail nz, bn2_s, hr40_26, bn_s, if_neg nb3]
            · rw [e1, bn2_s, if_neg hv, if_neg le]
        · have nz : ¬ (u.toInt64 ≤ w3 ∧ w3 ≤ 1000 ∧ E3 40 23 = 2) := fun z => e2 ⟨z.2.2, z.2.1⟩
          refine ⟨D3, up2 (up2 E3 40 26 1) 40 25 (E3 40 21), w3, CT_t (CT_t a4 c2c) c3c, mfail nz, ?_, Or.inr ⟨cpre _ ?_, FL_bad P3⟩⟩
          · rw [hk40, bn_s, fail nz, bn2_s, hr40_26, bn_s, if_neg nb3]
          · rw [e1, bn2_s, if_pos rfl]
      · have nb2 : ¬ up2 (up2 E2 40 26 1) 40 25 (E2 40 21) 40 26 = 0 := by rw [up2_k (by decide), up2_v]; decide
        refine ⟨D2, up2 (up2 E2 40 26 1) 40 25 (E2 40 21), w2, CT_t a4 c2c, MF_t (MF_t a5 c2d) (MF_bad E2 _), ?_, Or.inr ⟨?_, FL_bad P2⟩⟩
        · unfold fX10_readTest_88
          rw [hk40, bn_s, m_must1 k6, a2, bn2_s, bn2_s, hk40, bn_s]
          have num : fX10_number (b + 40) 0 (HH b E1 u.toInt64 Tm pm dm np mk) = some (u, HH b E2 w2 Tm pm dm np mk) := by
            unfold fX10_number
            rw [hr40_24, bn_s, hr40_23, bn_s, n2, if_pos rfl, bn_s, f_in, if_pos g1, bn2_s, if_neg (by decide), hk40, bn_s, m_must1 b1, c2b, bn2_s, bn2_s, hwr]
          rw [num, bn2_s, hk40, bn_s, m_to, if_neg o2, bn2_s, hk40, bn_s, m_must0 b2, bn2_s, hk40, bn_s, m_numB nb2, bn2_s, hr40_26, bn_s, if_neg nb2]
        · simp (decide := true) only [fX1_readTest, fX4_hasRoomForTest, bn_s, bn2_s, hk9, hk10, hr9_0, hq_k hp, hq_r1 hp, m1, k1, c1, hx1, a1, n1, hu, c2a, o1, if_true, if_false]
    · have nb1 : ¬ up2 (up2 E1 40 26 1) 40 25 (E1 40 21) 40 26 = 0 := by rw [up2_k (by decide), up2_v]; decide
      refine ⟨D1, up2 (up2 E1 40 26 1) 40 25 (E1 40 21), w1, a4, MF_t a5 (MF_bad E1 _), ?_, Or.inr ⟨?_, FL_bad P1⟩⟩
      · unfold fX10_readTest_88
        rw [hk40, bn_s, m_must1 k6, a2, bn2_s, bn2_s, hk40, bn_s]
        have num : fX10_number (b + 40) 0 (HH b E1 w1 Tm pm dm np mk) = some (w1.toInt32, HH b (up2 (up2 E1 40 26 1) 40 25 (E1 40 21)) w1 Tm pm dm np mk) := by
          unfold fX10_number
          rw [hr40_24, bn_s, hr40_23, bn_s]
          by_cases y : E1 40 23 = 2
          · rw [y, if_pos rfl, bn_s, f_in, if_neg (fun v => n2 ⟨y, v.2⟩), bn2_s, if_pos rfl, hk40, bn_s, m_must0 b1, bn2_s]
          · rw [if_neg y, hk40, bn_s, m_must0 b1, bn2_s]
        rw [num, bn2_s, hk40, bn_s, m_to, bn2_s, hk40, bn_s, m_mustB nb1, bn2_s, hk40, bn_s, m_numB nb1, bn2_s, hr40_26, bn_s, if_neg nb1]
      · simp (decide := true) only [fX1_readTest, fX4_hasRoomForTest, bn_s, bn2_s, hk9, hk10, hr9_0, hq_k hp, hq_r1 hp, m1, k1, c1, hx1, a1, n1, if_true, if_false]
end
