section
variable {b : Nat} {D E : Nat → Nat → Int32} {wc w : Int64} {Tc Tm : Nat → Int64} {pc dc pm dm np mk : Nat} {dr n : Nat} {B : Nat → Int32}
theorem s_read (hp : dr = 30 ∨ dr = 35) (hn : n ≤ 300) (h1 : D 10 1 = nI n) (hB : D 11 = B) (h20 : E 40 20 = nI n) (hM : E 52 = B) : ∃ D' E' w', CF dr D D' ∧ ((∀ y, y ≠ 0 → y ≠ 13 → y ≠ 14 → y ≠ 21 → y ≠ 22 → y ≠ 23 → y ≠ 25 → y ≠ 26 → E' 40 y = E 40 y) ∧ ∀ x, x ≠ 40 → x ≠ 48 → x ≠ 49 → x ≠ 50 → x ≠ 51 → E' x = E x) ∧ fX10_colours (b + 40) (HH b E w Tm pm dm np mk) = fX10_colours_98 (b + 40) (HH b E' w' Tm pm dm np mk) ∧ ((fX1_readInto (b + 9) (b + dr) (HH b D wc Tc pc dc np mk) = some (1, HH b D' wc Tc pc dc np mk) ∧ ∃ c' t', PS dr B n c' t' t' D' E' w') ∨ (fX1_readInto (b + 9) (b + dr) (HH b D wc Tc pc dc np mk) = some (0, HH b D' wc Tc pc dc np mk) ∧ FLd D' E')) := by
  have hd9 : (10 : Nat) ≠ dr := by omega
  have hd10 : (11 : Nat) ≠ dr := by omega
  have x91 : up2 (up2 (up2 D dr 0 0) dr 1 0) 10 4 0 10 1 = nI n := by rw [up2_k (by decide), up2_ne hd9, up2_ne hd9]; exact h1
  have x94 : up2 (up2 (up2 D dr 0 0) dr 1 0) 10 4 0 10 4 = nI 0 := by rw [up2_v]; rfl
  have x10 : up2 (up2 (up2 D dr 0 0) dr 1 0) 10 4 0 11 = B := by rw [up2_ne (by decide), up2_ne hd10, up2_ne hd10]; exact hB
  obtain ⟨D1, c0, c1, c2, c3, c4, c5⟩ := c_next (b := b) (w := wc) (T := Tc) (pa := pc) (dr := dc) (np := np) (mk := mk) hn (Nat.zero_le n) x91 x94 x10
  have y20 : up2 (up2 (up2 (up2 (up2 (up2 (up2 E 40 0 0) 40 22 0) 40 26 0) 40 25 (-1)) 40 13 0) 40 14 0) 48 0 0 40 20 = nI n := by rw [up2_ne (by decide), up2_k (by decide), up2_k (by decide), up2_k (by decide), up2_k (by decide), up2_k (by decide), up2_k (by decide)]; exact h20
  have y22 : up2 (up2 (up2 (up2 (up2 (up2 (up2 E 40 0 0) 40 22 0) 40 26 0) 40 25 (-1)) 40 13 0) 40 14 0) 48 0 0 40 22 = nI 0 := by rw [up2_ne (by decide), up2_k (by decide), up2_k (by decide), up2_k (by decide), up2_k (by decide), up2_v]; rfl
  have y52 : up2 (up2 (up2 (up2 (up2 (up2 (up2 E 40 0 0) 40 22 0) 40 26 0) 40 25 (-1)) 40 13 0) 40 14 0) 48 0 0 52 = B := by rw [up2_ne (by decide), up2_ne (by decide), up2_ne (by decide), up2_ne (by decide), up2_ne (by decide), up2_ne (by decide), up2_ne (by decide)]; exact hM
  obtain ⟨E1, m0, m1, m2, m3, m4, m5⟩ := m_next (b := b) (w := w) (T := Tm) (pa := pm) (dr := dm) (np := np) (mk := mk) hn (Nat.zero_le n) y20 y22 y52
  have P : PS dr B n 0 0 0 D1 E1 (tW B n 0) := by
    refine ⟨0, fun _ => 0, fun _ => 0, fun _ => 0, ⟨Nat.zero_le _, c1, c2, c3, c4, (c5 11 (by decide)).trans x10, (m4 20 (by decide) (by decide) (by decide)).trans y20, m1, m2, m3, (m5 52 (by decide)).trans y52, rfl⟩, ⟨?_, ?_, ?_, ?_, by decide, by decide, fun i hi => by omega, fun j hj => by omega, rfl, fun i hi => by omega, fun i hi => ?_, rfl, Nat.le_refl _, fun i j hi => by omega, fun j a1 a2 => by omega⟩, ?_, ?_⟩
    · rw [c5 dr (by omega), up2_ne (by omega), up2_k (by decide), up2_v]; rfl
    · rw [c5 dr (by omega), up2_ne (by omega), up2_v]; rfl
    · rw [m4 13 (by decide) (by decide) (by decide), up2_ne (by decide), up2_k (by decide), up2_v]; rfl
    · rw [m4 14 (by decide) (by decide) (by decide), up2_ne (by decide), up2_v]; rfl
    · have : i = 0 := by omega
      subst this
      rw [m5 48 (by decide), up2_v]; rfl
    · rw [m4 26 (by decide) (by decide) (by decide), up2_ne (by decide), up2_k (by decide), up2_k (by decide), up2_k (by decide), up2_v]
    · rw [m4 25 (by decide) (by decide) (by decide), up2_ne (by decide), up2_k (by decide), up2_k (by decide), up2_v]
  obtain ⟨q0, q1, q2, q3, q4, q5, q6, q7, q8, q9⟩ := PS_cnt P
  have fC : CF dr D D1 := fun x a1 a2 a3 a4 => by rw [c5 x a1, up2_ne a1, up2_ne (by omega), up2_ne (by omega)]
  have fM1 : ∀ y, y ≠ 0 → y ≠ 13 → y ≠ 14 → y ≠ 21 → y ≠ 22 → y ≠ 23 → y ≠ 25 → y ≠ 26 → E1 40 y = E 40 y := fun y a0 a1 a2 a3 a4 a5 a6 a7 => by rw [m4 y a3 a4 a5, up2_ne (by decide), up2_k a2, up2_k a1, up2_k a6, up2_k a7, up2_k a4, up2_k a0]
  have fM2 : ∀ x, x ≠ 40 → x ≠ 48 → x ≠ 49 → x ≠ 50 → x ≠ 51 → E1 x = E x := fun x a1 a2 a3 a4 a5 => by rw [m5 x a1, up2_ne a2, up2_ne a1, up2_ne a1, up2_ne a1, up2_ne a1, up2_ne a1, up2_ne a1]
  have cstart : ∀ r, (if D1 10 2 = 0 then some ((1 : Int32), HH b D1 wc Tc pc dc np mk) else fX1_readInto_25 FU (b + 9) (b + dr) 0 (HH b D1 wc Tc pc dc np mk)) = r → fX1_readInto (b + 9) (b + dr) (HH b D wc Tc pc dc np mk) = r := by
    intro r hr
    rw [← hr]
    simp (decide := true) only [fX1_readInto, fX4_empty, fX8_toFirstToken, bn_s, bn2_s, hq_k hp, hq_w0 hp, hq_w1 hp, hk10, hr9_0, hw10_4, hr10_2, c0]
  have mstart : ∀ r, (if E1 40 23 = 0 then fX10_colours_98 (b + 40) (HH b E1 (tW B n 0) Tm pm dm np mk) else bn2 (fX10_readColour (b + 40) (HH b E1 (tW B n 0) Tm pm dm np mk)) fun _ h => fX10_colours_52 FU (b + 40) h) = r → fX10_colours (b + 40) (HH b E w Tm pm dm np mk) = r := by
    intro r hr
    rw [← hr]
    have z0 : (0 : Int32).toNatClampNeg = 0 := rfl
    simp (decide := true) only [fX10_colours, bn_s, bn2_s, or_self, hk40, hw40_0, hw40_22, hw40_26, hw40_25, hw40_13, hw40_14, hr40_15, hs48, hr40_23, z0, m0, if_false]
  by_cases z : D1 10 2 = 0
  · have z2 : E1 40 23 = 0 := q8.trans z
    exact ⟨D1, E1, _, fC, ⟨fM1, fM2⟩, mstart _ (if_pos z2), Or.inl ⟨cstart _ (if_pos z), 0, 0, P⟩⟩
  · have z2 : ¬ E1 40 23 = 0 := fun y => z (q8.symm.trans y)
    obtain ⟨D2, E2, w2, d1, d2, d3, d4⟩ := s_into (b := b) (wc := wc) (Tc := Tc) (pc := pc) (dc := dc) (Tm := Tm) (pm := pm) (dm := dm) (np := np) (mk := mk) hp hn 11 FU FU 0 0 0 D1 E1 _ (by omega) (by unfold FU; omega) (by unfold FU; omega) (by omega) P
    rw [nI_0] at d4
    refine ⟨D2, E2, w2, CF_t fC d1, ⟨fun y a0 a1 a2 a3 a4 a5 a6 a7 => (d2.1 y a1 a2 a3 a4 a5 a6 a7).trans (fM1 y a0 a1 a2 a3 a4 a5 a6 a7), fun x a1 a2 a3 a4 a5 => (d2.2 x a1 a2 a3 a4 a5).trans (fM2 x a1 a2 a3 a4 a5)⟩, mstart _ ((if_neg z2).trans d3), ?_⟩
    rcases d4 with ⟨d4, h⟩ | ⟨d4, h⟩
    · exact Or.inl ⟨cstart _ ((if_neg z).trans d4), h⟩
    · exact Or.inr ⟨cstart _ ((if_neg z).trans d4), h⟩
theorem m_166 {t : Nat} (ht : t ≤ 30) (h14 : E 40 14 = nI t) : ∀ (r m i : Nat), i + r = 3 * t → r < m → fX10_colours_166 m (b + 40) (nI i) (HH b (upR E 47 (fun k => if k < i then E 49 k else E 47 k)) w Tm pm dm np mk) = some (E 40 10, HH b (up2 (upR E 47 (fun k => if k < 3 * t then E 49 k else E 47 k)) 40 1 (if E 40 10 < 0 then E 40 10 else 0)) w Tm pm dm np mk) := by
  intro r
  induction r with
  | zero =>
    intro m i hi hm
    obtain ⟨m, rfl⟩ : ∃ m', m = m' + 1 := ⟨m - 1, by omega⟩
    have e : i = 3 * t := by omega
    subst e
    have c1 : nI (3 * t) ≤ nI (3 * t) := nI_le (Nat.le_refl _) (by omega)
    simp (decide := true) only [fX10_colours_166, bn_s, bn2_s, hk40, hr40_14, hr40_10, f_told, upR_ne, ne_eq, not_false_eq_true, h14, pm3_0, c1, if_true]
  | succ r ih =>
    intro m i hi hm
    obtain ⟨m, rfl⟩ : ∃ m', m = m' + 1 := ⟨m - 1, by omega⟩
    have c1 : ¬ nI (3 * t) ≤ nI i := nI_ge (by omega) (by omega)
    have c3 : ¬ nI i < 0 := nI_pos (by omega)
    have c4 : (nI i).toNatClampNeg = i := nI_clamp (by omega)
    have c5 : ¬ 90 ≤ i := by omega
    have ih := ih m (i + 1) (by omega) (by omega)
    have g : upd (fun k => if k < i then E 49 k else E 47 k) i (E 49 i) = fun k => if k < i + 1 then E 49 k else E 47 k := by
      funext k
      rw [upd_app]
      by_cases z : k = i
      · subst z
        rw [if_pos rfl, if_pos (by omega)]
      · rw [if_neg z]
        by_cases z2 : k < i
        · rw [if_pos z2, if_pos (by omega)]
        · rw [if_neg z2, if_neg (by omega)]
    rw [fX10_colours_166]
    simp (decide := true) only [bn_s, or_self, hr40_14, hr40_12, hr40_16, hl49, hs47, upR_ne, ne_eq, not_false_eq_true, h14, pm3_0, c1, c3, c4, c5, upd_1, g, nI_1, ih, if_false]
theorem m_134 {c : Nat} (hc : c ≤ 10) (h13 : E 40 13 = nI c) : ∀ (r m i : Nat), i + r = c → r < m → fX10_colours_134 m (b + 40) (nI i) (HH b (upR E 46 (fun k => if 1 ≤ k ∧ k ≤ i then E 48 k else E 46 k)) w Tm pm dm np mk) = fX10_colours_166 FU (b + 40) 0 (HH b (upR E 46 (fun k => if 1 ≤ k ∧ k ≤ c then E 48 k else E 46 k)) w Tm pm dm np mk) := by
  intro r
  induction r with
  | zero =>
    intro m i hi hm
    obtain ⟨m, rfl⟩ : ∃ m', m = m' + 1 := ⟨m - 1, by omega⟩
    have e : i = c := by omega
    subst e
    have c1 : nI i ≤ nI i := nI_le (Nat.le_refl _) (by omega)
    simp (decide := true) only [fX10_colours_134, bn_s, hr40_13, upR_ne, ne_eq, not_false_eq_true, h13, c1, if_true]
  | succ r ih =>
    intro m i hi hm
    obtain ⟨m, rfl⟩ : ∃ m', m = m' + 1 := ⟨m - 1, by omega⟩
    have c1 : ¬ nI c ≤ nI i := nI_ge (by omega) (by omega)
    have c3 : ¬ nI (i + 1) < 0 := nI_pos (by omega)
    have c4 : (nI (i + 1)).toNatClampNeg = i + 1 := nI_clamp (by omega)
    have c5 : ¬ 11 ≤ i + 1 := by omega
    have ih := ih m (i + 1) (by omega) (by omega)
    have g : upd (fun k => if 1 ≤ k ∧ k ≤ i then E 48 k else E 46 k) (i + 1) (E 48 (i + 1)) = fun k => if 1 ≤ k ∧ k ≤ i + 1 then E 48 k else E 46 k := by
      funext k
      rw [upd_app]
      by_cases z : k = i + 1
      · subst z
        rw [if_pos rfl, if_pos (by omega)]
      · rw [if_neg z]
        by_cases z2 : 1 ≤ k ∧ k ≤ i
        · rw [if_pos z2, if_pos (by omega)]
        · rw [if_neg z2, if_neg (by omega)]
    rw [fX10_colours_134]
    simp (decide := true) only [bn_s, or_self, hr40_13, hr40_11, hr40_15, hl48, hs46, upR_ne, ne_eq, not_false_eq_true, h13, c1, c3, c4, c5, upd_1, g, nI_1, ih, if_false]
end
theorem upR_z {E : Nat → Nat → Int32} {o : Nat} {f : Nat → Int32} (h : ∀ k, f k = E o k) : upR E o f = E := by
  have : f = E o := funext h
  rw [this, upR_self]
section
variable {b : Nat} {D : Nat → Nat → Int32} {w : Int64} {T : Nat → Int64} {pa dr np mk : Nat}
theorem op_colours (hI : Inv D pa dr np) : Good b (armF (fX9_colours b) (fX10_colours (b + 40)) (HH b D w T pa dr np np)) := by
  obtain ⟨s1, s2, s3, s4, s5, s6⟩ := hI
  obtain ⟨n, hn, t1, t2, t3⟩ := id s4
  obtain ⟨pp, hpal⟩ := id s5
  have hp : dr = 30 ∨ dr = 35 := by omega
  have hpa : pa = 30 ∨ pa = 35 := by omega
  obtain ⟨D1, _, _, cf1, _, _, cl⟩ := s_read (b := b) (D := D) (E := D) (wc := w) (w := w) (Tc := T) (Tm := T) (pc := pa) (dc := dr) (pm := pa) (dm := dr) (np := np) (mk := np) hp hn t1 t3 t2 rfl
  have o0 : D1 0 = D 0 := cf1 0 (by decide) (by decide) (by decide) (by omega)
  have cfn : ∀ x, (x ≠ 10 ∧ x ≠ 12 ∧ x ≠ 13 ∧ ¬ (dr ≤ x ∧ x ≤ dr + 4)) → D1 x = D x := fun x h => cf1 x h.1 h.2.1 h.2.2.1 h.2.2.2
  rcases cl with ⟨cl, _⟩ | ⟨cl, _⟩
  · have ce : fX9_colours b (HH b D w T pa dr np np) = some (D1 dr 0, HH b (up2 (up2 (up2 D1 0 8 (-1)) 10 1 0) 0 9 (if D1 dr 0 < 0 then D1 dr 0 else 0)) w T dr pa np np) := by
      have e : ∀ (F : Nat → Nat → Int32) k v, up2 F 10 k v dr = F dr := fun F k v => up2_ne (by omega)
      have e2 : ∀ (F : Nat → Nat → Int32) k v, up2 F 0 k v dr = F dr := fun F k v => up2_ne (by omega)
      simp (decide := true) only [fX9_colours, fX9_colours_28, f_noted, bn_s, bn2_s, hr0_3, hr0_2, hr0_6, hr0_7, hk0, hk9, cl, hw0_8, hw10_1, hw0_6, hw0_7, hq_r0 hp, e, e2, if_false]
    rw [armF, ce, bn2_s]
    clear ce
    have x20 : up2 (up2 (up2 D1 0 8 (-1)) 10 1 0) 0 9 (if D1 dr 0 < 0 then D1 dr 0 else 0) 40 20 = nI n := by rw [up2_ne (by decide), up2_ne (by decide), up2_ne (by decide), cfn 40 (by omega)]; exact t2
    have x52 : up2 (up2 (up2 D1 0 8 (-1)) 10 1 0) 0 9 (if D1 dr 0 < 0 then D1 dr 0 else 0) 52 = D 52 := by rw [up2_ne (by decide), up2_ne (by decide), up2_ne (by decide), cfn 52 (by omega)]
    obtain ⟨D2, E2, w2, cf2, ⟨g1, g2⟩, me, cl2⟩ := s_read (b := b) (D := D) (E := up2 (up2 (up2 D1 0 8 (-1)) 10 1 0) 0 9 (if D1 dr 0 < 0 then D1 dr 0 else 0)) (wc := w) (w := w) (Tc := T) (Tm := T) (pc := pa) (dc := dr) (pm := dr) (dm := pa) (np := np) (mk := np) hp hn t1 t3 x20 x52
    have X0 : ∀ x, x ≠ 0 → x ≠ 10 → up2 (up2 (up2 D1 0 8 (-1)) 10 1 0) 0 9 (if D1 dr 0 < 0 then D1 dr 0 else 0) x = D1 x := fun x a1 a2 => by rw [up2_ne a1, up2_ne a2, up2_ne a1]
    have X09 : up2 (up2 (up2 D1 0 8 (-1)) 10 1 0) 0 9 (if D1 dr 0 < 0 then D1 dr 0 else 0) 0 9 = (if D1 dr 0 < 0 then D1 dr 0 else 0) := up2_v
    have X08 : up2 (up2 (up2 D1 0 8 (-1)) 10 1 0) 0 9 (if D1 dr 0 < 0 then D1 dr 0 else 0) 0 8 = -1 := by rw [up2_k (by decide), up2_ne (by decide), up2_v]
    have X91 : up2 (up2 (up2 D1 0 8 (-1)) 10 1 0) 0 9 (if D1 dr 0 < 0 then D1 dr 0 else 0) 10 1 = 0 := by rw [up2_ne (by decide), up2_v]
    generalize up2 (up2 (up2 D1 0 8 (-1)) 10 1 0) 0 9 (if D1 dr 0 < 0 then D1 dr 0 else 0) = X at g1 g2 me X0 X09 X08 X91
    rcases cl2 with ⟨cl2, c, t, P⟩ | ⟨cl2, _⟩
    · have heq : HH b D1 w T pa dr np np = HH b D2 w T pa dr np np := by
        have := cl.symm.trans cl2
        injection this with this
        exact congrArg Prod.snd this
      obtain ⟨p, ns, ne, cf, _, ⟨p1, p2, p3, p4, p5, p6, p7, p8, p9, p10, p11, p12, p13, p14, p15⟩, ⟨hb1, hb2⟩⟩ := P
      have ob0 : D1 dr 0 = nI c := by
        have a := hq_r0 (b := b) (D := D1) (w := w) (T := T) (pa := pa) (dr := dr) (np := np) (mk := np) hp
        rw [heq, hq_r0 hp] at a
        injection a with a
        rw [← a]
        exact p1
      have ob1 : D1 dr 1 = nI t := by
        have a := hq_r1 (b := b) (D := D1) (w := w) (T := T) (pa := pa) (dr := dr) (np := np) (mk := np) hp
        rw [heq, hq_r1 hp] at a
        injection a with a
        rw [← a]
        exact p2
      have obr : ∀ j, j < t → D1 (dr + 1) j = D2 (dr + 1) j ∧ D1 (dr + 2) j = D2 (dr + 2) j ∧ D1 (dr + 3) j = D2 (dr + 3) j ∧ D1 (dr + 4) j = D2 (dr + 4) j := by
        intro j hj
        have c3 : ¬ (nI j < 0 ∨ 30 ≤ (nI j).toNatClampNeg) := ixI (by omega) (by decide)
        have c4 : (nI j).toNatClampNeg = j := nI_clamp (by omega)
        refine ⟨?_, ?_, ?_, ?_⟩
        · have a := hq_l1 (b := b) (D := D1) (w := w) (T := T) (pa := pa) (dr := dr) (np := np) (mk := np) hp (nI j)
          rw [heq, hq_l1 hp, if_neg c3, if_neg c3, c4] at a
          injection a with a
          exact a.symm
        · have a := hq_l2 (b := b) (D := D1) (w := w) (T := T) (pa := pa) (dr := dr) (np := np) (mk := np) hp (nI j)
          rw [heq, hq_l2 hp, if_neg c3, if_neg c3, c4] at a
          injection a with a
          exact a.symm
        · have a := hq_l3 (b := b) (D := D1) (w := w) (T := T) (pa := pa) (dr := dr) (np := np) (mk := np) hp (nI j)
          rw [heq, hq_l3 hp, if_neg c3, if_neg c3, c4] at a
          injection a with a
          exact a.symm
        · have a := hq_l4 (b := b) (D := D1) (w := w) (T := T) (pa := pa) (dr := dr) (np := np) (mk := np) hp (nI j)
          rw [heq, hq_l4 hp, if_neg c3, if_neg c3, c4] at a
          injection a with a
          exact a.symm
      have m1 := m_134 (b := b) (E := up2 (up2 (up2 E2 40 20 0) 40 10 (nI c)) 46 0 0) (w := w2) (Tm := T) (pm := dr) (dm := pa) (np := np) (mk := np) p5 (show up2 (up2 (up2 E2 40 20 0) 40 10 (nI c)) 46 0 0 40 13 = nI c by rw [up2_ne (by decide), up2_k (by decide), up2_k (by decide), p3]) c FU 0 (by omega) (by unfold FU; omega)
      rw [upR_z (E := up2 (up2 (up2 E2 40 20 0) 40 10 (nI c)) 46 0 0) (fun k => if_neg (by omega)), nI_0] at m1
      have f46 : ∀ i, i ≤ c → upR (up2 (up2 (up2 E2 40 20 0) 40 10 (nI c)) 46 0 0) 46 (fun k => if 1 ≤ k ∧ k ≤ c then up2 (up2 (up2 E2 40 20 0) 40 10 (nI c)) 46 0 0 48 k else up2 (up2 (up2 E2 40 20 0) 40 10 (nI c)) 46 0 0 46 k) 46 i = nI (cf i) := by
        intro i hi
        rw [upR_same]
        by_cases y : 1 ≤ i
        · rw [if_pos ⟨y, hi⟩, up2_ne (by decide), up2_ne (by decide), up2_ne (by decide)]
          exact p11 i hi
        · have : i = 0 := by omega
          subst this
          rw [if_neg (by omega), up2_v, p9]
          rfl
      have fo : ∀ x, x ≠ 40 → x ≠ 46 → upR (up2 (up2 (up2 E2 40 20 0) 40 10 (nI c)) 46 0 0) 46 (fun k => if 1 ≤ k ∧ k ≤ c then up2 (up2 (up2 E2 40 20 0) 40 10 (nI c)) 46 0 0 48 k else up2 (up2 (up2 E2 40 20 0) 40 10 (nI c)) 46 0 0 46 k) x = E2 x := fun x a1 a2 => by rw [upR_ne a2, up2_ne a2, up2_ne a1, up2_ne a1]
      have f40 : ∀ y, y ≠ 20 → y ≠ 10 → upR (up2 (up2 (up2 E2 40 20 0) 40 10 (nI c)) 46 0 0) 46 (fun k => if 1 ≤ k ∧ k ≤ c then up2 (up2 (up2 E2 40 20 0) 40 10 (nI c)) 46 0 0 48 k else up2 (up2 (up2 E2 40 20 0) 40 10 (nI c)) 46 0 0 46 k) 40 y = E2 40 y := fun y a1 a2 => by rw [upR_ne (by decide), up2_ne (by decide), up2_k a2, up2_k a1]
      have f20 : upR (up2 (up2 (up2 E2 40 20 0) 40 10 (nI c)) 46 0 0) 46 (fun k => if 1 ≤ k ∧ k ≤ c then up2 (up2 (up2 E2 40 20 0) 40 10 (nI c)) 46 0 0 48 k else up2 (up2 (up2 E2 40 20 0) 40 10 (nI c)) 46 0 0 46 k) 40 20 = 0 := by rw [upR_ne (by decide), up2_ne (by decide), up2_k (by decide), up2_v]
      have f10 : upR (up2 (up2 (up2 E2 40 20 0) 40 10 (nI c)) 46 0 0) 46 (fun k => if 1 ≤ k ∧ k ≤ c then up2 (up2 (up2 E2 40 20 0) 40 10 (nI c)) 46 0 0 48 k else up2 (up2 (up2 E2 40 20 0) 40 10 (nI c)) 46 0 0 46 k) 40 10 = nI c := by rw [upR_ne (by decide), up2_ne (by decide), up2_v]
      generalize upR (up2 (up2 (up2 E2 40 20 0) 40 10 (nI c)) 46 0 0) 46 (fun k => if 1 ≤ k ∧ k ≤ c then up2 (up2 (up2 E2 40 20 0) 40 10 (nI c)) 46 0 0 48 k else up2 (up2 (up2 E2 40 20 0) 40 10 (nI c)) 46 0 0 46 k) = Y at m1 f46 fo f40 f20 f10
      have m2 := m_166 (b := b) (E := Y) (w := w2) (Tm := T) (pm := dr) (dm := pa) (np := np) (mk := np) p6 ((f40 14 (by decide) (by decide)).trans p4) (3 * t) FU 0 (by omega) (by unfold FU; omega)
      rw [upR_z (E := Y) (fun k => if_neg (by omega)), nI_0, f10] at m2
      have em : fX10_colours (b + 40) (HH b X w T dr pa np np) = some (nI c, HH b (up2 (upR Y 47 (fun k => if k < 3 * t then Y 49 k else Y 47 k)) 40 1 (if nI c < 0 then nI c else 0)) w2 T dr pa np np) := by
        rw [me, ← m2, ← m1]
        simp (decide := true) only [fX10_colours_98, bn_s, or_self, hw40_20, hr40_26, hr40_13, hw40_10, hr40_11, hs46, up2_same, upd_app, hb1, p3, if_true, if_false]
        rfl
      rw [em, bn2_s, ob0, if_pos rfl]
      clear em m1 m2 me cl cl2 heq
      have E3o : ∀ x, x ≠ 40 → x ≠ 46 → x ≠ 47 → x ≠ 48 → x ≠ 49 → x ≠ 50 → x ≠ 51 → x ≠ 0 → x ≠ 10 → up2 (upR Y 47 (fun k => if k < 3 * t then Y 49 k else Y 47 k)) 40 1 (if nI c < 0 then nI c else 0) x = D1 x := fun x a1 a2 a3 a4 a5 a6 a7 a8 a9 => by rw [up2_ne a1, upR_ne a3, fo x a1 a2, g2 x a1 a4 a5 a6 a7, X0 x a8 a9]
      have E30 : ∀ y, up2 (upR Y 47 (fun k => if k < 3 * t then Y 49 k else Y 47 k)) 40 1 (if nI c < 0 then nI c else 0) 0 y = X 0 y := fun y => by rw [up2_ne (by decide), upR_ne (by decide), fo 0 (by decide) (by decide), g2 0 (by decide) (by decide) (by decide) (by decide) (by decide)]
      have E39 : ∀ y, up2 (upR Y 47 (fun k => if k < 3 * t then Y 49 k else Y 47 k)) 40 1 (if nI c < 0 then nI c else 0) 10 y = X 10 y := fun y => by rw [up2_ne (by decide), upR_ne (by decide), fo 10 (by decide) (by decide), g2 10 (by decide) (by decide) (by decide) (by decide) (by decide)]
      have E340 : ∀ y, y ≠ 0 → y ≠ 1 → y ≠ 10 → y ≠ 13 → y ≠ 14 → y ≠ 20 → y ≠ 21 → y ≠ 22 → y ≠ 23 → y ≠ 25 → y ≠ 26 → up2 (upR Y 47 (fun k => if k < 3 * t then Y 49 k else Y 47 k)) 40 1 (if nI c < 0 then nI c else 0) 40 y = D 40 y := fun y a0 a1 a2 a3 a4 a5 a6 a7 a8 a9 a10 => by rw [up2_k a1, upR_ne (by decide), f40 y a5 a2, g1 y a0 a3 a4 a6 a7 a8 a9 a10, X0 40 (by decide) (by decide), cfn 40 (by omega)]
      have e1 : up2 (upR Y 47 (fun k => if k < 3 * t then Y 49 k else Y 47 k)) 40 1 (if nI c < 0 then nI c else 0) 40 1 = (if nI c < 0 then nI c else 0) := up2_v
      have e25 : up2 (upR Y 47 (fun k => if k < 3 * t then Y 49 k else Y 47 k)) 40 1 (if nI c < 0 then nI c else 0) 40 25 = -1 := by rw [up2_k (by decide), upR_ne (by decide), f40 25 (by decide) (by decide), hb2]
      have e20 : up2 (upR Y 47 (fun k => if k < 3 * t then Y 49 k else Y 47 k)) 40 1 (if nI c < 0 then nI c else 0) 40 20 = 0 := by rw [up2_k (by decide), upR_ne (by decide), f20]
      have e10 : up2 (upR Y 47 (fun k => if k < 3 * t then Y 49 k else Y 47 k)) 40 1 (if nI c < 0 then nI c else 0) 40 10 = nI c := by rw [up2_k (by decide), upR_ne (by decide), f10]
      have e46 : ∀ i, i ≤ c → up2 (upR Y 47 (fun k => if k < 3 * t then Y 49 k else Y 47 k)) 40 1 (if nI c < 0 then nI c else 0) 46 i = nI (cf i) := fun i hi => by rw [up2_ne (by decide), upR_ne (by decide), f46 i hi]
      have e47 : ∀ k, k < 3 * t → up2 (upR Y 47 (fun k => if k < 3 * t then Y 49 k else Y 47 k)) 40 1 (if nI c < 0 then nI c else 0) 47 k = E2 49 k := fun k hk => by rw [up2_ne (by decide), upR_same, if_pos hk, fo 49 (by decide) (by decide)]
      generalize up2 (upR Y 47 (fun k => if k < 3 * t then Y 49 k else Y 47 k)) 40 1 (if nI c < 0 then nI c else 0) = Z at E3o E30 E39 E340 e1 e25 e20 e10 e46 e47
      have zo : ∀ x, (x ≠ 40 ∧ x ≠ 46 ∧ x ≠ 47 ∧ x ≠ 48 ∧ x ≠ 49 ∧ x ≠ 50 ∧ x ≠ 51 ∧ x ≠ 0 ∧ x ≠ 10) → Z x = D1 x := fun x h => E3o x h.1 h.2.1 h.2.2.1 h.2.2.2.1 h.2.2.2.2.1 h.2.2.2.2.2.1 h.2.2.2.2.2.2.1 h.2.2.2.2.2.2.2.1 h.2.2.2.2.2.2.2.2
      have zd : ∀ x, (x ≠ 40 ∧ x ≠ 46 ∧ x ≠ 47 ∧ x ≠ 48 ∧ x ≠ 49 ∧ x ≠ 50 ∧ x ≠ 51 ∧ x ≠ 0 ∧ x ≠ 10 ∧ x ≠ 12 ∧ x ≠ 13 ∧ ¬ (30 ≤ x ∧ x ≤ 39)) → Z x = D x := fun x h => (zo x (by omega)).trans (cfn x (by omega))
      refine ⟨Z, w2, T, dr, pa, np, rfl, ⟨?_, ?_⟩, ?_, ?_, ?_, ⟨by omega, c, t, cf, p5, p6, ?_, ?_, e10, p9, p12, p10, e46, ?_, ?_⟩, ?_⟩
      · rw [E30, X09, e1, ob0]
      · rw [E30, X08, e25]
      · exact Isk_of s2 (by rw [zd 14 (by omega)]) (E340 27 (by decide) (by decide) (by decide) (by decide) (by decide) (by decide) (by decide) (by decide) (by decide) (by decide) (by decide)) (zd 19 (by omega)) (zd 54 (by omega)) (zd 20 (by omega)) (zd 53 (by omega)) (zd 16 (by omega)) (zd 17 (by omega)) (zd 18 (by omega)) (zd 56 (by omega)) (zd 57 (by omega)) (zd 58 (by omega))
      · exact Igt_of s3 (by rw [zd 22 (by omega)]) (E340 35 (by decide) (by decide) (by decide) (by decide) (by decide) (by decide) (by decide) (by decide) (by decide) (by decide) (by decide)) (by rw [zd 22 (by omega)]) (E340 40 (by decide) (by decide) (by decide) (by decide) (by decide) (by decide) (by decide) (by decide) (by decide) (by decide) (by decide)) (zd 23 (by omega)) (zd 24 (by omega)) (zd 25 (by omega)) (zd 26 (by omega)) (zd 27 (by omega)) (zd 28 (by omega)) (zd 29 (by omega)) (zd 59 (by omega)) (zd 60 (by omega)) (zd 61 (by omega)) (zd 62 (by omega)) (zd 63 (by omega)) (zd 64 (by omega)) (zd 65 (by omega))
      · exact ⟨0, by decide, by rw [E39, X91]; rfl, e20, by rw [zd 11 (by omega), zd 52 (by omega)]; exact t3⟩
      · rw [zo dr (by omega)]; exact ob0
      · rw [zo dr (by omega)]; exact ob1
      · intro i j a1 a2 a3
        have : cf (i + 1) ≤ t := by
          have := cf_le p10 (i := i + 1) (c - (i + 1)) (by omega)
          rw [show i + 1 + (c - (i + 1)) = c by omega] at this
          omega
        rw [zo _ (by omega), (obr j (by omega)).1]
        exact p14 i j a1 a2 a3
      · intro j hj
        obtain ⟨o1, o2, o3, o4⟩ := obr j hj
        obtain ⟨u1, u2, u3, u4⟩ := p8 j hj
        rw [zo (dr + 2) (by omega), zo (dr + 3) (by omega), zo (dr + 4) (by omega), o2, o3, o4, e47 _ (by omega), e47 _ (by omega), e47 _ (by omega)]
        exact ⟨u1, u2, u3, u4⟩
      · exact Ipc_of s6 (zd 1 (by omega)) (zd 4 (by omega)) (zd 5 (by omega)) (zd 6 (by omega)) (zd 8 (by omega)) (E340 2 (by decide) (by decide) (by decide) (by decide) (by decide) (by decide) (by decide) (by decide) (by decide) (by decide) (by decide)) (E340 4 (by decide) (by decide) (by decide) (by decide) (by decide) (by decide) (by decide) (by decide) (by decide) (by decide) (by decide)) (E340 34 (by decide) (by decide) (by decide) (by decide) (by decide) (by decide) (by decide) (by decide) (by decide) (by decide) (by decide)) (E340 9 (by decide) (by decide) (by decide) (by decide) (by decide) (by decide) (by decide) (by decide) (by decide) (by decide) (by decide)) (zd 41 (by omega)) (zd 42 (by omega)) (zd 43 (by omega)) (zd 44 (by omega)) (zd 45 (by omega)) (fun x => zd (66 + x) (by omega))
    · have := cl.symm.trans cl2
      injection this with this
      exact absurd (show (1 : Int32) = 0 from congrArg Prod.fst this) (show ¬ (1 : Int32) = 0 by decide)
  · have ce : fX9_colours b (HH b D w T pa dr np np) = some (-6, HH b (up2 (up2 (up2 D1 0 8 (D1 10 3)) 10 1 0) 0 9 (if (-6 : Int32) < 0 then (-6 : Int32) else 0)) w T pa dr np np) := by
      simp (decide := true) only [fX9_colours, fX9_colours_28, f_noted, bn_s, bn2_s, hr0_3, hr0_2, hr0_7, hr10_3, hk0, hk9, cl, hw0_8, hw10_1, if_true, if_false]
    rw [armF, ce, bn2_s]
    clear ce
    have x20 : up2 (up2 (up2 D1 0 8 (D1 10 3)) 10 1 0) 0 9 (if (-6 : Int32) < 0 then (-6 : Int32) else 0) 40 20 = nI n := by rw [up2_ne (by decide), up2_ne (by decide), up2_ne (by decide), cfn 40 (by omega)]; exact t2
    have x52 : up2 (up2 (up2 D1 0 8 (D1 10 3)) 10 1 0) 0 9 (if (-6 : Int32) < 0 then (-6 : Int32) else 0) 52 = D 52 := by rw [up2_ne (by decide), up2_ne (by decide), up2_ne (by decide), cfn 52 (by omega)]
    obtain ⟨D2, E2, w2, cf2, ⟨g1, g2⟩, me, cl2⟩ := s_read (b := b) (D := D) (E := up2 (up2 (up2 D1 0 8 (D1 10 3)) 10 1 0) 0 9 (if (-6 : Int32) < 0 then (-6 : Int32) else 0)) (wc := w) (w := w) (Tc := T) (Tm := T) (pc := pa) (dc := dr) (pm := pa) (dm := dr) (np := np) (mk := np) hp hn t1 t3 x20 x52
    have X0 : ∀ x, x ≠ 0 → x ≠ 10 → up2 (up2 (up2 D1 0 8 (D1 10 3)) 10 1 0) 0 9 (if (-6 : Int32) < 0 then (-6 : Int32) else 0) x = D1 x := fun x a1 a2 => by rw [up2_ne a1, up2_ne a2, up2_ne a1]
    have X09 : up2 (up2 (up2 D1 0 8 (D1 10 3)) 10 1 0) 0 9 (if (-6 : Int32) < 0 then (-6 : Int32) else 0) 0 9 = (if (-6 : Int32) < 0 then (-6 : Int32) else 0) := up2_v
    have X08 : up2 (up2 (up2 D1 0 8 (D1 10 3)) 10 1 0) 0 9 (if (-6 : Int32) < 0 then (-6 : Int32) else 0) 0 8 = D1 10 3 := by rw [up2_k (by decide), up2_ne (by decide), up2_v]
    have X91 : up2 (up2 (up2 D1 0 8 (D1 10 3)) 10 1 0) 0 9 (if (-6 : Int32) < 0 then (-6 : Int32) else 0) 10 1 = 0 := by rw [up2_ne (by decide), up2_v]
    generalize up2 (up2 (up2 D1 0 8 (D1 10 3)) 10 1 0) 0 9 (if (-6 : Int32) < 0 then (-6 : Int32) else 0) = X at g1 g2 me X0 X09 X08 X91
    rcases cl2 with ⟨cl2, _⟩ | ⟨cl2, F⟩
    · have := cl.symm.trans cl2
      injection this with this
      exact absurd (show (0 : Int32) = 1 from congrArg Prod.fst this) (show ¬ (0 : Int32) = 1 by decide)
    · have heq : HH b D1 w T pa dr np np = HH b D2 w T pa dr np np := by
        have := cl.symm.trans cl2
        injection this with this
        exact congrArg Prod.snd this
      have ob : D1 10 3 = D2 10 3 := by
        have a := hr10_3 (b := b) (D := D1) (w := w) (T := T) (pa := pa) (dr := dr) (np := np) (mk := np)
        rw [heq, hr10_3] at a
        injection a with a
        exact a.symm
      have nb : ¬ E2 40 26 = 0 := by rw [F.1]; decide
      have em : fX10_colours (b + 40) (HH b X w T pa dr np np) = some (-6, HH b (up2 (up2 E2 40 20 0) 40 1 (if (-6 : Int32) < 0 then (-6 : Int32) else 0)) w2 T pa dr np np) := by
        rw [me]
        simp (decide := true) only [fX10_colours_98, f_told, bn_s, bn2_s, hk40, hw40_20, hr40_26, up2_same, upd_app, nb, if_false]
      rw [em, bn2_s, if_pos rfl]
      clear em me cl cl2 heq
      have E3o : ∀ x, x ≠ 40 → x ≠ 48 → x ≠ 49 → x ≠ 50 → x ≠ 51 → x ≠ 0 → x ≠ 10 → up2 (up2 E2 40 20 0) 40 1 (if (-6 : Int32) < 0 then (-6 : Int32) else 0) x = D1 x := fun x a1 a4 a5 a6 a7 a8 a9 => by rw [up2_ne a1, up2_ne a1, g2 x a1 a4 a5 a6 a7, X0 x a8 a9]
      have E30 : ∀ y, up2 (up2 E2 40 20 0) 40 1 (if (-6 : Int32) < 0 then (-6 : Int32) else 0) 0 y = X 0 y := fun y => by rw [up2_ne (by decide), up2_ne (by decide), g2 0 (by decide) (by decide) (by decide) (by decide) (by decide)]
      have E39 : ∀ y, up2 (up2 E2 40 20 0) 40 1 (if (-6 : Int32) < 0 then (-6 : Int32) else 0) 10 y = X 10 y := fun y => by rw [up2_ne (by decide), up2_ne (by decide), g2 10 (by decide) (by decide) (by decide) (by decide) (by decide)]
      have E340 : ∀ y, y ≠ 0 → y ≠ 1 → y ≠ 13 → y ≠ 14 → y ≠ 20 → y ≠ 21 → y ≠ 22 → y ≠ 23 → y ≠ 25 → y ≠ 26 → up2 (up2 E2 40 20 0) 40 1 (if (-6 : Int32) < 0 then (-6 : Int32) else 0) 40 y = D 40 y := fun y a0 a1 a3 a4 a5 a6 a7 a8 a9 a10 => by rw [up2_k a1, up2_k a5, g1 y a0 a3 a4 a6 a7 a8 a9 a10, X0 40 (by decide) (by decide), cfn 40 (by omega)]
      have e1 : up2 (up2 E2 40 20 0) 40 1 (if (-6 : Int32) < 0 then (-6 : Int32) else 0) 40 1 = (if (-6 : Int32) < 0 then (-6 : Int32) else 0) := up2_v
      have e25 : up2 (up2 E2 40 20 0) 40 1 (if (-6 : Int32) < 0 then (-6 : Int32) else 0) 40 25 = D2 10 3 := by rw [up2_k (by decide), up2_k (by decide), F.2]
      have e20 : up2 (up2 E2 40 20 0) 40 1 (if (-6 : Int32) < 0 then (-6 : Int32) else 0) 40 20 = 0 := by rw [up2_k (by decide), up2_v]
      generalize up2 (up2 E2 40 20 0) 40 1 (if (-6 : Int32) < 0 then (-6 : Int32) else 0) = Z at E3o E30 E39 E340 e1 e25 e20
      have zd : ∀ x, (x ≠ 40 ∧ x ≠ 48 ∧ x ≠ 49 ∧ x ≠ 50 ∧ x ≠ 51 ∧ x ≠ 0 ∧ x ≠ 10 ∧ x ≠ 12 ∧ x ≠ 13 ∧ ¬ (dr ≤ x ∧ x ≤ dr + 4)) → Z x = D x := fun x h => (E3o x h.1 h.2.1 h.2.2.1 h.2.2.2.1 h.2.2.2.2.1 h.2.2.2.2.2.1 h.2.2.2.2.2.2.1).trans (cfn x (by omega))
      refine ⟨Z, w2, T, pa, dr, np, rfl, ⟨?_, ?_⟩, ?_, ?_, ?_, ⟨pp, ?_⟩, ?_⟩
      · rw [E30, X09, e1]
      · rw [E30, X08, e25, ob]
      · exact Isk_of s2 (by rw [zd 14 (by omega)]) (E340 27 (by decide) (by decide) (by decide) (by decide) (by decide) (by decide) (by decide) (by decide) (by decide) (by decide)) (zd 19 (by omega)) (zd 54 (by omega)) (zd 20 (by omega)) (zd 53 (by omega)) (zd 16 (by omega)) (zd 17 (by omega)) (zd 18 (by omega)) (zd 56 (by omega)) (zd 57 (by omega)) (zd 58 (by omega))
      · exact Igt_of s3 (by rw [zd 22 (by omega)]) (E340 35 (by decide) (by decide) (by decide) (by decide) (by decide) (by decide) (by decide) (by decide) (by decide) (by decide)) (by rw [zd 22 (by omega)]) (E340 40 (by decide) (by decide) (by decide) (by decide) (by decide) (by decide) (by decide) (by decide) (by decide) (by decide)) (zd 23 (by omega)) (zd 24 (by omega)) (zd 25 (by omega)) (zd 26 (by omega)) (zd 27 (by omega)) (zd 28 (by omega)) (zd 29 (by omega)) (zd 59 (by omega)) (zd 60 (by omega)) (zd 61 (by omega)) (zd 62 (by omega)) (zd 63 (by omega)) (zd 64 (by omega)) (zd 65 (by omega))
      · exact ⟨0, by decide, by rw [E39, X91]; rfl, e20, by rw [zd 11 (by omega), zd 52 (by omega)]; exact t3⟩
      · exact Pal_of hpal (by rw [zd pa (by omega)]) (by rw [zd pa (by omega)]) (zd _ (by omega)) (zd _ (by omega)) (zd _ (by omega)) (zd _ (by omega)) (E340 10 (by decide) (by decide) (by decide) (by decide) (by decide) (by decide) (by decide) (by decide) (by decide) (by decide)) (zd 46 (by omega)) (zd 47 (by omega))
      · exact Ipc_of s6 (zd 1 (by omega)) (zd 4 (by omega)) (zd 5 (by omega)) (zd 6 (by omega)) (zd 8 (by omega)) (E340 2 (by decide) (by decide) (by decide) (by decide) (by decide) (by decide) (by decide) (by decide) (by decide) (by decide)) (E340 4 (by decide) (by decide) (by decide) (by decide) (by decide) (by decide) (by decide) (by decide) (by decide) (by decide)) (E340 34 (by decide) (by decide) (by decide) (by decide) (by decide) (by decide) (by decide) (by decide) (by decide) (by decide)) (E340 9 (by decide) (by decide) (by decide) (by decide) (by decide) (by decide) (by decide) (by decide) (by decide) (by decide)) (zd 41 (by omega)) (zd 42 (by omega)) (zd 43 (by omega)) (zd 44 (by omega)) (zd 45 (by omega)) (fun x => zd (66 + x) (by omega))
end
