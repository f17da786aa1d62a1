theorem nI_cl {x : Int32} (h : 0 ≤ x.toInt) : x = nI x.toNatClampNeg := by
  obtain ⟨j, hj, e⟩ := nI_of (x := x) (fun q => by rw [lt3] at q; have e : (0 : Int32).toInt = 0 := rfl; omega)
  rw [e, nI_clamp hj]
theorem cl_ti {x : Int32} (h : 0 ≤ x.toInt) : (x.toNatClampNeg : Int) = x.toInt := by
  have : x.toNatClampNeg = x.toInt.toNat := rfl
  omega
theorem wS_N {f : Nat → Int32} {A : Nat → Nat} : ∀ n, (∀ i, i < n → f i = nI (A i)) → wS f n = nI (sN A n)
  | 0, _ => nI_0.symm
  | n + 1, h => by
    show wS f n + f n = nI (sN A n + A n)
    rw [wS_N n (fun i hi => h i (by omega)), h n (by omega), nI_add]
theorem sI_N {f : Nat → Int} {A : Nat → Nat} : ∀ n, (∀ i, i < n → f i = (A i : Int)) → sI f n = (sN A n : Int)
  | 0, _ => rfl
  | n + 1, h => by
    show sI f n + f n = ((sN A n + A n : Nat) : Int)
    rw [sI_N n (fun i hi => h i (by omega)), h n (by omega)]
    omega
theorem sN_mem {A : Nat → Nat} {p : Nat} : ∀ n, p < n → A p ≤ sN A n
  | 0, q => by omega
  | n + 1, q => by
    show A p ≤ sN A n + A n
    by_cases z : p = n
    · subst z
      omega
    · have := sN_mem (A := A) (p := p) n (by omega)
      omega
theorem sN_sub {A B : Nat → Nat} : ∀ n, (∀ i, i < n → B i ≤ A i) → sN (fun i => A i - B i) n = sN A n - sN B n ∧ sN B n ≤ sN A n
  | 0, _ => ⟨rfl, Nat.le_refl _⟩
  | n + 1, h => by
    obtain ⟨h1, h2⟩ := sN_sub n (fun i hi => h i (by omega))
    have := h n (by omega)
    show sN (fun i => A i - B i) n + (A n - B n) = (sN A n + A n) - (sN B n + B n) ∧ sN B n + B n ≤ sN A n + A n
    rw [h1]
    omega
section
variable {b : Nat} {D : Nat → Nat → Int32} {w : Int64} {T : Nat → Int64} {pa dr np mk : Nat}
theorem Ipc_cut {D E : Nat → Nat → Int32} {np k N : Nat} {F : Nat → Nat} (h : Ipc D np) (hk : k < np) (hp1 : np < 120) (q1 : D 42 k = 0) (hF : ∀ i, i < 10 → F i ≤ (D 43 (10 * k + i)).toNatClampNeg) (hN : sN F 10 = N) (e13 : E 1 3 = D 1 3) (f2 : E 40 2 = D 40 2) (e14 : E 1 4 = nI (np + 1)) (f4 : E 40 4 = nI (np + 1)) (e4 : E 4 = D 4) (e5 : E 5 = D 5) (e6 : E 6 = D 6) (a1 : E 41 = D 41) (a2 : E 42 = D 42) (u1 : ∀ i, i < 10 → E 43 (10 * k + i) = D 43 (10 * k + i) - nI (F i)) (u2 : ∀ i, i < 10 → E 43 (10 * np + i) = nI (F i)) (u3 : ∀ p i, p ≠ k → p ≠ np → i < 10 → E 43 (10 * p + i) = D 43 (10 * p + i)) (a4 : E 44 = D 44) (a5 : E 45 = upd (D 45) np (-1)) (e8 : E 8 = D 8) (f9 : E 40 9 = D 40 9) (f34 : E 40 34 = D 40 34) (b1 : ∀ i, i < 10 → E (66 + 2 * np + 1) i = nI (F i)) (b2 : E (66 + 2 * np) = upd rowP 1 (nI N)) (b3 : ∀ i, i < 10 → E (66 + 2 * k + 1) i = D (66 + 2 * k + 1) i - nI (F i)) (b4 : E (66 + 2 * k) = upd (D (66 + 2 * k)) 1 (D (66 + 2 * k) 1 - nI N)) (c2 : ∀ x, x ≠ 2 * np → x ≠ 2 * np + 1 → x ≠ 2 * k → x ≠ 2 * k + 1 → E (66 + x) = D (66 + x)) : Ipc E (np + 1) := by
  obtain ⟨nb, hnb, hn, h1, h2, h3, h4, h5, h5', h6, h7, h8, h9, g1, g2, g3, g4, g5, g6⟩ := h
  have l1 : isL E = isL D := by funext p; unfold isL; rw [a4]
  have l2 : frL E = frL D := by
    funext p
    unfold frL
    rw [a4, a5, upd_app]
    by_cases q : p = np
    · have := (h7 p (by omega)).1
      rw [this]
      rw [decide_eq_false (fun y => y.1 (by decide)), decide_eq_false (fun y => y.1 (by decide))]
    · rw [if_neg q]
  have gk := g_le hnb h8 h9 (show k < 120 by omega)
  have hA : ∀ i, i < 10 → D 43 (10 * k + i) = nI (D 43 (10 * k + i)).toNatClampNeg := fun i _ => nI_cl (h8 _)
  have hAi : ∀ i, ((D 43 (10 * k + i)).toNatClampNeg : Int) = (D 43 (10 * k + i)).toInt := fun i => cl_ti (h8 _)
  have u1n : ∀ i, i < 10 → E 43 (10 * k + i) = nI ((D 43 (10 * k + i)).toNatClampNeg - F i) := by
    intro i hi
    rw [u1 i hi]
    exact (congrArg (fun x => x - nI (F i)) (hA i hi)).trans (pk_sub (hF i hi))
  have hsm : ∀ i, i < 10 → (D 43 (10 * k + i)).toNatClampNeg < 2 ^ 31 := by
    intro i hi
    have := hAi i
    have := gk.2 i hi
    omega
  have u1i : ∀ i, i < 10 → (E 43 (10 * k + i)).toInt = (((D 43 (10 * k + i)).toNatClampNeg - F i : Nat) : Int) := fun i hi => by rw [u1n i hi, nI_ti (by have := hsm i hi; omega)]
  have u2i : ∀ i, i < 10 → (E 43 (10 * np + i)).toInt = (F i : Int) := fun i hi => by rw [u2 i hi, nI_ti (by have := hsm i hi; have := hF i hi; omega)]
  have hss := sN_sub (A := fun i => (D 43 (10 * k + i)).toNatClampNeg) (B := F) 10 hF
  refine ⟨nb, hnb, by omega, by rw [e13]; exact h1, by rw [f2]; exact h2, e14, f4, by rw [e4, e5, e6, a1]; exact h5, by rw [e4, e5, e6]; exact h5', ?_, ?_, ?_, ?_, by rw [e8, f34]; exact g1, by rw [e8, f9]; exact g2, by rw [e8, l1]; exact g3, by rw [e8, l2]; exact g4, by rw [f9]; exact g5, by rw [f9, l1, l2]; exact g6⟩
  · intro p hp
    by_cases y : p = np
    · subst y
      have e0 := h7 p (Nat.le_refl _)
      refine ⟨by rw [a2]; exact Or.inl e0.2, ?_, ?_, ?_, ?_, ?_, ?_⟩
      · rw [b2, a2, e0.2]
        rfl
      · rw [b2, a4, e0.1]
        rfl
      · rw [b2, a5, upd_app (D 45), if_pos rfl]
        rfl
      · intro _
        refine ⟨fun i hi => ?_, ?_⟩
        · rw [b1 i hi, u2 i hi]
        · rw [b2, upd_app, if_pos rfl, wS_N 10 u2, hN]
      · rw [a2, e0.2]
        exact fun x => absurd x (by decide)
      · rw [a5, upd_app, if_pos rfl]
        exact fun _ => rfl
    · by_cases y2 : p = k
      · subst y2
        obtain ⟨w1, w2, w3, w4, w5, w6, w7⟩ := h6 p hk
        refine ⟨by rw [a2]; exact w1, ?_, ?_, ?_, ?_, ?_, ?_⟩
        · rw [b4, a2]
          exact w2
        · rw [b4, a4]
          exact w3
        · rw [b4, a5, upd_app (D 45), if_neg y]
          exact w4
        · intro _
          refine ⟨fun i hi => ?_, ?_⟩
          · rw [b3 i hi, u1 i hi, (w5 q1).1 i hi]
          · rw [b4, upd_app, if_pos rfl, (w5 q1).2, wS_N 10 u1n, hss.1, wS_N 10 hA, hN, pk_sub (by have := hss.2; omega)]
        · rw [a2, a4]
          exact w6
        · rw [a4, a5, upd_app, if_neg y]
          exact w7
      · exact Pc1_of (h6 p (by omega)) (by rw [a2]) (by rw [a4]) (by rw [a5, upd_app, if_neg y]) (c2 (2 * p) (by omega) (by omega) (by omega) (by omega)) (c2 (2 * p + 1) (by omega) (by omega) (by omega) (by omega)) (fun i hi => u3 p i y2 y hi)
  · intro p hp
    rw [a4, a2]
    exact h7 p (by omega)
  · intro j
    by_cases y : j / 10 = k
    · have := u1i (j % 10) (by omega)
      rw [show 10 * k + j % 10 = j by omega] at this
      omega
    · by_cases y2 : j / 10 = np
      · have := u2i (j % 10) (by omega)
        rw [show 10 * np + j % 10 = j by omega] at this
        omega
      · have := u3 (j / 10) (j % 10) y y2 (by omega)
        rw [show 10 * (j / 10) + j % 10 = j by omega] at this
        rw [this]
        exact h8 j
  · have t1 : sI (fun i => (E 43 (10 * k + i)).toInt) 10 = ((sN (fun i => (D 43 (10 * k + i)).toNatClampNeg) 10 - N : Nat) : Int) := by
      rw [sI_N 10 u1i, hss.1, hN]
    have t2 : sI (fun i => (E 43 (10 * np + i)).toInt) 10 = (N : Int) := by rw [sI_N 10 u2i, hN]
    have t0 : sI (fun i => (D 43 (10 * k + i)).toInt) 10 = (sN (fun i => (D 43 (10 * k + i)).toNatClampNeg) 10 : Int) := sI_N 10 (fun i _ => (hAi i).symm)
    have t3 : ∀ p, p ≠ k → p ≠ np → sI (fun i => (E 43 (10 * p + i)).toInt) 10 = sI (fun i => (D 43 (10 * p + i)).toInt) 10 := fun p z1 z2 => sI_congr 10 (fun i hi => by rw [u3 p i z1 z2 hi])
    have t4 := sI_one (f := fun p => sI (fun i => (D 43 (10 * p + i)).toInt) 10) (g := fun p => if p = k then sI (fun i => (E 43 (10 * k + i)).toInt) 10 else sI (fun i => (D 43 (10 * p + i)).toInt) 10) (p := k) (fun i hi => if_neg hi) 120 (by omega)
    have t5 := sI_one (f := fun p => if p = k then sI (fun i => (E 43 (10 * k + i)).toInt) 10 else sI (fun i => (D 43 (10 * p + i)).toInt) 10) (g := fun p => sI (fun i => (E 43 (10 * p + i)).toInt) 10) (p := np) (fun i hi => by
      show sI (fun x => (E 43 (10 * i + x)).toInt) 10 = if i = k then _ else _
      by_cases z : i = k
      · rw [if_pos z, z]
      · rw [if_neg z, t3 i z hi]) 120 (by omega)
    simp only [if_true, if_neg (show ¬ np = k by omega)] at t4 t5
    have := sI_pos (f := fun i => (D 43 (10 * np + i)).toInt) (fun i => h8 _) 10
    have := hss.2
    omega
theorem c_gws {A : Nat → Nat} {k N W : Nat} (hk : k < np) (hc : CutN A N W) (hg : ∀ i, i < 10 → D (66 + 2 * k + 1) i = D 43 (10 * k + i)) (hA : ∀ i, i < 10 → D 43 (10 * k + i) = nI (A i)) (hwt : D (66 + 2 * k) 1 = nI W) : fX7_giveWholeShares (b + 1) (b + 66 + 2 * k) (b + 66 + 2 * np) (nI N) (HH b (newP D np) w T pa dr np (np + 1)) = some (nI (sN (shC A N W) 10), HH b (upR (newP D np) (66 + 2 * np + 1) (frR A N W 0)) w (frT T A N W 0) pa dr np (np + 1)) := by
  obtain ⟨k1, k2, k3, k4, k5⟩ := id hc
  have hs := Nat.lt_succ_self np
  have hks : k < np + 1 := by omega
  have hA1 : ∀ i, i < 10 → newP D np (66 + 2 * k + 1) i = nI (A i) := fun i hi => by rw [newP_ne (by omega) (by omega), hg i hi, hA i hi]
  have gw := lp_gw (b := b) (D := newP D np) (w := w) (T := T) (pa := pa) (dr := dr) (np := np) (mk := np + 1) hks hs (by omega) hc hA1 10 FU 0 (by omega) (by unfold FU; omega)
  rw [show sN (shC A N W) 0 = 0 from rfl, nI_0, show shR A N W 0 = newP D np (66 + 2 * np + 1) from funext (fun x => by rw [newP_g]; exact if_neg (by omega)), upR_self, show shT T A N W 0 = T from funext (fun x => if_neg (by omega))] at gw
  have eR : shR A N W 10 = frR A N W 0 := by
    funext j
    unfold shR frR
    by_cases y : j < 10
    · rw [if_pos y, if_pos y, if_neg (by omega), Nat.add_zero]
    · rw [if_neg y, if_neg y]
  have eT : shT T A N W 10 = frT T A N W 0 := by
    funext j
    unfold shT frT rsT
    by_cases y : j < 10
    · rw [if_pos y, if_pos y, if_neg (by omega)]
    · rw [if_neg y, if_neg y]
  rw [eR, eT] at gw
  have d5 : ¬ nI W < 1 := nI_nlt (b := 1) (by omega) (by omega)
  have d6 : (nI W).toInt64 = lN W := nI_l (by omega)
  have e2 : newP D np (66 + 2 * k) = D (66 + 2 * k) := newP_ne (by omega) (by omega)
  unfold fX7_giveWholeShares
  rw [hrP_1 hks, bn_s, e2, hwt]
  unfold fJ9_max_7cf53
  rw [if_neg d5, bn2_s, d6, gw]
theorem c_cut {A : Nat → Nat} {k N W : Nat} (hk : k < np) (hc : CutN A N W) (hg : ∀ i, i < 10 → D (66 + 2 * k + 1) i = D 43 (10 * k + i)) (hA : ∀ i, i < 10 → D 43 (10 * k + i) = nI (A i)) (hwt : D (66 + 2 * k) 1 = nI W) (hn : np ≤ 120) (hp1 : np < 120) (h3 : D 1 4 = nI np) (q2 : D (66 + 2 * k) 4 = 0) (w3 : D (66 + 2 * k) 2 = D 44 k) (z : D 44 k ≤ 0) : ∃ X T', fX9_cut b (nI k) (nI N) (HH b D w T pa dr np np) = some (nI np, HH b X w T' pa dr (np + 1) (np + 1)) ∧ (∀ x, x < 66 → x ≠ 0 → x ≠ 1 → X x = D x) ∧ X 0 9 = (if nI np < 0 then nI np else 0) ∧ X 0 8 = D 0 8 ∧ X 1 4 = nI (np + 1) ∧ X 1 3 = D 1 3 ∧ (∀ i, i < 10 → X (66 + 2 * np + 1) i = nI (fzC A N W i)) ∧ X (66 + 2 * np) = upd rowP 1 (nI N) ∧ (∀ i, i < 10 → X (66 + 2 * k + 1) i = D (66 + 2 * k + 1) i - nI (fzC A N W i)) ∧ X (66 + 2 * k) = upd (D (66 + 2 * k)) 1 (D (66 + 2 * k) 1 - nI N) ∧ (∀ x, x ≠ 2 * np → x ≠ 2 * np + 1 → x ≠ 2 * k → x ≠ 2 * k + 1 → X (66 + x) = D (66 + x)) := by
  obtain ⟨k1, k2, k3, k4, k5⟩ := id hc
  obtain ⟨l1, l2, l3, l4⟩ := cut_L hc
  have hs := Nat.lt_succ_self np
  have hks : k < np + 1 := by omega
  have gr := lp_gr (b := b) (D := newP D np) (w := w) (T := T) (pa := pa) (dr := dr) (np := np) (mk := np + 1) hs hc (ltC A N W) FU 0 (by omega) (by unfold FU; omega)
  rw [nI_0] at gr
  have fR : ∀ i, i < 10 → frR A N W (ltC A N W) i = nI (fzC A N W i) := fun i hi => by unfold frR fzC; rw [if_pos hi]
  generalize hY : upR (newP D np) (66 + 2 * np + 1) (frR A N W (ltC A N W)) = Y at gr
  have y1 : ∀ x, x < 66 → Y x = D x := fun x hx => by rw [← hY, upR_ne (by omega), newP_lt hx]
  have y2 : Y (66 + 2 * np + 1) = frR A N W (ltC A N W) := by rw [← hY, upR_same]
  have y3 : Y (66 + 2 * np) = rowP := by rw [← hY, upR_ne (by omega), newP_o]
  have y4 : ∀ x, x ≠ 2 * np → x ≠ 2 * np + 1 → Y (66 + x) = D (66 + x) := fun x x1 x2 => by rw [← hY, upR_ne (by omega), newP_ne (by omega) (by omega)]
  have co := lp_co (b := b) (D := Y) (w := w) (T := frT T A N W (ltC A N W)) (pa := pa) (dr := dr) (np := np) (mk := np + 1) (N := N) hp1 hk hs (by rw [y1 1 (by decide)]; exact h3) 10 FU 0 (by omega) (by unfold FU; omega)
  rw [show sbA (Y (66 + 2 * k + 1)) (Y (66 + 2 * np + 1)) 0 = Y (66 + 2 * k + 1) from funext (fun x => if_neg (by omega)), upR_self, nI_0] at co
  have d1 : nI np < 120 := nlt (K := 120) hp1 (by decide)
  have d3 : (1 : Int32) ≤ nI N := nI_le (a := 1) k2 (by omega)
  have d4 : ¬ nI W ≤ nI N := nI_ge (by omega) (by omega)
  have d7 : nI N - nI (sN (shC A N W) 10) = nI (ltC A N W) := by rw [pk_sub l1]; rfl
  have gws := c_gws (b := b) (w := w) (T := T) (pa := pa) (dr := dr) hk hc hg hA hwt
  have ce : fX9_cut b (nI k) (nI N) (HH b D w T pa dr np np) = some (nI np, HH b (up2 (up2 (up2 (up2 (upR Y (66 + 2 * k + 1) (sbA (Y (66 + 2 * k + 1)) (Y (66 + 2 * np + 1)) 10)) (66 + 2 * np) 1 (nI N)) (66 + 2 * k) 1 (Y (66 + 2 * k) 1 - nI N)) 1 4 (nI (np + 1))) 0 9 (if nI np < 0 then nI np else 0)) w (frT T A N W (ltC A N W)) pa dr (np + 1) (np + 1)) := by
    simp (decide := true) only [fX9_cut, fX7_cutOff, fX7_giveRests, f_noted, f_liv0 hk hn (Nat.le_refl _) h3 q2, hkP hk, hrP_1 hk, f_cLeaf hk, mkPiece, bn_s, bn2_s, nm_s, onul_n, onul_s, if_true, if_false, and_self, and_true, true_and, and_false, false_and, or_self, or_false, false_or, or_true, true_or, not_true_eq_false, not_false_eq_true, eq_self, ne_eq, i01, up2_same, up2_ne, upd_app, hk0, hr0_0, hr0_1, hr0_2, hr0_3, hr0_4, hr0_5, hr0_6, hr0_7, hr0_8, hw0_8, hr0_9, hw0_9, hk1, hr1_0, hr1_1, hr1_2, hr1_3, hw1_3, hr1_4, hw1_4, hl4, hs4, hl5, hs5, hl6, hs6, hk8, hr8_0, hw8_0, hr8_1, hw8_1, hr8_2, hw8_2, hk9, hr9_0, hr9_1, hr9_2, hk10, hr10_0, hr10_1, hw10_1, hr10_2, hw10_2, hr10_3, hw10_3, hr10_4, hw10_4, hl11, hs11, hl12, hs12, hl13, hs13, hk14, hr14_0, hr14_1, hr14_2, hr14_3, hr14_4, hw14_4, hk16, hr16_0, hw16_0, hr16_1, hw16_1, hr16_2, hw16_2, hr16_3, hw16_3, hr16_4, hw16_4, hk17, hr17_0, hw17_0, hr17_1, hw17_1, hr17_2, hw17_2, hr17_3, hw17_3, hr17_4, hw17_4, hk18, hr18_0, hw18_0, hr18_1, hw18_1, hr18_2, hw18_2, hr18_3, hw18_3, hr18_4, hw18_4, hl19, hs19, hl20, hs20, hl21, hs21, hk22, hr22_0, hr22_1, hr22_2, hr22_3, hr22_4, hw22_4, hr22_5, hr22_6, hr22_7, hr22_8, hw22_8, hl23, hs23, hl24, hs24, hl25, hs25, hl26, hs26, hl27, hs27, hl28, hs28, hl29, hs29, hk30, hr30_0, hw30_0, hr30_1, hw30_1, hr30_2, hr30_3, hr30_4, hr30_5, hl31, hs31, hl32, hs32, hl33, hs33, hl34, hs34, hk35, hr35_0, hw35_0, hr35_1, hw35_1, hr35_2, hr35_3, hr35_4, hr35_5, hl36, hs36, hl37, hs37, hl38, hs38, hl39, hs39, hw0_6, hw0_7, hl7, hs7, h3, d1, d3, hwt, d4, w3, z, gws, d7, gr, co]
  clear gws gr co
  have x1 : ∀ x, x < 66 → x ≠ 0 → x ≠ 1 → up2 (up2 (up2 (up2 (upR Y (66 + 2 * k + 1) (sbA (Y (66 + 2 * k + 1)) (Y (66 + 2 * np + 1)) 10)) (66 + 2 * np) 1 (nI N)) (66 + 2 * k) 1 (Y (66 + 2 * k) 1 - nI N)) 1 4 (nI (np + 1))) 0 9 (if nI np < 0 then nI np else 0) x = D x := fun x hx hx0 hx1 => by rw [up2_ne hx0, up2_ne hx1, up2_ne (by omega), up2_ne (by omega), upR_ne (by omega), y1 x hx]
  have x2 : up2 (up2 (up2 (up2 (upR Y (66 + 2 * k + 1) (sbA (Y (66 + 2 * k + 1)) (Y (66 + 2 * np + 1)) 10)) (66 + 2 * np) 1 (nI N)) (66 + 2 * k) 1 (Y (66 + 2 * k) 1 - nI N)) 1 4 (nI (np + 1))) 0 9 (if nI np < 0 then nI np else 0) 0 9 = (if nI np < 0 then nI np else 0) := up2_v
  have x3 : up2 (up2 (up2 (up2 (upR Y (66 + 2 * k + 1) (sbA (Y (66 + 2 * k + 1)) (Y (66 + 2 * np + 1)) 10)) (66 + 2 * np) 1 (nI N)) (66 + 2 * k) 1 (Y (66 + 2 * k) 1 - nI N)) 1 4 (nI (np + 1))) 0 9 (if nI np < 0 then nI np else 0) 0 8 = D 0 8 := by rw [up2_k (by decide), up2_ne (by omega), up2_ne (by omega), up2_ne (by omega), upR_ne (by omega), y1 0 (by decide)]
  have x4 : up2 (up2 (up2 (up2 (upR Y (66 + 2 * k + 1) (sbA (Y (66 + 2 * k + 1)) (Y (66 + 2 * np + 1)) 10)) (66 + 2 * np) 1 (nI N)) (66 + 2 * k) 1 (Y (66 + 2 * k) 1 - nI N)) 1 4 (nI (np + 1))) 0 9 (if nI np < 0 then nI np else 0) 1 4 = nI (np + 1) := by rw [up2_ne (by decide), up2_v]
  have x5 : up2 (up2 (up2 (up2 (upR Y (66 + 2 * k + 1) (sbA (Y (66 + 2 * k + 1)) (Y (66 + 2 * np + 1)) 10)) (66 + 2 * np) 1 (nI N)) (66 + 2 * k) 1 (Y (66 + 2 * k) 1 - nI N)) 1 4 (nI (np + 1))) 0 9 (if nI np < 0 then nI np else 0) 1 3 = D 1 3 := by rw [up2_ne (by decide), up2_k (by decide), up2_ne (by omega), up2_ne (by omega), upR_ne (by omega), y1 1 (by decide)]
  have x6 : ∀ i, i < 10 → up2 (up2 (up2 (up2 (upR Y (66 + 2 * k + 1) (sbA (Y (66 + 2 * k + 1)) (Y (66 + 2 * np + 1)) 10)) (66 + 2 * np) 1 (nI N)) (66 + 2 * k) 1 (Y (66 + 2 * k) 1 - nI N)) 1 4 (nI (np + 1))) 0 9 (if nI np < 0 then nI np else 0) (66 + 2 * np + 1) i = nI (fzC A N W i) := fun i hi => by rw [up2_ne (by omega), up2_ne (by omega), up2_ne (by omega), up2_ne (by omega), upR_ne (by omega), y2, fR i hi]
  have x7 : up2 (up2 (up2 (up2 (upR Y (66 + 2 * k + 1) (sbA (Y (66 + 2 * k + 1)) (Y (66 + 2 * np + 1)) 10)) (66 + 2 * np) 1 (nI N)) (66 + 2 * k) 1 (Y (66 + 2 * k) 1 - nI N)) 1 4 (nI (np + 1))) 0 9 (if nI np < 0 then nI np else 0) (66 + 2 * np) = upd rowP 1 (nI N) := by rw [up2_ne (by omega), up2_ne (by omega), up2_ne (by omega), up2_same, upR_ne (by omega), y3]
  have x8 : ∀ i, i < 10 → up2 (up2 (up2 (up2 (upR Y (66 + 2 * k + 1) (sbA (Y (66 + 2 * k + 1)) (Y (66 + 2 * np + 1)) 10)) (66 + 2 * np) 1 (nI N)) (66 + 2 * k) 1 (Y (66 + 2 * k) 1 - nI N)) 1 4 (nI (np + 1))) 0 9 (if nI np < 0 then nI np else 0) (66 + 2 * k + 1) i = D (66 + 2 * k + 1) i - nI (fzC A N W i) := fun i hi => by
    rw [up2_ne (by omega), up2_ne (by omega), up2_ne (by omega), up2_ne (by omega), upR_same]
    unfold sbA
    rw [if_pos hi, y2, fR i hi, show Y (66 + 2 * k + 1) = D (66 + 2 * k + 1) from y4 (2 * k + 1) (by omega) (by omega)]
  have x9 : up2 (up2 (up2 (up2 (upR Y (66 + 2 * k + 1) (sbA (Y (66 + 2 * k + 1)) (Y (66 + 2 * np + 1)) 10)) (66 + 2 * np) 1 (nI N)) (66 + 2 * k) 1 (Y (66 + 2 * k) 1 - nI N)) 1 4 (nI (np + 1))) 0 9 (if nI np < 0 then nI np else 0) (66 + 2 * k) = upd (D (66 + 2 * k)) 1 (D (66 + 2 * k) 1 - nI N) := by rw [up2_ne (by omega), up2_ne (by omega), up2_same, up2_ne (by omega), upR_ne (by omega), y4 (2 * k) (by omega) (by omega)]
  have x10 : ∀ x, x ≠ 2 * np → x ≠ 2 * np + 1 → x ≠ 2 * k → x ≠ 2 * k + 1 → up2 (up2 (up2 (up2 (upR Y (66 + 2 * k + 1) (sbA (Y (66 + 2 * k + 1)) (Y (66 + 2 * np + 1)) 10)) (66 + 2 * np) 1 (nI N)) (66 + 2 * k) 1 (Y (66 + 2 * k) 1 - nI N)) 1 4 (nI (np + 1))) 0 9 (if nI np < 0 then nI np else 0) (66 + x) = D (66 + x) := fun x c1 c2 c3 c4 => by rw [up2_ne (by omega), up2_ne (by omega), up2_ne (by omega), up2_ne (by omega), upR_ne (by omega), y4 x c1 c2]
  exact ⟨_, _, ce, x1, x2, x3, x4, x5, x6, x7, x8, x9, x10⟩
theorem m_cut {A : Nat → Nat} {k N W : Nat} {X : Nat → Nat → Int32} (hk : k < np) (hc : CutN A N W) (hA : ∀ i, i < 10 → D 43 (10 * k + i) = nI (A i)) (hn : np ≤ 120) (hp1 : np < 120) (h4 : D 40 4 = nI np) (q1 : D 42 k = 0) (ew : wS (fun i => D 43 (10 * k + i)) 10 = nI W) (z : D 44 k ≤ 0) (f40 : X 40 = D 40) (f42 : X 42 = D 42) (f43 : X 43 = D 43) (f44 : X 44 = D 44) : ∃ R, fX10_cut (b + 40) (nI k) (nI N) (HH b X w T pa dr (np + 1) (np + 1)) = some (nI np, HH b (up2 (upR (up2 (up2 (upR (up2 X 40 0 0) 43 (zr (D 43) np 10)) 45 np (-1)) 40 4 (nI (np + 1))) 43 R) 40 1 (if nI np < 0 then nI np else 0)) w T pa dr (np + 1) (np + 1)) ∧ (∀ i, i < 10 → R (10 * k + i) = D 43 (10 * k + i) - nI (fzC A N W i)) ∧ (∀ i, i < 10 → R (10 * np + i) = nI (fzC A N W i)) ∧ (∀ p i, p ≠ k → p ≠ np → i < 10 → R (10 * p + i) = D 43 (10 * p + i)) := by
  obtain ⟨k1, k2, k3, k4, k5⟩ := id hc
  have d2 : ¬ nI np = 120 := nne (K := 120) (by omega) (by omega) (by decide)
  have d3 : (1 : Int32) ≤ nI N := nI_le (a := 1) k2 (by omega)
  have d4 : ¬ nI W ≤ nI N := nI_ge (by omega) (by omega)
  have hA2 : ∀ i, i < 10 → up2 (up2 (upR (up2 X 40 0 0) 43 (zr (D 43) np 10)) 45 np (-1)) 40 4 (nI (np + 1)) 43 (10 * k + i) = nI (A i) := by
    intro i hi
    rw [up2_ne (by decide), up2_ne (by decide), upR_same]
    unfold zr
    rw [if_neg (by omega), hA i hi]
  have m1 := lp_c92 (b := b) (D := up2 (up2 (upR (up2 X 40 0 0) 43 (zr (D 43) np 10)) 45 np (-1)) 40 4 (nI (np + 1))) (w := w) (T := T) (pa := pa) (dr := dr) (np := np + 1) (mk := np + 1) (q := np) (show k < 120 by omega) hc hA2 10 FU 0 (by omega) (by unfold FU; omega)
  rw [show sN (shC A N W) 0 = 0 from rfl, nI_0, Nat.sub_zero] at m1
  have m2 := lp_c132 (b := b) (D := up2 (up2 (upR (up2 X 40 0 0) 43 (zr (D 43) np 10)) 45 np (-1)) 40 4 (nI (np + 1))) (w := w) (T := T) (pa := pa) (dr := dr) (np := np + 1) (mk := np + 1) (q := np) (show k < 120 by omega) hp1 (by omega) hc hA2 10 FU 0 (by omega) (by unfold FU; omega)
  rw [show nwR (up2 (up2 (upR (up2 X 40 0 0) 43 (zr (D 43) np 10)) 45 np (-1)) 40 4 (nI (np + 1)) 43) np A N W 0 = up2 (up2 (upR (up2 X 40 0 0) 43 (zr (D 43) np 10)) 45 np (-1)) 40 4 (nI (np + 1)) 43 from funext (fun x => if_neg (by omega)), upR_self, nI_0] at m2
  have n43 : ∀ x, up2 (up2 (upR (up2 X 40 0 0) 43 (zr (D 43) np 10)) 45 np (-1)) 40 4 (nI (np + 1)) 43 x = zr (D 43) np 10 x := fun x => by rw [up2_ne (by decide), up2_ne (by decide), upR_same]
  have m3 := lp_c282 (b := b) (D := upR (up2 (up2 (upR (up2 X 40 0 0) 43 (zr (D 43) np 10)) 45 np (-1)) 40 4 (nI (np + 1))) 43 (nwR (up2 (up2 (upR (up2 X 40 0 0) 43 (zr (D 43) np 10)) 45 np (-1)) 40 4 (nI (np + 1)) 43) np A N W 10)) (w := w) (T := T) (pa := pa) (dr := dr) (np := np + 1) (mk := np + 1) (k := k) (q := np) (show k < 120 by omega) hp1 (by omega) 10 FU 0 (by omega) (by unfold FU; omega)
  rw [upR_same, show sbR (nwR (up2 (up2 (upR (up2 X 40 0 0) 43 (zr (D 43) np 10)) 45 np (-1)) 40 4 (nI (np + 1)) 43) np A N W 10) k np 0 = nwR (up2 (up2 (upR (up2 X 40 0 0) 43 (zr (D 43) np 10)) 45 np (-1)) 40 4 (nI (np + 1)) 43) np A N W 10 from funext (fun x => if_neg (by omega)), upR_upR, upR_upR, nI_0] at m3
  have v1 : ∀ i, i < 10 → sbR (nwR (up2 (up2 (upR (up2 X 40 0 0) 43 (zr (D 43) np 10)) 45 np (-1)) 40 4 (nI (np + 1)) 43) np A N W 10) k np 10 (10 * k + i) = D 43 (10 * k + i) - nI (fzC A N W i) := by
    intro i hi
    unfold sbR nwR
    rw [if_pos (by omega), if_neg (by omega), if_pos (by omega), n43, show 10 * k + i - 10 * k + 10 * np - 10 * np = i by omega]
    unfold zr
    rw [if_neg (by omega)]
  have v2 : ∀ i, i < 10 → sbR (nwR (up2 (up2 (upR (up2 X 40 0 0) 43 (zr (D 43) np 10)) 45 np (-1)) 40 4 (nI (np + 1)) 43) np A N W 10) k np 10 (10 * np + i) = nI (fzC A N W i) := by
    intro i hi
    unfold sbR nwR
    rw [if_neg (by omega), if_pos (by omega), show 10 * np + i - 10 * np = i by omega]
  have v3 : ∀ p i, p ≠ k → p ≠ np → i < 10 → sbR (nwR (up2 (up2 (upR (up2 X 40 0 0) 43 (zr (D 43) np 10)) 45 np (-1)) 40 4 (nI (np + 1)) 43) np A N W 10) k np 10 (10 * p + i) = D 43 (10 * p + i) := by
    intro p i c1 c2 hi
    unfold sbR nwR
    rw [if_neg (by omega), if_neg (by omega), n43]
    unfold zr
    rw [if_neg (by omega)]
  generalize sbR (nwR (up2 (up2 (upR (up2 X 40 0 0) 43 (zr (D 43) np 10)) 45 np (-1)) 40 4 (nI (np + 1)) 43) np A N W 10) k np 10 = R at m3 v1 v2 v3
  have em : fX10_cut (b + 40) (nI k) (nI N) (HH b X w T pa dr (np + 1) (np + 1)) = some (nI np, HH b (up2 (upR (up2 (up2 (upR (up2 X 40 0 0) 43 (zr (D 43) np 10)) 45 np (-1)) 40 4 (nI (np + 1))) 43 R) 40 1 (if nI np < 0 then nI np else 0)) w T pa dr (np + 1) (np + 1)) := by
    simp (decide := true) only [fX10_cut, f_told, f_isP1 hk hn, f_wt (show k < 120 by omega), f_mLeaf (show k < 120 by omega), m_addP hp1, bn_s, bn2_s, nm_s, onul_n, onul_s, if_true, if_false, and_self, and_true, true_and, and_false, false_and, or_self, or_false, false_or, or_true, true_or, not_true_eq_false, not_false_eq_true, eq_self, ne_eq, i01, up2_same, up2_ne, upd_app, hk40, hr40_0, hw40_0, hr40_1, hw40_1, hr40_2, hw40_2, hr40_3, hr40_4, hw40_4, hr40_5, hr40_6, hr40_7, hr40_8, hr40_9, hw40_9, hr40_10, hw40_10, hr40_11, hr40_12, hr40_13, hw40_13, hr40_14, hw40_14, hr40_15, hr40_16, hr40_17, hr40_18, hr40_19, hr40_20, hw40_20, hr40_21, hw40_21, hr40_22, hw40_22, hr40_23, hw40_23, hr40_24, hr40_25, hw40_25, hr40_26, hw40_26, hr40_27, hw40_27, hr40_28, hr40_29, hr40_30, hr40_31, hr40_32, hr40_33, hr40_34, hw40_34, hr40_35, hw40_35, hr40_36, hr40_37, hr40_38, hr40_39, hr40_40, hw40_40, hr40_41, hr40_42, hr40_43, hl41, hs41, hl42, hs42, hl43, hs43, hl44, hs44, hl45, hs45, hl46, hs46, hl47, hs47, hl48, hs48, hl49, hs49, hl50, hs50, hl51, hs51, hl52, hs52, hl53, hs53, hl54, hs54, hl55, hs55, hl56, hs56, hl57, hs57, hl58, hs58, hl59, hs59, hl60, hs60, hl61, hs61, hl62, hs62, hl63, hs63, hl64, hs64, hl65, hs65, hw40_24, f40, f42, f43, f44, h4, q1, d3, ew, d4, z, d2, nI_pred, nI_l (show N < 2 ^ 31 by omega), m1]
    rw [m2, m3]
  exact ⟨R, em, v1, v2, v3⟩
theorem cut_in (hI : Inv D pa dr np) {k N W : Nat} (hk : k < np) (hp1 : np < 120) (q1 : D 42 k = 0) (q2 : D (66 + 2 * k) 4 = 0) (z : D 44 k ≤ 0) (hc : CutN (fun i => (D 43 (10 * k + i)).toNatClampNeg) N W) : Good b (armF (fX9_cut b (nI k) (nI N)) (fX10_cut (b + 40) (nI k) (nI N)) (HH b D w T pa dr np np)) := by
  obtain ⟨s1, s2, s3, s4, s5, s6⟩ := hI
  obtain ⟨nb, hnb, hn, h1, h2, h3, h4, h5, h5', h6, h7, h8, h9, g1, g2, g3, g4, g5, g6⟩ := id s6
  have hA : ∀ i, i < 10 → D 43 (10 * k + i) = nI ((fun i => (D 43 (10 * k + i)).toNatClampNeg) i) := fun i _ => nI_cl (h8 _)
  have hfz := fun i hi => cut_fz hc (i := i) hi
  have hsum := cut_sum hc
  obtain ⟨k1, k2, k3, k4, k5⟩ := id hc
  obtain ⟨l1, l2, l3, l4⟩ := cut_L hc
  have ew : wS (fun i => D 43 (10 * k + i)) 10 = nI W := by rw [wS_N 10 hA, k1]
  obtain ⟨w1, w2, w3, w4, w5, w6, w7⟩ := h6 k hk
  have hg := (w5 q1).1
  have hwt := (w5 q1).2
  rw [ew] at hwt
  generalize (fun i => (D 43 (10 * k + i)).toNatClampNeg) = A at hA hfz hsum hc k1 k5 l1 l2 l3 l4
  obtain ⟨X, T', ce, x1, x2, x3, x4, x5, x6, x7, x8, x9, x10⟩ := c_cut (b := b) (w := w) (T := T) (pa := pa) (dr := dr) hk hc hg hA hwt hn hp1 h3 q2 w3 z
  rw [armF, ce, bn2_s]
  clear ce
  have fe : ∀ z, (z < 66 ∧ z ≠ 0 ∧ z ≠ 1) → X z = D z := fun z h => x1 z h.1 h.2.1 h.2.2
  have f40 := fe 40 (by decide)
  have f42 := fe 42 (by decide)
  have f43 := fe 43 (by decide)
  have f44 := fe 44 (by decide)
  have f45 := fe 45 (by decide)
  obtain ⟨R, em, v1, v2, v3⟩ := m_cut (b := b) (w := w) (T := T') (pa := pa) (dr := dr) hk hc hA hn hp1 h4 q1 ew z f40 f42 f43 f44
  rw [em, bn2_s, if_pos rfl]
  clear em
  refine ⟨_, _, _, _, _, _, rfl, ⟨?_, ?_⟩, inv4 s2 s3 s4 s5 ?_ (fun o z1 z2 => ?_) (fun o z1 z2 => ?_) ?_ ?_ ?_ ?_ ?_⟩
  · rw [up2_v]
    exact (by (repeat (first | rw [up2_ne (by omega)] | rw [upR_ne (by omega)] | rw [up2_k (by omega)] | rw [up2_v])) : _ = X 0 9).trans x2
  · exact ((by (repeat (first | rw [up2_ne (by omega)] | rw [upR_ne (by omega)] | rw [up2_k (by omega)] | rw [up2_v])) : _ = X 0 8).trans x3).trans (s1.2.trans ((by (repeat (first | rw [up2_ne (by omega)] | rw [upR_ne (by omega)] | rw [up2_k (by omega)] | rw [up2_v])) : _ = X 40 25).trans (by rw [f40])).symm)
  · refine Ipc_cut (F := fzC A N W) s6 hk hp1 q1 (fun i hi => ?_) hsum ?_ ?_ ?_ ?_ ?_ ?_ ?_ ?_ ?_ (fun i hi => ?_) (fun i hi => ?_) (fun p i c1 c2 hi => ?_) ?_ ?_ ?_ ?_ ?_ (fun i hi => ?_) ?_ (fun i hi => ?_) ?_ (fun x c1 c2 c3 c4 => ?_)
    · have := hfz i hi
      have e := congrArg Int32.toNatClampNeg (hA i hi)
      rw [nI_clamp (by have := k5 i hi; omega)] at e
      omega
    · exact (by (repeat (first | rw [up2_ne (by omega)] | rw [upR_ne (by omega)] | rw [up2_k (by omega)] | rw [up2_v])) : _ = X 1 3).trans x5
    · exact (by (repeat (first | rw [up2_ne (by omega)] | rw [upR_ne (by omega)] | rw [up2_k (by omega)] | rw [up2_v])) : _ = X 40 2).trans (by rw [f40])
    · exact (by (repeat (first | rw [up2_ne (by omega)] | rw [upR_ne (by omega)] | rw [up2_k (by omega)] | rw [up2_v])) : _ = X 1 4).trans x4
    · rw [up2_k (by decide), upR_ne (by decide), up2_v]
    · exact (by (repeat (first | rw [up2_ne (by omega)] | rw [upR_ne (by omega)] | rw [up2_k (by omega)] | rw [up2_v])) : _ = X 4).trans (fe 4 (by decide))
    · exact (by (repeat (first | rw [up2_ne (by omega)] | rw [upR_ne (by omega)] | rw [up2_k (by omega)] | rw [up2_v])) : _ = X 5).trans (fe 5 (by decide))
    · exact (by (repeat (first | rw [up2_ne (by omega)] | rw [upR_ne (by omega)] | rw [up2_k (by omega)] | rw [up2_v])) : _ = X 6).trans (fe 6 (by decide))
    · exact (by (repeat (first | rw [up2_ne (by omega)] | rw [upR_ne (by omega)] | rw [up2_k (by omega)] | rw [up2_v])) : _ = X 41).trans (fe 41 (by decide))
    · exact (by (repeat (first | rw [up2_ne (by omega)] | rw [upR_ne (by omega)] | rw [up2_k (by omega)] | rw [up2_v])) : _ = X 42).trans (fe 42 (by decide))
    · rw [up2_ne (by decide), upR_same, v1 i hi]
    · rw [up2_ne (by decide), upR_same, v2 i hi]
    · rw [up2_ne (by decide), upR_same, v3 p i c1 c2 hi]
    · exact (by (repeat (first | rw [up2_ne (by omega)] | rw [upR_ne (by omega)] | rw [up2_k (by omega)] | rw [up2_v])) : _ = X 44).trans (fe 44 (by decide))
    · rw [up2_ne (by decide), upR_ne (by decide), up2_ne (by decide), up2_same, upR_ne (by decide), up2_ne (by decide), f45]
    · exact (by (repeat (first | rw [up2_ne (by omega)] | rw [upR_ne (by omega)] | rw [up2_k (by omega)] | rw [up2_v])) : _ = X 8).trans (fe 8 (by decide))
    · exact (by (repeat (first | rw [up2_ne (by omega)] | rw [upR_ne (by omega)] | rw [up2_k (by omega)] | rw [up2_v])) : _ = X 40 9).trans (by rw [f40])
    · exact (by (repeat (first | rw [up2_ne (by omega)] | rw [upR_ne (by omega)] | rw [up2_k (by omega)] | rw [up2_v])) : _ = X 40 34).trans (by rw [f40])
    · exact (by (repeat (first | rw [up2_ne (by omega)] | rw [upR_ne (by omega)] | rw [up2_k (by omega)] | rw [up2_v])) : _ = X (66 + 2 * np + 1) i).trans (x6 i hi)
    · exact (by (repeat (first | rw [up2_ne (by omega)] | rw [upR_ne (by omega)] | rw [up2_k (by omega)] | rw [up2_v])) : _ = X (66 + 2 * np)).trans x7
    · exact (by (repeat (first | rw [up2_ne (by omega)] | rw [upR_ne (by omega)] | rw [up2_k (by omega)] | rw [up2_v])) : _ = X (66 + 2 * k + 1) i).trans (x8 i hi)
    · exact (by (repeat (first | rw [up2_ne (by omega)] | rw [upR_ne (by omega)] | rw [up2_k (by omega)] | rw [up2_v])) : _ = X (66 + 2 * k)).trans x9
    · exact (by (repeat (first | rw [up2_ne (by omega)] | rw [upR_ne (by omega)] | rw [up2_k (by omega)] | rw [up2_v])) : _ = X (66 + x)).trans (x10 x c1 c2 c3 c4)
  · exact (by (repeat (first | rw [up2_ne (by omega)] | rw [upR_ne (by omega)] | rw [up2_k (by omega)] | rw [up2_v])) : _ = X o).trans (fe o (by omega))
  · exact (by (repeat (first | rw [up2_ne (by omega)] | rw [upR_ne (by omega)] | rw [up2_k (by omega)] | rw [up2_v])) : _ = X o).trans (fe o (by omega))
  · exact (by (repeat (first | rw [up2_ne (by omega)] | rw [upR_ne (by omega)] | rw [up2_k (by omega)] | rw [up2_v])) : _ = X 40 10).trans (by rw [f40])
  · exact (by (repeat (first | rw [up2_ne (by omega)] | rw [upR_ne (by omega)] | rw [up2_k (by omega)] | rw [up2_v])) : _ = X 40 20).trans (by rw [f40])
  · exact (by (repeat (first | rw [up2_ne (by omega)] | rw [upR_ne (by omega)] | rw [up2_k (by omega)] | rw [up2_v])) : _ = X 40 27).trans (by rw [f40])
  · exact (by (repeat (first | rw [up2_ne (by omega)] | rw [upR_ne (by omega)] | rw [up2_k (by omega)] | rw [up2_v])) : _ = X 40 35).trans (by rw [f40])
  · exact (by (repeat (first | rw [up2_ne (by omega)] | rw [upR_ne (by omega)] | rw [up2_k (by omega)] | rw [up2_v])) : _ = X 40 40).trans (by rw [f40])
theorem op_cut (hI : Inv D pa dr np) (p n : Int32) : Good b (armF (fX9_cut b p n) (fX10_cut (b + 40) p n) (HH b D w T pa dr np np)) := by
  have hI' := hI
  obtain ⟨s1, s2, s3, s4, s5, s6⟩ := hI
  obtain ⟨nb, hnb, hn, h1, h2, h3, h4, h5, h5', h6, h7, h8, h9, g1, g2, g3, g4, g5, g6⟩ := id s6
  by_cases q0 : 1 ≤ n
  · rcases p_split h6 hn p with q | ⟨k, hk, rfl, q1, q2⟩
    · simp (decide := true) only [armF, fX9_cut, fX7_cutOff, fX10_cut, f_noted, f_told, f_livD q hn (Nat.le_refl _) h3, f_isPD q hn, bn_s, bn2_s, nm_s, onul_n, onul_s, if_true, if_false, and_self, and_true, true_and, and_false, false_and, or_self, or_false, false_or, or_true, true_or, not_true_eq_false, not_false_eq_true, eq_self, ne_eq, i01, up2_same, up2_ne, upd_app, hk40, hr40_0, hw40_0, hr40_1, hw40_1, hr40_2, hw40_2, hr40_3, hr40_4, hw40_4, hr40_5, hr40_6, hr40_7, hr40_8, hr40_9, hw40_9, hr40_10, hw40_10, hr40_11, hr40_12, hr40_13, hw40_13, hr40_14, hw40_14, hr40_15, hr40_16, hr40_17, hr40_18, hr40_19, hr40_20, hw40_20, hr40_21, hw40_21, hr40_22, hw40_22, hr40_23, hw40_23, hr40_24, hr40_25, hw40_25, hr40_26, hw40_26, hr40_27, hw40_27, hr40_28, hr40_29, hr40_30, hr40_31, hr40_32, hr40_33, hr40_34, hw40_34, hr40_35, hw40_35, hr40_36, hr40_37, hr40_38, hr40_39, hr40_40, hw40_40, hr40_41, hr40_42, hr40_43, hl41, hs41, hl42, hs42, hl43, hs43, hl44, hs44, hl45, hs45, hl46, hs46, hl47, hs47, hl48, hs48, hl49, hs49, hl50, hs50, hl51, hs51, hl52, hs52, hl53, hs53, hl54, hs54, hl55, hs55, hl56, hs56, hl57, hs57, hl58, hs58, hl59, hs59, hl60, hs60, hl61, hs61, hl62, hs62, hl63, hs63, hl64, hs64, hl65, hs65, hw40_24, hk0, hr0_0, hr0_1, hr0_2, hr0_3, hr0_4, hr0_5, hr0_6, hr0_7, hr0_8, hw0_8, hr0_9, hw0_9, hk1, hr1_0, hr1_1, hr1_2, hr1_3, hw1_3, hr1_4, hw1_4, hl4, hs4, hl5, hs5, hl6, hs6, hk8, hr8_0, hw8_0, hr8_1, hw8_1, hr8_2, hw8_2, hk9, hr9_0, hr9_1, hr9_2, hk10, hr10_0, hr10_1, hw10_1, hr10_2, hw10_2, hr10_3, hw10_3, hr10_4, hw10_4, hl11, hs11, hl12, hs12, hl13, hs13, hk14, hr14_0, hr14_1, hr14_2, hr14_3, hr14_4, hw14_4, hk16, hr16_0, hw16_0, hr16_1, hw16_1, hr16_2, hw16_2, hr16_3, hw16_3, hr16_4, hw16_4, hk17, hr17_0, hw17_0, hr17_1, hw17_1, hr17_2, hw17_2, hr17_3, hw17_3, hr17_4, hw17_4, hk18, hr18_0, hw18_0, hr18_1, hw18_1, hr18_2, hw18_2, hr18_3, hw18_3, hr18_4, hw18_4, hl19, hs19, hl20, hs20, hl21, hs21, hk22, hr22_0, hr22_1, hr22_2, hr22_3, hr22_4, hw22_4, hr22_5, hr22_6, hr22_7, hr22_8, hw22_8, hl23, hs23, hl24, hs24, hl25, hs25, hl26, hs26, hl27, hs27, hl28, hs28, hl29, hs29, hk30, hr30_0, hw30_0, hr30_1, hw30_1, hr30_2, hr30_3, hr30_4, hr30_5, hl31, hs31, hl32, hs32, hl33, hs33, hl34, hs34, hk35, hr35_0, hw35_0, hr35_1, hw35_1, hr35_2, hr35_3, hr35_4, hr35_5, hl36, hs36, hl37, hs37, hl38, hs38, hl39, hs39, hw0_6, hw0_7, hl7, hs7, el_0, el_1, el_2, el_3, el_20, el_50, el_100, el_200, el_1000, el_10000, el_1000000, el_m1000000, el_100000000, er_0, er_1, er_2, er_3, er_20, er_50, er_100, er_200, er_1000, er_10000, er_1000000, er_m1000000, er_100000000, h4, q0]
      exact ⟨_, _, _, _, _, _, rfl, ⟨rfl, s1.2⟩, Isk_of s2 rfl rfl rfl rfl rfl rfl rfl rfl rfl rfl rfl rfl, Igt_of s3 rfl rfl rfl rfl rfl rfl rfl rfl rfl rfl rfl rfl rfl rfl rfl rfl rfl rfl, Itp_of s4 rfl rfl rfl rfl, Ipl_of s5 (fun o h1 h2 => by repeat (rw [up2_ne (by omega)])) rfl rfl rfl, Ipc_of s6 rfl rfl rfl rfl rfl rfl rfl rfl rfl rfl rfl rfl rfl rfl (fun x => by repeat (rw [up2_ne (by omega)]))⟩
    · obtain ⟨w1, w2, w3, w4, w5, w6, w7⟩ := h6 k hk
      have hwt := (w5 q1).2
      by_cases y : wS (fun i => D 43 (10 * k + i)) 10 ≤ n
      · simp (decide := true) only [armF, fX9_cut, fX7_cutOff, fX10_cut, f_noted, f_told, f_liv0 hk hn (Nat.le_refl _) h3 q2, f_isP1 hk hn, f_wt (show k < 120 by omega), hrP_1 hk, bn_s, bn2_s, nm_s, onul_n, onul_s, if_true, if_false, and_self, and_true, true_and, and_false, false_and, or_self, or_false, false_or, or_true, true_or, not_true_eq_false, not_false_eq_true, eq_self, ne_eq, i01, up2_same, up2_ne, upd_app, hk40, hr40_0, hw40_0, hr40_1, hw40_1, hr40_2, hw40_2, hr40_3, hr40_4, hw40_4, hr40_5, hr40_6, hr40_7, hr40_8, hr40_9, hw40_9, hr40_10, hw40_10, hr40_11, hr40_12, hr40_13, hw40_13, hr40_14, hw40_14, hr40_15, hr40_16, hr40_17, hr40_18, hr40_19, hr40_20, hw40_20, hr40_21, hw40_21, hr40_22, hw40_22, hr40_23, hw40_23, hr40_24, hr40_25, hw40_25, hr40_26, hw40_26, hr40_27, hw40_27, hr40_28, hr40_29, hr40_30, hr40_31, hr40_32, hr40_33, hr40_34, hw40_34, hr40_35, hw40_35, hr40_36, hr40_37, hr40_38, hr40_39, hr40_40, hw40_40, hr40_41, hr40_42, hr40_43, hl41, hs41, hl42, hs42, hl43, hs43, hl44, hs44, hl45, hs45, hl46, hs46, hl47, hs47, hl48, hs48, hl49, hs49, hl50, hs50, hl51, hs51, hl52, hs52, hl53, hs53, hl54, hs54, hl55, hs55, hl56, hs56, hl57, hs57, hl58, hs58, hl59, hs59, hl60, hs60, hl61, hs61, hl62, hs62, hl63, hs63, hl64, hs64, hl65, hs65, hw40_24, hk0, hr0_0, hr0_1, hr0_2, hr0_3, hr0_4, hr0_5, hr0_6, hr0_7, hr0_8, hw0_8, hr0_9, hw0_9, hk1, hr1_0, hr1_1, hr1_2, hr1_3, hw1_3, hr1_4, hw1_4, hl4, hs4, hl5, hs5, hl6, hs6, hk8, hr8_0, hw8_0, hr8_1, hw8_1, hr8_2, hw8_2, hk9, hr9_0, hr9_1, hr9_2, hk10, hr10_0, hr10_1, hw10_1, hr10_2, hw10_2, hr10_3, hw10_3, hr10_4, hw10_4, hl11, hs11, hl12, hs12, hl13, hs13, hk14, hr14_0, hr14_1, hr14_2, hr14_3, hr14_4, hw14_4, hk16, hr16_0, hw16_0, hr16_1, hw16_1, hr16_2, hw16_2, hr16_3, hw16_3, hr16_4, hw16_4, hk17, hr17_0, hw17_0, hr17_1, hw17_1, hr17_2, hw17_2, hr17_3, hw17_3, hr17_4, hw17_4, hk18, hr18_0, hw18_0, hr18_1, hw18_1, hr18_2, hw18_2, hr18_3, hw18_3, hr18_4, hw18_4, hl19, hs19, hl20, hs20, hl21, hs21, hk22, hr22_0, hr22_1, hr22_2, hr22_3, hr22_4, hw22_4, hr22_5, hr22_6, hr22_7, hr22_8, hw22_8, hl23, hs23, hl24, hs24, hl25, hs25, hl26, hs26, hl27, hs27, hl28, hs28, hl29, hs29, hk30, hr30_0, hw30_0, hr30_1, hw30_1, hr30_2, hr30_3, hr30_4, hr30_5, hl31, hs31, hl32, hs32, hl33, hs33, hl34, hs34, hk35, hr35_0, hw35_0, hr35_1, hw35_1, hr35_2, hr35_3, hr35_4, hr35_5, hl36, hs36, hl37, hs37, hl38, hs38, hl39, hs39, hw0_6, hw0_7, hl7, hs7, el_0, el_1, el_2, el_3, el_20, el_50, el_100, el_200, el_1000, el_10000, el_1000000, el_m1000000, el_100000000, er_0, er_1, er_2, er_3, er_20, er_50, er_100, er_200, er_1000, er_10000, er_1000000, er_m1000000, er_100000000, h4, q0, q1, hwt, y]
        exact ⟨_, _, _, _, _, _, rfl, ⟨rfl, s1.2⟩, Isk_of s2 rfl rfl rfl rfl rfl rfl rfl rfl rfl rfl rfl rfl, Igt_of s3 rfl rfl rfl rfl rfl rfl rfl rfl rfl rfl rfl rfl rfl rfl rfl rfl rfl rfl, Itp_of s4 rfl rfl rfl rfl, Ipl_of s5 (fun o h1 h2 => by repeat (rw [up2_ne (by omega)])) rfl rfl rfl, Ipc_of s6 rfl rfl rfl rfl rfl rfl rfl rfl rfl rfl rfl rfl rfl rfl (fun x => by repeat (rw [up2_ne (by omega)]))⟩
      · by_cases z : D 44 k ≤ 0
        · by_cases q5 : np = 120
          · have d1 : ¬ nI np < 120 := nnlt (K := 120) (by omega) (by omega)
            have d2 : nI np = 120 := by rw [q5]; rfl
            simp (decide := true) only [armF, fX9_cut, fX7_cutOff, fX10_cut, f_noted, f_told, f_liv0 hk hn (Nat.le_refl _) h3 q2, f_isP1 hk hn, f_wt (show k < 120 by omega), hrP_1 hk, hkP hk, f_cLeaf hk, f_mLeaf (show k < 120 by omega), bn_s, bn2_s, nm_s, onul_n, onul_s, if_true, if_false, and_self, and_true, true_and, and_false, false_and, or_self, or_false, false_or, or_true, true_or, not_true_eq_false, not_false_eq_true, eq_self, ne_eq, i01, up2_same, up2_ne, upd_app, hk40, hr40_0, hw40_0, hr40_1, hw40_1, hr40_2, hw40_2, hr40_3, hr40_4, hw40_4, hr40_5, hr40_6, hr40_7, hr40_8, hr40_9, hw40_9, hr40_10, hw40_10, hr40_11, hr40_12, hr40_13, hw40_13, hr40_14, hw40_14, hr40_15, hr40_16, hr40_17, hr40_18, hr40_19, hr40_20, hw40_20, hr40_21, hw40_21, hr40_22, hw40_22, hr40_23, hw40_23, hr40_24, hr40_25, hw40_25, hr40_26, hw40_26, hr40_27, hw40_27, hr40_28, hr40_29, hr40_30, hr40_31, hr40_32, hr40_33, hr40_34, hw40_34, hr40_35, hw40_35, hr40_36, hr40_37, hr40_38, hr40_39, hr40_40, hw40_40, hr40_41, hr40_42, hr40_43, hl41, hs41, hl42, hs42, hl43, hs43, hl44, hs44, hl45, hs45, hl46, hs46, hl47, hs47, hl48, hs48, hl49, hs49, hl50, hs50, hl51, hs51, hl52, hs52, hl53, hs53, hl54, hs54, hl55, hs55, hl56, hs56, hl57, hs57, hl58, hs58, hl59, hs59, hl60, hs60, hl61, hs61, hl62, hs62, hl63, hs63, hl64, hs64, hl65, hs65, hw40_24, hk0, hr0_0, hr0_1, hr0_2, hr0_3, hr0_4, hr0_5, hr0_6, hr0_7, hr0_8, hw0_8, hr0_9, hw0_9, hk1, hr1_0, hr1_1, hr1_2, hr1_3, hw1_3, hr1_4, hw1_4, hl4, hs4, hl5, hs5, hl6, hs6, hk8, hr8_0, hw8_0, hr8_1, hw8_1, hr8_2, hw8_2, hk9, hr9_0, hr9_1, hr9_2, hk10, hr10_0, hr10_1, hw10_1, hr10_2, hw10_2, hr10_3, hw10_3, hr10_4, hw10_4, hl11, hs11, hl12, hs12, hl13, hs13, hk14, hr14_0, hr14_1, hr14_2, hr14_3, hr14_4, hw14_4, hk16, hr16_0, hw16_0, hr16_1, hw16_1, hr16_2, hw16_2, hr16_3, hw16_3, hr16_4, hw16_4, hk17, hr17_0, hw17_0, hr17_1, hw17_1, hr17_2, hw17_2, hr17_3, hw17_3, hr17_4, hw17_4, hk18, hr18_0, hw18_0, hr18_1, hw18_1, hr18_2, hw18_2, hr18_3, hw18_3, hr18_4, hw18_4, hl19, hs19, hl20, hs20, hl21, hs21, hk22, hr22_0, hr22_1, hr22_2, hr22_3, hr22_4, hw22_4, hr22_5, hr22_6, hr22_7, hr22_8, hw22_8, hl23, hs23, hl24, hs24, hl25, hs25, hl26, hs26, hl27, hs27, hl28, hs28, hl29, hs29, hk30, hr30_0, hw30_0, hr30_1, hw30_1, hr30_2, hr30_3, hr30_4, hr30_5, hl31, hs31, hl32, hs32, hl33, hs33, hl34, hs34, hk35, hr35_0, hw35_0, hr35_1, hw35_1, hr35_2, hr35_3, hr35_4, hr35_5, hl36, hs36, hl37, hs37, hl38, hs38, hl39, hs39, hw0_6, hw0_7, hl7, hs7, el_0, el_1, el_2, el_3, el_20, el_50, el_100, el_200, el_1000, el_10000, el_1000000, el_m1000000, el_100000000, er_0, er_1, er_2, er_3, er_20, er_50, er_100, er_200, er_1000, er_10000, er_1000000, er_m1000000, er_100000000, h3, h4, q0, q1, hwt, y, w3, z, d1, d2]
            exact ⟨_, _, _, _, _, _, rfl, ⟨rfl, s1.2⟩, Isk_of s2 rfl rfl rfl rfl rfl rfl rfl rfl rfl rfl rfl rfl, Igt_of s3 rfl rfl rfl rfl rfl rfl rfl rfl rfl rfl rfl rfl rfl rfl rfl rfl rfl rfl, Itp_of s4 rfl rfl rfl rfl, Ipl_of s5 (fun o h1 h2 => by repeat (rw [up2_ne (by omega)])) rfl rfl rfl, Ipc_of s6 rfl rfl rfl rfl rfl rfl rfl rfl rfl rfl rfl rfl rfl rfl (fun x => by repeat (rw [up2_ne (by omega)]))⟩
          · have hA : ∀ i, i < 10 → D 43 (10 * k + i) = nI ((fun i => (D 43 (10 * k + i)).toNatClampNeg) i) := fun i _ => nI_cl (h8 _)
            have gk := g_le hnb h8 h9 (show k < 120 by omega)
            have hs : sI (fun i => (D 43 (10 * k + i)).toInt) 10 = (sN (fun i => (D 43 (10 * k + i)).toNatClampNeg) 10 : Int) := sI_N 10 (fun i _ => (cl_ti (h8 _)).symm)
            have hn0 : 0 ≤ n.toInt := by have := (le3 _ _).mp q0; have e : (1 : Int32).toInt = 1 := rfl; omega
            have hn1 : 1 ≤ n.toInt := by have := (le3 _ _).mp q0; have e : (1 : Int32).toInt = 1 := rfl; omega
            have en := nI_cl hn0
            have hci := cl_ti hn0
            rw [wS_N 10 hA, le3, nI_ti (by omega)] at y
            rw [en]
            refine cut_in hI' hk (by omega) q1 q2 z (W := sN (fun i => (D 43 (10 * k + i)).toNatClampNeg) 10) ⟨rfl, by omega, by omega, by omega, fun i hi => sN_mem (A := fun i => (D 43 (10 * k + i)).toNatClampNeg) 10 hi⟩
        · simp (decide := true) only [armF, fX9_cut, fX7_cutOff, fX10_cut, f_noted, f_told, f_liv0 hk hn (Nat.le_refl _) h3 q2, f_isP1 hk hn, f_wt (show k < 120 by omega), hrP_1 hk, hkP hk, f_cLeaf hk, f_mLeaf (show k < 120 by omega), bn_s, bn2_s, nm_s, onul_n, onul_s, if_true, if_false, and_self, and_true, true_and, and_false, false_and, or_self, or_false, false_or, or_true, true_or, not_true_eq_false, not_false_eq_true, eq_self, ne_eq, i01, up2_same, up2_ne, upd_app, hk40, hr40_0, hw40_0, hr40_1, hw40_1, hr40_2, hw40_2, hr40_3, hr40_4, hw40_4, hr40_5, hr40_6, hr40_7, hr40_8, hr40_9, hw40_9, hr40_10, hw40_10, hr40_11, hr40_12, hr40_13, hw40_13, hr40_14, hw40_14, hr40_15, hr40_16, hr40_17, hr40_18, hr40_19, hr40_20, hw40_20, hr40_21, hw40_21, hr40_22, hw40_22, hr40_23, hw40_23, hr40_24, hr40_25, hw40_25, hr40_26, hw40_26, hr40_27, hw40_27, hr40_28, hr40_29, hr40_30, hr40_31, hr40_32, hr40_33, hr40_34, hw40_34, hr40_35, hw40_35, hr40_36, hr40_37, hr40_38, hr40_39, hr40_40, hw40_40, hr40_41, hr40_42, hr40_43, hl41, hs41, hl42, hs42, hl43, hs43, hl44, hs44, hl45, hs45, hl46, hs46, hl47, hs47, hl48, hs48, hl49, hs49, hl50, hs50, hl51, hs51, hl52, hs52, hl53, hs53, hl54, hs54, hl55, hs55, hl56, hs56, hl57, hs57, hl58, hs58, hl59, hs59, hl60, hs60, hl61, hs61, hl62, hs62, hl63, hs63, hl64, hs64, hl65, hs65, hw40_24, hk0, hr0_0, hr0_1, hr0_2, hr0_3, hr0_4, hr0_5, hr0_6, hr0_7, hr0_8, hw0_8, hr0_9, hw0_9, hk1, hr1_0, hr1_1, hr1_2, hr1_3, hw1_3, hr1_4, hw1_4, hl4, hs4, hl5, hs5, hl6, hs6, hk8, hr8_0, hw8_0, hr8_1, hw8_1, hr8_2, hw8_2, hk9, hr9_0, hr9_1, hr9_2, hk10, hr10_0, hr10_1, hw10_1, hr10_2, hw10_2, hr10_3, hw10_3, hr10_4, hw10_4, hl11, hs11, hl12, hs12, hl13, hs13, hk14, hr14_0, hr14_1, hr14_2, hr14_3, hr14_4, hw14_4, hk16, hr16_0, hw16_0, hr16_1, hw16_1, hr16_2, hw16_2, hr16_3, hw16_3, hr16_4, hw16_4, hk17, hr17_0, hw17_0, hr17_1, hw17_1, hr17_2, hw17_2, hr17_3, hw17_3, hr17_4, hw17_4, hk18, hr18_0, hw18_0, hr18_1, hw18_1, hr18_2, hw18_2, hr18_3, hw18_3, hr18_4, hw18_4, hl19, hs19, hl20, hs20, hl21, hs21, hk22, hr22_0, hr22_1, hr22_2, hr22_3, hr22_4, hw22_4, hr22_5, hr22_6, hr22_7, hr22_8, hw22_8, hl23, hs23, hl24, hs24, hl25, hs25, hl26, hs26, hl27, hs27, hl28, hs28, hl29, hs29, hk30, hr30_0, hw30_0, hr30_1, hw30_1, hr30_2, hr30_3, hr30_4, hr30_5, hl31, hs31, hl32, hs32, hl33, hs33, hl34, hs34, hk35, hr35_0, hw35_0, hr35_1, hw35_1, hr35_2, hr35_3, hr35_4, hr35_5, hl36, hs36, hl37, hs37, hl38, hs38, hl39, hs39, hw0_6, hw0_7, hl7, hs7, el_0, el_1, el_2, el_3, el_20, el_50, el_100, el_200, el_1000, el_10000, el_1000000, el_m1000000, el_100000000, er_0, er_1, er_2, er_3, er_20, er_50, er_100, er_200, er_1000, er_10000, er_1000000, er_m1000000, er_100000000, h4, q0, q1, hwt, y, w3, z]
          exact ⟨_, _, _, _, _, _, rfl, ⟨rfl, s1.2⟩, Isk_of s2 rfl rfl rfl rfl rfl rfl rfl rfl rfl rfl rfl rfl, Igt_of s3 rfl rfl rfl rfl rfl rfl rfl rfl rfl rfl rfl rfl rfl rfl rfl rfl rfl rfl, Itp_of s4 rfl rfl rfl rfl, Ipl_of s5 (fun o h1 h2 => by repeat (rw [up2_ne (by omega)])) rfl rfl rfl, Ipc_of s6 rfl rfl rfl rfl rfl rfl rfl rfl rfl rfl rfl rfl rfl rfl (fun x => by repeat (rw [up2_ne (by omega)]))⟩
  · simp (decide := true) only [armF, fX9_cut, fX7_cutOff, fX10_cut, f_noted, f_told, bn_s, bn2_s, nm_s, onul_n, onul_s, if_true, if_false, and_self, and_true, true_and, and_false, false_and, or_self, or_false, false_or, or_true, true_or, not_true_eq_false, not_false_eq_true, eq_self, ne_eq, i01, up2_same, up2_ne, upd_app, hk40, hr40_0, hw40_0, hr40_1, hw40_1, hr40_2, hw40_2, hr40_3, hr40_4, hw40_4, hr40_5, hr40_6, hr40_7, hr40_8, hr40_9, hw40_9, hr40_10, hw40_10, hr40_11, hr40_12, hr40_13, hw40_13, hr40_14, hw40_14, hr40_15, hr40_16, hr40_17, hr40_18, hr40_19, hr40_20, hw40_20, hr40_21, hw40_21, hr40_22, hw40_22, hr40_23, hw40_23, hr40_24, hr40_25, hw40_25, hr40_26, hw40_26, hr40_27, hw40_27, hr40_28, hr40_29, hr40_30, hr40_31, hr40_32, hr40_33, hr40_34, hw40_34, hr40_35, hw40_35, hr40_36, hr40_37, hr40_38, hr40_39, hr40_40, hw40_40, hr40_41, hr40_42, hr40_43, hl41, hs41, hl42, hs42, hl43, hs43, hl44, hs44, hl45, hs45, hl46, hs46, hl47, hs47, hl48, hs48, hl49, hs49, hl50, hs50, hl51, hs51, hl52, hs52, hl53, hs53, hl54, hs54, hl55, hs55, hl56, hs56, hl57, hs57, hl58, hs58, hl59, hs59, hl60, hs60, hl61, hs61, hl62, hs62, hl63, hs63, hl64, hs64, hl65, hs65, hw40_24, hk0, hr0_0, hr0_1, hr0_2, hr0_3, hr0_4, hr0_5, hr0_6, hr0_7, hr0_8, hw0_8, hr0_9, hw0_9, hk1, hr1_0, hr1_1, hr1_2, hr1_3, hw1_3, hr1_4, hw1_4, hl4, hs4, hl5, hs5, hl6, hs6, hk8, hr8_0, hw8_0, hr8_1, hw8_1, hr8_2, hw8_2, hk9, hr9_0, hr9_1, hr9_2, hk10, hr10_0, hr10_1, hw10_1, hr10_2, hw10_2, hr10_3, hw10_3, hr10_4, hw10_4, hl11, hs11, hl12, hs12, hl13, hs13, hk14, hr14_0, hr14_1, hr14_2, hr14_3, hr14_4, hw14_4, hk16, hr16_0, hw16_0, hr16_1, hw16_1, hr16_2, hw16_2, hr16_3, hw16_3, hr16_4, hw16_4, hk17, hr17_0, hw17_0, hr17_1, hw17_1, hr17_2, hw17_2, hr17_3, hw17_3, hr17_4, hw17_4, hk18, hr18_0, hw18_0, hr18_1, hw18_1, hr18_2, hw18_2, hr18_3, hw18_3, hr18_4, hw18_4, hl19, hs19, hl20, hs20, hl21, hs21, hk22, hr22_0, hr22_1, hr22_2, hr22_3, hr22_4, hw22_4, hr22_5, hr22_6, hr22_7, hr22_8, hw22_8, hl23, hs23, hl24, hs24, hl25, hs25, hl26, hs26, hl27, hs27, hl28, hs28, hl29, hs29, hk30, hr30_0, hw30_0, hr30_1, hw30_1, hr30_2, hr30_3, hr30_4, hr30_5, hl31, hs31, hl32, hs32, hl33, hs33, hl34, hs34, hk35, hr35_0, hw35_0, hr35_1, hw35_1, hr35_2, hr35_3, hr35_4, hr35_5, hl36, hs36, hl37, hs37, hl38, hs38, hl39, hs39, hw0_6, hw0_7, hl7, hs7, el_0, el_1, el_2, el_3, el_20, el_50, el_100, el_200, el_1000, el_10000, el_1000000, el_m1000000, el_100000000, er_0, er_1, er_2, er_3, er_20, er_50, er_100, er_200, er_1000, er_10000, er_1000000, er_m1000000, er_100000000, q0]
    exact ⟨_, _, _, _, _, _, rfl, ⟨rfl, s1.2⟩, Isk_of s2 rfl rfl rfl rfl rfl rfl rfl rfl rfl rfl rfl rfl, Igt_of s3 rfl rfl rfl rfl rfl rfl rfl rfl rfl rfl rfl rfl rfl rfl rfl rfl rfl rfl, Itp_of s4 rfl rfl rfl rfl, Ipl_of s5 (fun o h1 h2 => by repeat (rw [up2_ne (by omega)])) rfl rfl rfl, Ipc_of s6 rfl rfl rfl rfl rfl rfl rfl rfl rfl rfl rfl rfl rfl rfl (fun x => by repeat (rw [up2_ne (by omega)]))⟩
end
