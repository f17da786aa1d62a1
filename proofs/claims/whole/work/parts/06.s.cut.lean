/-! cutting: shares, rests, and what each bar gives -/
def shC (A : Nat → Nat) (N W i : Nat) : Nat := A i * N / W
def rsC (A : Nat → Nat) (N W i : Nat) : Nat := A i * N % W
def ltC (A : Nat → Nat) (N W : Nat) : Nat := N - sN (shC A N W) 10
def fzC (A : Nat → Nat) (N W j : Nat) : Nat := shC A N W j + if ah (rsC A N W) j < ltC A N W then 1 else 0
def shR (A : Nat → Nat) (N W i : Nat) : Nat → Int32 := fun j => if j < i then nI (shC A N W j) else 0
def shT (T : Nat → Int64) (A : Nat → Nat) (N W i : Nat) : Nat → Int64 := fun j => if j < i then lN (rsC A N W j) else T j
def frR (A : Nat → Nat) (N W t : Nat) : Nat → Int32 := fun j => if j < 10 then nI (shC A N W j + if ah (rsC A N W) j < t then 1 else 0) else 0
def frT (T : Nat → Int64) (A : Nat → Nat) (N W t : Nat) : Nat → Int64 := fun j => if j < 10 then lN (rsT (rsC A N W) t j) else T j
def nwR (g : Nat → Int32) (q : Nat) (A : Nat → Nat) (N W i : Nat) : Nat → Int32 := fun x => if 10 * q ≤ x ∧ x < 10 * q + i then nI (fzC A N W (x - 10 * q)) else g x
def sbR (g : Nat → Int32) (k q i : Nat) : Nat → Int32 := fun x => if 10 * k ≤ x ∧ x < 10 * k + i then g x - g (x - 10 * k + 10 * q) else g x
def sbA (A B : Nat → Int32) (i : Nat) : Nat → Int32 := fun j => if j < i then A j - B j else A j
/-- the numbers of a cut: A's sum is W, N below W, all small -/
def CutN (A : Nat → Nat) (N W : Nat) : Prop := sN A 10 = W ∧ 1 ≤ N ∧ N < W ∧ W ≤ 10000000 ∧ ∀ i, i < 10 → A i ≤ W
theorem cut_P {A : Nat → Nat} {N W i : Nat} (h : CutN A N W) (hi : i < 10) : A i * N < 2 ^ 62 := by
  obtain ⟨h1, h2, h3, h4, h5⟩ := h
  have := Nat.mul_le_mul (show A i ≤ 10000000 from Nat.le_trans (h5 i hi) h4) (show N ≤ 10000000 by omega)
  omega
theorem cut_sh {A : Nat → Nat} {N W i : Nat} (h : CutN A N W) (hi : i < 10) : shC A N W i ≤ A i ∧ (0 < rsC A N W i → shC A N W i + 1 ≤ A i) := by
  obtain ⟨h1, h2, h3, h4, h5⟩ := h
  unfold shC rsC
  have hd := Nat.div_add_mod (A i * N) W
  have hm := Nat.mod_lt (A i * N) (show 0 < W by omega)
  generalize A i * N / W = s at *
  generalize A i * N % W = r at *
  have hle : A i * N ≤ A i * W := Nat.mul_le_mul_left _ (by omega)
  have h6 : s ≤ A i := by
    exact Nat.le_of_mul_le_mul_left (show W * s ≤ W * A i by rw [Nat.mul_comm W (A i)]; omega) (show 0 < W by omega)
  refine ⟨h6, fun hr => ?_⟩
  apply Classical.byContradiction
  intro hno
  have e : s = A i := by omega
  rw [e, Nat.mul_comm W (A i)] at hd
  omega
theorem cut_L {A : Nat → Nat} {N W : Nat} (h : CutN A N W) : sN (shC A N W) 10 ≤ N ∧ sN (rsC A N W) 10 = ltC A N W * W ∧ (∀ o, o < 10 → rsC A N W o < W) ∧ ltC A N W < 10 := by
  obtain ⟨h1, h2, h3, h4, h5⟩ := h
  have hs := shares (A := A) (N := N) (W := W) (by omega) h1
  have hr : ∀ o, o < 10 → rsC A N W o < W := fun o _ => Nat.mod_lt _ (by omega)
  exact ⟨hs.1, hs.2, hr, rest_L (by omega) hr hs.2⟩
theorem cut_fz {A : Nat → Nat} {N W i : Nat} (h : CutN A N W) (hi : i < 10) : fzC A N W i ≤ A i := by
  obtain ⟨g1, g2, g3, g4⟩ := cut_L h
  have hs := cut_sh h hi
  unfold fzC
  split
  · rename_i q
    exact hs.2 (rest_pos (by have := h.2.2; omega) g3 g2 q)
  · exact hs.1
theorem cut_sum {A : Nat → Nat} {N W : Nat} (h : CutN A N W) : sN (fzC A N W) 10 = N := by
  obtain ⟨g1, g2, g3, g4⟩ := cut_L h
  have e : sN (fzC A N W) 10 = sN (fun i => shC A N W i + (if decide (ah (rsC A N W) i < ltC A N W) = true then 1 else 0)) 10 := sN_congr 10 (fun i _ => by
    unfold fzC
    by_cases q : ah (rsC A N W) i < ltC A N W
    · rw [if_pos q, if_pos (decide_eq_true q)]
    · rw [if_neg q, if_neg (by rw [decide_eq_false q]; decide)])
  rw [e, sN_add (shC A N W), sN_cN (fun i => decide (ah (rsC A N W) i < ltC A N W)), S_card (by have := h.2.2; omega) g3 g2 _ (Nat.le_refl _)]
  unfold ltC
  omega
theorem cut_small {A : Nat → Nat} {N W i : Nat} (h : CutN A N W) (hi : i ≤ 10) : sN (shC A N W) i ≤ N := by
  have := sN_mono (f := shC A N W) (i := i) (10 - i)
  rw [show i + (10 - i) = 10 by omega] at this
  have := (cut_L h).1
  omega
section
variable {b : Nat} {D : Nat → Nat → Int32} {w : Int64} {T : Nat → Int64} {pa dr np mk : Nat}
theorem lp_gw {k q N W : Nat} {A : Nat → Nat} (hk : k < mk) (hq : q < mk) (hkq : k ≠ q) (hc : CutN A N W) (hA : ∀ i, i < 10 → D (66 + 2 * k + 1) i = nI (A i)) : ∀ (n m i : Nat), i + n = 10 → n < m → fX7_giveWholeShares_17 m (b + 1) (b + 66 + 2 * k) (b + 66 + 2 * q) (nI N) (nI (sN (shC A N W) i)) (lN W) (nI i) (HH b (upR D (66 + 2 * q + 1) (shR A N W i)) w (shT T A N W i) pa dr np mk) = some (nI (sN (shC A N W) 10), HH b (upR D (66 + 2 * q + 1) (shR A N W 10)) w (shT T A N W 10) pa dr np mk) := by
  have e3 : ∀ f, upR D (66 + 2 * q + 1) f (66 + 2 * k + 1) = D (66 + 2 * k + 1) := fun f => upR_ne (by omega)
  intro n
  induction n with
  | zero =>
    intro m i hi hm
    obtain ⟨m, rfl⟩ : ∃ m', m = m' + 1 := ⟨m - 1, by omega⟩
    have e : i = 10 := by omega
    subst e
    have c1 : (10 : Int32) ≤ nI 10 := nI_le (a := 10) (Nat.le_refl _) (by omega)
    simp (decide := true) only [fX7_giveWholeShares_17, c1, if_true]
  | succ n ih =>
    intro m i hi hm
    obtain ⟨m, rfl⟩ : ∃ m', m = m' + 1 := ⟨m - 1, by omega⟩
    obtain ⟨k1, k2, k3, k4, k5⟩ := id hc
    have c1 : ¬ (10 : Int32) ≤ nI i := nI_ge (b := 10) (by omega) (by omega)
    have c3 : ¬ nI i < 0 := nI_pos (by omega)
    have c4 : (nI i).toNatClampNeg = i := nI_clamp (by omega)
    have c5 : ¬ 10 ≤ i := by omega
    have ih := ih m (i + 1) (by omega) (by omega)
    have hp := cut_P hc (show i < 10 by omega)
    have hai := k5 i (by omega)
    have x6 : (nI (A i)).toInt64 * (nI N).toInt64 = lN (A i * N) := by rw [nI_l (by omega), nI_l (by omega), lN_mul]
    have x0 : ¬ lN W = 0 := fun z => by have := (pk_lEQ (a := W) (b := 0) (by omega) (by omega)).mp z; omega
    have x7 : (lN (A i * N) / lN W).toInt32 = nI (shC A N W i) := by rw [pk_lDiv (by omega) (by omega) (by omega), lN_i]; rfl
    have x8 : lN (A i * N) - lN (A i * N) / lN W * lN W = lN (rsC A N W i) := by rw [pk_lRem (by omega) (by omega) (by omega)]; rfl
    have g1 : D (66 + 2 * k + 1) i = nI (A i) := hA i (by omega)
    have g2 : upd (shR A N W i) i (nI (shC A N W i)) = shR A N W (i + 1) := by
      funext j
      rw [upd_app]
      unfold shR
      by_cases z : j = i
      · rw [if_pos z, if_pos (by omega), z]
      · rw [if_neg z]
        by_cases z2 : j < i
        · rw [if_pos z2, if_pos (by omega)]
        · rw [if_neg z2, if_neg (by omega)]
    have g3 : vp_updL (shT T A N W i) i (lN (rsC A N W i)) = shT T A N W (i + 1) := by
      funext j
      unfold vp_updL shT
      by_cases z : j = i
      · rw [if_pos z, if_pos (by omega), z]
      · rw [if_neg z]
        by_cases z2 : j < i
        · rw [if_pos z2, if_pos (by omega)]
        · rw [if_neg z2, if_neg (by omega)]
    have g4 : shR A N W (i + 1) i = nI (shC A N W i) := if_pos (by omega)
    have g5 : nI (sN (shC A N W) i) + nI (shC A N W i) = nI (sN (shC A N W) (i + 1)) := nI_add _ _
    simp (decide := true) only [fX7_giveWholeShares_17, bn_s, nm_s, or_self, if_false, hrP_0 hk, hrP_0 hq, hlP hk, hlP hq, hsP hq, hr1_2, hs7, c1, c3, c4, c5, e3, g1, x6, x0, x7, x8, upd_1, g2, g3, upR_same, g4, g5, nI_1, ih]
theorem c_gr {r : Nat → Nat} (hr : ∀ j, j < 10 → r j < 2 ^ 62) : fX7_greatestRest (b + 1) (HH b D w (fun j => if j < 10 then lN (r j) else T j) pa dr np mk) = some (nI (am r 10), HH b D w (fun j => if j < 10 then lN (r j) else T j) pa dr np mk) := by
  have key : ∀ (n m i : Nat), i + 1 + n = 10 → n < m → fX7_greatestRest_4 m (b + 1) (nI (am r (i + 1))) (nI (i + 1)) (HH b D w (fun j => if j < 10 then lN (r j) else T j) pa dr np mk) = some (nI (am r 10), HH b D w (fun j => if j < 10 then lN (r j) else T j) pa dr np mk) := by
    intro n
    induction n with
    | zero =>
      intro m i hi hm
      obtain ⟨m, rfl⟩ : ∃ m', m = m' + 1 := ⟨m - 1, by omega⟩
      have e : i = 9 := by omega
      subst e
      have c1 : (10 : Int32) ≤ nI (9 + 1) := nI_le (a := 10) (Nat.le_refl _) (by omega)
      simp (decide := true) only [fX7_greatestRest_4, c1, if_true]
    | succ n ih =>
      intro m i hi hm
      obtain ⟨m, rfl⟩ : ∃ m', m = m' + 1 := ⟨m - 1, by omega⟩
      have ha := am_lt (r := r) i
      have c1 : ¬ (10 : Int32) ≤ nI (i + 1) := nI_ge (b := 10) (by omega) (by omega)
      have c3 : ¬ nI (i + 1) < 0 := nI_pos (by omega)
      have c4 : (nI (i + 1)).toNatClampNeg = i + 1 := nI_clamp (by omega)
      have c5 : ¬ 10 ≤ i + 1 := by omega
      have c6 : i + 1 < 10 := by omega
      have d3 : ¬ nI (am r (i + 1)) < 0 := nI_pos (by omega)
      have d4 : (nI (am r (i + 1))).toNatClampNeg = am r (i + 1) := nI_clamp (by omega)
      have d5 : ¬ 10 ≤ am r (i + 1) := by omega
      have d6 : am r (i + 1) < 10 := by omega
      have ih := ih m (i + 1) (by omega) (by omega)
      have es : am r (i + 1 + 1) = if r (i + 1) ≤ r (am r (i + 1)) then am r (i + 1) else i + 1 := rfl
      have hx := pk_lLE (a := r (i + 1)) (b := r (am r (i + 1))) (by have := hr (i + 1) (by omega); omega) (by have := hr (am r (i + 1)) (by omega); omega)
      by_cases z : r (i + 1) ≤ r (am r (i + 1))
      · have z2 := hx.mpr z
        rw [es, if_pos z] at ih
        simp (decide := true) only [fX7_greatestRest_4, fX7_greatestRest_28, bn_s, or_self, if_false, if_true, hr1_2, hl7, c1, c3, c4, c5, c6, d3, d4, d5, d6, z2, nI_1, ih]
      · have z2 : ¬ lN (r (i + 1)) ≤ lN (r (am r (i + 1))) := fun y => z (hx.mp y)
        rw [es, if_neg z] at ih
        simp (decide := true) only [fX7_greatestRest_4, fX7_greatestRest_28, bn_s, or_self, if_false, if_true, hr1_2, hl7, c1, c3, c4, c5, c6, d3, d4, d5, d6, z2, nI_1, ih]
  have := key 9 FU 0 (by omega) (by unfold FU; omega)
  have e : am r (0 + 1) = 0 := by
    show (if r 0 ≤ r 0 then 0 else 0) = 0
    split <;> rfl
  rw [e, nI_0] at this
  exact this
theorem lp_gr {q N W : Nat} {A : Nat → Nat} (hq : q < mk) (hc : CutN A N W) : ∀ (n m t : Nat), t + n = ltC A N W → n < m → fX7_giveRests_2 m (b + 1) (b + 66 + 2 * q) (nI (ltC A N W)) (nI t) (HH b (upR D (66 + 2 * q + 1) (frR A N W t)) w (frT T A N W t) pa dr np mk) = some ((), HH b (upR D (66 + 2 * q + 1) (frR A N W (ltC A N W))) w (frT T A N W (ltC A N W)) pa dr np mk) := by
  obtain ⟨k1, k2, k3, k4, k5⟩ := id hc
  obtain ⟨l1, l2, l3, l4⟩ := cut_L hc
  intro n
  induction n with
  | zero =>
    intro m t ht hm
    obtain ⟨m, rfl⟩ : ∃ m', m = m' + 1 := ⟨m - 1, by omega⟩
    have e : t = ltC A N W := by omega
    subst e
    have c1 : nI (ltC A N W) ≤ nI (ltC A N W) := nI_le (Nat.le_refl _) (by omega)
    simp (decide := true) only [fX7_giveRests_2, c1, if_true]
  | succ n ih =>
    intro m t ht hm
    obtain ⟨m, rfl⟩ : ∃ m', m = m' + 1 := ⟨m - 1, by omega⟩
    have c1 : ¬ nI (ltC A N W) ≤ nI t := nI_ge (by omega) (by omega)
    have c2 : ¬ (10 : Int32) ≤ nI t := nI_ge (b := 10) (by omega) (by omega)
    have ih := ih m (t + 1) (by omega) (by omega)
    have gr := c_gr (b := b) (D := upR D (66 + 2 * q + 1) (frR A N W t)) (w := w) (T := T) (pa := pa) (dr := dr) (np := np) (mk := mk) (r := rsT (rsC A N W) t) (fun j hj => by
      have := l3 j hj
      unfold rsT
      split <;> omega)
    have gr : fX7_greatestRest (b + 1) (HH b (upR D (66 + 2 * q + 1) (frR A N W t)) w (frT T A N W t) pa dr np mk) = some (nI (am (rsT (rsC A N W) t) 10), HH b (upR D (66 + 2 * q + 1) (frR A N W t)) w (frT T A N W t) pa dr np mk) := gr
    obtain ⟨p1, p2⟩ := pick_eq (by omega) l3 l2 (show t < ltC A N W by omega) (S_card (by omega) l3 l2 t (by omega))
    generalize am (rsT (rsC A N W) t) 10 = g at p1 p2 gr
    have c3 : ¬ nI g < 0 := nI_pos (by omega)
    have c4 : (nI g).toNatClampNeg = g := nI_clamp (by omega)
    have c5 : ¬ 10 ≤ g := by omega
    have g1 : frR A N W t g = nI (shC A N W g) := by
      unfold frR
      rw [if_pos p1, if_neg (by omega), Nat.add_zero]
    have g2 : upd (frR A N W t) g (nI (shC A N W g + 1)) = frR A N W (t + 1) := by
      funext j
      rw [upd_app]
      unfold frR
      by_cases z : j = g
      · subst z
        rw [if_pos rfl, if_pos p1, if_pos (by omega)]
      · rw [if_neg z]
        by_cases z2 : j < 10
        · rw [if_pos z2, if_pos z2]
          have : ah (rsC A N W) j ≠ t := fun y => z (ah_inj z2 p1 (y.trans p2.symm))
          by_cases z3 : ah (rsC A N W) j < t
          · rw [if_pos z3, if_pos (by omega)]
          · rw [if_neg z3, if_neg (by omega)]
        · rw [if_neg z2, if_neg z2]
    have g3 : vp_updL (frT T A N W t) g 0 = frT T A N W (t + 1) := by
      funext j
      unfold vp_updL frT
      by_cases z2 : j < 10
      · rw [if_pos z2, if_pos z2, rsT_step p1 p2 z2]
        by_cases z : j = g
        · rw [if_pos z, if_pos z]
          rfl
        · rw [if_neg z, if_neg z]
      · rw [if_neg z2, if_neg z2, if_neg (by omega)]
    simp (decide := true) only [fX7_giveRests_2, bn_s, bn2_s, or_self, if_false, hk1, hr1_2, hrP_0 hq, hlP hq, hsP hq, hs7, c1, c2, c3, c4, c5, gr, upR_same, g1, upd_1, g2, g3, nI_1, ih]
theorem lp_co {k N : Nat} (hn : np < 120) (hk : k < np) (hm : np < mk) (h3 : D 1 4 = nI np) : ∀ (n m i : Nat), i + n = 10 → n < m → fX7_cutOff_78 m (b + 1) (nI N) (b + 66 + 2 * k) (b + 66 + 2 * np) (nI i) (HH b (upR D (66 + 2 * k + 1) (sbA (D (66 + 2 * k + 1)) (D (66 + 2 * np + 1)) i)) w T pa dr np mk) = some (nI np, HH b (up2 (up2 (up2 (upR D (66 + 2 * k + 1) (sbA (D (66 + 2 * k + 1)) (D (66 + 2 * np + 1)) 10)) (66 + 2 * np) 1 (nI N)) (66 + 2 * k) 1 (D (66 + 2 * k) 1 - nI N)) 1 4 (nI (np + 1))) w T pa dr (np + 1) mk) := by
  have hkm : k < mk := by omega
  have e1 : ∀ f, upR D (66 + 2 * k + 1) f (66 + 2 * k) = D (66 + 2 * k) := fun f => upR_ne (by omega)
  have e3 : ∀ f, upR D (66 + 2 * k + 1) f (66 + 2 * np + 1) = D (66 + 2 * np + 1) := fun f => upR_ne (by omega)
  have e4 : ∀ (E : Nat → Nat → Int32) v, up2 E (66 + 2 * np) 1 v (66 + 2 * k) = E (66 + 2 * k) := fun E v => up2_ne (by omega)
  intro n
  induction n with
  | zero =>
    intro m i hi hm
    obtain ⟨m, rfl⟩ : ∃ m', m = m' + 1 := ⟨m - 1, by omega⟩
    have e : i = 10 := by omega
    subst e
    have c1 : (10 : Int32) ≤ nI 10 := nI_le (a := 10) (Nat.le_refl _) (by omega)
    have ca := c_addP (b := b) (D := up2 (up2 (upR D (66 + 2 * k + 1) (sbA (D (66 + 2 * k + 1)) (D (66 + 2 * np + 1)) 10)) (66 + 2 * np) 1 (nI N)) (66 + 2 * k) 1 (D (66 + 2 * k) 1 - nI N)) (w := w) (T := T) (pa := pa) (dr := dr) (mk := mk) hn (by omega) (by rw [up2_ne (by omega), up2_ne (by omega), upR_ne (by omega), h3])
    simp (decide := true) only [fX7_cutOff_78, bn_s, bn2_s, c1, if_true, hk1, hrP_1 hkm, hwP_1 hkm, hwP_1 (show np < mk by omega), e1, e4, ca]
  | succ n ih =>
    intro m i hi hmm
    obtain ⟨m, rfl⟩ : ∃ m', m = m' + 1 := ⟨m - 1, by omega⟩
    have c1 : ¬ (10 : Int32) ≤ nI i := nI_ge (b := 10) (by omega) (by omega)
    have c3 : ¬ nI i < 0 := nI_pos (by omega)
    have c4 : (nI i).toNatClampNeg = i := nI_clamp (by omega)
    have c5 : ¬ 10 ≤ i := by omega
    have ih := ih m (i + 1) (by omega) (by omega)
    have g1 : sbA (D (66 + 2 * k + 1)) (D (66 + 2 * np + 1)) i i = D (66 + 2 * k + 1) i := if_neg (by omega)
    have g2 : upd (sbA (D (66 + 2 * k + 1)) (D (66 + 2 * np + 1)) i) i (D (66 + 2 * k + 1) i - D (66 + 2 * np + 1) i) = sbA (D (66 + 2 * k + 1)) (D (66 + 2 * np + 1)) (i + 1) := by
      funext j
      rw [upd_app]
      unfold sbA
      by_cases z : j = i
      · subst z
        rw [if_pos rfl, if_pos (by omega)]
      · rw [if_neg z]
        by_cases z2 : j < i
        · rw [if_pos z2, if_pos (by omega)]
        · rw [if_neg z2, if_neg (by omega)]
    simp (decide := true) only [fX7_cutOff_78, bn_s, bn2_s, or_self, if_false, hrP_0 hkm, hrP_0 (show np < mk by omega), hlP hkm, hlP (show np < mk by omega), hsP hkm, c1, c3, c4, c5, upR_same, e3, g1, upd_1, g2, nI_1, ih]
/-! the reference's -/
theorem lp_c92 {k q N W : Nat} {A : Nat → Nat} (hk : k < 120) (hc : CutN A N W) (hA : ∀ i, i < 10 → D 43 (10 * k + i) = nI (A i)) : ∀ (n m i : Nat), i + n = 10 → n < m → fX10_cut_92 m (b + 40) (nI k) (nI N) (nI W) (nI q) (lN (N - sN (shC A N W) i)) (nI i) (HH b D w T pa dr np mk) = fX10_cut_132 FU (b + 40) (nI k) (nI N) (nI W) (nI q) (lN (ltC A N W)) 0 (HH b D w T pa dr np mk) := by
  intro n
  induction n with
  | zero =>
    intro m i hi hm
    obtain ⟨m, rfl⟩ : ∃ m', m = m' + 1 := ⟨m - 1, by omega⟩
    have e : i = 10 := by omega
    subst e
    have c1 : (10 : Int32) ≤ nI 10 := nI_le (a := 10) (Nat.le_refl _) (by omega)
    rw [fX10_cut_92, if_pos c1]
    rfl
  | succ n ih =>
    intro m i hi hm
    obtain ⟨m, rfl⟩ : ∃ m', m = m' + 1 := ⟨m - 1, by omega⟩
    obtain ⟨k1, k2, k3, k4, k5⟩ := id hc
    have c1 : ¬ (10 : Int32) ≤ nI i := nI_ge (b := 10) (by omega) (by omega)
    have c3 : ¬ nI (10 * k + i) < 0 := nI_pos (by omega)
    have c4 : (nI (10 * k + i)).toNatClampNeg = 10 * k + i := nI_clamp (by omega)
    have c5 : ¬ 1200 ≤ 10 * k + i := by omega
    have ih := ih m (i + 1) (by omega) (by omega)
    have hp := cut_P hc (show i < 10 by omega)
    have hai := k5 i (by omega)
    have x6 : (nI (A i)).toInt64 * (nI N).toInt64 = lN (A i * N) := by rw [nI_l (by omega), nI_l (by omega), lN_mul]
    have x5 : (nI W).toInt64 = lN W := nI_l (by omega)
    have x0 : ¬ lN W = 0 := fun z => by have := (pk_lEQ (a := W) (b := 0) (by omega) (by omega)).mp z; omega
    have x7 : lN (A i * N) / lN W = lN (shC A N W i) := by rw [pk_lDiv (by omega) (by omega) (by omega)]; rfl
    have hsm := cut_small hc (show i + 1 ≤ 10 by omega)
    have es : sN (shC A N W) (i + 1) = sN (shC A N W) i + shC A N W i := rfl
    have x8 : lN (N - sN (shC A N W) i) - lN (shC A N W i) = lN (N - sN (shC A N W) (i + 1)) := by rw [lN_sub (by omega), es, Nat.sub_sub]
    have g1 := hA i (by omega)
    simp (decide := true) only [fX10_cut_92, bn_s, nm_s, or_self, if_false, hr40_6, hl43, pm10, c1, c3, c4, c5, g1, x6, x5, x0, x7, x8, nI_1, ih]
theorem lp_c163 {k q N W j : Nat} {A : Nat → Nat} (r132 : Nat → Int32 → Int32 → Int32 → Int32 → Int64 → Int32 → PH → Option (Int32 × PH)) (hk : k < 120) (hj : j < 10) (hq : q < 120) (hc : CutN A N W) (hA : ∀ i, i < 10 → D 43 (10 * k + i) = nI (A i)) : ∀ (n m i : Nat), i + n = 10 → n < m → fX10_cut_163 r132 m (b + 40) (nI k) (nI N) (nI W) (nI q) (lN (ltC A N W)) (nI j) (lN (A j * N)) (nI (cN (fun o => decide (bf (rsC A N W) o j)) i)) (nI i) (HH b D w T pa dr np mk) = fX10_cut_271 r132 (b + 40) (nI k) (nI N) (nI W) (nI q) (lN (ltC A N W)) (nI j) (if ah (rsC A N W) j < ltC A N W then 1 else 0) (nI (shC A N W j)) (nI (10 * q + j)) (b + 43) (HH b D w T pa dr np mk) := by
  obtain ⟨k1, k2, k3, k4, k5⟩ := id hc
  obtain ⟨l1, l2, l3, l4⟩ := cut_L hc
  have hpj := cut_P hc hj
  have x5 : (nI W).toInt64 = lN W := nI_l (by omega)
  have x0 : ¬ lN W = 0 := fun z => by have := (pk_lEQ (a := W) (b := 0) (by omega) (by omega)).mp z; omega
  have y7 : (lN (A j * N) / lN W).toInt32 = nI (shC A N W j) := by rw [pk_lDiv (by omega) (by omega) (by omega), lN_i]; rfl
  have y8 : lN (A j * N) - lN (A j * N) / lN W * lN W = lN (rsC A N W j) := by rw [pk_lRem (by omega) (by omega) (by omega)]; rfl
  intro n
  induction n with
  | zero =>
    intro m i hi hm
    obtain ⟨m, rfl⟩ : ∃ m', m = m' + 1 := ⟨m - 1, by omega⟩
    have e : i = 10 := by omega
    subst e
    have c1 : (10 : Int32) ≤ nI 10 := nI_le (a := 10) (Nat.le_refl _) (by omega)
    have hcn := cN_le (f := fun o => decide (bf (rsC A N W) o j)) 10
    have y1 : (nI (cN (fun o => decide (bf (rsC A N W) o j)) 10)).toInt64 = lN (ah (rsC A N W) j) := nI_l (by omega)
    have hx := pk_lLE (a := ltC A N W) (b := ah (rsC A N W) j) (by omega) (by unfold ah; omega)
    by_cases z : ah (rsC A N W) j < ltC A N W
    · have z2 : ¬ lN (ltC A N W) ≤ lN (ah (rsC A N W) j) := fun y => by have := hx.mp y; omega
      rw [if_pos z]
      simp (decide := true) only [fX10_cut_163, bn_s, c1, if_true, if_false, hr40_6, x5, x0, y1, z2, y7, pm10]
    · have z2 : lN (ltC A N W) ≤ lN (ah (rsC A N W) j) := hx.mpr (by omega)
      rw [if_neg z]
      simp (decide := true) only [fX10_cut_163, bn_s, c1, if_true, if_false, hr40_6, x5, x0, y1, z2, y7, pm10]
  | succ n ih =>
    intro m i hi hm
    obtain ⟨m, rfl⟩ : ∃ m', m = m' + 1 := ⟨m - 1, by omega⟩
    have c1 : ¬ (10 : Int32) ≤ nI i := nI_ge (b := 10) (by omega) (by omega)
    have c3 : ¬ nI (10 * k + i) < 0 := nI_pos (by omega)
    have c4 : (nI (10 * k + i)).toNatClampNeg = 10 * k + i := nI_clamp (by omega)
    have c5 : ¬ 1200 ≤ 10 * k + i := by omega
    have ih := ih m (i + 1) (by omega) (by omega)
    have hp := cut_P hc (show i < 10 by omega)
    have hai := k5 i (by omega)
    have x6 : (nI (A i)).toInt64 * (nI N).toInt64 = lN (A i * N) := by rw [nI_l (by omega), nI_l (by omega), lN_mul]
    have x8 : lN (A i * N) - lN (A i * N) / lN W * lN W = lN (rsC A N W i) := by rw [pk_lRem (by omega) (by omega) (by omega)]; rfl
    have g1 := hA i (by omega)
    have ri := l3 i (by omega)
    have rj := l3 j hj
    have h1 := pk_lLT (a := rsC A N W j) (b := rsC A N W i) (by omega) (by omega)
    have h2 := pk_lEQ (a := rsC A N W i) (b := rsC A N W j) (by omega) (by omega)
    have es : cN (fun o => decide (bf (rsC A N W) o j)) (i + 1) = cN (fun o => decide (bf (rsC A N W) o j)) i + (if decide (bf (rsC A N W) i j) = true then 1 else 0) := rfl
    by_cases z1 : rsC A N W j < rsC A N W i
    · have z1' := h1.mpr z1
      rw [es, if_pos (decide_eq_true (Or.inl z1))] at ih
      simp (decide := true) only [fX10_cut_163, fX10_cut_225, fX10_cut_230, bn_s, nm_s, or_self, if_false, if_true, hr40_6, hl43, pm10, c1, c3, c4, c5, g1, x6, x5, x0, x8, y8, z1', nI_1, ih]
    · have z1' : ¬ lN (rsC A N W j) < lN (rsC A N W i) := fun y => z1 (h1.mp y)
      by_cases z2 : rsC A N W i = rsC A N W j
      · have z2' := h2.mpr z2
        have z9 : ¬ lN (rsC A N W j) < lN (rsC A N W j) := fun y => by have := (pk_lLT (a := rsC A N W j) (b := rsC A N W j) (by omega) (by omega)).mp y; omega
        by_cases z3 : i < j
        · have z3' : ¬ nI j ≤ nI i := nI_ge z3 (by omega)
          rw [es, if_pos (decide_eq_true (Or.inr ⟨z2, z3⟩))] at ih
          simp (decide := true) only [fX10_cut_163, fX10_cut_225, fX10_cut_230, bn_s, nm_s, or_self, if_false, if_true, hr40_6, hl43, pm10, c1, c3, c4, c5, g1, x6, x5, x0, x8, y8, z9, z2', z3', nI_1, ih]
        · have z3' : nI j ≤ nI i := nI_le (by omega) (by omega)
          rw [es, if_neg (by rw [decide_eq_false (show ¬ bf (rsC A N W) i j by unfold bf; omega)]; decide)] at ih
          simp (decide := true) only [fX10_cut_163, fX10_cut_229, fX10_cut_230, bn_s, nm_s, or_self, if_false, if_true, hr40_6, hl43, pm10, c1, c3, c4, c5, g1, x6, x5, x0, x8, y8, z9, z2', z3', Int32.add_zero, nI_1]
          exact ih
      · have z2' : ¬ lN (rsC A N W i) = lN (rsC A N W j) := fun y => z2 (h2.mp y)
        rw [es, if_neg (by rw [decide_eq_false (show ¬ bf (rsC A N W) i j by unfold bf; omega)]; decide)] at ih
        simp (decide := true) only [fX10_cut_163, fX10_cut_229, fX10_cut_230, bn_s, nm_s, or_self, if_false, if_true, hr40_6, hl43, pm10, c1, c3, c4, c5, g1, x6, x5, x0, x8, y8, z1', z2', Int32.add_zero, nI_1]
        exact ih
theorem lp_c132 {k q N W : Nat} {A : Nat → Nat} (hk : k < 120) (hq : q < 120) (hkq : k ≠ q) (hc : CutN A N W) (hA : ∀ i, i < 10 → D 43 (10 * k + i) = nI (A i)) : ∀ (n m i : Nat), i + n = 10 → n < m → fX10_cut_132 m (b + 40) (nI k) (nI N) (nI W) (nI q) (lN (ltC A N W)) (nI i) (HH b (upR D 43 (nwR (D 43) q A N W i)) w T pa dr np mk) = fX10_cut_282 FU (b + 40) (nI k) (nI q) 0 (HH b (upR D 43 (nwR (D 43) q A N W 10)) w T pa dr np mk) := by
  intro n
  induction n with
  | zero =>
    intro m i hi hm
    obtain ⟨m, rfl⟩ : ∃ m', m = m' + 1 := ⟨m - 1, by omega⟩
    have e : i = 10 := by omega
    subst e
    have c1 : (10 : Int32) ≤ nI 10 := nI_le (a := 10) (Nat.le_refl _) (by omega)
    rw [fX10_cut_132, if_pos c1]
  | succ n ih =>
    intro m i hi hm
    obtain ⟨m, rfl⟩ : ∃ m', m = m' + 1 := ⟨m - 1, by omega⟩
    obtain ⟨k1, k2, k3, k4, k5⟩ := id hc
    have c1 : ¬ (10 : Int32) ≤ nI i := nI_ge (b := 10) (by omega) (by omega)
    have c3 : ¬ nI (10 * k + i) < 0 := nI_pos (by omega)
    have c4 : (nI (10 * k + i)).toNatClampNeg = 10 * k + i := nI_clamp (by omega)
    have c5 : ¬ 1200 ≤ 10 * k + i := by omega
    have d3 : ¬ nI (10 * q + i) < 0 := nI_pos (by omega)
    have d4 : (nI (10 * q + i)).toNatClampNeg = 10 * q + i := nI_clamp (by omega)
    have d5 : ¬ 1200 ≤ 10 * q + i := by omega
    have ih := ih m (i + 1) (by omega) (by omega)
    have hai := k5 i (by omega)
    have x6 : (nI (A i)).toInt64 * (nI N).toInt64 = lN (A i * N) := by rw [nI_l (by omega), nI_l (by omega), lN_mul]
    have hA2 : ∀ x, x < 10 → upR D 43 (nwR (D 43) q A N W i) 43 (10 * k + x) = nI (A x) := by
      intro x hx
      rw [upR_same]
      unfold nwR
      rw [if_neg (by omega), hA x hx]
    have g1 := hA2 i (by omega)
    rw [upR_same] at g1
    have lp := lp_c163 (b := b) (D := upR D 43 (nwR (D 43) q A N W i)) (w := w) (T := T) (pa := pa) (dr := dr) (np := np) (mk := mk) (q := q) (j := i) (fX10_cut_132 m) hk (by omega) hq hc hA2 10 FU 0 (by omega) (by unfold FU; omega)
    rw [show cN (fun o => decide (bf (rsC A N W) o i)) 0 = 0 from rfl, nI_0] at lp
    have g2 : nI (shC A N W i) + (if ah (rsC A N W) i < ltC A N W then 1 else 0) = nI (fzC A N W i) := by
      unfold fzC
      split
      · exact nI_1 _
      · exact Int32.add_zero _
    have g3 : upd (nwR (D 43) q A N W i) (10 * q + i) (nI (fzC A N W i)) = nwR (D 43) q A N W (i + 1) := by
      funext x
      rw [upd_app]
      unfold nwR
      by_cases z : x = 10 * q + i
      · rw [if_pos z, if_pos (by omega), z, show 10 * q + i - 10 * q = i by omega]
      · rw [if_neg z]
        by_cases z2 : 10 * q ≤ x ∧ x < 10 * q + i
        · rw [if_pos z2, if_pos (by omega)]
        · rw [if_neg z2, if_neg (by omega)]
    rw [fX10_cut_132, if_neg c1]
    simp (decide := true) only [bn_s, nm_s, or_self, if_false, hr40_6, hl43, pm10, c3, c4, c5, upR_same, g1, x6, lp]
    simp (decide := true) only [fX10_cut_271, bn_s, or_self, if_false, hs43, d3, d4, d5, g2, upd_1, g3, nI_1, ih]
theorem lp_c282 {k q : Nat} (hk : k < 120) (hq : q < 120) (hkq : k ≠ q) : ∀ (n m i : Nat), i + n = 10 → n < m → fX10_cut_282 m (b + 40) (nI k) (nI q) (nI i) (HH b (upR D 43 (sbR (D 43) k q i)) w T pa dr np mk) = some (nI q, HH b (up2 (upR D 43 (sbR (D 43) k q 10)) 40 1 (if nI q < 0 then nI q else 0)) w T pa dr np mk) := by
  intro n
  induction n with
  | zero =>
    intro m i hi hm
    obtain ⟨m, rfl⟩ : ∃ m', m = m' + 1 := ⟨m - 1, by omega⟩
    have e : i = 10 := by omega
    subst e
    have c1 : (10 : Int32) ≤ nI 10 := nI_le (a := 10) (Nat.le_refl _) (by omega)
    simp (decide := true) only [fX10_cut_282, bn_s, bn2_s, c1, if_true, hk40, f_told]
  | succ n ih =>
    intro m i hi hm
    obtain ⟨m, rfl⟩ : ∃ m', m = m' + 1 := ⟨m - 1, by omega⟩
    have c1 : ¬ (10 : Int32) ≤ nI i := nI_ge (b := 10) (by omega) (by omega)
    have c3 : ¬ nI (10 * k + i) < 0 := nI_pos (by omega)
    have c4 : (nI (10 * k + i)).toNatClampNeg = 10 * k + i := nI_clamp (by omega)
    have c5 : ¬ 1200 ≤ 10 * k + i := by omega
    have d3 : ¬ nI (10 * q + i) < 0 := nI_pos (by omega)
    have d4 : (nI (10 * q + i)).toNatClampNeg = 10 * q + i := nI_clamp (by omega)
    have d5 : ¬ 1200 ≤ 10 * q + i := by omega
    have ih := ih m (i + 1) (by omega) (by omega)
    have g1 : sbR (D 43) k q i (10 * k + i) = D 43 (10 * k + i) := if_neg (by omega)
    have g2 : sbR (D 43) k q i (10 * q + i) = D 43 (10 * q + i) := if_neg (by omega)
    have g3 : upd (sbR (D 43) k q i) (10 * k + i) (D 43 (10 * k + i) - D 43 (10 * q + i)) = sbR (D 43) k q (i + 1) := by
      funext x
      rw [upd_app]
      unfold sbR
      by_cases z : x = 10 * k + i
      · rw [if_pos z, if_pos (by omega), z, show 10 * k + i - 10 * k + 10 * q = 10 * q + i by omega]
      · rw [if_neg z]
        by_cases z2 : 10 * k ≤ x ∧ x < 10 * k + i
        · rw [if_pos z2, if_pos (by omega)]
        · rw [if_neg z2, if_neg (by omega)]
    simp (decide := true) only [fX10_cut_282, bn_s, or_self, if_false, hr40_6, hl43, hs43, pm10, c1, c3, c4, c5, d3, d4, d5, upR_same, g1, g2, upd_1, g3, nI_1, ih]
end
