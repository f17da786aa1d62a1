section
variable {b : Nat} {T : Nat → Int64} {pa dr np mk : Nat}
theorem m_243n {E : Nat → Nat → Int32} {w : Int64} {m : Nat} (h : ¬ E 40 23 = 2) : fX10_next_243 (m + 1) (b + 40) (HH b E w T pa dr np mk) = some ((), HH b E w T pa dr np mk) := by
  simp (decide := true) only [fX10_next_243, bn_s, hr40_23, h, if_false]
theorem m_243 {n st : Nat} {B : Nat → Int32} (hn : n ≤ 300) : ∀ (r m i : Nat) (E : Nat → Nat → Int32), st + i + r = n → r < m → E 40 23 = 2 → E 40 20 = nI n → E 40 22 = nI (st + i) → E 52 = B → ∃ E', fX10_next_243 m (b + 40) (HH b E (dgW B st i) T pa dr np mk) = some ((), HH b E' (dgW B st (run isDg B r (st + i) - st)) T pa dr np mk) ∧ E' 40 22 = nI (run isDg B r (st + i)) ∧ (∀ y, y ≠ 22 → E' 40 y = E 40 y) ∧ ∀ x, x ≠ 40 → E' x = E x := by
  intro r
  induction r with
  | zero =>
    intro m i E hp hm h23 h20 h22 hB
    obtain ⟨m, rfl⟩ : ∃ m', m = m' + 1 := ⟨m - 1, by omega⟩
    have c1 : nI n ≤ nI (st + i) := nI_le (by omega) (by omega)
    refine ⟨E, ?_, h22, fun _ _ => rfl, fun _ _ => rfl⟩
    rw [show run isDg B 0 (st + i) - st = i from by show st + i - st = i; omega]
    simp (decide := true) only [fX10_next_243, bn_s, hr40_20, hr40_22, hr40_23, h20, h22, h23, c1, if_true]
  | succ r ih =>
    intro m i E hp hm h23 h20 h22 hB
    obtain ⟨m, rfl⟩ : ∃ m', m = m' + 1 := ⟨m - 1, by omega⟩
    have c1 : ¬ nI n ≤ nI (st + i) := nI_ge (by omega) (by omega)
    have c3 : ¬ nI (st + i) < 0 := nI_pos (by omega)
    have c4 : (nI (st + i)).toNatClampNeg = st + i := nI_clamp (by omega)
    have c5 : ¬ 300 ≤ st + i := by omega
    unfold run
    by_cases q : isDg (B (st + i)) = true
    · rw [if_pos q]
      obtain ⟨E', e0, e1, e2, e5⟩ := ih m (i + 1) (up2 E 40 22 (nI (st + i + 1))) (by omega) (by omega) h23 h20 rfl hB
      refine ⟨E', ?_, e1, fun y hy => (e2 y hy).trans (up2_k hy), fun x hx => (e5 x hx).trans (up2_ne hx)⟩
      rw [show st + i + 1 = st + (i + 1) by omega]
      rw [show st + i + 1 = st + (i + 1) by omega] at e0
      rw [← e0]
      have es : dgW B st (i + 1) = if dgW B st i ≤ 1000 then dgW B st i * 10 + (B (st + i)).toInt64 - 48 else dgW B st i := rfl
      rw [es]
      by_cases z : dgW B st i ≤ 1000
      · rw [if_pos z]
        simp (decide := true) only [fX10_next_243, fX10_next_319, bn_s, bn2_s, or_self, hr40_19, hr40_20, hr40_22, hr40_23, hr40_24, hw40_22, hw40_24, hl52, h20, h22, h23, hB, f_digit, q, z, c1, c3, c4, c5, if_true, if_false, nI_1, Nat.add_assoc]
      · rw [if_neg z]
        simp (decide := true) only [fX10_next_243, fX10_next_319, bn_s, bn2_s, or_self, hr40_19, hr40_20, hr40_22, hr40_23, hr40_24, hw40_22, hw40_24, hl52, h20, h22, h23, hB, f_digit, q, z, c1, c3, c4, c5, if_true, if_false, nI_1, Nat.add_assoc]
    · rw [if_neg q, show st + i - st = i by omega]
      refine ⟨E, ?_, h22, fun _ _ => rfl, fun _ _ => rfl⟩
      simp (decide := true) only [fX10_next_243, bn_s, bn2_s, or_self, hr40_19, hr40_20, hr40_22, hr40_23, hl52, h20, h22, h23, hB, f_digit, q, c1, c3, c4, c5, if_true, if_false]
theorem m_149n {E : Nat → Nat → Int32} {w : Int64} {m : Nat} (h : ¬ E 40 23 = 1) : fX10_next_149 (m + 1) (b + 40) (HH b E w T pa dr np mk) = fX10_next_243 FU (b + 40) (HH b E w T pa dr np mk) := by
  simp (decide := true) only [fX10_next_149, bn_s, hr40_23, h, if_false]
theorem m_149 {n st : Nat} {B : Nat → Int32} (hn : n ≤ 300) : ∀ (r m i : Nat) (E : Nat → Nat → Int32), st + i + r = n → r < m → E 40 23 = 1 → E 40 20 = nI n → E 40 21 = nI st → E 40 22 = nI (st + i) → E 52 = B → ∃ E', fX10_next_149 m (b + 40) (HH b E (wdW B st i) T pa dr np mk) = some ((), HH b E' (wdW B st (run isLt B r (st + i) - st)) T pa dr np mk) ∧ E' 40 22 = nI (run isLt B r (st + i)) ∧ (∀ y, y ≠ 22 → E' 40 y = E 40 y) ∧ ∀ x, x ≠ 40 → E' x = E x := by
  intro r
  induction r with
  | zero =>
    intro m i E hp hm h23 h20 h21 h22 hB
    obtain ⟨m, rfl⟩ : ∃ m', m = m' + 1 := ⟨m - 1, by omega⟩
    have c1 : nI n ≤ nI (st + i) := nI_le (by omega) (by omega)
    have e := m_243n (b := b) (E := E) (w := wdW B st i) (T := T) (pa := pa) (dr := dr) (np := np) (mk := mk) (m := 3999) (by rw [h23]; decide)
    refine ⟨E, ?_, h22, fun _ _ => rfl, fun _ _ => rfl⟩
    rw [show run isLt B 0 (st + i) - st = i from by show st + i - st = i; omega]
    simp (decide := true) only [fX10_next_149, bn_s, hr40_20, hr40_22, hr40_23, h20, h22, h23, c1, if_true]
    exact e
  | succ r ih =>
    intro m i E hp hm h23 h20 h21 h22 hB
    obtain ⟨m, rfl⟩ : ∃ m', m = m' + 1 := ⟨m - 1, by omega⟩
    have c1 : ¬ nI n ≤ nI (st + i) := nI_ge (by omega) (by omega)
    have c3 : ¬ nI (st + i) < 0 := nI_pos (by omega)
    have c4 : (nI (st + i)).toNatClampNeg = st + i := nI_clamp (by omega)
    have c5 : ¬ 300 ≤ st + i := by omega
    have d1 : nI (st + i) - nI st = nI i := by rw [pk_sub (by omega), show st + i - st = i by omega]
    unfold run
    by_cases q : isLt (B (st + i)) = true
    · rw [if_pos q]
      obtain ⟨E', e0, e1, e2, e5⟩ := ih m (i + 1) (up2 E 40 22 (nI (st + i + 1))) (by omega) (by omega) h23 h20 h21 rfl hB
      refine ⟨E', ?_, e1, fun y hy => (e2 y hy).trans (up2_k hy), fun x hx => (e5 x hx).trans (up2_ne hx)⟩
      rw [show st + i + 1 = st + (i + 1) by omega]
      rw [show st + i + 1 = st + (i + 1) by omega] at e0
      rw [← e0]
      have es : wdW B st (i + 1) = if 7 ≤ i then -1 else wdW B st i * 32 + (B (st + i)).toInt64 - 96 := rfl
      rw [es]
      by_cases z : 7 ≤ i
      · have z2 : (7 : Int32) ≤ nI i := nI_le (a := 7) z (by omega)
        rw [if_pos z]
        simp (decide := true) only [fX10_next_149, fX10_next_227, bn_s, bn2_s, or_self, hr40_19, hr40_20, hr40_21, hr40_22, hr40_23, hr40_24, hw40_22, hw40_24, hl52, h20, h21, h22, h23, hB, f_small, q, d1, z2, c1, c3, c4, c5, if_true, if_false, nI_1, Nat.add_assoc]
      · have z2 : ¬ (7 : Int32) ≤ nI i := nI_ge (b := 7) (by omega) (by omega)
        rw [if_neg z]
        simp (decide := true) only [fX10_next_149, fX10_next_227, bn_s, bn2_s, or_self, hr40_19, hr40_20, hr40_21, hr40_22, hr40_23, hr40_24, hw40_22, hw40_24, hl52, h20, h21, h22, h23, hB, f_small, q, d1, z2, c1, c3, c4, c5, if_true, if_false, nI_1, Nat.add_assoc]
    · rw [if_neg q, show st + i - st = i by omega]
      have e := m_243n (b := b) (E := E) (w := wdW B st i) (T := T) (pa := pa) (dr := dr) (np := np) (mk := mk) (m := 3999) (by rw [h23]; decide)
      refine ⟨E, ?_, h22, fun _ _ => rfl, fun _ _ => rfl⟩
      simp (decide := true) only [fX10_next_149, bn_s, bn2_s, or_self, hr40_19, hr40_20, hr40_22, hr40_23, hl52, h20, h22, h23, hB, f_small, q, c1, c3, c4, c5, if_true, if_false]
      exact e
theorem m_8 {n : Nat} {B : Nat → Int32} {w : Int64} (hn : n ≤ 300) : ∀ (r m p : Nat) (E : Nat → Nat → Int32), p + r = n → r < m → E 40 20 = nI n → E 40 21 = nI p → E 52 = B → ∃ E', fX10_next_8 m (b + 40) (HH b E w T pa dr np mk) = fX10_next_46 (b + 40) (HH b E' w T pa dr np mk) ∧ E' 40 21 = nI (run isBl B r p) ∧ (∀ y, y ≠ 21 → E' 40 y = E 40 y) ∧ ∀ x, x ≠ 40 → E' x = E x := by
  intro r
  induction r with
  | zero =>
    intro m p E hp hm h1 h3 hB
    obtain ⟨m, rfl⟩ : ∃ m', m = m' + 1 := ⟨m - 1, by omega⟩
    have e : p = n := by omega
    subst e
    have c1 : nI p ≤ nI p := nI_le (Nat.le_refl _) (by omega)
    refine ⟨E, ?_, h3, fun _ _ => rfl, fun _ _ => rfl⟩
    simp (decide := true) only [fX10_next_8, bn_s, hr40_20, hr40_21, h1, h3, c1, if_true]
  | succ r ih =>
    intro m p E hp hm h1 h3 hB
    obtain ⟨m, rfl⟩ : ∃ m', m = m' + 1 := ⟨m - 1, by omega⟩
    have c1 : ¬ nI n ≤ nI p := nI_ge (by omega) (by omega)
    have c3 : ¬ nI p < 0 := nI_pos (by omega)
    have c4 : (nI p).toNatClampNeg = p := nI_clamp (by omega)
    have c5 : ¬ 300 ≤ p := by omega
    unfold run
    by_cases q : B p = 32
    · rw [if_pos (isBl_t.mpr q)]
      obtain ⟨E', e0, e1, e2, e5⟩ := ih m (p + 1) (up2 E 40 21 (nI (p + 1))) (by omega) (by omega) h1 rfl hB
      refine ⟨E', ?_, e1, fun y hy => (e2 y hy).trans (up2_k hy), fun x hx => (e5 x hx).trans (up2_ne hx)⟩
      simp (decide := true) only [fX10_next_8, bn_s, or_self, hr40_19, hr40_20, hr40_21, hw40_21, hl52, h1, h3, hB, q, c1, c3, c4, c5, if_true, if_false, nI_1, e0]
    · rw [if_neg (fun z => q (isBl_t.mp z))]
      refine ⟨E, ?_, h3, fun _ _ => rfl, fun _ _ => rfl⟩
      simp (decide := true) only [fX10_next_8, bn_s, or_self, hr40_19, hr40_20, hr40_21, hl52, h1, h3, hB, q, c1, c3, c4, c5, if_true, if_false]
/-- the reference's token behind place p -/
theorem m_next {n p : Nat} {B : Nat → Int32} {E : Nat → Nat → Int32} {w : Int64} (hn : n ≤ 300) (hp : p ≤ n) (h1 : E 40 20 = nI n) (h4 : E 40 22 = nI p) (hB : E 52 = B) : ∃ E', fX10_next (b + 40) (HH b E w T pa dr np mk) = some ((), HH b E' (tW B n p) T pa dr np mk) ∧ E' 40 23 = nI (tK B n p) ∧ E' 40 21 = nI (tS B n p) ∧ E' 40 22 = nI (tE B n p) ∧ (∀ y, y ≠ 21 → y ≠ 22 → y ≠ 23 → E' 40 y = E 40 y) ∧ ∀ x, x ≠ 40 → E' x = E x := by
  obtain ⟨E1, a0, a1, a2, a3⟩ := m_8 (b := b) (w := w) (T := T) (pa := pa) (dr := dr) (np := np) (mk := mk) (B := B) hn (n - p) FU p (up2 E 40 21 (nI p)) (by omega) (by unfold FU; omega) h1 rfl hB
  obtain ⟨r1, r2, r3, r4⟩ := run_b (P := isBl) (B := B) (n - p) p
  have hst : tS B n p = run isBl B (n - p) p := rfl
  rw [← hst] at a1 r1 r2 r4
  have f20 : E1 40 20 = nI n := (a2 20 (by decide)).trans h1
  have f52 : E1 52 = B := (a3 52 (by decide)).trans hB
  have fr : ∀ y, y ≠ 21 → E1 40 y = E 40 y := fun y hy => (a2 y hy).trans (up2_k hy)
  have fx : ∀ x, x ≠ 40 → E1 x = E x := fun x hx => (a3 x hx).trans (up2_ne hx)
  have start : fX10_next (b + 40) (HH b E w T pa dr np mk) = fX10_next_46 (b + 40) (HH b E1 w T pa dr np mk) := by
    simp (decide := true) only [fX10_next, bn_s, hr40_22, hw40_21, h4, a0]
  rw [start]
  have eK : tK B n p = if tS B n p = n then 0 else kdO (B (tS B n p)) := rfl
  generalize hS : tS B n p = st at a1 r1 r2 r4 eK
  by_cases q : st = n
  · subst q
    rw [if_pos rfl] at eK
    have eE : tE B st p = st := by unfold tE; rw [eK, if_pos rfl, hS]
    have eW : tW B st p = 0 := by unfold tW; rw [eK]; rfl
    have e1 := m_149n (b := b) (E := up2 (up2 E1 40 22 (nI st)) 40 23 0) (w := 0) (T := T) (pa := pa) (dr := dr) (np := np) (mk := mk) (m := 3999) (by rw [up2_v]; decide)
    have e2 := m_243n (b := b) (E := up2 (up2 E1 40 22 (nI st)) 40 23 0) (w := 0) (T := T) (pa := pa) (dr := dr) (np := np) (mk := mk) (m := 3999) (by rw [up2_v]; decide)
    rw [eK, eE, eW]
    refine ⟨up2 (up2 E1 40 22 (nI st)) 40 23 0, ?_, rfl, ?_, ?_, fun y y1 y2 y3 => by rw [up2_k y3, up2_k y2, fr y y1], fun x hx => by rw [up2_ne hx, up2_ne hx, fx x hx]⟩
    · simp (decide := true) only [fX10_next_46, fX10_next_114, bn_s, hr40_20, hr40_21, hr40_23, hw40_22, hw40_23, hw40_24, up2_same, upd_app, f20, a1, if_true, if_false]
      exact e1.trans e2
    · rw [up2_k (by decide), up2_k (by decide), a1]
    · rw [up2_k (by decide), up2_v]
  · rw [if_neg q] at eK
    have c3 : ¬ nI st < 0 := nI_pos (by omega)
    have c4 : (nI st).toNatClampNeg = st := nI_clamp (by omega)
    have c5 : ¬ 300 ≤ st := by omega
    have c6 : ¬ nI st = nI n := nne q (by omega) (by omega)
    by_cases k1 : isLt (B st) = true
    · have eK1 : tK B n p = 1 := by rw [eK]; unfold kdO; rw [if_pos k1]
      have eE : tE B n p = run isLt B (n - st) st := by
        unfold tE
        rw [eK1, if_neg (by decide), if_neg (by decide), hS, run_c kd1, show n - st = (n - (st + 1)) + 1 by omega]
        show _ = if isLt (B st) = true then _ else _
        rw [if_pos k1]
      have eW : tW B n p = wdW B st (run isLt B (n - st) st - st) := by unfold tW; rw [eK1, if_pos rfl, hS, eE]
      obtain ⟨E2, b0, b1, b2, b3⟩ := m_149 (b := b) (T := T) (pa := pa) (dr := dr) (np := np) (mk := mk) (B := B) hn (n - st) FU 0 (up2 (up2 E1 40 22 (nI st)) 40 23 1) (st := st) (by omega) (by unfold FU; omega) rfl (by rw [up2_k (by decide), up2_k (by decide), f20]) (by rw [up2_k (by decide), up2_k (by decide), a1]) (by rw [up2_k (by decide), up2_v]; rfl) (by rw [up2_ne (by decide), up2_ne (by decide), f52])
      rw [eK1, eE, eW]
      refine ⟨E2, ?_, ?_, ?_, b1, fun y y1 y2 y3 => by rw [b2 y y2, up2_k y3, up2_k y2, fr y y1], fun x hx => by rw [b3 x hx, up2_ne hx, up2_ne hx, fx x hx]⟩
      · simp (decide := true) only [fX10_next_46, fX10_next_114, bn_s, bn2_s, or_self, hr40_19, hr40_20, hr40_21, hr40_23, hl52, hw40_22, hw40_23, hw40_24, up2_same, up2_ne, upd_app, ne_eq, not_false_eq_true, f20, f52, a1, f_small, k1, c3, c4, c5, c6, if_true, if_false]
        exact b0
      · rw [b2 23 (by decide), up2_v]
        rfl
      · rw [b2 21 (by decide), up2_k (by decide), up2_k (by decide), a1]
    · by_cases k2 : isDg (B st) = true
      · have eK1 : tK B n p = 2 := by rw [eK]; unfold kdO; rw [if_neg k1, if_pos k2]
        have eE : tE B n p = run isDg B (n - st) st := by
          unfold tE
          rw [eK1, if_neg (by decide), if_neg (by decide), hS, run_c kd2, show n - st = (n - (st + 1)) + 1 by omega]
          show _ = if isDg (B st) = true then _ else _
          rw [if_pos k2]
        have eW : tW B n p = dgW B st (run isDg B (n - st) st - st) := by unfold tW; rw [eK1, if_neg (by decide), if_pos rfl, hS, eE]
        have e1 := m_149n (b := b) (E := up2 (up2 E1 40 22 (nI st)) 40 23 2) (w := 0) (T := T) (pa := pa) (dr := dr) (np := np) (mk := mk) (m := 3999) (by rw [up2_v]; decide)
        obtain ⟨E2, b0, b1, b2, b3⟩ := m_243 (b := b) (T := T) (pa := pa) (dr := dr) (np := np) (mk := mk) (B := B) hn (n - st) FU 0 (up2 (up2 E1 40 22 (nI st)) 40 23 2) (st := st) (by omega) (by unfold FU; omega) rfl (by rw [up2_k (by decide), up2_k (by decide), f20]) (by rw [up2_k (by decide), up2_v]; rfl) (by rw [up2_ne (by decide), up2_ne (by decide), f52])
        rw [eK1, eE, eW]
        refine ⟨E2, ?_, ?_, ?_, b1, fun y y1 y2 y3 => by rw [b2 y y2, up2_k y3, up2_k y2, fr y y1], fun x hx => by rw [b3 x hx, up2_ne hx, up2_ne hx, fx x hx]⟩
        · simp (decide := true) only [fX10_next_46, fX10_next_114, bn_s, bn2_s, or_self, hr40_19, hr40_20, hr40_21, hr40_23, hl52, hw40_22, hw40_23, hw40_24, up2_same, up2_ne, upd_app, ne_eq, not_false_eq_true, f20, f52, a1, f_small, f_digit, k1, k2, c3, c4, c5, c6, if_true, if_false]
          exact e1.trans b0
        · rw [b2 23 (by decide), up2_v]
          rfl
        · rw [b2 21 (by decide), up2_k (by decide), up2_k (by decide), a1]
      · have eK1 : tK B n p = 3 := by rw [eK]; unfold kdO; rw [if_neg k1, if_neg k2]
        have eE : tE B n p = st + 1 := by unfold tE; rw [eK1, if_neg (by decide), if_pos rfl, hS]
        have eW : tW B n p = (B st).toInt64 := by unfold tW; rw [eK1, if_neg (by decide), if_neg (by decide), if_pos rfl, hS]
        have e1 := m_149n (b := b) (E := up2 (up2 (up2 E1 40 22 (nI st)) 40 23 3) 40 22 (nI (st + 1))) (w := (B st).toInt64) (T := T) (pa := pa) (dr := dr) (np := np) (mk := mk) (m := 3999) (by rw [up2_k (by decide), up2_v]; decide)
        have e2 := m_243n (b := b) (E := up2 (up2 (up2 E1 40 22 (nI st)) 40 23 3) 40 22 (nI (st + 1))) (w := (B st).toInt64) (T := T) (pa := pa) (dr := dr) (np := np) (mk := mk) (m := 3999) (by rw [up2_k (by decide), up2_v]; decide)
        rw [eK1, eE, eW]
        refine ⟨up2 (up2 (up2 E1 40 22 (nI st)) 40 23 3) 40 22 (nI (st + 1)), ?_, ?_, ?_, ?_, fun y y1 y2 y3 => by rw [up2_k y2, up2_k y3, up2_k y2, fr y y1], fun x hx => by rw [up2_ne hx, up2_ne hx, up2_ne hx, fx x hx]⟩
        · simp (decide := true) only [fX10_next_46, fX10_next_114, bn_s, bn2_s, or_self, hr40_19, hr40_20, hr40_21, hr40_22, hr40_23, hl52, hw40_22, hw40_23, hw40_24, up2_same, up2_ne, upd_app, ne_eq, not_false_eq_true, f20, f52, a1, f_small, f_digit, k1, k2, c3, c4, c5, c6, if_true, if_false, nI_1]
          exact e1.trans e2
        · rw [up2_k (by decide), up2_v]
          rfl
        · rw [up2_k (by decide), up2_k (by decide), up2_k (by decide), a1]
        · rw [up2_v]
end
