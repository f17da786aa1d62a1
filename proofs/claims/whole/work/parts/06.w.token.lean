/-! the tape's tokens -/
def isBl (x : Int32) : Bool := decide (x = 32)
def isLt (x : Int32) : Bool := decide (97 ≤ x ∧ x ≤ 122)
def isDg (x : Int32) : Bool := decide (48 ≤ x ∧ x ≤ 57)
def kdO (x : Int32) : Nat := if isLt x = true then 1 else if isDg x = true then 2 else 3
def run (P : Int32 → Bool) (B : Nat → Int32) : Nat → Nat → Nat
  | 0, p => p
  | r + 1, p => if P (B p) = true then run P B r (p + 1) else p
theorem run_b {P : Int32 → Bool} {B : Nat → Int32} : ∀ r p, p ≤ run P B r p ∧ run P B r p ≤ p + r ∧ (∀ x, p ≤ x → x < run P B r p → P (B x) = true) ∧ (run P B r p < p + r → ¬ P (B (run P B r p)) = true)
  | 0, p => ⟨Nat.le_refl _, Nat.le_refl _, fun x h1 h2 => by change x < p at h2; omega, fun h => by change p < p + 0 at h; omega⟩
  | r + 1, p => by
    unfold run
    by_cases q : P (B p) = true
    · rw [if_pos q]
      obtain ⟨h1, h2, h3, h4⟩ := run_b (P := P) (B := B) r (p + 1)
      refine ⟨by omega, by omega, fun x a1 a2 => ?_, fun a => h4 (by omega)⟩
      by_cases z : x = p
      · rw [z]; exact q
      · exact h3 x (by omega) a2
    · rw [if_neg q]
      exact ⟨Nat.le_refl _, by omega, fun x h1 h2 => by omega, fun _ => q⟩
theorem run_c {P Q : Int32 → Bool} {B : Nat → Int32} (h : ∀ x, P x = Q x) : ∀ r p, run P B r p = run Q B r p
  | 0, p => rfl
  | r + 1, p => by
    unfold run
    rw [h, run_c h r (p + 1)]
def wdW (B : Nat → Int32) (st : Nat) : Nat → Int64
  | 0 => 0
  | i + 1 => if 7 ≤ i then -1 else wdW B st i * 32 + (B (st + i)).toInt64 - 96
def dgW (B : Nat → Int32) (st : Nat) : Nat → Int64
  | 0 => 0
  | i + 1 => if dgW B st i ≤ 1000 then dgW B st i * 10 + (B (st + i)).toInt64 - 48 else dgW B st i
def tS (B : Nat → Int32) (n p : Nat) : Nat := run isBl B (n - p) p
def tK (B : Nat → Int32) (n p : Nat) : Nat := if tS B n p = n then 0 else kdO (B (tS B n p))
def tE (B : Nat → Int32) (n p : Nat) : Nat := if tK B n p = 0 then tS B n p else if tK B n p = 3 then tS B n p + 1 else run (fun x => decide (kdO x = tK B n p)) B (n - (tS B n p + 1)) (tS B n p + 1)
def tW (B : Nat → Int32) (n p : Nat) : Int64 := if tK B n p = 1 then wdW B (tS B n p) (tE B n p - tS B n p) else if tK B n p = 2 then dgW B (tS B n p) (tE B n p - tS B n p) else if tK B n p = 3 then (B (tS B n p)).toInt64 else 0
theorem kdO_r (x : Int32) : 1 ≤ kdO x ∧ kdO x ≤ 3 := by
  unfold kdO
  split
  · omega
  · split <;> omega
theorem f_kind (x : Int32) (H : PH) : fX8_kindOf x H = some (nI (kdO x), H) := by
  unfold fX8_kindOf kdO isLt isDg
  rw [f_within]
  by_cases q : 97 ≤ x ∧ x ≤ 122
  · rw [if_pos q, bn2_s, if_neg (by decide), if_pos (decide_eq_true q)]
    rfl
  · rw [if_neg q, bn2_s, if_pos rfl, if_neg (by rw [decide_eq_false q]; decide), f_within]
    by_cases q2 : 48 ≤ x ∧ x ≤ 57
    · rw [if_pos q2, bn2_s, if_neg (by decide), if_pos (decide_eq_true q2)]
      rfl
    · rw [if_neg q2, bn2_s, if_pos rfl, if_neg (by rw [decide_eq_false q2]; decide)]
      rfl
theorem f_small (x : Int32) (H : PH) : fX10_isSmall x H = some (if isLt x = true then 1 else 0, H) := by
  unfold fX10_isSmall isLt
  by_cases q : x < 97
  · rw [if_pos q, if_neg (by rw [decide_eq_false (fun z => by rw [lt3] at q; have := (le3 _ _).mp z.1; omega)]; decide)]
  · rw [if_neg q]
    by_cases q2 : 122 < x
    · rw [if_pos q2, if_neg (by rw [decide_eq_false (fun z => by rw [lt3] at q2; have := (le3 _ _).mp z.2; omega)]; decide)]
    · rw [if_neg q2, if_pos (decide_eq_true ⟨by rw [lt3] at q; rw [le3]; omega, by rw [lt3] at q2; rw [le3]; omega⟩)]
theorem f_digit (x : Int32) (H : PH) : fX10_isDigit x H = some (if isDg x = true then 1 else 0, H) := by
  unfold fX10_isDigit isDg
  by_cases q : x < 48
  · rw [if_pos q, if_neg (by rw [decide_eq_false (fun z => by rw [lt3] at q; have := (le3 _ _).mp z.1; omega)]; decide)]
  · rw [if_neg q]
    by_cases q2 : 57 < x
    · rw [if_pos q2, if_neg (by rw [decide_eq_false (fun z => by rw [lt3] at q2; have := (le3 _ _).mp z.2; omega)]; decide)]
    · rw [if_neg q2, if_pos (decide_eq_true ⟨by rw [lt3] at q; rw [le3]; omega, by rw [lt3] at q2; rw [le3]; omega⟩)]
theorem isBl_t {x : Int32} : isBl x = true ↔ x = 32 := by unfold isBl; exact decide_eq_true_iff
theorem lt_dg {x : Int32} (h : isDg x = true) : ¬ isLt x = true := by
  intro z
  have h := of_decide_eq_true h
  have z := of_decide_eq_true z
  have a1 := (le3 _ _).mp h.2
  have a2 := (le3 _ _).mp z.1
  have e1 : (57 : Int32).toInt = 57 := rfl
  have e2 : (97 : Int32).toInt = 97 := rfl
  omega
theorem kd1 (x : Int32) : decide (kdO x = 1) = isLt x := by
  unfold kdO
  by_cases q : isLt x = true
  · rw [if_pos q, q]; rfl
  · rw [if_neg q, Bool.eq_false_iff.mpr q]
    split <;> rfl
theorem kd2 (x : Int32) : decide (kdO x = 2) = isDg x := by
  unfold kdO
  by_cases q : isLt x = true
  · rw [if_pos q]
    have : isDg x = false := Bool.eq_false_iff.mpr (fun z => lt_dg z q)
    rw [this]; rfl
  · rw [if_neg q]
    by_cases q2 : isDg x = true
    · rw [if_pos q2, q2]; rfl
    · rw [if_neg q2, Bool.eq_false_iff.mpr q2]; rfl
section
variable {b : Nat} {w : Int64} {T : Nat → Int64} {pa dr np mk : Nat}
theorem c_97 {n k : Nat} {B : Nat → Int32} (hn : n ≤ 300) (hk : k = 1 ∨ k = 2) : ∀ (r m p : Nat) (D : Nat → Nat → Int32), p + r = n → r < m → D 10 1 = nI n → D 10 2 = nI k → D 10 4 = nI p → D 11 = B → ∃ D', fX8_toNextToken_97 m (b + 10) (HH b D w T pa dr np mk) = some ((), HH b D' w T pa dr np mk) ∧ D' 10 4 = nI (run (fun x => decide (kdO x = k)) B r p) ∧ D' 10 1 = D 10 1 ∧ D' 10 2 = D 10 2 ∧ D' 10 3 = D 10 3 ∧ ∀ x, x ≠ 10 → D' x = D x := by
  have k3 : ¬ nI k = 3 := nne (K := 3) (by omega) (by omega) (by decide)
  intro r
  induction r with
  | zero =>
    intro m p D hp hm h1 h2 h4 hB
    obtain ⟨m, rfl⟩ : ∃ m', m = m' + 1 := ⟨m - 1, by omega⟩
    have e : p = n := by omega
    subst e
    have c1 : nI p ≤ nI p := nI_le (Nat.le_refl _) (by omega)
    refine ⟨D, ?_, h4, rfl, rfl, rfl, fun _ _ => rfl⟩
    simp (decide := true) only [fX8_toNextToken_97, bn_s, hr10_1, hr10_2, hr10_4, h1, h2, h4, k3, c1, if_true, if_false]
  | succ r ih =>
    intro m p D hp hm h1 h2 h4 hB
    obtain ⟨m, rfl⟩ : ∃ m', m = m' + 1 := ⟨m - 1, by omega⟩
    have c1 : ¬ nI n ≤ nI p := nI_ge (by omega) (by omega)
    have c3 : ¬ nI p < 0 := nI_pos (by omega)
    have c4 : (nI p).toNatClampNeg = p := nI_clamp (by omega)
    have c5 : ¬ 300 ≤ p := by omega
    have hr := kdO_r (B p)
    unfold run
    by_cases q : kdO (B p) = k
    · rw [if_pos (decide_eq_true q)]
      obtain ⟨D', e0, e1, e2, e3, e4, e5⟩ := ih m (p + 1) (up2 D 10 4 (nI (p + 1))) (by omega) (by omega) h1 h2 rfl hB
      refine ⟨D', ?_, e1, e2, e3, e4, fun x hx => (e5 x hx).trans (up2_ne hx)⟩
      simp (decide := true) only [fX8_toNextToken_97, bn_s, bn2_s, or_self, hr10_0, hr10_1, hr10_2, hr10_4, hw10_4, hl11, h1, h2, h4, hB, f_kind, q, k3, c1, c3, c4, c5, if_true, if_false, nI_1, e0]
    · rw [if_neg (by rw [decide_eq_false q]; decide)]
      have q2 : ¬ nI (kdO (B p)) = nI k := nne q (by omega) (by omega)
      refine ⟨D, ?_, h4, rfl, rfl, rfl, fun _ _ => rfl⟩
      simp (decide := true) only [fX8_toNextToken_97, bn_s, bn2_s, or_self, hr10_0, hr10_1, hr10_2, hr10_4, hl11, h1, h2, h4, hB, f_kind, q2, k3, c1, c3, c4, c5, if_true, if_false]
theorem c_97_3 {D : Nat → Nat → Int32} {m : Nat} (h2 : D 10 2 = nI 3) : fX8_toNextToken_97 (m + 1) (b + 10) (HH b D w T pa dr np mk) = some ((), HH b D w T pa dr np mk) := by
  have k3 : nI 3 = 3 := rfl
  simp (decide := true) only [fX8_toNextToken_97, bn_s, hr10_2, h2, k3, if_true]
theorem c_46 {n st : Nat} {B : Nat → Int32} {D : Nat → Nat → Int32} (hn : n ≤ 300) (hs : st ≤ n) (h1 : D 10 1 = nI n) (h3 : D 10 3 = nI st) (hB : D 11 = B) : ∃ D', fX8_toNextToken_46 (b + 10) (HH b D w T pa dr np mk) = some ((), HH b D' w T pa dr np mk) ∧ D' 10 2 = nI (if st = n then 0 else kdO (B st)) ∧ D' 10 4 = nI (if st = n then st else if kdO (B st) = 3 then st + 1 else run (fun x => decide (kdO x = kdO (B st))) B (n - (st + 1)) (st + 1)) ∧ D' 10 1 = D 10 1 ∧ D' 10 3 = nI st ∧ ∀ x, x ≠ 10 → D' x = D x := by
  by_cases q : st = n
  · subst q
    have c1 : ¬ nI st < nI st := nI_nlt (Nat.le_refl _) (by omega)
    rw [if_pos rfl, if_pos rfl]
    refine ⟨up2 (up2 D 10 2 0) 10 4 (nI st), ?_, rfl, rfl, rfl, h3, fun x hx => by rw [up2_ne hx, up2_ne hx]⟩
    simp (decide := true) only [fX8_toNextToken_46, bn_s, hr10_1, hr10_3, hw10_2, hw10_4, h1, h3, c1, if_false, up2_same, upd_app]
  · have c1 : nI st < nI n := nI_lt (by omega) (by omega)
    have c3 : ¬ nI st < 0 := nI_pos (by omega)
    have c4 : (nI st).toNatClampNeg = st := nI_clamp (by omega)
    have c5 : ¬ 300 ≤ st := by omega
    rw [if_neg q, if_neg q]
    by_cases k3 : kdO (B st) = 3
    · rw [if_pos k3]
      have e := c_97_3 (b := b) (w := w) (T := T) (pa := pa) (dr := dr) (np := np) (mk := mk) (D := up2 (up2 D 10 2 (nI (kdO (B st)))) 10 4 (nI (st + 1))) (m := 3999) (by rw [up2_k (by decide), up2_v, k3])
      refine ⟨up2 (up2 D 10 2 (nI (kdO (B st)))) 10 4 (nI (st + 1)), ?_, rfl, rfl, rfl, h3, fun x hx => by rw [up2_ne hx, up2_ne hx]⟩
      simp (decide := true) only [fX8_toNextToken_46, bn_s, bn2_s, or_self, hr10_0, hr10_1, hr10_3, hw10_2, hw10_4, hl11, h1, h3, hB, f_kind, c1, c3, c4, c5, if_false, if_true, up2_same, upd_app, nI_1]
      exact e
    · rw [if_neg k3]
      have hr := kdO_r (B st)
      obtain ⟨D', e0, e1, e2, e3, e4, e5⟩ := c_97 (b := b) (w := w) (T := T) (pa := pa) (dr := dr) (np := np) (mk := mk) (k := kdO (B st)) hn (by omega) (n - (st + 1)) FU (st + 1) (up2 (up2 D 10 2 (nI (kdO (B st)))) 10 4 (nI (st + 1))) (by omega) (by unfold FU; omega) h1 rfl rfl hB
      refine ⟨D', ?_, e3, e1, e2, e4.trans h3, fun x hx => (e5 x hx).trans (by rw [up2_ne hx, up2_ne hx])⟩
      simp (decide := true) only [fX8_toNextToken_46, bn_s, bn2_s, or_self, hr10_0, hr10_1, hr10_3, hw10_2, hw10_4, hl11, h1, h3, hB, f_kind, c1, c3, c4, c5, if_false, if_true, up2_same, upd_app, nI_1]
      exact e0
theorem c_8 {n : Nat} {B : Nat → Int32} (hn : n ≤ 300) : ∀ (r m p : Nat) (D : Nat → Nat → Int32), p + r = n → r < m → D 10 1 = nI n → D 10 3 = nI p → D 11 = B → ∃ D', fX8_toNextToken_8 m (b + 10) (HH b D w T pa dr np mk) = fX8_toNextToken_46 (b + 10) (HH b D' w T pa dr np mk) ∧ D' 10 3 = nI (run isBl B r p) ∧ D' 10 1 = D 10 1 ∧ ∀ x, x ≠ 10 → D' x = D x := by
  intro r
  induction r with
  | zero =>
    intro m p D hp hm h1 h3 hB
    obtain ⟨m, rfl⟩ : ∃ m', m = m' + 1 := ⟨m - 1, by omega⟩
    have e : p = n := by omega
    subst e
    have c1 : nI p ≤ nI p := nI_le (Nat.le_refl _) (by omega)
    refine ⟨D, ?_, h3, rfl, fun _ _ => rfl⟩
    simp (decide := true) only [fX8_toNextToken_8, bn_s, hr10_1, hr10_3, h1, h3, c1, if_true]
  | succ r ih =>
    intro m p D hp hm h1 h3 hB
    obtain ⟨m, rfl⟩ : ∃ m', m = m' + 1 := ⟨m - 1, by omega⟩
    have c1 : ¬ nI n ≤ nI p := nI_ge (by omega) (by omega)
    have c3 : ¬ nI p < 0 := nI_pos (by omega)
    have c4 : (nI p).toNatClampNeg = p := nI_clamp (by omega)
    have c5 : ¬ 300 ≤ p := by omega
    unfold run
    by_cases q : B p = 32
    · rw [if_pos (isBl_t.mpr q)]
      obtain ⟨D', e0, e1, e2, e5⟩ := ih m (p + 1) (up2 D 10 3 (nI (p + 1))) (by omega) (by omega) h1 rfl hB
      refine ⟨D', ?_, e1, e2, fun x hx => (e5 x hx).trans (up2_ne hx)⟩
      simp (decide := true) only [fX8_toNextToken_8, bn_s, or_self, hr10_0, hr10_1, hr10_3, hw10_3, hl11, h1, h3, hB, q, c1, c3, c4, c5, if_true, if_false, nI_1, e0]
    · rw [if_neg (fun z => q (isBl_t.mp z))]
      refine ⟨D, ?_, h3, rfl, fun _ _ => rfl⟩
      simp (decide := true) only [fX8_toNextToken_8, bn_s, or_self, hr10_0, hr10_1, hr10_3, hl11, h1, h3, hB, q, c1, c3, c4, c5, if_true, if_false]
theorem c_next {n p : Nat} {B : Nat → Int32} {D : Nat → Nat → Int32} (hn : n ≤ 300) (hp : p ≤ n) (h1 : D 10 1 = nI n) (h4 : D 10 4 = nI p) (hB : D 11 = B) : ∃ D', fX8_toNextToken (b + 10) (HH b D w T pa dr np mk) = some ((), HH b D' w T pa dr np mk) ∧ D' 10 1 = nI n ∧ D' 10 2 = nI (tK B n p) ∧ D' 10 3 = nI (tS B n p) ∧ D' 10 4 = nI (tE B n p) ∧ ∀ x, x ≠ 10 → D' x = D x := by
  obtain ⟨D1, a0, a1, a2, a3⟩ := c_8 (b := b) (w := w) (T := T) (pa := pa) (dr := dr) (np := np) (mk := mk) (B := B) hn (n - p) FU p (up2 D 10 3 (nI p)) (by omega) (by unfold FU; omega) h1 rfl hB
  obtain ⟨r1, r2, r3, r4⟩ := run_b (P := isBl) (B := B) (n - p) p
  obtain ⟨D2, b0, b1, b2, b3, b4, b5⟩ := c_46 (b := b) (w := w) (T := T) (pa := pa) (dr := dr) (np := np) (mk := mk) (B := B) (D := D1) (st := tS B n p) hn (by unfold tS; omega) (a2.trans h1) a1 ((a3 11 (by decide)).trans hB)
  have hk := kdO_r (B (tS B n p))
  refine ⟨D2, ?_, b3.trans (a2.trans h1), b1, b4, ?_, fun x hx => (b5 x hx).trans ((a3 x hx).trans (up2_ne hx))⟩
  · simp (decide := true) only [fX8_toNextToken, bn_s, hr10_4, hw10_3, h4, a0, b0]
  · rw [b2]
    unfold tE tK
    by_cases q : tS B n p = n
    · rw [if_pos q, if_pos q, if_pos rfl]
    · rw [if_neg q, if_neg q, if_neg (show ¬ kdO (B (tS B n p)) = 0 by omega)]
end
