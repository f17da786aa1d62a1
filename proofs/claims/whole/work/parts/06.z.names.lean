theorem dg_step {B : Nat → Int32} {st i : Nat} {v : Int32} (hd : isDg (B (st + i)) = true) (hv : dgW B st i = v.toInt64) (h0 : 0 ≤ v.toInt) (h1 : v.toInt ≤ 1000) : dgW B st (i + 1) = (v * 10 + B (st + i) - 48).toInt64 ∧ 0 ≤ (v * 10 + B (st + i) - 48).toInt ∧ (v * 10 + B (st + i) - 48).toInt ≤ 10009 := by
  have hx := dg_v hd
  have e10 : (10 : Int32).toInt = 10 := rfl
  have e48 : (48 : Int32).toInt = 48 := rfl
  have f10 : (10 : Int64).toInt = 10 := rfl
  have f48 : (48 : Int64).toInt = 48 := rfl
  have a1 : (v * 10).toInt = v.toInt * 10 := by rw [tm3 _ _ (by rw [e10]; omega) (by rw [e10]; omega), e10]
  have a2 : (v * 10 + B (st + i)).toInt = v.toInt * 10 + (B (st + i)).toInt := by rw [ta _ _ (by rw [a1]; omega) (by rw [a1]; omega), a1]
  have a3 : (v * 10 + B (st + i) - 48).toInt = v.toInt * 10 + (B (st + i)).toInt - 48 := by rw [tsub _ _ (by rw [a2, e48]; omega) (by rw [a2, e48]; omega), a2, e48]
  have b1 : (v.toInt64 * 10).toInt = v.toInt * 10 := by rw [tm6 _ _ (by rw [f10, ti64]; omega) (by rw [f10, ti64]; omega), f10, ti64]
  have b2 : (v.toInt64 * 10 + (B (st + i)).toInt64).toInt = v.toInt * 10 + (B (st + i)).toInt := by rw [ta6 _ _ (by rw [b1, ti64]; omega) (by rw [b1, ti64]; omega), b1, ti64]
  have b3 : (v.toInt64 * 10 + (B (st + i)).toInt64 - 48).toInt = v.toInt * 10 + (B (st + i)).toInt - 48 := by rw [ts6 _ _ (by rw [b2, f48]; omega) (by rw [b2, f48]; omega), b2, f48]
  refine ⟨?_, by rw [a3]; omega, by rw [a3]; omega⟩
  have es : dgW B st (i + 1) = if dgW B st i ≤ 1000 then dgW B st i * 10 + (B (st + i)).toInt64 - 48 else dgW B st i := rfl
  have f1000 : (1000 : Int64).toInt = 1000 := rfl
  rw [es, hv, if_pos (by rw [le6, ti64, f1000]; exact h1), eq6, ti64, a3, b3]
theorem dg_stuck {B : Nat → Int32} {st i : Nat} (h : ¬ dgW B st i ≤ 1000) : ∀ k, dgW B st (i + k) = dgW B st i
  | 0 => rfl
  | k + 1 => by
    show (if dgW B st (i + k) ≤ 1000 then _ else dgW B st (i + k)) = _
    rw [dg_stuck h k, if_neg h]
section
variable {b : Nat} {D : Nat → Nat → Int32} {w : Int64} {T : Nat → Int64} {pa dr np mk : Nat}
theorem lp_num {st sp : Nat} {B : Nat → Int32} (hsp : sp ≤ 300) (h4 : D 10 4 = nI sp) (hB : D 11 = B) (hd : ∀ x, st ≤ x → x < sp → isDg (B x) = true) : ∀ (r m i : Nat) (v : Int32), st + i + r = sp → r < m → dgW B st i = v.toInt64 → 0 ≤ v.toInt → v.toInt ≤ 1000 → (dgW B st (i + r) ≤ 1000 → ∃ u, fX8_numberToThousand_17 m (b + 10) v (nI (st + i)) (HH b D w T pa dr np mk) = some (u, HH b D w T pa dr np mk) ∧ dgW B st (i + r) = u.toInt64 ∧ 0 ≤ u.toInt ∧ u.toInt ≤ 1000) ∧ (¬ dgW B st (i + r) ≤ 1000 → fX8_numberToThousand_17 m (b + 10) v (nI (st + i)) (HH b D w T pa dr np mk) = some (-1, HH b D w T pa dr np mk)) := by
  have f1000 : (1000 : Int64).toInt = 1000 := rfl
  have e1000 : (1000 : Int32).toInt = 1000 := rfl
  intro r
  induction r with
  | zero =>
    intro m i v hi hm hv h0 h1
    obtain ⟨m, rfl⟩ : ∃ m', m = m' + 1 := ⟨m - 1, by omega⟩
    have c1 : nI sp ≤ nI (st + i) := nI_le (by omega) (by omega)
    refine ⟨fun _ => ⟨v, ?_, hv, h0, h1⟩, fun h => absurd (by rw [Nat.add_zero, hv, le6, ti64, f1000]; exact h1) h⟩
    simp (decide := true) only [fX8_numberToThousand_17, bn_s, hr10_4, h4, c1, if_true]
  | succ r ih =>
    intro m i v hi hm hv h0 h1
    obtain ⟨m, rfl⟩ : ∃ m', m = m' + 1 := ⟨m - 1, by omega⟩
    have c1 : ¬ nI sp ≤ nI (st + i) := nI_ge (by omega) (by omega)
    have c3 : ¬ nI (st + i) < 0 := nI_pos (by omega)
    have c4 : (nI (st + i)).toNatClampNeg = st + i := nI_clamp (by omega)
    have c5 : ¬ 300 ≤ st + i := by omega
    obtain ⟨s1, s2, s3⟩ := dg_step (hd (st + i) (by omega) (by omega)) hv h0 h1
    by_cases q : (v * 10 + B (st + i) - 48) ≤ 1000
    · have q2 := (le3 _ _).mp q
      rw [e1000] at q2
      have ih := ih m (i + 1) (v * 10 + B (st + i) - 48) (by omega) (by omega) s1 s2 q2
      have base : fX8_numberToThousand_17 (m + 1) (b + 10) v (nI (st + i)) (HH b D w T pa dr np mk) = fX8_numberToThousand_17 m (b + 10) (v * 10 + B (st + i) - 48) (nI (st + (i + 1))) (HH b D w T pa dr np mk) := by
        rw [fX8_numberToThousand_17]
        simp (decide := true) only [bn_s, nm_s, or_self, hr10_0, hr10_4, hl11, h4, hB, c1, c3, c4, c5, q, if_true, if_false, nI_1, Nat.add_assoc]
      rw [base, show i + (r + 1) = i + 1 + r by omega]
      exact ih
    · have hbig : ¬ dgW B st (i + 1) ≤ 1000 := by
        rw [s1, le6, ti64, f1000]
        rw [le3, e1000] at q
        exact q
      have es := dg_stuck hbig r
      rw [show i + (r + 1) = i + 1 + r by omega, es]
      refine ⟨fun h => absurd h hbig, fun _ => ?_⟩
      simp (decide := true) only [fX8_numberToThousand_17, bn_s, nm_s, or_self, hr10_0, hr10_4, hl11, h4, hB, c1, c3, c4, c5, q, if_true, if_false]
theorem c_num {st sp kd : Nat} {B : Nat → Int32} (hk : kd ≤ 3) (hst : st ≤ sp) (hsp : sp ≤ 300) (h2 : D 10 2 = nI kd) (h3 : D 10 3 = nI st) (h4 : D 10 4 = nI sp) (hB : D 11 = B) (hd : kd = 2 → ∀ x, st ≤ x → x < sp → isDg (B x) = true) : ((kd = 2 ∧ dgW B st (sp - st) ≤ 1000) → ∃ u, fX8_numberToThousand (b + 10) (HH b D w T pa dr np mk) = some (u, HH b D w T pa dr np mk) ∧ dgW B st (sp - st) = u.toInt64 ∧ 0 ≤ u.toInt ∧ u.toInt ≤ 1000) ∧ (¬ (kd = 2 ∧ dgW B st (sp - st) ≤ 1000) → fX8_numberToThousand (b + 10) (HH b D w T pa dr np mk) = some (-1, HH b D w T pa dr np mk)) := by
  by_cases q : kd = 2
  · subst q
    have L := lp_num (b := b) (D := D) (w := w) (T := T) (pa := pa) (dr := dr) (np := np) (mk := mk) hsp h4 hB (hd rfl) (sp - st) FU 0 0 (by omega) (by unfold FU; omega) rfl (by decide) (by decide)
    rw [Nat.zero_add, Nat.add_zero] at L
    have q1 : nI 2 = 2 := rfl
    have base : fX8_numberToThousand (b + 10) (HH b D w T pa dr np mk) = fX8_numberToThousand_17 FU (b + 10) 0 (nI st) (HH b D w T pa dr np mk) := by
      simp (decide := true) only [fX8_numberToThousand, bn_s, hr10_2, hr10_3, h2, h3, q1, if_true]
    rw [base]
    exact ⟨fun h => L.1 h.2, fun h => L.2 (fun z => h ⟨rfl, z⟩)⟩
  · have q1 : ¬ nI kd = 2 := nne (K := 2) q (by omega) (by decide)
    refine ⟨fun h => absurd h.1 q, fun _ => ?_⟩
    simp (decide := true) only [fX8_numberToThousand, bn_s, hr10_2, h2, q1, if_false]
/-! names -/
def NM (B : Nat → Int32) (st sp a e : Nat) : Prop := sp - st = e - a ∧ ∀ y, y < e - a → B (st + y) = B (a + y)
theorem lp_same {st a e : Nat} {B : Nat → Int32} (hae : a ≤ e) (hst : st + (e - a) ≤ 300) (he : e ≤ 300) (h3 : D 10 3 = nI st) (hB : D 11 = B) : ∀ (r m i : Nat), i + r = e - a → r < m → ((∀ x, i ≤ x → x < e - a → B (st + x) = B (a + x)) → fX8_isSameAs_31 m (b + 10) (nI a) (nI e) (nI i) (HH b D w T pa dr np mk) = some (1, HH b D w T pa dr np mk)) ∧ ((∃ x, i ≤ x ∧ x < e - a ∧ ¬ B (st + x) = B (a + x)) → fX8_isSameAs_31 m (b + 10) (nI a) (nI e) (nI i) (HH b D w T pa dr np mk) = some (0, HH b D w T pa dr np mk)) := by
  have d1 : nI e - nI a = nI (e - a) := pk_sub hae
  intro r
  induction r with
  | zero =>
    intro m i hi hm
    obtain ⟨m, rfl⟩ : ∃ m', m = m' + 1 := ⟨m - 1, by omega⟩
    have c1 : nI (e - a) ≤ nI i := nI_le (by omega) (by omega)
    refine ⟨fun _ => ?_, fun h => by obtain ⟨x, x1, x2, _⟩ := h; omega⟩
    simp (decide := true) only [fX8_isSameAs_31, d1, c1, if_true]
  | succ r ih =>
    intro m i hi hm
    obtain ⟨m, rfl⟩ : ∃ m', m = m' + 1 := ⟨m - 1, by omega⟩
    have c1 : ¬ nI (e - a) ≤ nI i := nI_ge (by omega) (by omega)
    have c3 : ¬ nI (st + i) < 0 := nI_pos (by omega)
    have c4 : (nI (st + i)).toNatClampNeg = st + i := nI_clamp (by omega)
    have c5 : ¬ 300 ≤ st + i := by omega
    have k3 : ¬ nI (a + i) < 0 := nI_pos (by omega)
    have k4 : (nI (a + i)).toNatClampNeg = a + i := nI_clamp (by omega)
    have k5 : ¬ 300 ≤ a + i := by omega
    have ih := ih m (i + 1) (by omega) (by omega)
    by_cases q : B (st + i) = B (a + i)
    · have base : fX8_isSameAs_31 (m + 1) (b + 10) (nI a) (nI e) (nI i) (HH b D w T pa dr np mk) = fX8_isSameAs_31 m (b + 10) (nI a) (nI e) (nI (i + 1)) (HH b D w T pa dr np mk) := by
        rw [fX8_isSameAs_31]
        simp (decide := true) only [bn_s, or_self, hr10_0, hr10_3, hl11, h3, hB, d1, nI_add, c1, c3, c4, c5, k3, k4, k5, q, if_true, if_false, nI_1]
      rw [base]
      exact ⟨fun h => ih.1 (fun x x1 x2 => h x (by omega) x2), fun h => by
        obtain ⟨x, x1, x2, x3⟩ := h
        exact ih.2 ⟨x, by have : x ≠ i := fun z => x3 (by rw [z]; exact q); omega, x2, x3⟩⟩
    · refine ⟨fun h => absurd (h i (Nat.le_refl _) (by omega)) q, fun _ => ?_⟩
      simp (decide := true) only [fX8_isSameAs_31, bn_s, or_self, hr10_0, hr10_3, hl11, h3, hB, d1, nI_add, c1, c3, c4, c5, k3, k4, k5, q, if_true, if_false]
theorem c_same {st sp a e : Nat} {B : Nat → Int32} (hae : a ≤ e) (hes : e ≤ st) (hst : st ≤ sp) (hsp : sp ≤ 300) (h3 : D 10 3 = nI st) (h4 : D 10 4 = nI sp) (hB : D 11 = B) : (NM B st sp a e → fX8_isSameAs (b + 10) (nI a) (nI e) (HH b D w T pa dr np mk) = some (1, HH b D w T pa dr np mk)) ∧ (¬ NM B st sp a e → fX8_isSameAs (b + 10) (nI a) (nI e) (HH b D w T pa dr np mk) = some (0, HH b D w T pa dr np mk)) := by
  have d1 : nI e - nI a = nI (e - a) := pk_sub hae
  have d2 : nI sp - nI st = nI (sp - st) := pk_sub hst
  have d3 : ¬ nI a < 0 := nI_pos (by omega)
  have d4 : ¬ nI st < nI e := nI_nlt hes (by omega)
  unfold NM
  by_cases q : sp - st = e - a
  · have L := lp_same (b := b) (D := D) (w := w) (T := T) (pa := pa) (dr := dr) (np := np) (mk := mk) hae (by omega) (by omega) h3 hB (e - a) FU 0 (by omega) (by unfold FU; omega)
    rw [nI_0] at L
    have base : fX8_isSameAs (b + 10) (nI a) (nI e) (HH b D w T pa dr np mk) = fX8_isSameAs_31 FU (b + 10) (nI a) (nI e) 0 (HH b D w T pa dr np mk) := by
      simp (decide := true) only [fX8_isSameAs, bn_s, hr10_3, hr10_4, h3, h4, d1, d2, d3, d4, q, if_true, if_false]
    rw [base]
    refine ⟨fun h => L.1 (fun x _ x2 => h.2 x x2), fun h => L.2 (Classical.byContradiction (fun z => h ⟨q, fun i hi => Classical.byContradiction (fun y => z ⟨i, by omega, hi, y⟩)⟩))⟩
  · have q3 : ¬ nI (sp - st) = nI (e - a) := nne q (by omega) (by omega)
    refine ⟨fun h => absurd h.1 q, fun _ => ?_⟩
    simp (decide := true) only [fX8_isSameAs, bn_s, hr10_3, hr10_4, h3, h4, d1, d2, d3, d4, q3, if_true, if_false]
theorem lp_tn {st sp c : Nat} {B : Nat → Int32} {ns ne : Nat → Nat} (hc : c < 10) (hst : st ≤ sp) (hsp : sp ≤ 300) (h3 : D 10 3 = nI st) (h4 : D 10 4 = nI sp) (hB : D 11 = B) (hn : ∀ i, i < c → D 12 i = nI (ns i) ∧ D 13 i = nI (ne i) ∧ ns i ≤ ne i ∧ ne i ≤ st) : ∀ (r m i : Nat), i + r = c → r < m → ((∃ x, i ≤ x ∧ x < c ∧ NM B st sp (ns x) (ne x)) → fX1_takeName_21 m (b + 9) (nI c) (nI i) (HH b D w T pa dr np mk) = some (0, HH b D w T pa dr np mk)) ∧ ((∀ x, i ≤ x → x < c → ¬ NM B st sp (ns x) (ne x)) → ∃ m', fX1_takeName_21 m (b + 9) (nI c) (nI i) (HH b D w T pa dr np mk) = fX1_takeName_21 (m' + 1) (b + 9) (nI c) (nI c) (HH b D w T pa dr np mk)) := by
  intro r
  induction r with
  | zero =>
    intro m i hi hm
    obtain ⟨m, rfl⟩ : ∃ m', m = m' + 1 := ⟨m - 1, by omega⟩
    have e : i = c := by omega
    subst e
    exact ⟨fun h => by obtain ⟨x, x1, x2, _⟩ := h; omega, fun _ => ⟨m, rfl⟩⟩
  | succ r ih =>
    intro m i hi hm
    obtain ⟨m, rfl⟩ : ∃ m', m = m' + 1 := ⟨m - 1, by omega⟩
    have c1 : ¬ nI c ≤ nI i := nI_ge (by omega) (by omega)
    have c3 : ¬ nI i < 0 := nI_pos (by omega)
    have c4 : (nI i).toNatClampNeg = i := nI_clamp (by omega)
    have c5 : ¬ 10 ≤ i := by omega
    have ih := ih m (i + 1) (by omega) (by omega)
    obtain ⟨n1, n2, n3, n4⟩ := hn i (by omega)
    have S := c_same (b := b) (D := D) (w := w) (T := T) (pa := pa) (dr := dr) (np := np) (mk := mk) n3 n4 hst hsp h3 h4 hB
    by_cases q : NM B st sp (ns i) (ne i)
    · have S := S.1 q
      refine ⟨fun _ => ?_, fun h => absurd q (h i (Nat.le_refl _) (by omega))⟩
      simp (decide := true) only [fX1_takeName_21, bn_s, bn2_s, or_self, hr9_0, hr9_1, hr9_2, hk10, hl12, hl13, n1, n2, c1, c3, c4, c5, S, if_true, if_false]
    · have S := S.2 q
      have base : fX1_takeName_21 (m + 1) (b + 9) (nI c) (nI i) (HH b D w T pa dr np mk) = fX1_takeName_21 m (b + 9) (nI c) (nI (i + 1)) (HH b D w T pa dr np mk) := by
        rw [fX1_takeName_21]
        simp (decide := true) only [bn_s, bn2_s, or_self, hr9_0, hr9_1, hr9_2, hk10, hl12, hl13, n1, n2, c1, c3, c4, c5, S, if_true, if_false, nI_1]
      rw [base]
      exact ⟨fun h => by
        obtain ⟨x, x1, x2, x3⟩ := h
        exact ih.1 ⟨x, by have : x ≠ i := fun z => q (by rw [← z]; exact x3); omega, x2, x3⟩, fun h => ih.2 (fun x x1 x2 => h x (by omega) x2)⟩
/-! the reference's -/
theorem m_39n {r4 : Nat → Int32 → Int32 → PH → Option (Int32 × PH)} {m : Nat} {is : Int32} {i k : Nat} {ln : Nat} (hi : i < 10) (hl : ln ≤ 300) (hk : k ≤ 300) (h51 : D 51 i = nI ln) : fX10_isNamed_39 r4 (m + 1) (b + 40) is (nI i) 0 (nI k) (HH b D w T pa dr np mk) = fX10_isNamed_95 r4 (b + 40) is (nI i) 0 (HH b D w T pa dr np mk) := by
  have c3 : ¬ nI i < 0 := nI_pos (by omega)
  have c4 : (nI i).toNatClampNeg = i := nI_clamp (by omega)
  have c5 : ¬ 10 ≤ i := by omega
  by_cases q : nI ln ≤ nI k
  · simp (decide := true) only [fX10_isNamed_39, bn_s, or_self, hr40_18, hl51, h51, c3, c4, c5, q, if_true, if_false]
  · simp (decide := true) only [fX10_isNamed_39, bn_s, or_self, hr40_18, hl51, h51, c3, c4, c5, q, if_true, if_false]
theorem m_39 {r4 : Nat → Int32 → Int32 → PH → Option (Int32 × PH)} {is : Int32} {i a ln st : Nat} {B : Nat → Int32} (hi : i < 10) (h50 : D 50 i = nI a) (h51 : D 51 i = nI ln) (h21 : D 40 21 = nI st) (hB : D 52 = B) (h1 : a + ln ≤ 300) (h2 : st + ln ≤ 300) : ∀ (r m k : Nat), k + r = ln → r + 1 < m → ((∀ x, k ≤ x → x < ln → B (st + x) = B (a + x)) → fX10_isNamed_39 r4 m (b + 40) is (nI i) 1 (nI k) (HH b D w T pa dr np mk) = fX10_isNamed_95 r4 (b + 40) is (nI i) 1 (HH b D w T pa dr np mk)) ∧ ((∃ x, k ≤ x ∧ x < ln ∧ ¬ B (st + x) = B (a + x)) → fX10_isNamed_39 r4 m (b + 40) is (nI i) 1 (nI k) (HH b D w T pa dr np mk) = fX10_isNamed_95 r4 (b + 40) is (nI i) 0 (HH b D w T pa dr np mk)) := by
  have c3 : ¬ nI i < 0 := nI_pos (by omega)
  have c4 : (nI i).toNatClampNeg = i := nI_clamp (by omega)
  have c5 : ¬ 10 ≤ i := by omega
  intro r
  induction r with
  | zero =>
    intro m k hk hm
    obtain ⟨m, rfl⟩ : ∃ m', m = m' + 1 := ⟨m - 1, by omega⟩
    have c1 : nI ln ≤ nI k := nI_le (by omega) (by omega)
    refine ⟨fun _ => ?_, fun h => by obtain ⟨x, x1, x2, _⟩ := h; omega⟩
    simp (decide := true) only [fX10_isNamed_39, bn_s, or_self, hr40_18, hl51, h51, c3, c4, c5, c1, if_true, if_false]
  | succ r ih =>
    intro m k hk hm
    obtain ⟨m, rfl⟩ : ∃ m', m = m' + 1 := ⟨m - 1, by omega⟩
    have c1 : ¬ nI ln ≤ nI k := nI_ge (by omega) (by omega)
    have d3 : ¬ nI (st + k) < 0 := nI_pos (by omega)
    have d4 : (nI (st + k)).toNatClampNeg = st + k := nI_clamp (by omega)
    have d5 : ¬ 300 ≤ st + k := by omega
    have k3 : ¬ nI (a + k) < 0 := nI_pos (by omega)
    have k4 : (nI (a + k)).toNatClampNeg = a + k := nI_clamp (by omega)
    have k5 : ¬ 300 ≤ a + k := by omega
    have ih := ih m (k + 1) (by omega) (by omega)
    by_cases q : B (st + k) = B (a + k)
    · have base : fX10_isNamed_39 r4 (m + 1) (b + 40) is (nI i) 1 (nI k) (HH b D w T pa dr np mk) = fX10_isNamed_39 r4 m (b + 40) is (nI i) 1 (nI (k + 1)) (HH b D w T pa dr np mk) := by
        rw [fX10_isNamed_39]
        simp (decide := true) only [fX10_isNamed_88, bn_s, or_self, hr40_17, hr40_18, hr40_19, hr40_21, hl50, hl51, hl52, h50, h51, h21, hB, nI_add, c1, c3, c4, c5, d3, d4, d5, k3, k4, k5, q, if_true, if_false, nI_1]
      rw [base]
      exact ⟨fun h => ih.1 (fun x x1 x2 => h x (by omega) x2), fun h => by
        obtain ⟨x, x1, x2, x3⟩ := h
        exact ih.2 ⟨x, by have : x ≠ k := fun z => x3 (by rw [z]; exact q); omega, x2, x3⟩⟩
    · refine ⟨fun h => absurd (h k (Nat.le_refl _) (by omega)) q, fun _ => ?_⟩
      have q' : ¬ B (a + k) = B (st + k) := fun z => q z.symm
      obtain ⟨m, rfl⟩ : ∃ m', m = m' + 1 := ⟨m - 1, by omega⟩
      have N := m_39n (b := b) (D := D) (w := w) (T := T) (pa := pa) (dr := dr) (np := np) (mk := mk) (r4 := r4) (m := m) (is := is) (k := k + 1) hi (show ln ≤ 300 by omega) (by omega) h51
      rw [fX10_isNamed_39]
      simp (decide := true) only [fX10_isNamed_88, bn_s, or_self, hr40_17, hr40_18, hr40_19, hr40_21, hl50, hl51, hl52, h50, h51, h21, hB, nI_add, c1, c3, c4, c5, d3, d4, d5, k3, k4, k5, q', if_true, if_false, nI_1, N]
theorem lp_mn {st sp c : Nat} {B : Nat → Int32} {ns ne : Nat → Nat} (hc : c ≤ 10) (hst : st ≤ sp) (hsp : sp ≤ 300) (h13 : D 40 13 = nI c) (h21 : D 40 21 = nI st) (h22 : D 40 22 = nI sp) (hB : D 52 = B) (hn : ∀ i, i < c → D 50 i = nI (ns i) ∧ D 51 i = nI (ne i - ns i) ∧ ns i ≤ ne i ∧ ne i ≤ st) : ∀ (r m i : Nat) (is : Int32), i + r = c → r < m → ((is = 1 ∨ is = 0 ∧ ∃ x, i ≤ x ∧ x < c ∧ NM B st sp (ns x) (ne x)) → fX10_isNamed_4 m (b + 40) is (nI i) (HH b D w T pa dr np mk) = some (1, HH b D w T pa dr np mk)) ∧ ((is = 0 ∧ ∀ x, i ≤ x → x < c → ¬ NM B st sp (ns x) (ne x)) → fX10_isNamed_4 m (b + 40) is (nI i) (HH b D w T pa dr np mk) = some (0, HH b D w T pa dr np mk)) := by
  intro r
  induction r with
  | zero =>
    intro m i is hi hm
    obtain ⟨m, rfl⟩ : ∃ m', m = m' + 1 := ⟨m - 1, by omega⟩
    have e : i = c := by omega
    subst e
    have c1 : nI i ≤ nI i := nI_le (Nat.le_refl _) (by omega)
    refine ⟨fun h => ?_, fun h => ?_⟩
    · have h : is = 1 := h.resolve_right (fun z => by obtain ⟨_, x, x1, x2, _⟩ := z; omega)
      subst h
      simp (decide := true) only [fX10_isNamed_4, bn_s, hr40_13, h13, c1, if_true, or_true]
    · obtain ⟨rfl, _⟩ := h
      simp (decide := true) only [fX10_isNamed_4, bn_s, hr40_13, h13, c1, if_true, true_or]
  | succ r ih =>
    intro m i is hi hm
    obtain ⟨m, rfl⟩ : ∃ m', m = m' + 1 := ⟨m - 1, by omega⟩
    have c1 : ¬ nI c ≤ nI i := nI_ge (by omega) (by omega)
    have c3 : ¬ nI i < 0 := nI_pos (by omega)
    have c4 : (nI i).toNatClampNeg = i := nI_clamp (by omega)
    have c5 : ¬ 10 ≤ i := by omega
    have d2 : nI sp - nI st = nI (sp - st) := pk_sub hst
    obtain ⟨n1, n2, n3, n4⟩ := hn i (by omega)
    have r95 : ∀ f : Int32, (f = 0 ∨ f = 1) → fX10_isNamed_95 (fX10_isNamed_4 m) (b + 40) is (nI i) f (HH b D w T pa dr np mk) = fX10_isNamed_4 m (b + 40) (if is = 0 ∧ f = 0 then 0 else 1) (nI (i + 1)) (HH b D w T pa dr np mk) := by
      intro f hf
      by_cases y1 : is = 0
      · rcases hf with rfl | rfl
        · simp (decide := true) only [fX10_isNamed_95, fX10_isNamed_103, fX10_isNamed_108, y1, and_self, if_true, nI_1]
        · simp (decide := true) only [fX10_isNamed_95, fX10_isNamed_103, fX10_isNamed_108, y1, and_false, if_true, if_false, nI_1]
      · simp (decide := true) only [fX10_isNamed_95, fX10_isNamed_103, fX10_isNamed_108, y1, false_and, if_true, if_false, nI_1]
    by_cases q : NM B st sp (ns i) (ne i)
    · have L := (m_39 (b := b) (D := D) (w := w) (T := T) (pa := pa) (dr := dr) (np := np) (mk := mk) (r4 := fX10_isNamed_4 m) (is := is) (show i < 10 by omega) n1 n2 h21 hB (by omega) (by have := q.1; omega) (ne i - ns i) FU 0 (by omega) (by unfold FU; omega)).1 (fun x _ x2 => q.2 x x2)
      rw [nI_0, r95 1 (Or.inr rfl), if_neg (fun z => absurd z.2 (by decide))] at L
      have q1 : nI (ne i - ns i) = nI (sp - st) := by rw [q.1]
      have base : fX10_isNamed_4 (m + 1) (b + 40) is (nI i) (HH b D w T pa dr np mk) = fX10_isNamed_4 m (b + 40) 1 (nI (i + 1)) (HH b D w T pa dr np mk) := by
        rw [fX10_isNamed_4]
        simp (decide := true) only [fX10_isNamed_35, bn_s, or_self, hr40_13, hr40_18, hr40_21, hr40_22, hl51, h13, h21, h22, n2, d2, c1, c3, c4, c5, q1, if_true, if_false, L]
      rw [base]
      exact ⟨fun _ => (ih m (i + 1) 1 (by omega) (by omega)).1 (Or.inl rfl), fun h => absurd q (h.2 i (Nat.le_refl _) (by omega))⟩
    · have base : fX10_isNamed_4 (m + 1) (b + 40) is (nI i) (HH b D w T pa dr np mk) = fX10_isNamed_4 m (b + 40) (if is = 0 then 0 else 1) (nI (i + 1)) (HH b D w T pa dr np mk) := by
        rw [fX10_isNamed_4]
        by_cases y : sp - st = ne i - ns i
        · have L := (m_39 (b := b) (D := D) (w := w) (T := T) (pa := pa) (dr := dr) (np := np) (mk := mk) (r4 := fX10_isNamed_4 m) (is := is) (show i < 10 by omega) n1 n2 h21 hB (by omega) (by omega) (ne i - ns i) FU 0 (by omega) (by unfold FU; omega)).2 (Classical.byContradiction (fun z => q ⟨y, fun x hx => Classical.byContradiction (fun v => z ⟨x, by omega, hx, v⟩)⟩))
          rw [nI_0, r95 0 (Or.inl rfl)] at L
          simp only [and_true] at L
          have q1 : nI (ne i - ns i) = nI (sp - st) := by rw [y]
          simp (decide := true) only [fX10_isNamed_35, bn_s, or_self, hr40_13, hr40_18, hr40_21, hr40_22, hl51, h13, h21, h22, n2, d2, c1, c3, c4, c5, q1, if_true, if_false, L]
        · have L := m_39n (b := b) (D := D) (w := w) (T := T) (pa := pa) (dr := dr) (np := np) (mk := mk) (r4 := fX10_isNamed_4 m) (m := 3999) (is := is) (k := 0) (show i < 10 by omega) (show ne i - ns i ≤ 300 by omega) (by omega) n2
          rw [nI_0, r95 0 (Or.inl rfl)] at L
          simp only [and_true] at L
          have L : fX10_isNamed_39 (fX10_isNamed_4 m) FU (b + 40) is (nI i) 0 0 (HH b D w T pa dr np mk) = fX10_isNamed_4 m (b + 40) (if is = 0 then 0 else 1) (nI (i + 1)) (HH b D w T pa dr np mk) := L
          have q1 : ¬ nI (ne i - ns i) = nI (sp - st) := nne (fun z => y z.symm) (by omega) (by omega)
          simp (decide := true) only [fX10_isNamed_35, bn_s, or_self, hr40_13, hr40_18, hr40_21, hr40_22, hl51, h13, h21, h22, n2, d2, c1, c3, c4, c5, q1, if_true, if_false, L]
      rw [base]
      refine ⟨fun h => ?_, fun h => ?_⟩
      · rcases h with h | ⟨h, x, x1, x2, x3⟩
        · subst h
          rw [if_neg (by decide)]
          exact (ih m (i + 1) 1 (by omega) (by omega)).1 (Or.inl rfl)
        · subst h
          rw [if_pos rfl]
          exact (ih m (i + 1) 0 (by omega) (by omega)).1 (Or.inr ⟨rfl, x, by have : x ≠ i := fun z => q (by rw [← z]; exact x3); omega, x2, x3⟩)
      · obtain ⟨h, h2⟩ := h
        subst h
        rw [if_pos rfl]
        exact (ih m (i + 1) 0 (by omega) (by omega)).2 ⟨rfl, fun x x1 x2 => h2 x (by omega) x2⟩
end
