/-! words and numbers -/
def cd (f : Nat → Nat) : Nat → Nat
  | 0 => 0
  | n + 1 => cd f n * 32 + f n
theorem cd_inj {f g : Nat → Nat} : ∀ L M, (∀ i, i < L → 1 ≤ f i ∧ f i ≤ 26) → (∀ i, i < M → 1 ≤ g i ∧ g i ≤ 26) → (cd f L = cd g M ↔ L = M ∧ ∀ i, i < L → f i = g i)
  | 0, 0, _, _ => ⟨fun _ => ⟨rfl, fun i hi => by omega⟩, fun _ => rfl⟩
  | 0, M + 1, _, hg => ⟨fun h => by
      change 0 = cd g M * 32 + g M at h
      have := hg M (by omega)
      omega, fun h => by omega⟩
  | L + 1, 0, hf, _ => ⟨fun h => by
      change cd f L * 32 + f L = 0 at h
      have := hf L (by omega)
      omega, fun h => by omega⟩
  | L + 1, M + 1, hf, hg => by
    have ih := cd_inj L M (fun i hi => hf i (by omega)) (fun i hi => hg i (by omega))
    have a := hf L (by omega)
    have c := hg M (by omega)
    show cd f L * 32 + f L = cd g M * 32 + g M ↔ _
    constructor
    · intro h
      obtain ⟨h1, h2⟩ := ih.mp (by omega)
      subst h1
      refine ⟨rfl, fun i hi => ?_⟩
      by_cases q : i = L
      · rw [q]; omega
      · exact h2 i (by omega)
    · intro h
      have e : L = M := by omega
      subst e
      have := ih.mpr ⟨rfl, fun i hi => h.2 i (by omega)⟩
      have := h.2 L (by omega)
      omega
theorem cd_lt {f : Nat → Nat} : ∀ n, (∀ i, i < n → f i ≤ 26) → cd f n < 32 ^ n
  | 0, _ => Nat.zero_lt_one
  | n + 1, h => by
    have := cd_lt n (fun i hi => h i (by omega))
    have := h n (by omega)
    show cd f n * 32 + f n < 32 ^ n * 32
    omega
theorem ta6 (a b : Int64) (h1 : -9223372036854775808 ≤ a.toInt + b.toInt) (h2 : a.toInt + b.toInt ≤ 9223372036854775807) : (a + b).toInt = a.toInt + b.toInt := by
  rw [Int64.toInt_add]
  apply Int.bmod_eq_of_le <;> omega
theorem ts6 (a b : Int64) (h1 : -9223372036854775808 ≤ a.toInt - b.toInt) (h2 : a.toInt - b.toInt ≤ 9223372036854775807) : (a - b).toInt = a.toInt - b.toInt := by
  rw [Int64.toInt_sub]
  apply Int.bmod_eq_of_le <;> omega
theorem tm6 (a b : Int64) (h1 : -9223372036854775808 ≤ a.toInt * b.toInt) (h2 : a.toInt * b.toInt ≤ 9223372036854775807) : (a * b).toInt = a.toInt * b.toInt := by
  rw [Int64.toInt_mul]
  apply Int.bmod_eq_of_le <;> omega
theorem tm3 (a b : Int32) (h1 : -2147483648 ≤ a.toInt * b.toInt) (h2 : a.toInt * b.toInt ≤ 2147483647) : (a * b).toInt = a.toInt * b.toInt := by
  rw [Int32.toInt_mul]
  apply Int.bmod_eq_of_le <;> omega
theorem lt_v {x : Int32} (h : isLt x = true) : 97 ≤ x.toInt ∧ x.toInt ≤ 122 := by
  have h := of_decide_eq_true h
  have a1 := (le3 _ _).mp h.1
  have a2 := (le3 _ _).mp h.2
  have e1 : (122 : Int32).toInt = 122 := rfl
  have e2 : (97 : Int32).toInt = 97 := rfl
  omega
theorem dg_v {x : Int32} (h : isDg x = true) : 48 ≤ x.toInt ∧ x.toInt ≤ 57 := by
  have h := of_decide_eq_true h
  have a1 := (le3 _ _).mp h.1
  have a2 := (le3 _ _).mp h.2
  have e1 : (57 : Int32).toInt = 57 := rfl
  have e2 : (48 : Int32).toInt = 48 := rfl
  omega
theorem wdW_cd {B : Nat → Int32} {st : Nat} : ∀ n, n ≤ 7 → (∀ i, i < n → isLt (B (st + i)) = true) → (wdW B st n).toInt = (cd (fun i => (B (st + i)).toNatClampNeg - 96) n : Nat)
  | 0, _, _ => rfl
  | n + 1, hn, h => by
    have ih := wdW_cd n (by omega) (fun i hi => h i (by omega))
    have hb : ∀ i, i < n + 1 → (fun i => (B (st + i)).toNatClampNeg - 96) i ≤ 26 := by
      intro i hi
      have := lt_v (h i hi)
      have : (B (st + i)).toNatClampNeg = (B (st + i)).toInt.toNat := rfl
      show (B (st + i)).toNatClampNeg - 96 ≤ 26
      omega
    have hl := cd_lt n (fun i hi => hb i (by omega))
    have hp : 32 ^ n ≤ 32 ^ 6 := Nat.pow_le_pow_right (by decide) (by omega)
    have h6 : 32 ^ 6 = 1073741824 := by decide
    have hv := lt_v (h n (by omega))
    have hc : (B (st + n)).toNatClampNeg = (B (st + n)).toInt.toNat := rfl
    have e32 : (32 : Int64).toInt = 32 := rfl
    have e96 : (96 : Int64).toInt = 96 := rfl
    unfold wdW
    rw [if_neg (by omega)]
    have x1 : (wdW B st n * 32).toInt = (wdW B st n).toInt * 32 := by rw [tm6 _ _ (by rw [e32]; omega) (by rw [e32]; omega), e32]
    have x2 : (wdW B st n * 32 + (B (st + n)).toInt64).toInt = (wdW B st n).toInt * 32 + (B (st + n)).toInt := by rw [ta6 _ _ (by rw [x1, ti64]; omega) (by rw [x1, ti64]; omega), x1, ti64]
    rw [ts6 _ _ (by rw [x2, e96]; omega) (by rw [x2, e96]; omega), x2, e96, ih]
    show _ = ((cd (fun i => (B (st + i)).toNatClampNeg - 96) n * 32 + ((B (st + n)).toNatClampNeg - 96) : Nat) : Int)
    omega
theorem wdW_8 {B : Nat → Int32} {st n : Nat} (hn : 8 ≤ n) : wdW B st n = -1 := by
  obtain ⟨k, rfl⟩ : ∃ k, n = k + 1 := ⟨n - 1, by omega⟩
  unfold wdW
  rw [if_pos (by omega)]
/-- the words' letters -/
def chr (s i : Nat) : Int32 := (sbyts.getD s []).getD i 0
def sle (s : Nat) : Nat := slens.getD s 0
theorem f_sk {s : Nat} (hs : s < 4) : schk s = some () := if_pos hs
theorem f_sl {s : Nat} (hs : s < 4) (H : PH) : fJ0_length_8abf5 s H = some (nI (sle s), H) := by
  have e : slenI s >>> ((0 : Int32) &&& 31) = nI (sle s) := by
    rcases (show s = 0 ∨ s = 1 ∨ s = 2 ∨ s = 3 by omega) with rfl | rfl | rfl | rfl <;> decide
  unfold fJ0_length_8abf5 fJ0_coder_7d493
  rw [f_sk hs, bn_s, bn_s, bn_s, if_neg (by decide), bn_s, bn2_s, e]
theorem f_sc {s i : Nat} (hs : s < 4) (hi : i < sle s) (H : PH) : fJ0_charAt_5068e s (nI i) H = some (chr s i, H) := by
  rcases (show s = 0 ∨ s = 1 ∨ s = 2 ∨ s = 3 by omega) with rfl | rfl | rfl | rfl
  · have : i < 4 := hi
    rcases (show i = 0 ∨ i = 1 ∨ i = 2 ∨ i = 3 by omega) with rfl | rfl | rfl | rfl <;> rfl
  · have : i < 6 := hi
    rcases (show i = 0 ∨ i = 1 ∨ i = 2 ∨ i = 3 ∨ i = 4 ∨ i = 5 by omega) with rfl | rfl | rfl | rfl | rfl | rfl <;> rfl
  · have : i < 6 := hi
    rcases (show i = 0 ∨ i = 1 ∨ i = 2 ∨ i = 3 ∨ i = 4 ∨ i = 5 by omega) with rfl | rfl | rfl | rfl | rfl | rfl <;> rfl
  · have : i < 2 := hi
    rcases (show i = 0 ∨ i = 1 by omega) with rfl | rfl <;> rfl
theorem chr_b {s i : Nat} (hs : s < 4) (hi : i < sle s) : isLt (chr s i) = true := by
  rcases (show s = 0 ∨ s = 1 ∨ s = 2 ∨ s = 3 by omega) with rfl | rfl | rfl | rfl
  · have : i < 4 := hi
    rcases (show i = 0 ∨ i = 1 ∨ i = 2 ∨ i = 3 by omega) with rfl | rfl | rfl | rfl <;> decide
  · have : i < 6 := hi
    rcases (show i = 0 ∨ i = 1 ∨ i = 2 ∨ i = 3 ∨ i = 4 ∨ i = 5 by omega) with rfl | rfl | rfl | rfl | rfl | rfl <;> decide
  · have : i < 6 := hi
    rcases (show i = 0 ∨ i = 1 ∨ i = 2 ∨ i = 3 ∨ i = 4 ∨ i = 5 by omega) with rfl | rfl | rfl | rfl | rfl | rfl <;> decide
  · have : i < 2 := hi
    rcases (show i = 0 ∨ i = 1 by omega) with rfl | rfl <;> decide
def wVal (s : Nat) : Int64 := Int64.ofNat (cd (fun i => (chr s i).toNatClampNeg - 96) (sle s))
theorem wVal_i {s : Nat} (hs : s < 4) : (wVal s).toInt = (cd (fun i => (chr s i).toNatClampNeg - 96) (sle s) : Nat) ∧ sle s ≤ 6 := by
  rcases (show s = 0 ∨ s = 1 ∨ s = 2 ∨ s = 3 by omega) with rfl | rfl | rfl | rfl <;> decide
theorem word_iff {B : Nat → Int32} {s st n : Nat} (hs : s < 4) (h : ∀ i, i < n → isLt (B (st + i)) = true) : wdW B st n = wVal s ↔ n = sle s ∧ ∀ i, i < n → B (st + i) = chr s i := by
  obtain ⟨v1, v2⟩ := wVal_i hs
  by_cases q : n ≤ 7
  · have e := wdW_cd n q h
    have hB : ∀ i, i < n → 1 ≤ (fun i => (B (st + i)).toNatClampNeg - 96) i ∧ (fun i => (B (st + i)).toNatClampNeg - 96) i ≤ 26 := by
      intro i hi
      have := lt_v (h i hi)
      have : (B (st + i)).toNatClampNeg = (B (st + i)).toInt.toNat := rfl
      show 1 ≤ (B (st + i)).toNatClampNeg - 96 ∧ (B (st + i)).toNatClampNeg - 96 ≤ 26
      omega
    have hC : ∀ i, i < sle s → 1 ≤ (fun i => (chr s i).toNatClampNeg - 96) i ∧ (fun i => (chr s i).toNatClampNeg - 96) i ≤ 26 := by
      intro i hi
      have := lt_v (chr_b hs hi)
      have : (chr s i).toNatClampNeg = (chr s i).toInt.toNat := rfl
      show 1 ≤ (chr s i).toNatClampNeg - 96 ∧ (chr s i).toNatClampNeg - 96 ≤ 26
      omega
    have ci := cd_inj n (sle s) hB hC
    rw [eq6, e, v1]
    constructor
    · intro z
      obtain ⟨z1, z2⟩ := ci.mp (by omega)
      refine ⟨z1, fun i hi => ?_⟩
      have a := z2 i hi
      have a1 := lt_v (h i hi)
      have a2 := lt_v (chr_b hs (show i < sle s by omega))
      have a3 : (B (st + i)).toNatClampNeg = (B (st + i)).toInt.toNat := rfl
      have a4 : (chr s i).toNatClampNeg = (chr s i).toInt.toNat := rfl
      change (B (st + i)).toNatClampNeg - 96 = (chr s i).toNatClampNeg - 96 at a
      rw [eq3]
      omega
    · intro z
      have := ci.mpr ⟨z.1, fun i hi => by
        show (B (st + i)).toNatClampNeg - 96 = (chr s i).toNatClampNeg - 96
        rw [z.2 i hi]⟩
      omega
  · constructor
    · intro z
      rw [wdW_8 (by omega)] at z
      have := congrArg Int64.toInt z
      have e1 : (-1 : Int64).toInt = -1 := rfl
      omega
    · intro z
      omega
section
variable {b : Nat} {D : Nat → Nat → Int32} {w : Int64} {T : Nat → Int64} {pa dr np mk : Nat}
theorem lp_word {s st : Nat} {B : Nat → Int32} (hs : s < 4) (h3 : D 10 3 = nI st) (hst : st + sle s ≤ 300) (hB : D 11 = B) : ∀ (r m i : Nat), i + r = sle s → r < m → ((∀ x, i ≤ x → x < sle s → B (st + x) = chr s x) → fX8_isWord_28 m (b + 10) s (nI i) (HH b D w T pa dr np mk) = some (1, HH b D w T pa dr np mk)) ∧ ((∃ x, i ≤ x ∧ x < sle s ∧ ¬ B (st + x) = chr s x) → fX8_isWord_28 m (b + 10) s (nI i) (HH b D w T pa dr np mk) = some (0, HH b D w T pa dr np mk)) := by
  have hl := (wVal_i hs).2
  intro r
  induction r with
  | zero =>
    intro m i hi hm
    obtain ⟨m, rfl⟩ : ∃ m', m = m' + 1 := ⟨m - 1, by omega⟩
    have c1 : nI (sle s) ≤ nI i := nI_le (by omega) (by omega)
    refine ⟨fun _ => ?_, fun h => by obtain ⟨x, x1, x2, _⟩ := h; omega⟩
    simp (decide := true) only [fX8_isWord_28, bn_s, bn2_s, f_sk hs, f_sl hs, c1, if_true]
  | succ r ih =>
    intro m i hi hm
    obtain ⟨m, rfl⟩ : ∃ m', m = m' + 1 := ⟨m - 1, by omega⟩
    have c1 : ¬ nI (sle s) ≤ nI i := nI_ge (by omega) (by omega)
    have c3 : ¬ nI (st + i) < 0 := nI_pos (by omega)
    have c4 : (nI (st + i)).toNatClampNeg = st + i := nI_clamp (by omega)
    have c5 : ¬ 300 ≤ st + i := by omega
    have ih := ih m (i + 1) (by omega) (by omega)
    by_cases q : B (st + i) = chr s i
    · have base : fX8_isWord_28 (m + 1) (b + 10) s (nI i) (HH b D w T pa dr np mk) = fX8_isWord_28 m (b + 10) s (nI (i + 1)) (HH b D w T pa dr np mk) := by
        rw [fX8_isWord_28]
        simp (decide := true) only [bn_s, bn2_s, or_self, f_sk hs, f_sl hs, f_sc hs (show i < sle s by omega), hr10_0, hr10_3, hl11, h3, hB, nI_add, c1, c3, c4, c5, q, if_true, if_false, nI_1]
      rw [base]
      exact ⟨fun h => ih.1 (fun x x1 x2 => h x (by omega) x2), fun h => by
        obtain ⟨x, x1, x2, x3⟩ := h
        exact ih.2 ⟨x, by have : x ≠ i := fun z => x3 (by rw [z]; exact q); omega, x2, x3⟩⟩
    · refine ⟨fun h => absurd (h i (Nat.le_refl _) (by omega)) q, fun _ => ?_⟩
      simp (decide := true) only [fX8_isWord_28, bn_s, bn2_s, or_self, f_sk hs, f_sl hs, f_sc hs (show i < sle s by omega), hr10_0, hr10_3, hl11, h3, hB, nI_add, c1, c3, c4, c5, q, if_true, if_false]
theorem c_word {s st sp kd : Nat} {B : Nat → Int32} (hs : s < 4) (hk : kd ≤ 3) (hsp : st ≤ sp) (hsp2 : sp ≤ 300) (h2 : D 10 2 = nI kd) (h3 : D 10 3 = nI st) (h4 : D 10 4 = nI sp) (hB : D 11 = B) : ((kd = 1 ∧ sp - st = sle s ∧ ∀ i, i < sp - st → B (st + i) = chr s i) → fX8_isWord (b + 10) s (HH b D w T pa dr np mk) = some (1, HH b D w T pa dr np mk)) ∧ (¬ (kd = 1 ∧ sp - st = sle s ∧ ∀ i, i < sp - st → B (st + i) = chr s i) → fX8_isWord (b + 10) s (HH b D w T pa dr np mk) = some (0, HH b D w T pa dr np mk)) := by
  have hl := (wVal_i hs).2
  have d1 : nI sp - nI st = nI (sp - st) := pk_sub hsp
  by_cases q : kd = 1
  · subst q
    have q1 : nI 1 = 1 := rfl
    by_cases q2 : sp - st = sle s
    · have L := lp_word (b := b) (D := D) (w := w) (T := T) (pa := pa) (dr := dr) (np := np) (mk := mk) hs h3 (by omega) hB (sle s) FU 0 (by omega) (by unfold FU; omega)
      rw [nI_0] at L
      have base : fX8_isWord (b + 10) s (HH b D w T pa dr np mk) = fX8_isWord_28 FU (b + 10) s 0 (HH b D w T pa dr np mk) := by
        simp (decide := true) only [fX8_isWord, bn_s, bn2_s, hr10_2, hr10_3, hr10_4, h2, h3, h4, q1, d1, q2, f_sk hs, f_sl hs, if_true]
      rw [base]
      refine ⟨fun h => L.1 (fun x _ x2 => h.2.2 x (by omega)), fun h => L.2 (Classical.byContradiction (fun z => h ⟨rfl, q2, fun i hi => Classical.byContradiction (fun y => z ⟨i, by omega, by omega, y⟩)⟩))⟩
    · have q3 : ¬ nI (sp - st) = nI (sle s) := nne q2 (by omega) (by omega)
      refine ⟨fun h => absurd h.2.1 q2, fun _ => ?_⟩
      simp (decide := true) only [fX8_isWord, bn_s, bn2_s, hr10_2, hr10_3, hr10_4, h2, h3, h4, q1, d1, q3, f_sk hs, f_sl hs, if_true, if_false]
  · have q1 : ¬ nI kd = 1 := nne (K := 1) q (by omega) (by decide)
    refine ⟨fun h => absurd h.1 q, fun _ => ?_⟩
    simp (decide := true) only [fX8_isWord, bn_s, hr10_2, h2, q1, if_false]
theorem m_119 (v : Int64) : fX10_isWord_119 (b + 40) v (HH b D w T pa dr np mk) = some (if D 40 23 = 1 ∧ w = v then 1 else 0, HH b D w T pa dr np mk) := by
  by_cases q : D 40 23 = 1
  · by_cases q2 : w = v
    · simp (decide := true) only [fX10_isWord_119, bn_s, hr40_23, hr40_24, q, q2, and_self, if_true]
    · simp (decide := true) only [fX10_isWord_119, bn_s, hr40_23, hr40_24, q, q2, and_false, if_true, if_false]
  · simp (decide := true) only [fX10_isWord_119, bn_s, hr40_23, q, false_and, if_false]
theorem m_gold : fX10_isWord (b + 40) 103 111 108 100 0 0 (HH b D w T pa dr np mk) = some (if D 40 23 = 1 ∧ w = wVal 0 then 1 else 0, HH b D w T pa dr np mk) := m_119 (wVal 0)
theorem m_silver : fX10_isWord (b + 40) 115 105 108 118 101 114 (HH b D w T pa dr np mk) = some (if D 40 23 = 1 ∧ w = wVal 1 then 1 else 0, HH b D w T pa dr np mk) := m_119 (wVal 1)
theorem m_copper : fX10_isWord (b + 40) 99 111 112 112 101 114 (HH b D w T pa dr np mk) = some (if D 40 23 = 1 ∧ w = wVal 2 then 1 else 0, HH b D w T pa dr np mk) := m_119 (wVal 2)
theorem m_to : fX10_isWord (b + 40) 116 111 0 0 0 0 (HH b D w T pa dr np mk) = some (if D 40 23 = 1 ∧ w = wVal 3 then 1 else 0, HH b D w T pa dr np mk) := m_119 (wVal 3)
end
