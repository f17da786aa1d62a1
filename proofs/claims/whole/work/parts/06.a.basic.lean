theorem bn_s {α β : Type} (x : α) (f : α → Option β) : bn (some x) f = f x := rfl
theorem bn_n {α β : Type} (f : α → Option β) : bn none f = none := rfl
theorem bn2_s {α β : Type} (x : α) (h : PH) (f : α → PH → Option β) : bn2 (some (x, h)) f = f x h := rfl
theorem bn2_n {α β : Type} (f : α → PH → Option β) : bn2 none f = none := rfl
theorem nm_s {α β : Type} (v : α) (f : α → β) : nm v f = f v := rfl
theorem onul_n {β : Type} (t : Option β) (f : Nat → Option β) : onul none t f = t := rfl
theorem onul_s {β : Type} (a : Nat) (t : Option β) (f : Nat → Option β) : onul (some a) t f = f a := rfl
/-- comparisons as comparisons of integers -/
theorem lt3 (a b : Int32) : a < b ↔ a.toInt < b.toInt := Int32.lt_iff_toInt_lt
theorem le3 (a b : Int32) : a ≤ b ↔ a.toInt ≤ b.toInt := Int32.le_iff_toInt_le
theorem eq3 (a b : Int32) : a = b ↔ a.toInt = b.toInt := Int32.toInt_inj.symm
theorem lt6 (a b : Int64) : a < b ↔ a.toInt < b.toInt := Int64.lt_iff_toInt_lt
theorem le6 (a b : Int64) : a ≤ b ↔ a.toInt ≤ b.toInt := Int64.le_iff_toInt_le
theorem eq6 (a b : Int64) : a = b ↔ a.toInt = b.toInt := Int64.toInt_inj.symm
theorem ti64 (a : Int32) : a.toInt64.toInt = a.toInt := by simp
theorem wid_lt (a b : Int32) : a.toInt64 < b.toInt64 ↔ a < b := by rw [lt6, lt3, ti64, ti64]
theorem wid_eq (a b : Int32) : a.toInt64 = b.toInt64 ↔ a = b := by rw [eq6, eq3, ti64, ti64]
theorem nI_ti {n : Nat} (h : n < 2 ^ 31) : (nI n).toInt = (n : Int) := nI_toInt h
theorem rng3 (a : Int32) : -2147483648 ≤ a.toInt ∧ a.toInt ≤ 2147483647 := ⟨by have := Int32.le_toInt a; omega, by have := Int32.toInt_lt a; omega⟩
/-- an index within, by its number -/
theorem ixn {i : Int32} {n : Nat} (h0 : 0 ≤ i.toInt) (h : i.toInt < n) : ¬ (i < 0 ∨ n ≤ i.toNatClampNeg) := by
  intro q
  rcases q with q | q
  · rw [lt3] at q
    have : (0 : Int32).toInt = 0 := rfl
    omega
  · have : i.toNatClampNeg = i.toInt.toNat := rfl
    omega
theorem ixI {n N : Nat} (h : n < N) (hN : N < 2 ^ 31) : ¬ (nI n < 0 ∨ N ≤ (nI n).toNatClampNeg) := vp_in_nI h hN
theorem up2_2 (D : Nat → Nat → Int32) (o k : Nat) (v : Int32) (x y : Nat) : up2 D o k v x y = if x = o ∧ y = k then v else D x y := by
  unfold up2 upd
  by_cases q : x = o
  · subst q
    rw [if_pos rfl]
    by_cases q2 : y = k
    · rw [if_pos q2, if_pos ⟨rfl, q2⟩]
    · rw [if_neg q2, if_neg (fun z => q2 z.2)]
  · rw [if_neg q, if_neg (fun z => q z.1)]
theorem upd_app (f : Nat → Int32) (k : Nat) (x : Int32) (j : Nat) : upd f k x j = if j = k then x else f j := rfl
theorem i01 (c : Prop) (dc : Decidable c) : ((@ite Int32 c dc 1 0) = 0) = ¬ c := by
  by_cases q : c
  · simp [q]
  · simp [q]
section
variable {b : Nat} {D : Nat → Nat → Int32} {w : Int64} {T : Nat → Int64} {pa dr np mk : Nat}
theorem f_told (v : Int32) : fX10_told (b + 40) v (HH b D w T pa dr np mk) = some (v, HH b (up2 D 40 1 (if v < 0 then v else 0)) w T pa dr np mk) := by
  unfold fX10_told
  by_cases q : v < 0
  · have q2 : ¬ 0 ≤ v := by rw [lt3] at q; rw [le3]; omega
    simp only [hw40_1, bn_s, bn2_s, nm_s, onul_n, onul_s, if_true, if_false, and_self, and_true, true_and, and_false, false_and, or_self, or_false, false_or, or_true, true_or, not_true_eq_false, not_false_eq_true, eq_self, ne_eq, i01, up2_same, up2_ne, upd_app, q, q2]
  · have q2 : 0 ≤ v := by rw [lt3] at q; rw [le3]; omega
    simp only [hw40_1, bn_s, bn2_s, nm_s, onul_n, onul_s, if_true, if_false, and_self, and_true, true_and, and_false, false_and, or_self, or_false, false_or, or_true, true_or, not_true_eq_false, not_false_eq_true, eq_self, ne_eq, i01, up2_same, up2_ne, upd_app, q, q2]
theorem f_noted (v : Int32) : fX9_noted b v (HH b D w T pa dr np mk) = some (v, HH b (up2 D 0 9 (if v < 0 then v else 0)) w T pa dr np mk) := by
  unfold fX9_noted
  by_cases q : v < 0
  · have q2 : ¬ 0 ≤ v := by rw [lt3] at q; rw [le3]; omega
    simp only [hw0_9, bn_s, bn2_s, nm_s, onul_n, onul_s, if_true, if_false, and_self, and_true, true_and, and_false, false_and, or_self, or_false, false_or, or_true, true_or, not_true_eq_false, not_false_eq_true, eq_self, ne_eq, i01, up2_same, up2_ne, upd_app, q, q2]
  · have q2 : 0 ≤ v := by rw [lt3] at q; rw [le3]; omega
    simp only [hw0_9, bn_s, bn2_s, nm_s, onul_n, onul_s, if_true, if_false, and_self, and_true, true_and, and_false, false_and, or_self, or_false, false_or, or_true, true_or, not_true_eq_false, not_false_eq_true, eq_self, ne_eq, i01, up2_same, up2_ne, upd_app, q, q2]
theorem f_within (v l u : Int32) (h : PH) : fX9_within v l u h = some (if l ≤ v ∧ v ≤ u then 1 else 0, h) := by
  unfold fX9_within
  by_cases q : v < l
  · rw [if_pos q, if_neg (fun z => by rw [lt3] at q; have := (le3 _ _).mp z.1; omega)]
  · rw [if_neg q]
    by_cases q2 : u < v
    · rw [if_pos q2, if_neg (fun z => by rw [lt3] at q2; have := (le3 _ _).mp z.2; omega)]
    · rw [if_neg q2, if_pos ⟨by rw [lt3] at q; rw [le3]; omega, by rw [lt3] at q2; rw [le3]; omega⟩]
theorem f_in (v l u : Int64) (h : PH) : fX10_in v l u h = some (if l ≤ v ∧ v ≤ u then 1 else 0, h) := by
  unfold fX10_in
  by_cases q : v < l
  · rw [if_pos q, if_neg (fun z => by rw [lt6] at q; have := (le6 _ _).mp z.1; omega)]
  · rw [if_neg q]
    by_cases q2 : u < v
    · rw [if_pos q2, if_neg (fun z => by rw [lt6] at q2; have := (le6 _ _).mp z.2; omega)]
    · rw [if_neg q2, if_pos ⟨by rw [lt6] at q; rw [le6]; omega, by rw [lt6] at q2; rw [le6]; omega⟩]
end
