/-! the two constructors, from the empty heap: an object at a, behind it what it made (S: the newest first); below a whatever g says -/
def GH (a n : Nat) (g : Nat → Option PE) (o : PE) (S : List PE) : PH := (a + n, fun x => if x < a then g x else if x = a then some o else if x < a + n then S[a + n - 1 - x]? else none)
section
variable {a n : Nat} {g : Nat → Option PE} {o : PE} {S : List PE}
theorem GH_nw {β : Type} (e : PE) (f : Nat → PH → Option β) (hn : 0 < n) : nwB e (GH a n g o S) f = f (a + n) (GH a (n + 1) g o (e :: S)) := by
  show f (a + n) (a + n + 1, hup (GH a n g o S).2 (a + n) e) = _
  congr 1
  refine Prod.ext rfl (funext fun x => ?_)
  show hup (GH a n g o S).2 (a + n) e x = (if x < a then g x else if x = a then some o else if x < a + (n + 1) then (e :: S)[a + (n + 1) - 1 - x]? else none)
  unfold hup
  by_cases q : x = a + n
  · subst q
    rw [if_pos rfl, if_neg (by omega), if_neg (by omega), if_pos (by omega), show a + (n + 1) - 1 - (a + n) = 0 by omega]
    rfl
  · rw [if_neg q]
    show (if x < a then g x else if x = a then some o else if x < a + n then S[a + n - 1 - x]? else none) = _
    by_cases q1 : x < a
    · rw [if_pos q1, if_pos q1]
    · rw [if_neg q1, if_neg q1]
      by_cases q2 : x = a
      · rw [if_pos q2, if_pos q2]
      · rw [if_neg q2, if_neg q2]
        by_cases q3 : x < a + n
        · rw [if_pos q3, if_pos (by omega), show a + (n + 1) - 1 - x = (a + n - 1 - x) + 1 by omega]
          rfl
        · rw [if_neg q3, if_neg (by omega)]
theorem GH_at0 : (GH a n g o S).2 a = some o := by
  show (if a < a then g a else if a = a then some o else _) = some o
  rw [if_neg (by omega), if_pos rfl]
theorem GH_at {j : Nat} (h1 : 0 < j) (h2 : j < n) : (GH a n g o S).2 (a + j) = S[n - 1 - j]? := by
  show (if a + j < a then g (a + j) else if a + j = a then some o else if a + j < a + n then S[a + n - 1 - (a + j)]? else none) = _
  rw [if_neg (by omega), if_neg (by omega), if_pos (by omega), show a + n - 1 - (a + j) = n - 1 - j by omega]
theorem GH_set0 (e : PE) : ((GH a n g o S).1, hup (GH a n g o S).2 a e) = GH a n g e S := by
  refine Prod.ext rfl (funext fun x => ?_)
  show hup (GH a n g o S).2 a e x = (if x < a then g x else if x = a then some e else if x < a + n then S[a + n - 1 - x]? else none)
  unfold hup
  by_cases q : x = a
  · subst q
    rw [if_pos rfl, if_neg (by omega), if_pos rfl]
  · rw [if_neg q, if_neg q]
    show (if x < a then g x else if x = a then some o else if x < a + n then S[a + n - 1 - x]? else none) = _
    rw [if_neg q]
theorem GH_set {j : Nat} (e : PE) (h1 : 0 < j) (h2 : j < n) (hl : S.length = n - 1) : ((GH a n g o S).1, hup (GH a n g o S).2 (a + j) e) = GH a n g o (S.set (n - 1 - j) e) := by
  refine Prod.ext rfl (funext fun x => ?_)
  show hup (GH a n g o S).2 (a + j) e x = (if x < a then g x else if x = a then some o else if x < a + n then (S.set (n - 1 - j) e)[a + n - 1 - x]? else none)
  unfold hup
  by_cases q : x = a + j
  · subst q
    rw [if_pos rfl, if_neg (by omega), if_neg (by omega), if_pos (by omega), show a + n - 1 - (a + j) = n - 1 - j by omega, List.getElem?_set_self (by omega)]
  · rw [if_neg q]
    show (if x < a then g x else if x = a then some o else if x < a + n then S[a + n - 1 - x]? else none) = _
    by_cases q1 : x < a
    · rw [if_pos q1, if_pos q1]
    · rw [if_neg q1, if_neg q1]
      by_cases q2 : x = a
      · rw [if_pos q2, if_pos q2]
      · rw [if_neg q2, if_neg q2]
        by_cases q3 : x < a + n
        · rw [if_pos q3, if_pos q3, List.getElem?_set_ne (by omega)]
        · rw [if_neg q3, if_neg q3]
theorem GH_wr {ci k : Nat} {fs : List Value} (v : Value) : wr ci k v a (GH a n g (.inr (ci, fs)) S) = if k < fs.length then some (GH a n g (.inr (ci, fs.set k v)) S) else none := by
  unfold wr
  rw [GH_at0]
  show (if ci = ci ∧ k < fs.length then _ else _) = _
  by_cases q : k < fs.length
  · rw [if_pos ⟨rfl, q⟩, if_pos q, GH_set0]
  · rw [if_neg (fun z => q z.2), if_neg q]
theorem GH_rR {ci k : Nat} {fs : List Value} : rdR ci k a (GH a n g (.inr (ci, fs)) S) = vR fs[k]? := by
  unfold rdR rdV
  rw [GH_at0]
  show vR (if ci = ci then _ else _) = _
  rw [if_pos rfl]
/-- the newest row -/
theorem GH_ast {N : Nat} {f : Nat → Int32} (i x : Int32) (hn : 0 < n) (hl : S.length + 1 = n) : astI (a + n) i x (GH a (n + 1) g o (.inl (0, N, .inl f) :: S)) = if ¬ (i < 0 ∨ N ≤ i.toNatClampNeg) then some (GH a (n + 1) g o (.inl (0, N, .inl (upd f i.toNatClampNeg x)) :: S)) else none := by
  have h1 : (GH a (n + 1) g o (.inl (0, N, .inl f) :: S)).2 (a + n) = some (.inl (0, N, .inl f)) := by
    rw [GH_at hn (by omega), show n + 1 - 1 - n = 0 by omega]
    rfl
  unfold astI
  rw [h1]
  show (if 0 = 0 ∧ ¬ (i < 0 ∨ N ≤ i.toNatClampNeg) then _ else _) = _
  by_cases q : ¬ (i < 0 ∨ N ≤ i.toNatClampNeg)
  · rw [if_pos ⟨rfl, q⟩, if_pos q, GH_set _ hn (by omega) (by simp; omega), show n + 1 - 1 - n = 0 by omega]
    rfl
  · rw [if_neg (fun z => q z.2), if_neg q]
/-- what a constructor within does -/
theorem GH_low (e : PE) (hn : 0 < n) : GH a (n + 1) g o (e :: S) = GH (a + n) 1 (GH a n g o S).2 e [] := by
  refine Prod.ext rfl (funext fun x => ?_)
  show (if x < a then g x else if x = a then some o else if x < a + (n + 1) then (e :: S)[a + (n + 1) - 1 - x]? else none) = (if x < a + n then (if x < a then g x else if x = a then some o else if x < a + n then S[a + n - 1 - x]? else none) else if x = a + n then some e else if x < a + n + 1 then ([] : List PE)[a + n + 1 - 1 - x]? else none)
  by_cases q : x < a + n
  · rw [if_pos q]
    by_cases q1 : x < a
    · rw [if_pos q1, if_pos q1]
    · rw [if_neg q1, if_neg q1]
      by_cases q2 : x = a
      · rw [if_pos q2, if_pos q2]
      · rw [if_neg q2, if_neg q2, if_pos (by omega), if_pos q, show a + (n + 1) - 1 - x = (a + n - 1 - x) + 1 by omega]
        rfl
  · rw [if_neg q, if_neg (by omega), if_neg (by omega)]
    by_cases q3 : x = a + n
    · subst q3
      rw [if_pos (by omega), if_pos rfl, show a + (n + 1) - 1 - (a + n) = 0 by omega]
      rfl
    · rw [if_neg (by omega), if_neg q3, if_neg (by omega)]
theorem GH_up {m : Nat} {e : PE} {Q : List PE} (hn : 0 < n) (hS : S.length + 1 = n) (hm : 0 < m) (hQ : Q.length + 1 = m) : GH (a + n) m (GH a n g o S).2 e Q = GH a (n + m) g o (Q ++ e :: S) := by
  refine Prod.ext (by show a + n + m = a + (n + m); omega) (funext fun x => ?_)
  show (if x < a + n then (if x < a then g x else if x = a then some o else if x < a + n then S[a + n - 1 - x]? else none) else if x = a + n then some e else if x < a + n + m then Q[a + n + m - 1 - x]? else none) = (if x < a then g x else if x = a then some o else if x < a + (n + m) then (Q ++ e :: S)[a + (n + m) - 1 - x]? else none)
  by_cases q : x < a + n
  · rw [if_pos q]
    by_cases q1 : x < a
    · rw [if_pos q1, if_pos q1]
    · rw [if_neg q1, if_neg q1]
      by_cases q2 : x = a
      · rw [if_pos q2, if_pos q2]
      · rw [if_neg q2, if_neg q2, if_pos q, if_pos (by omega), List.getElem?_append_right (by omega), show a + (n + m) - 1 - x - Q.length = (a + n - 1 - x) + 1 by omega]
        rfl
  · rw [if_neg q, if_neg (show ¬ x < a by omega), if_neg (show ¬ x = a by omega)]
    by_cases q3 : x = a + n
    · subst q3
      rw [if_pos rfl, if_pos (by omega), List.getElem?_append_right (by omega), show a + (n + m) - 1 - (a + n) - Q.length = 0 by omega]
      rfl
    · rw [if_neg q3]
      by_cases q4 : x < a + n + m
      · rw [if_pos q4, if_pos (by omega), List.getElem?_append_left (by omega), show a + (n + m) - 1 - x = a + n + m - 1 - x by omega]
      · rw [if_neg q4, if_neg (by omega)]
theorem GH_mn {β : Type} (f : Nat → PH → Option β) (hn : 0 < n) (hS : S.length + 1 = n) : mnB 3 10 (GH a n g o S) f = f (a + n) (GH a (n + 4) g o (.inl (0, 10, .inl (fun _ => 0)) :: .inl (0, 10, .inl (fun _ => 0)) :: .inl (0, 10, .inl (fun _ => 0)) :: .inl (5, 3, .inr (.inr (.inr (.inr (fun i => if i < 3 then some (a + n + 1 + i) else none))))) :: S)) := by
  show f (a + n) (a + n + 1 + 3, fun x => if x = a + n then some (.inl (5, 3, .inr (.inr (.inr (.inr (fun i => if i < 3 then some (a + n + 1 + i) else none)))))) else if a + n < x ∧ x < a + n + 1 + 3 then some (.inl (0, 10, .inl (fun _ => 0))) else (GH a n g o S).2 x) = _
  congr 1
  refine Prod.ext (by show a + n + 1 + 3 = a + (n + 4); omega) (funext fun x => ?_)
  show (if x = a + n then _ else if a + n < x ∧ x < a + n + 1 + 3 then _ else (if x < a then g x else if x = a then some o else if x < a + n then S[a + n - 1 - x]? else none)) = (if x < a then g x else if x = a then some o else if x < a + (n + 4) then (_ :: _ :: _ :: _ :: S)[a + (n + 4) - 1 - x]? else none)
  by_cases q : x = a + n
  · subst q
    rw [if_pos rfl, if_neg (by omega), if_neg (by omega), if_pos (by omega), show a + (n + 4) - 1 - (a + n) = 3 by omega]
    rfl
  · rw [if_neg q]
    by_cases q1 : a + n < x ∧ x < a + n + 1 + 3
    · rw [if_pos q1, if_neg (by omega), if_neg (by omega), if_pos (by omega)]
      rcases (show x = a + n + 1 ∨ x = a + n + 2 ∨ x = a + n + 3 by omega) with rfl | rfl | rfl
      · rw [show a + (n + 4) - 1 - (a + n + 1) = 2 by omega]; rfl
      · rw [show a + (n + 4) - 1 - (a + n + 2) = 1 by omega]; rfl
      · rw [show a + (n + 4) - 1 - (a + n + 3) = 0 by omega]; rfl
    · rw [if_neg q1]
      by_cases q2 : x < a
      · rw [if_pos q2, if_pos q2]
      · rw [if_neg q2, if_neg q2]
        by_cases q3 : x = a
        · rw [if_pos q3, if_pos q3]
        · rw [if_neg q3, if_neg q3]
          by_cases q4 : x < a + n
          · rw [if_pos q4, if_pos (by omega), show a + (n + 4) - 1 - x = (a + n - 1 - x) + 4 by omega]
            rfl
          · rw [if_neg q4, if_neg (by omega)]
end
