theorem sub1_le (p x : Int32) : (p.toInt64 ≤ x.toInt64 - 1) = (p < x) := propext (by
  have h1 := rng3 x
  have e : (x.toInt64 - 1).toInt = x.toInt - 1 := by
    rw [Int64.toInt_sub, ti64]
    have : (1 : Int64).toInt = 1 := rfl
    rw [this]
    apply Int.bmod_eq_of_le <;> omega
  rw [le6, lt3, ti64, e]
  omega)
def sI (f : Nat → Int) : Nat → Int
  | 0 => 0
  | n + 1 => sI f n + f n
def cN (f : Nat → Bool) : Nat → Nat
  | 0 => 0
  | n + 1 => cN f n + (if f n then 1 else 0)
/-! the parts of the invariant: status and fault; skins and packs; doors; the tape; the palette; bars and pieces -/
def Ist (D : Nat → Nat → Int32) : Prop := D 0 9 = D 40 1 ∧ D 0 8 = D 40 25
def Ipk (D : Nat → Nat → Int32) : Prop := ∀ s, s < 3 → (1 ≤ (D (16 + s) 0).toInt ∧ (D (16 + s) 0).toInt ≤ 20 ∧ D (16 + s) 0 = D 56 s ∧ D (16 + s) 1 = D 57 (2 * s) ∧ D (16 + s) 2 = D 57 (2 * s + 1) ∧ D (16 + s) 3 = D 58 (2 * s) ∧ D (16 + s) 4 = D 58 (2 * s + 1))
def Isk (D : Nat → Nat → Int32) : Prop := (∃ n : Nat, n ≤ 60 ∧ D 14 4 = nI n ∧ D 40 27 = nI n ∧ D 19 = D 54 ∧ D 20 = D 53) ∧ Ipk D
def Igt (D : Nat → Nat → Int32) : Prop := ∃ n m : Nat, n ≤ 200 ∧ m ≤ 60 ∧ D 22 4 = nI n ∧ D 40 35 = nI n ∧ D 22 8 = nI m ∧ D 40 40 = nI m ∧ D 23 = D 59 ∧ D 24 = D 60 ∧ D 25 = D 61 ∧ D 26 = D 62 ∧ D 27 = D 63 ∧ D 28 = D 64 ∧ D 29 = D 65 ∧ ∀ i, i < m → 0 ≤ (D 28 i).toInt
def Itp (D : Nat → Nat → Int32) : Prop := ∃ n : Nat, n ≤ 300 ∧ D 10 1 = nI n ∧ D 40 20 = nI n ∧ D 11 = D 52
/-- the palette at place pa: c colours, t tests, colour i's tests from cf i on -/
def Pal (D : Nat → Nat → Int32) (pa : Nat) : Prop := ∃ (c t : Nat) (cf : Nat → Nat), c ≤ 10 ∧ t ≤ 30 ∧ D pa 0 = nI c ∧ D pa 1 = nI t ∧ D 40 10 = nI c ∧ cf 0 = 0 ∧ cf c = t ∧ (∀ i, i < c → cf i ≤ cf (i + 1)) ∧ (∀ i, i ≤ c → D 46 i = nI (cf i)) ∧ (∀ i j, i < c → cf i ≤ j → j < cf (i + 1) → D (pa + 1) j = nI i) ∧ ∀ j, j < t → (D (pa + 2) j = D 47 (3 * j) ∧ D (pa + 3) j = D 47 (3 * j + 1) ∧ D (pa + 4) j = D 47 (3 * j + 2) ∧ (D (pa + 2) j = 0 ∨ D (pa + 2) j = 1 ∨ D (pa + 2) j = 2))
def Ipl (D : Nat → Nat → Int32) (pa dr : Nat) : Prop := (pa = 30 ∧ dr = 35 ∨ pa = 35 ∧ dr = 30) ∧ Pal D pa
def wS (f : Nat → Int32) : Nat → Int32
  | 0 => 0
  | n + 1 => wS f n + f n
/-- is a leaf that no book has -/
def frL (D : Nat → Nat → Int32) (p : Nat) : Bool := decide (¬ D 44 p ≤ 0 ∧ D 45 p = -1)
def isL (D : Nat → Nat → Int32) (p : Nat) : Bool := decide (¬ D 44 p ≤ 0)
def Pc1 (D : Nat → Nat → Int32) (p : Nat) : Prop := (D 42 p = 0 ∨ D 42 p = 1) ∧ D (66 + 2 * p) 4 = D 42 p ∧ D (66 + 2 * p) 2 = D 44 p ∧ D (66 + 2 * p) 3 = D 45 p ∧ (D 42 p = 0 → (∀ i, i < 10 → D (66 + 2 * p + 1) i = D 43 (10 * p + i)) ∧ D (66 + 2 * p) 1 = wS (fun i => D 43 (10 * p + i)) 10) ∧ (D 42 p = 1 → D 44 p ≤ 0) ∧ (D 44 p ≤ 0 → D 45 p = -1)
def Ipc (D : Nat → Nat → Int32) (np : Nat) : Prop := ∃ nb : Nat, nb ≤ 10 ∧ np ≤ 120 ∧ D 1 3 = nI nb ∧ D 40 2 = nI nb ∧ D 1 4 = nI np ∧ D 40 4 = nI np ∧
  (∀ i, i < nb → D 4 i = D 41 (3 * i) ∧ D 5 i = D 41 (3 * i + 1) ∧ D 6 i = D 41 (3 * i + 2)) ∧ (∀ i, nb ≤ i → D 4 i = 0 ∧ D 5 i = 0 ∧ D 6 i = 0) ∧
  (∀ p, p < np → Pc1 D p) ∧ (∀ p, np ≤ p → D 44 p = 0 ∧ D 42 p = 0) ∧ (∀ j, 0 ≤ (D 43 j).toInt) ∧ sI (fun p => sI (fun k => (D 43 (10 * p + k)).toInt) 10) 120 ≤ 1000000 * nb ∧
  D 8 0 = D 40 34 ∧ D 8 1 = D 40 9 ∧ (D 8 0).toInt = cN (isL D) 120 ∧ (D 8 0 - D 8 2).toInt = cN (frL D) 120 ∧ 0 ≤ (D 40 9).toInt ∧ (D 40 9).toInt + cN (frL D) 120 ≤ cN (isL D) 120
def Inv (D : Nat → Nat → Int32) (pa dr np : Nat) : Prop := Ist D ∧ Isk D ∧ Igt D ∧ Itp D ∧ Ipl D pa dr ∧ Ipc D np
theorem Ipk_of {D E : Nat → Nat → Int32} (h : Ipk D) (e7 : E 16 = D 16) (e8 : E 17 = D 17) (e9 : E 18 = D 18) (e10 : E 56 = D 56) (e11 : E 57 = D 57) (e12 : E 58 = D 58) : Ipk E := by
  intro s hs
  have e : E (16 + s) = D (16 + s) := by
    rcases (show s = 0 ∨ s = 1 ∨ s = 2 by omega) with rfl | rfl | rfl
    · exact e7
    · exact e8
    · exact e9
  rw [e, e10, e11, e12]
  exact h s hs
theorem Isk_of {D E : Nat → Nat → Int32} (h : Isk D) (e1 : E 14 4 = D 14 4) (e2 : E 40 27 = D 40 27) (e3 : E 19 = D 19) (e4 : E 54 = D 54) (e5 : E 20 = D 20) (e6 : E 53 = D 53) (e7 : E 16 = D 16) (e8 : E 17 = D 17) (e9 : E 18 = D 18) (e10 : E 56 = D 56) (e11 : E 57 = D 57) (e12 : E 58 = D 58) : Isk E := by
  obtain ⟨⟨n, h1, h2, h3, h4, h5⟩, h6⟩ := h
  exact ⟨⟨n, h1, e1.trans h2, e2.trans h3, by rw [e3, e4, h4], by rw [e5, e6, h5]⟩, Ipk_of h6 e7 e8 e9 e10 e11 e12⟩
theorem Igt_of {D E : Nat → Nat → Int32} (h : Igt D) (e1 : E 22 4 = D 22 4) (e2 : E 40 35 = D 40 35) (e3 : E 22 8 = D 22 8) (e4 : E 40 40 = D 40 40) (a1 : E 23 = D 23) (a2 : E 24 = D 24) (a3 : E 25 = D 25) (a4 : E 26 = D 26) (a5 : E 27 = D 27) (a6 : E 28 = D 28) (a7 : E 29 = D 29) (c1 : E 59 = D 59) (c2 : E 60 = D 60) (c3 : E 61 = D 61) (c4 : E 62 = D 62) (c5 : E 63 = D 63) (c6 : E 64 = D 64) (c7 : E 65 = D 65) : Igt E := by
  unfold Igt
  rw [e1, e2, e3, e4, a1, a2, a3, a4, a5, a6, a7, c1, c2, c3, c4, c5, c6, c7]
  exact h
theorem Itp_of {D E : Nat → Nat → Int32} (h : Itp D) (e1 : E 10 1 = D 10 1) (e2 : E 40 20 = D 40 20) (e3 : E 11 = D 11) (e4 : E 52 = D 52) : Itp E := by
  unfold Itp
  rw [e1, e2, e3, e4]
  exact h
theorem Pal_of {D E : Nat → Nat → Int32} {pa : Nat} (h : Pal D pa) (e1 : E pa 0 = D pa 0) (e2 : E pa 1 = D pa 1) (e3 : E (pa + 1) = D (pa + 1)) (e4 : E (pa + 2) = D (pa + 2)) (e5 : E (pa + 3) = D (pa + 3)) (e6 : E (pa + 4) = D (pa + 4)) (e7 : E 40 10 = D 40 10) (e8 : E 46 = D 46) (e9 : E 47 = D 47) : Pal E pa := by
  unfold Pal
  rw [e1, e2, e3, e4, e5, e6, e7, e8, e9]
  exact h
theorem Ipl_of {D E : Nat → Nat → Int32} {pa dr : Nat} (h : Ipl D pa dr) (e : ∀ o, 30 ≤ o → o < 40 → E o = D o) (e7 : E 40 10 = D 40 10) (e8 : E 46 = D 46) (e9 : E 47 = D 47) : Ipl E pa dr := by
  obtain ⟨h1, h2⟩ := h
  refine ⟨h1, ?_⟩
  have hp : 30 ≤ pa ∧ pa ≤ 35 := by omega
  exact Pal_of h2 (by rw [e pa (by omega) (by omega)]) (by rw [e pa (by omega) (by omega)]) (e _ (by omega) (by omega)) (e _ (by omega) (by omega)) (e _ (by omega) (by omega)) (e _ (by omega) (by omega)) e7 e8 e9
theorem Pc1_of {D E : Nat → Nat → Int32} {p : Nat} (h : Pc1 D p) (e1 : E 42 p = D 42 p) (e2 : E 44 p = D 44 p) (e3 : E 45 p = D 45 p) (e4 : E (66 + 2 * p) = D (66 + 2 * p)) (e5 : E (66 + 2 * p + 1) = D (66 + 2 * p + 1)) (e6 : ∀ i, i < 10 → E 43 (10 * p + i) = D 43 (10 * p + i)) : Pc1 E p := by
  obtain ⟨g1, g2, g3, g4, g5, g6, g7⟩ := h
  refine ⟨?_, ?_, ?_, ?_, ?_, ?_, ?_⟩
  · rw [e1]; exact g1
  · rw [e1, e4]; exact g2
  · rw [e2, e4]; exact g3
  · rw [e3, e4]; exact g4
  · rw [e1, e4, e5]
    intro z
    obtain ⟨a1, a2⟩ := g5 z
    refine ⟨fun i hi => (a1 i hi).trans (e6 i hi).symm, a2.trans ?_⟩
    have e : ∀ n, n ≤ 10 → wS (fun i => D 43 (10 * p + i)) n = wS (fun i => E 43 (10 * p + i)) n := by
      intro n
      induction n with
      | zero => intro _; rfl
      | succ n ih => intro hn; unfold wS; rw [ih (by omega), e6 n (by omega)]
    exact e 10 (Nat.le_refl _)
  · rw [e1, e2]; exact g6
  · rw [e2, e3]; exact g7
theorem Ipc_of {D E : Nat → Nat → Int32} {np : Nat} (h : Ipc D np) (e1 : E 1 = D 1) (e2 : E 4 = D 4) (e3 : E 5 = D 5) (e4 : E 6 = D 6) (e5 : E 8 = D 8) (e6 : E 40 2 = D 40 2) (e7 : E 40 4 = D 40 4) (e8 : E 40 34 = D 40 34) (e9 : E 40 9 = D 40 9) (a1 : E 41 = D 41) (a2 : E 42 = D 42) (a3 : E 43 = D 43) (a4 : E 44 = D 44) (a5 : E 45 = D 45) (ep : ∀ x, E (66 + x) = D (66 + x)) : Ipc E np := by
  have f1 : frL E = frL D := by funext p; unfold frL; rw [a4, a5]
  have f2 : isL E = isL D := by funext p; unfold isL; rw [a4]
  have f3 : ∀ p, E (66 + 2 * p + 1) = D (66 + 2 * p + 1) := fun p => ep (2 * p + 1)
  unfold Ipc Pc1
  simp only [e1, e2, e3, e4, e5, e6, e7, e8, e9, a1, a2, a3, a4, a5, ep, f1, f2, f3]
  exact h
theorem up2_k {D : Nat → Nat → Int32} {o k : Nat} {v : Int32} {x y : Nat} (h : y ≠ k) : up2 D o k v x y = D x y := by
  rw [up2_2, if_neg (fun z => h z.2)]
theorem up2_v {D : Nat → Nat → Int32} {o k : Nat} {v : Int32} : up2 D o k v o k = v := by
  rw [up2_2, if_pos ⟨rfl, rfl⟩]
/-- the parts beside the pieces -/
theorem Inv4_of {D E : Nat → Nat → Int32} {pa dr : Nat} (s2 : Isk D) (s3 : Igt D) (s4 : Itp D) (s5 : Ipl D pa dr) (h1 : ∀ o, 9 ≤ o → o < 40 → E o = D o) (h2 : ∀ o, 46 ≤ o → o < 66 → E o = D o) (f1 : E 40 10 = D 40 10) (f2 : E 40 20 = D 40 20) (f3 : E 40 27 = D 40 27) (f4 : E 40 35 = D 40 35) (f5 : E 40 40 = D 40 40) : Isk E ∧ Igt E ∧ Itp E ∧ Ipl E pa dr := by
  have a : ∀ o, 9 ≤ o ∧ o < 40 → E o = D o := fun o h => h1 o h.1 h.2
  have c : ∀ o, 46 ≤ o ∧ o < 66 → E o = D o := fun o h => h2 o h.1 h.2
  refine ⟨Isk_of s2 (by rw [a 14 (by decide)]) f3 (a 19 (by decide)) (c 54 (by decide)) (a 20 (by decide)) (c 53 (by decide)) (a 16 (by decide)) (a 17 (by decide)) (a 18 (by decide)) (c 56 (by decide)) (c 57 (by decide)) (c 58 (by decide)), Igt_of s3 (by rw [a 22 (by decide)]) f4 (by rw [a 22 (by decide)]) f5 (a 23 (by decide)) (a 24 (by decide)) (a 25 (by decide)) (a 26 (by decide)) (a 27 (by decide)) (a 28 (by decide)) (a 29 (by decide)) (c 59 (by decide)) (c 60 (by decide)) (c 61 (by decide)) (c 62 (by decide)) (c 63 (by decide)) (c 64 (by decide)) (c 65 (by decide)), Itp_of s4 (by rw [a 10 (by decide)]) f2 (a 11 (by decide)) (c 52 (by decide)), Ipl_of s5 (fun o q1 q2 => h1 o (by omega) q2) f1 (c 46 (by decide)) (c 47 (by decide))⟩
def armF (x m : PH → Option (Int32 × PH)) (h : PH) : Option (Unit × PH) := bn2 (x h) fun r h1 => bn2 (m h1) fun r2 h2 => if r = r2 then some ((), h2) else none
def armL (x m : PH → Option (Int64 × PH)) (h : PH) : Option (Unit × PH) := bn2 (x h) fun r h1 => bn2 (m h1) fun r2 h2 => if r = r2 then some ((), h2) else none
def Good (b : Nat) (o : Option (Unit × PH)) : Prop := ∃ D w T pa dr np, o = some ((), HH b D w T pa dr np np) ∧ Inv D pa dr np
theorem nlt {n K : Nat} (h : n < K) (hK : K < 2 ^ 31) : nI n < nI K := (nI_ltI (by omega) hK).mpr h
theorem nnlt {n K : Nat} (h : K ≤ n) (hn : n < 2 ^ 31) : ¬ nI n < nI K := fun q => by have := (nI_ltI hn (by omega)).mp q; omega
theorem nne {n K : Nat} (h : n ≠ K) (hn : n < 2 ^ 31) (hK : K < 2 ^ 31) : ¬ nI n = nI K := fun q => h ((nI_eq hn hK).mp q)
