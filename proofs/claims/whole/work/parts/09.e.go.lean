theorem wr_chk {ci k a : Nat} {v : Value} {h h1 : PH} (q : wr ci k v a h = some h1) : chk ci a h = some () := by
  unfold wr at q
  unfold chk
  split at q
  · next o ho =>
    show (if o.1 = ci then some () else none) = some ()
    split at q
    · next e => exact if_pos e.1
    · cases q
  · cases q
theorem bn_wr {α : Type} {a : Nat} {h : PH} {v : Value} {f : PH → Option α} {z : α} (q : bn (wr 10 0 v a h) f = some z) : chk 10 a h = some () := by
  obtain ⟨h1, e, -⟩ := bn_some q
  exact wr_chk e
theorem arm_eq {x m : PH → Option (Int32 × PH)} {h h2 : PH} {a1 a2 : Nat} {K : PH → Option (Unit × PH)} (e : armF x m h = some ((), h2)) (c1 : chk 9 a1 h = some ()) (c2 : ∀ h1 z, m h1 = some z → chk 10 a2 h1 = some ()) : (bn (chk 9 a1 h) fun _ => bn2 (x h) fun r h1 => bn (chk 10 a2 h1) fun _ => bn2 (m h1) fun r2 h2 => if r = r2 then K h2 else none) = K h2 := by
  unfold armF at e
  obtain ⟨r, h1, e1, e⟩ := bn2_some e
  obtain ⟨r2, h3, e2, e⟩ := bn2_some e
  rw [c1, bn_s, e1, bn2_s, c2 h1 _ e2, bn_s, e2, bn2_s]
  by_cases q : r = r2
  · rw [if_pos q] at e ⊢
    cases e
    rfl
  · rw [if_neg q] at e
    cases e
theorem arm_eqL {x m : PH → Option (Int64 × PH)} {h h2 : PH} {a1 a2 : Nat} {K : PH → Option (Unit × PH)} (e : armL x m h = some ((), h2)) (c1 : chk 9 a1 h = some ()) (c2 : ∀ h1 z, m h1 = some z → chk 10 a2 h1 = some ()) : (bn (chk 9 a1 h) fun _ => bn2 (x h) fun r h1 => bn (chk 10 a2 h1) fun _ => bn2 (m h1) fun r2 h2 => if r = r2 then K h2 else none) = K h2 := by
  unfold armL at e
  obtain ⟨r, h1, e1, e⟩ := bn2_some e
  obtain ⟨r2, h3, e2, e⟩ := bn2_some e
  rw [c1, bn_s, e1, bn2_s, c2 h1 _ e2, bn_s, e2, bn2_s]
  by_cases q : r = r2
  · rw [if_pos q] at e ⊢
    cases e
    rfl
  · rw [if_neg q] at e
    cases e
def z00 : Unit × PH := ((), (0, fun _ => none))
/-- a heap that the loop may go on with -/
def Ok (g : Nat) (h : PH) : Prop := ∃ D w T pa dr np, h = HH g D w T pa dr np np ∧ Inv D pa dr np
noncomputable def KO (g : Nat) (h : PH) : Option (Unit × PH) := @ite _ (Ok g h) (Classical.propDecidable _) (some z00) none
theorem KO_ok {g : Nat} {h : PH} (q : Ok g h) : KO g h = some z00 := if_pos q
theorem KO_inv {g : Nat} {h : PH} {z : Unit × PH} (q : KO g h = some z) : Ok g h ∧ z = z00 := by
  by_cases c : Ok g h
  · rw [KO_ok c] at q
    cases q
    exact ⟨c, rfl⟩
  · unfold KO at q
    rw [if_neg c] at q
    cases q
section
variable {p : Program} {l : Launch} {e : Env} {s : State} {m : MethodId} {args : Array Value} {below : List Frame} {meth : Method} {c : Code} {G : GX} {qf : Unit × PH → State → Prop} {cells slots : Nat} {h : PH} {bs L : Nat} {xs : Nat → Int32} {g k : Nat}
theorem go_bar (C : Cx p s m args meth c G code 4 R_law) (X : SX G s bs L xs) (hk : k + 7 ≤ L) (hc : cells + 2 ≤ 600000) (hs : slots + 15 ≤ 7302250) {D : Nat → Nat → Int32} {w : Int64} {T : Nat → Int64} {pa dr np : Nat} (hI : Inv D pa dr np) (kk : ∀ (h2 : PH) (c2 s2 : Nat), c2 ≤ cells + 2 → s2 ≤ slots + 15 → J p l e room_1 s m args below meth c G 4 qf c2 s2 h2 1051 (lvL bs g (g + 40) k) [] (KO g h2)) : J p l e room_1 s m args below meth c G 4 qf cells slots (HH g D w T pa dr np np) 156 (lvL bs g (g + 40) k) [] (some z00) := by
  obtain ⟨D1, w1, T1, pa1, dr1, np1, e1, hI1⟩ := op_bar (b := g) (w := w) (T := T) hI (xs (k + 1)) (xs (k + 2)) (xs (k + 3))
  have e2 := arm_eq (a1 := g) (a2 := g + 40) (K := KO g) e1 hk0 (fun h1 z q => bn_wr q)
  rw [KO_ok ⟨D1, w1, T1, pa1, dr1, np1, rfl, hI1⟩] at e2
  rw [← e2]
  exact arm_bar C X hk hc hs kk
theorem go_cut (C : Cx p s m args meth c G code 4 R_law) (X : SX G s bs L xs) (hk : k + 7 ≤ L) (hc : cells + 2 ≤ 600000) (hs : slots + 15 ≤ 7302250) {D : Nat → Nat → Int32} {w : Int64} {T : Nat → Int64} {pa dr np : Nat} (hI : Inv D pa dr np) (kk : ∀ (h2 : PH) (c2 s2 : Nat), c2 ≤ cells + 2 → s2 ≤ slots + 15 → J p l e room_1 s m args below meth c G 4 qf c2 s2 h2 1051 (lvL bs g (g + 40) k) [] (KO g h2)) : J p l e room_1 s m args below meth c G 4 qf cells slots (HH g D w T pa dr np np) 199 (lvL bs g (g + 40) k) [] (some z00) := by
  obtain ⟨D1, w1, T1, pa1, dr1, np1, e1, hI1⟩ := op_cut (b := g) (w := w) (T := T) hI (xs (k + 1)) (xs (k + 2))
  have e2 := arm_eq (a1 := g) (a2 := g + 40) (K := KO g) e1 hk0 (fun h1 z q => bn_wr q)
  rw [KO_ok ⟨D1, w1, T1, pa1, dr1, np1, rfl, hI1⟩] at e2
  rw [← e2]
  exact arm_cut C X hk hc hs kk
theorem go_melt (C : Cx p s m args meth c G code 4 R_law) (X : SX G s bs L xs) (hk : k + 7 ≤ L) (hc : cells + 2 ≤ 600000) (hs : slots + 15 ≤ 7302250) {D : Nat → Nat → Int32} {w : Int64} {T : Nat → Int64} {pa dr np : Nat} (hI : Inv D pa dr np) (kk : ∀ (h2 : PH) (c2 s2 : Nat), c2 ≤ cells + 2 → s2 ≤ slots + 15 → J p l e room_1 s m args below meth c G 4 qf c2 s2 h2 1051 (lvL bs g (g + 40) k) [] (KO g h2)) : J p l e room_1 s m args below meth c G 4 qf cells slots (HH g D w T pa dr np np) 232 (lvL bs g (g + 40) k) [] (some z00) := by
  obtain ⟨D1, w1, T1, pa1, dr1, np1, e1, hI1⟩ := op_melt (b := g) (w := w) (T := T) hI (xs (k + 1)) (xs (k + 2))
  have e2 := arm_eq (a1 := g) (a2 := g + 40) (K := KO g) e1 hk0 (fun h1 z q => bn_wr q)
  rw [KO_ok ⟨D1, w1, T1, pa1, dr1, np1, rfl, hI1⟩] at e2
  rw [← e2]
  exact arm_melt C X hk hc hs kk
theorem go_weight (C : Cx p s m args meth c G code 4 R_law) (X : SX G s bs L xs) (hk : k + 7 ≤ L) (hc : cells + 2 ≤ 600000) (hs : slots + 15 ≤ 7302250) {D : Nat → Nat → Int32} {w : Int64} {T : Nat → Int64} {pa dr np : Nat} (hI : Inv D pa dr np) (kk : ∀ (h2 : PH) (c2 s2 : Nat), c2 ≤ cells + 2 → s2 ≤ slots + 15 → J p l e room_1 s m args below meth c G 4 qf c2 s2 h2 1051 (lvL bs g (g + 40) k) [] (KO g h2)) : J p l e room_1 s m args below meth c G 4 qf cells slots (HH g D w T pa dr np np) 265 (lvL bs g (g + 40) k) [] (some z00) := by
  obtain ⟨D1, w1, T1, pa1, dr1, np1, e1, hI1⟩ := op_weight (b := g) (w := w) (T := T) hI (xs (k + 1))
  have e2 := arm_eq (a1 := g) (a2 := g + 40) (K := KO g) e1 hk0 (fun h1 z q => bn_wr q)
  rw [KO_ok ⟨D1, w1, T1, pa1, dr1, np1, rfl, hI1⟩] at e2
  rw [← e2]
  exact arm_weight C X hk hc hs kk
theorem go_from (C : Cx p s m args meth c G code 4 R_law) (X : SX G s bs L xs) (hk : k + 7 ≤ L) (hc : cells + 2 ≤ 600000) (hs : slots + 15 ≤ 7302250) {D : Nat → Nat → Int32} {w : Int64} {T : Nat → Int64} {pa dr np : Nat} (hI : Inv D pa dr np) (kk : ∀ (h2 : PH) (c2 s2 : Nat), c2 ≤ cells + 2 → s2 ≤ slots + 15 → J p l e room_1 s m args below meth c G 4 qf c2 s2 h2 1051 (lvL bs g (g + 40) k) [] (KO g h2)) : J p l e room_1 s m args below meth c G 4 qf cells slots (HH g D w T pa dr np np) 288 (lvL bs g (g + 40) k) [] (some z00) := by
  obtain ⟨D1, w1, T1, pa1, dr1, np1, e1, hI1⟩ := op_from (b := g) (w := w) (T := T) hI (xs (k + 1)) (xs (k + 2))
  have e2 := arm_eq (a1 := g) (a2 := g + 40) (K := KO g) e1 hk0 (fun h1 z q => bn_wr q)
  rw [KO_ok ⟨D1, w1, T1, pa1, dr1, np1, rfl, hI1⟩] at e2
  rw [← e2]
  exact arm_from C X hk hc hs kk
theorem go_part (C : Cx p s m args meth c G code 4 R_law) (X : SX G s bs L xs) (hk : k + 7 ≤ L) (hc : cells + 2 ≤ 600000) (hs : slots + 15 ≤ 7302250) {D : Nat → Nat → Int32} {w : Int64} {T : Nat → Int64} {pa dr np : Nat} (hI : Inv D pa dr np) (kk : ∀ (h2 : PH) (c2 s2 : Nat), c2 ≤ cells + 2 → s2 ≤ slots + 15 → J p l e room_1 s m args below meth c G 4 qf c2 s2 h2 1051 (lvL bs g (g + 40) k) [] (KO g h2)) : J p l e room_1 s m args below meth c G 4 qf cells slots (HH g D w T pa dr np np) 321 (lvL bs g (g + 40) k) [] (some z00) := by
  obtain ⟨D1, w1, T1, pa1, dr1, np1, e1, hI1⟩ := op_part (b := g) (w := w) (T := T) hI (xs (k + 1)) (xs (k + 2))
  have e2 := arm_eqL (a1 := g) (a2 := g + 40) (K := KO g) e1 hk0 (fun h1 z q => bn_wr q)
  rw [KO_ok ⟨D1, w1, T1, pa1, dr1, np1, rfl, hI1⟩] at e2
  rw [← e2]
  exact arm_part C X hk hc hs kk
theorem go_feed (C : Cx p s m args meth c G code 4 R_law) (X : SX G s bs L xs) (hk : k + 7 ≤ L) (hc : cells + 2 ≤ 600000) (hs : slots + 15 ≤ 7302250) {D : Nat → Nat → Int32} {w : Int64} {T : Nat → Int64} {pa dr np : Nat} (hI : Inv D pa dr np) (kk : ∀ (h2 : PH) (c2 s2 : Nat), c2 ≤ cells + 2 → s2 ≤ slots + 15 → J p l e room_1 s m args below meth c G 4 qf c2 s2 h2 1051 (lvL bs g (g + 40) k) [] (KO g h2)) : J p l e room_1 s m args below meth c G 4 qf cells slots (HH g D w T pa dr np np) 355 (lvL bs g (g + 40) k) [] (some z00) := by
  obtain ⟨D1, w1, T1, pa1, dr1, np1, e1, hI1⟩ := op_feed (b := g) (w := w) (T := T) hI (xs (k + 1)) (xs (k + 2)) (xs (k + 3)) (xs (k + 4)) (xs (k + 5))
  have e2 := arm_eq (a1 := g) (a2 := g + 40) (K := KO g) e1 hk0 (fun h1 z q => bn_wr q)
  rw [KO_ok ⟨D1, w1, T1, pa1, dr1, np1, rfl, hI1⟩] at e2
  rw [← e2]
  exact arm_feed C X hk hc hs kk
theorem go_end (C : Cx p s m args meth c G code 4 R_law) (X : SX G s bs L xs) (hk : k + 7 ≤ L) (hc : cells + 2 ≤ 600000) (hs : slots + 15 ≤ 7302250) {D : Nat → Nat → Int32} {w : Int64} {T : Nat → Int64} {pa dr np : Nat} (hI : Inv D pa dr np) (kk : ∀ (h2 : PH) (c2 s2 : Nat), c2 ≤ cells + 2 → s2 ≤ slots + 15 → J p l e room_1 s m args below meth c G 4 qf c2 s2 h2 1051 (lvL bs g (g + 40) k) [] (KO g h2)) : J p l e room_1 s m args below meth c G 4 qf cells slots (HH g D w T pa dr np np) 418 (lvL bs g (g + 40) k) [] (some z00) := by
  obtain ⟨D1, w1, T1, pa1, dr1, np1, e1, hI1⟩ := op_end (b := g) (w := w) (T := T) hI (xs (k + 1))
  have e2 := arm_eq (a1 := g) (a2 := g + 40) (K := KO g) e1 hk0 (fun h1 z q => bn_wr q)
  rw [KO_ok ⟨D1, w1, T1, pa1, dr1, np1, rfl, hI1⟩] at e2
  rw [← e2]
  exact arm_end C X hk hc hs kk
theorem go_colours (C : Cx p s m args meth c G code 4 R_law) (X : SX G s bs L xs) (hk : k + 7 ≤ L) (hc : cells + 2 ≤ 600000) (hs : slots + 15 ≤ 7302250) {D : Nat → Nat → Int32} {w : Int64} {T : Nat → Int64} {pa dr np : Nat} (hI : Inv D pa dr np) (kk : ∀ (h2 : PH) (c2 s2 : Nat), c2 ≤ cells + 2 → s2 ≤ slots + 15 → J p l e room_1 s m args below meth c G 4 qf c2 s2 h2 1051 (lvL bs g (g + 40) k) [] (KO g h2)) : J p l e room_1 s m args below meth c G 4 qf cells slots (HH g D w T pa dr np np) 441 (lvL bs g (g + 40) k) [] (some z00) := by
  obtain ⟨D1, w1, T1, pa1, dr1, np1, e1, hI1⟩ := op_colours (b := g) (w := w) (T := T) hI
  have e2 := arm_eq (a1 := g) (a2 := g + 40) (K := KO g) e1 hk0 (fun h1 z q => bn_wr q)
  rw [KO_ok ⟨D1, w1, T1, pa1, dr1, np1, rfl, hI1⟩] at e2
  rw [← e2]
  exact arm_colours C X hk hc hs kk
theorem go_fault (C : Cx p s m args meth c G code 4 R_law) (X : SX G s bs L xs) (hk : k + 7 ≤ L) (hc : cells + 2 ≤ 600000) (hs : slots + 15 ≤ 7302250) {D : Nat → Nat → Int32} {w : Int64} {T : Nat → Int64} {pa dr np : Nat} (hI : Inv D pa dr np) (kk : ∀ (h2 : PH) (c2 s2 : Nat), c2 ≤ cells + 2 → s2 ≤ slots + 15 → J p l e room_1 s m args below meth c G 4 qf c2 s2 h2 1051 (lvL bs g (g + 40) k) [] (KO g h2)) : J p l e room_1 s m args below meth c G 4 qf cells slots (HH g D w T pa dr np np) 454 (lvL bs g (g + 40) k) [] (some z00) := by
  obtain ⟨D1, w1, T1, pa1, dr1, np1, e1, hI1⟩ := op_fault (b := g) (w := w) (T := T) hI
  have e2 := arm_eq (a1 := g) (a2 := g + 40) (K := KO g) e1 hk0 (fun h1 z q => bn_wr q)
  rw [KO_ok ⟨D1, w1, T1, pa1, dr1, np1, rfl, hI1⟩] at e2
  rw [← e2]
  exact arm_fault C X hk hc hs kk
theorem go_colour (C : Cx p s m args meth c G code 4 R_law) (X : SX G s bs L xs) (hk : k + 7 ≤ L) (hc : cells + 2 ≤ 600000) (hs : slots + 15 ≤ 7302250) {D : Nat → Nat → Int32} {w : Int64} {T : Nat → Int64} {pa dr np : Nat} (hI : Inv D pa dr np) (kk : ∀ (h2 : PH) (c2 s2 : Nat), c2 ≤ cells + 2 → s2 ≤ slots + 15 → J p l e room_1 s m args below meth c G 4 qf c2 s2 h2 1051 (lvL bs g (g + 40) k) [] (KO g h2)) : J p l e room_1 s m args below meth c G 4 qf cells slots (HH g D w T pa dr np np) 467 (lvL bs g (g + 40) k) [] (some z00) := by
  obtain ⟨D1, w1, T1, pa1, dr1, np1, e1, hI1⟩ := op_colour (b := g) (w := w) (T := T) hI (xs (k + 1))
  have e2 := arm_eq (a1 := g) (a2 := g + 40) (K := KO g) e1 hk0 (fun h1 z q => bn_wr q)
  rw [KO_ok ⟨D1, w1, T1, pa1, dr1, np1, rfl, hI1⟩] at e2
  rw [← e2]
  exact arm_colour C X hk hc hs kk
theorem go_skin (C : Cx p s m args meth c G code 4 R_law) (X : SX G s bs L xs) (hk : k + 7 ≤ L) (hc : cells + 2 ≤ 600000) (hs : slots + 15 ≤ 7302250) {D : Nat → Nat → Int32} {w : Int64} {T : Nat → Int64} {pa dr np : Nat} (hI : Inv D pa dr np) (kk : ∀ (h2 : PH) (c2 s2 : Nat), c2 ≤ cells + 2 → s2 ≤ slots + 15 → J p l e room_1 s m args below meth c G 4 qf c2 s2 h2 1051 (lvL bs g (g + 40) k) [] (KO g h2)) : J p l e room_1 s m args below meth c G 4 qf cells slots (HH g D w T pa dr np np) 490 (lvL bs g (g + 40) k) [] (some z00) := by
  obtain ⟨D1, w1, T1, pa1, dr1, np1, e1, hI1⟩ := op_skin (b := g) (w := w) (T := T) hI (xs (k + 1))
  have e2 := arm_eq (a1 := g) (a2 := g + 40) (K := KO g) e1 hk0 (fun h1 z q => bn_wr q)
  rw [KO_ok ⟨D1, w1, T1, pa1, dr1, np1, rfl, hI1⟩] at e2
  rw [← e2]
  exact arm_skin C X hk hc hs kk
theorem go_dry (C : Cx p s m args meth c G code 4 R_law) (X : SX G s bs L xs) (hk : k + 7 ≤ L) (hc : cells + 2 ≤ 600000) (hs : slots + 15 ≤ 7302250) {D : Nat → Nat → Int32} {w : Int64} {T : Nat → Int64} {pa dr np : Nat} (hI : Inv D pa dr np) (kk : ∀ (h2 : PH) (c2 s2 : Nat), c2 ≤ cells + 2 → s2 ≤ slots + 15 → J p l e room_1 s m args below meth c G 4 qf c2 s2 h2 1051 (lvL bs g (g + 40) k) [] (KO g h2)) : J p l e room_1 s m args below meth c G 4 qf cells slots (HH g D w T pa dr np np) 513 (lvL bs g (g + 40) k) [] (some z00) := by
  obtain ⟨D1, w1, T1, pa1, dr1, np1, e1, hI1⟩ := op_dry (b := g) (w := w) (T := T) hI (xs (k + 1)) (xs (k + 2))
  have e2 := arm_eq (a1 := g) (a2 := g + 40) (K := KO g) e1 hk0 (fun h1 z q => bn_wr q)
  rw [KO_ok ⟨D1, w1, T1, pa1, dr1, np1, rfl, hI1⟩] at e2
  rw [← e2]
  exact arm_dry C X hk hc hs kk
theorem go_age (C : Cx p s m args meth c G code 4 R_law) (X : SX G s bs L xs) (hk : k + 7 ≤ L) (hc : cells + 2 ≤ 600000) (hs : slots + 15 ≤ 7302250) {D : Nat → Nat → Int32} {w : Int64} {T : Nat → Int64} {pa dr np : Nat} (hI : Inv D pa dr np) (kk : ∀ (h2 : PH) (c2 s2 : Nat), c2 ≤ cells + 2 → s2 ≤ slots + 15 → J p l e room_1 s m args below meth c G 4 qf c2 s2 h2 1051 (lvL bs g (g + 40) k) [] (KO g h2)) : J p l e room_1 s m args below meth c G 4 qf cells slots (HH g D w T pa dr np np) 546 (lvL bs g (g + 40) k) [] (some z00) := by
  obtain ⟨D1, w1, T1, pa1, dr1, np1, e1, hI1⟩ := op_age (b := g) (w := w) (T := T) hI (xs (k + 1))
  have e2 := arm_eq (a1 := g) (a2 := g + 40) (K := KO g) e1 hk0 (fun h1 z q => bn_wr q)
  rw [KO_ok ⟨D1, w1, T1, pa1, dr1, np1, rfl, hI1⟩] at e2
  rw [← e2]
  exact arm_age C X hk hc hs kk
theorem go_pack (C : Cx p s m args meth c G code 4 R_law) (X : SX G s bs L xs) (hk : k + 7 ≤ L) (hc : cells + 2 ≤ 600000) (hs : slots + 15 ≤ 7302250) {D : Nat → Nat → Int32} {w : Int64} {T : Nat → Int64} {pa dr np : Nat} (hI : Inv D pa dr np) (kk : ∀ (h2 : PH) (c2 s2 : Nat), c2 ≤ cells + 2 → s2 ≤ slots + 15 → J p l e room_1 s m args below meth c G 4 qf c2 s2 h2 1051 (lvL bs g (g + 40) k) [] (KO g h2)) : J p l e room_1 s m args below meth c G 4 qf cells slots (HH g D w T pa dr np np) 569 (lvL bs g (g + 40) k) [] (some z00) := by
  obtain ⟨D1, w1, T1, pa1, dr1, np1, e1, hI1⟩ := op_pack (b := g) (w := w) (T := T) hI (xs (k + 1)) (xs (k + 2)) (xs (k + 3)) (xs (k + 4)) (xs (k + 5)) (xs (k + 6))
  have e2 := arm_eq (a1 := g) (a2 := g + 40) (K := KO g) e1 hk0 (fun h1 z q => bn_wr q)
  rw [KO_ok ⟨D1, w1, T1, pa1, dr1, np1, rfl, hI1⟩] at e2
  rw [← e2]
  exact arm_pack C X hk hc hs kk
theorem go_beat (C : Cx p s m args meth c G code 4 R_law) (X : SX G s bs L xs) (hk : k + 7 ≤ L) (hc : cells + 2 ≤ 600000) (hs : slots + 15 ≤ 7302250) {D : Nat → Nat → Int32} {w : Int64} {T : Nat → Int64} {pa dr np : Nat} (hI : Inv D pa dr np) (kk : ∀ (h2 : PH) (c2 s2 : Nat), c2 ≤ cells + 2 → s2 ≤ slots + 15 → J p l e room_1 s m args below meth c G 4 qf c2 s2 h2 1051 (lvL bs g (g + 40) k) [] (KO g h2)) : J p l e room_1 s m args below meth c G 4 qf cells slots (HH g D w T pa dr np np) 644 (lvL bs g (g + 40) k) [] (some z00) := by
  obtain ⟨D1, w1, T1, pa1, dr1, np1, e1, hI1⟩ := op_beat (b := g) (w := w) (T := T) hI (xs (k + 1)) (xs (k + 2))
  have e2 := arm_eq (a1 := g) (a2 := g + 40) (K := KO g) e1 hk0 (fun h1 z q => bn_wr q)
  rw [KO_ok ⟨D1, w1, T1, pa1, dr1, np1, rfl, hI1⟩] at e2
  rw [← e2]
  exact arm_beat C X hk hc hs kk
theorem go_leaf (C : Cx p s m args meth c G code 4 R_law) (X : SX G s bs L xs) (hk : k + 7 ≤ L) (hc : cells + 2 ≤ 600000) (hs : slots + 15 ≤ 7302250) {D : Nat → Nat → Int32} {w : Int64} {T : Nat → Int64} {pa dr np : Nat} (hI : Inv D pa dr np) (kk : ∀ (h2 : PH) (c2 s2 : Nat), c2 ≤ cells + 2 → s2 ≤ slots + 15 → J p l e room_1 s m args below meth c G 4 qf c2 s2 h2 1051 (lvL bs g (g + 40) k) [] (KO g h2)) : J p l e room_1 s m args below meth c G 4 qf cells slots (HH g D w T pa dr np np) 677 (lvL bs g (g + 40) k) [] (some z00) := by
  obtain ⟨D1, w1, T1, pa1, dr1, np1, e1, hI1⟩ := op_leaf (b := g) (w := w) (T := T) hI (xs (k + 1)) (xs (k + 2))
  have e2 := arm_eq (a1 := g) (a2 := g + 40) (K := KO g) e1 hk0 (fun h1 z q => bn_wr q)
  rw [KO_ok ⟨D1, w1, T1, pa1, dr1, np1, rfl, hI1⟩] at e2
  rw [← e2]
  exact arm_leaf C X hk hc hs kk
theorem go_flatter (C : Cx p s m args meth c G code 4 R_law) (X : SX G s bs L xs) (hk : k + 7 ≤ L) (hc : cells + 2 ≤ 600000) (hs : slots + 15 ≤ 7302250) {D : Nat → Nat → Int32} {w : Int64} {T : Nat → Int64} {pa dr np : Nat} (hI : Inv D pa dr np) (kk : ∀ (h2 : PH) (c2 s2 : Nat), c2 ≤ cells + 2 → s2 ≤ slots + 15 → J p l e room_1 s m args below meth c G 4 qf c2 s2 h2 1051 (lvL bs g (g + 40) k) [] (KO g h2)) : J p l e room_1 s m args below meth c G 4 qf cells slots (HH g D w T pa dr np np) 710 (lvL bs g (g + 40) k) [] (some z00) := by
  obtain ⟨D1, w1, T1, pa1, dr1, np1, e1, hI1⟩ := op_flatter (b := g) (w := w) (T := T) hI (xs (k + 1)) (xs (k + 2))
  have e2 := arm_eq (a1 := g) (a2 := g + 40) (K := KO g) e1 hk0 (fun h1 z q => bn_wr q)
  rw [KO_ok ⟨D1, w1, T1, pa1, dr1, np1, rfl, hI1⟩] at e2
  rw [← e2]
  exact arm_flatter C X hk hc hs kk
theorem go_bind (C : Cx p s m args meth c G code 4 R_law) (X : SX G s bs L xs) (hk : k + 7 ≤ L) (hc : cells + 2 ≤ 600000) (hs : slots + 15 ≤ 7302250) {D : Nat → Nat → Int32} {w : Int64} {T : Nat → Int64} {pa dr np : Nat} (hI : Inv D pa dr np) (kk : ∀ (h2 : PH) (c2 s2 : Nat), c2 ≤ cells + 2 → s2 ≤ slots + 15 → J p l e room_1 s m args below meth c G 4 qf c2 s2 h2 1051 (lvL bs g (g + 40) k) [] (KO g h2)) : J p l e room_1 s m args below meth c G 4 qf cells slots (HH g D w T pa dr np np) 743 (lvL bs g (g + 40) k) [] (some z00) := by
  obtain ⟨D1, w1, T1, pa1, dr1, np1, e1, hI1⟩ := op_bind (b := g) (w := w) (T := T) hI (xs (k + 1))
  have e2 := arm_eq (a1 := g) (a2 := g + 40) (K := KO g) e1 hk0 (fun h1 z q => bn_wr q)
  rw [KO_ok ⟨D1, w1, T1, pa1, dr1, np1, rfl, hI1⟩] at e2
  rw [← e2]
  exact arm_bind C X hk hc hs kk
theorem go_book (C : Cx p s m args meth c G code 4 R_law) (X : SX G s bs L xs) (hk : k + 7 ≤ L) (hc : cells + 2 ≤ 600000) (hs : slots + 15 ≤ 7302250) {D : Nat → Nat → Int32} {w : Int64} {T : Nat → Int64} {pa dr np : Nat} (hI : Inv D pa dr np) (kk : ∀ (h2 : PH) (c2 s2 : Nat), c2 ≤ cells + 2 → s2 ≤ slots + 15 → J p l e room_1 s m args below meth c G 4 qf c2 s2 h2 1051 (lvL bs g (g + 40) k) [] (KO g h2)) : J p l e room_1 s m args below meth c G 4 qf cells slots (HH g D w T pa dr np np) 766 (lvL bs g (g + 40) k) [] (some z00) := by
  obtain ⟨D1, w1, T1, pa1, dr1, np1, e1, hI1⟩ := op_book (b := g) (w := w) (T := T) hI (xs (k + 1))
  have e2 := arm_eq (a1 := g) (a2 := g + 40) (K := KO g) e1 hk0 (fun h1 z q => bn_wr q)
  rw [KO_ok ⟨D1, w1, T1, pa1, dr1, np1, rfl, hI1⟩] at e2
  rw [← e2]
  exact arm_book C X hk hc hs kk
theorem go_surface (C : Cx p s m args meth c G code 4 R_law) (X : SX G s bs L xs) (hk : k + 7 ≤ L) (hc : cells + 2 ≤ 600000) (hs : slots + 15 ≤ 7302250) {D : Nat → Nat → Int32} {w : Int64} {T : Nat → Int64} {pa dr np : Nat} (hI : Inv D pa dr np) (kk : ∀ (h2 : PH) (c2 s2 : Nat), c2 ≤ cells + 2 → s2 ≤ slots + 15 → J p l e room_1 s m args below meth c G 4 qf c2 s2 h2 1051 (lvL bs g (g + 40) k) [] (KO g h2)) : J p l e room_1 s m args below meth c G 4 qf cells slots (HH g D w T pa dr np np) 789 (lvL bs g (g + 40) k) [] (some z00) := by
  obtain ⟨D1, w1, T1, pa1, dr1, np1, e1, hI1⟩ := op_surface (b := g) (w := w) (T := T) hI (xs (k + 1)) (xs (k + 2)) (xs (k + 3)) (xs (k + 4))
  have e2 := arm_eqL (a1 := g) (a2 := g + 40) (K := KO g) e1 hk0 (fun h1 z q => bn_wr q)
  rw [KO_ok ⟨D1, w1, T1, pa1, dr1, np1, rfl, hI1⟩] at e2
  rw [← e2]
  exact arm_surface C X hk hc hs kk
theorem go_pass (C : Cx p s m args meth c G code 4 R_law) (X : SX G s bs L xs) (hk : k + 7 ≤ L) (hc : cells + 2 ≤ 600000) (hs : slots + 15 ≤ 7302250) {D : Nat → Nat → Int32} {w : Int64} {T : Nat → Int64} {pa dr np : Nat} (hI : Inv D pa dr np) (kk : ∀ (h2 : PH) (c2 s2 : Nat), c2 ≤ cells + 2 → s2 ≤ slots + 15 → J p l e room_1 s m args below meth c G 4 qf c2 s2 h2 1051 (lvL bs g (g + 40) k) [] (KO g h2)) : J p l e room_1 s m args below meth c G 4 qf cells slots (HH g D w T pa dr np np) 843 (lvL bs g (g + 40) k) [] (some z00) := by
  obtain ⟨D1, w1, T1, pa1, dr1, np1, e1, hI1⟩ := op_pass (b := g) (w := w) (T := T) hI (xs (k + 1)) (xs (k + 2)) (xs (k + 3)) (xs (k + 4))
  have e2 := arm_eq (a1 := g) (a2 := g + 40) (K := KO g) e1 hk0 (fun h1 z q => bn_wr q)
  rw [KO_ok ⟨D1, w1, T1, pa1, dr1, np1, rfl, hI1⟩] at e2
  rw [← e2]
  exact arm_pass C X hk hc hs kk
theorem go_held (C : Cx p s m args meth c G code 4 R_law) (X : SX G s bs L xs) (hk : k + 7 ≤ L) (hc : cells + 2 ≤ 600000) (hs : slots + 15 ≤ 7302250) {D : Nat → Nat → Int32} {w : Int64} {T : Nat → Int64} {pa dr np : Nat} (hI : Inv D pa dr np) (kk : ∀ (h2 : PH) (c2 s2 : Nat), c2 ≤ cells + 2 → s2 ≤ slots + 15 → J p l e room_1 s m args below meth c G 4 qf c2 s2 h2 1051 (lvL bs g (g + 40) k) [] (KO g h2)) : J p l e room_1 s m args below meth c G 4 qf cells slots (HH g D w T pa dr np np) 896 (lvL bs g (g + 40) k) [] (some z00) := by
  obtain ⟨D1, w1, T1, pa1, dr1, np1, e1, hI1⟩ := op_held (b := g) (w := w) (T := T) hI (xs (k + 1)) (xs (k + 2)) (xs (k + 3))
  have e2 := arm_eq (a1 := g) (a2 := g + 40) (K := KO g) e1 hk0 (fun h1 z q => bn_wr q)
  rw [KO_ok ⟨D1, w1, T1, pa1, dr1, np1, rfl, hI1⟩] at e2
  rw [← e2]
  exact arm_held C X hk hc hs kk
theorem go_find (C : Cx p s m args meth c G code 4 R_law) (X : SX G s bs L xs) (hk : k + 7 ≤ L) (hc : cells + 2 ≤ 600000) (hs : slots + 15 ≤ 7302250) {D : Nat → Nat → Int32} {w : Int64} {T : Nat → Int64} {pa dr np : Nat} (hI : Inv D pa dr np) (kk : ∀ (h2 : PH) (c2 s2 : Nat), c2 ≤ cells + 2 → s2 ≤ slots + 15 → J p l e room_1 s m args below meth c G 4 qf c2 s2 h2 1051 (lvL bs g (g + 40) k) [] (KO g h2)) : J p l e room_1 s m args below meth c G 4 qf cells slots (HH g D w T pa dr np np) 939 (lvL bs g (g + 40) k) [] (some z00) := by
  obtain ⟨D1, w1, T1, pa1, dr1, np1, e1, hI1⟩ := op_find (b := g) (w := w) (T := T) hI (xs (k + 1)) (xs (k + 2)) (xs (k + 3))
  have e2 := arm_eq (a1 := g) (a2 := g + 40) (K := KO g) e1 hk0 (fun h1 z q => bn_wr q)
  rw [KO_ok ⟨D1, w1, T1, pa1, dr1, np1, rfl, hI1⟩] at e2
  rw [← e2]
  exact arm_find C X hk hc hs kk
theorem go_missing (C : Cx p s m args meth c G code 4 R_law) (X : SX G s bs L xs) (hk : k + 7 ≤ L) (hc : cells + 2 ≤ 600000) (hs : slots + 15 ≤ 7302250) {D : Nat → Nat → Int32} {w : Int64} {T : Nat → Int64} {pa dr np : Nat} (hI : Inv D pa dr np) (kk : ∀ (h2 : PH) (c2 s2 : Nat), c2 ≤ cells + 2 → s2 ≤ slots + 15 → J p l e room_1 s m args below meth c G 4 qf c2 s2 h2 1051 (lvL bs g (g + 40) k) [] (KO g h2)) : J p l e room_1 s m args below meth c G 4 qf cells slots (HH g D w T pa dr np np) 982 (lvL bs g (g + 40) k) [] (some z00) := by
  obtain ⟨D1, w1, T1, pa1, dr1, np1, e1, hI1⟩ := op_missing (b := g) (w := w) (T := T) hI (xs (k + 1)) (xs (k + 2))
  have e2 := arm_eq (a1 := g) (a2 := g + 40) (K := KO g) e1 hk0 (fun h1 z q => bn_wr q)
  rw [KO_ok ⟨D1, w1, T1, pa1, dr1, np1, rfl, hI1⟩] at e2
  rw [← e2]
  exact arm_missing C X hk hc hs kk
theorem go_count (C : Cx p s m args meth c G code 4 R_law) (X : SX G s bs L xs) (hk : k + 7 ≤ L) (hc : cells + 2 ≤ 600000) (hs : slots + 15 ≤ 7302250) {D : Nat → Nat → Int32} {w : Int64} {T : Nat → Int64} {pa dr np : Nat} (hI : Inv D pa dr np) (kk : ∀ (h2 : PH) (c2 s2 : Nat), c2 ≤ cells + 2 → s2 ≤ slots + 15 → J p l e room_1 s m args below meth c G 4 qf c2 s2 h2 1051 (lvL bs g (g + 40) k) [] (KO g h2)) : J p l e room_1 s m args below meth c G 4 qf cells slots (HH g D w T pa dr np np) 1015 (lvL bs g (g + 40) k) [] (some z00) := by
  obtain ⟨D1, w1, T1, pa1, dr1, np1, e1, hI1⟩ := op_count (b := g) (w := w) (T := T) hI (xs (k + 1))
  have e2 := arm_eq (a1 := g) (a2 := g + 40) (K := KO g) e1 hk0 (fun h1 z q => bn_wr q)
  rw [KO_ok ⟨D1, w1, T1, pa1, dr1, np1, rfl, hI1⟩] at e2
  rw [← e2]
  exact arm_count C X hk hc hs kk
theorem go_status (C : Cx p s m args meth c G code 4 R_law) (X : SX G s bs L xs) (hk : k + 7 ≤ L) (hc : cells + 2 ≤ 600000) (hs : slots + 15 ≤ 7302250) {D : Nat → Nat → Int32} {w : Int64} {T : Nat → Int64} {pa dr np : Nat} (hI : Inv D pa dr np) (kk : ∀ (h2 : PH) (c2 s2 : Nat), c2 ≤ cells + 2 → s2 ≤ slots + 15 → J p l e room_1 s m args below meth c G 4 qf c2 s2 h2 1051 (lvL bs g (g + 40) k) [] (KO g h2)) : J p l e room_1 s m args below meth c G 4 qf cells slots (HH g D w T pa dr np np) 1038 (lvL bs g (g + 40) k) [] (some z00) := by
  obtain ⟨D1, w1, T1, pa1, dr1, np1, e1, hI1⟩ := op_status (b := g) (w := w) (T := T) hI
  have e2 := arm_eq (a1 := g) (a2 := g + 40) (K := KO g) e1 hk0 (fun h1 z q => bn_wr q)
  rw [KO_ok ⟨D1, w1, T1, pa1, dr1, np1, rfl, hI1⟩] at e2
  rw [← e2]
  exact arm_status C X hk hc hs kk
end
