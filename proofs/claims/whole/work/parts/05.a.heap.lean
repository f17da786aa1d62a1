/-! ===== the run's heap as a picture: base b; D: the ints of each cell (fields, or a row's places) by the cell's place; w: the reference's long; T: the row of longs; pa, dr: the places of the two palettes; np: how many pieces were made ===== -/
def up2 (D : Nat → Nat → Int32) (o k : Nat) (v : Int32) : Nat → Nat → Int32 := fun x => if x = o then upd (D o) k v else D x
theorem up2_same (D : Nat → Nat → Int32) (o k : Nat) (v : Int32) : up2 D o k v o = upd (D o) k v := if_pos rfl
theorem up2_ne {D : Nat → Nat → Int32} {o k : Nat} {v : Int32} {x : Nat} (h : x ≠ o) : up2 D o k v x = D x := if_neg h
def cellR (b : Nat) (r : Nat → Int32) (w : Int64) (T : Nat → Int64) (pa dr np : Nat) (o : Nat) : Option PE := match o with
  | 0 => some (.inr (9, [.ref (b + 1), .ref (b + 8), .ref (b + 9), .ref (b + 10), .ref (b + 14), .ref (b + 22), .ref (b + pa), .ref (b + dr), .int (r 8), .int (r 9)]))
  | 1 => some (.inr (7, [.ref (b + 2), .ref (b + 3), .ref (b + 7), .int (r 3), .int (r 4)]))
  | 2 => some (.inl (3, 120, .inr (.inr (.inr (.inr (fun i => if i < np then some (b + 66 + 2 * i) else none))))))
  | 3 => some (.inl (5, 3, .inr (.inr (.inr (.inr (fun i => if i < 3 then some (b + 3 + 1 + i) else none))))))
  | 4 => some (.inl (0, 10, .inl r))
  | 5 => some (.inl (0, 10, .inl r))
  | 6 => some (.inl (0, 10, .inl r))
  | 7 => some (.inl (2, 10, .inr (.inl T)))
  | 8 => some (.inr (0, [.int (r 0), .int (r 1), .int (r 2)]))
  | 9 => some (.inr (1, [.ref (b + 10), .ref (b + 12), .ref (b + 13)]))
  | 10 => some (.inr (8, [.ref (b + 11), .int (r 1), .int (r 2), .int (r 3), .int (r 4)]))
  | 11 => some (.inl (0, 300, .inl r))
  | 12 => some (.inl (0, 10, .inl r))
  | 13 => some (.inl (0, 10, .inl r))
  | 14 => some (.inr (6, [.ref (b + 15), .ref (b + 19), .ref (b + 20), .ref (b + 21), .int (r 4)]))
  | 15 => some (.inl (4, 3, .inr (.inr (.inr (.inr (fun i => if i = 0 then some (b + 16) else if i = 1 then some (b + 17) else if i = 2 then some (b + 18) else none))))))
  | 16 => some (.inr (3, [.int (r 0), .int (r 1), .int (r 2), .int (r 3), .int (r 4)]))
  | 17 => some (.inr (3, [.int (r 0), .int (r 1), .int (r 2), .int (r 3), .int (r 4)]))
  | 18 => some (.inr (3, [.int (r 0), .int (r 1), .int (r 2), .int (r 3), .int (r 4)]))
  | 19 => some (.inl (0, 60, .inl r))
  | 20 => some (.inl (0, 60, .inl r))
  | 21 => some (.inl (1, 60, .inl r))
  | 22 => some (.inr (2, [.ref (b + 23), .ref (b + 24), .ref (b + 25), .ref (b + 26), .int (r 4), .ref (b + 27), .ref (b + 28), .ref (b + 29), .int (r 8)]))
  | 23 => some (.inl (0, 200, .inl r))
  | 24 => some (.inl (0, 200, .inl r))
  | 25 => some (.inl (0, 200, .inl r))
  | 26 => some (.inl (0, 200, .inl r))
  | 27 => some (.inl (0, 60, .inl r))
  | 28 => some (.inl (0, 60, .inl r))
  | 29 => some (.inl (0, 60, .inl r))
  | 30 => some (.inr (4, [.int (r 0), .int (r 1), .ref (b + 31), .ref (b + 32), .ref (b + 33), .ref (b + 34)]))
  | 31 => some (.inl (0, 30, .inl r))
  | 32 => some (.inl (0, 30, .inl r))
  | 33 => some (.inl (0, 30, .inl r))
  | 34 => some (.inl (0, 30, .inl r))
  | 35 => some (.inr (4, [.int (r 0), .int (r 1), .ref (b + 36), .ref (b + 37), .ref (b + 38), .ref (b + 39)]))
  | 36 => some (.inl (0, 30, .inl r))
  | 37 => some (.inl (0, 30, .inl r))
  | 38 => some (.inl (0, 30, .inl r))
  | 39 => some (.inl (0, 30, .inl r))
  | 40 => some (.inr (10, [.int (r 0), .int (r 1), .int (r 2), .ref (b + 41), .int (r 4), .ref (b + 42), .ref (b + 43), .ref (b + 44), .ref (b + 45), .int (r 9), .int (r 10), .ref (b + 46), .ref (b + 47), .int (r 13), .int (r 14), .ref (b + 48), .ref (b + 49), .ref (b + 50), .ref (b + 51), .ref (b + 52), .int (r 20), .int (r 21), .int (r 22), .int (r 23), .long w, .int (r 25), .int (r 26), .int (r 27), .ref (b + 53), .ref (b + 54), .ref (b + 55), .ref (b + 56), .ref (b + 57), .ref (b + 58), .int (r 34), .int (r 35), .ref (b + 59), .ref (b + 60), .ref (b + 61), .ref (b + 62), .int (r 40), .ref (b + 63), .ref (b + 64), .ref (b + 65)]))
  | 41 => some (.inl (0, 30, .inl r))
  | 42 => some (.inl (1, 120, .inl r))
  | 43 => some (.inl (0, 1200, .inl r))
  | 44 => some (.inl (0, 120, .inl r))
  | 45 => some (.inl (0, 120, .inl r))
  | 46 => some (.inl (0, 11, .inl r))
  | 47 => some (.inl (0, 90, .inl r))
  | 48 => some (.inl (0, 11, .inl r))
  | 49 => some (.inl (0, 90, .inl r))
  | 50 => some (.inl (0, 10, .inl r))
  | 51 => some (.inl (0, 10, .inl r))
  | 52 => some (.inl (0, 300, .inl r))
  | 53 => some (.inl (0, 60, .inl r))
  | 54 => some (.inl (0, 60, .inl r))
  | 55 => some (.inl (1, 60, .inl r))
  | 56 => some (.inl (0, 3, .inl r))
  | 57 => some (.inl (0, 6, .inl r))
  | 58 => some (.inl (0, 6, .inl r))
  | 59 => some (.inl (0, 200, .inl r))
  | 60 => some (.inl (0, 200, .inl r))
  | 61 => some (.inl (0, 200, .inl r))
  | 62 => some (.inl (0, 200, .inl r))
  | 63 => some (.inl (0, 60, .inl r))
  | 64 => some (.inl (0, 60, .inl r))
  | 65 => some (.inl (0, 60, .inl r))
  | _ => none
/-- a piece's two cells -/
def cellP (b : Nat) (D : Nat → Nat → Int32) (mk x : Nat) : Option PE := if x < 2 * mk then (if x % 2 = 0 then some (.inr (5, [.ref (b + 66 + x + 1), .int (D (66 + x) 1), .int (D (66 + x) 2), .int (D (66 + x) 3), .int (D (66 + x) 4)])) else some (.inl (0, 10, .inl (D (66 + x))))) else none
def HF (b : Nat) (D : Nat → Nat → Int32) (w : Int64) (T : Nat → Int64) (pa dr np mk : Nat) : Nat → Option PE := fun a => if a < b then none else if a < b + 66 then cellR b (D (a - b)) w T pa dr np (a - b) else cellP b D mk (a - b - 66)
def HH (b : Nat) (D : Nat → Nat → Int32) (w : Int64) (T : Nat → Int64) (pa dr np mk : Nat) : PH := (b + 66 + 2 * mk, HF b D w T pa dr np mk)
section
variable {b : Nat} {D : Nat → Nat → Int32} {w : Int64} {T : Nat → Int64} {pa dr np mk : Nat}
theorem HH_at {o : Nat} (ho : o < 66) : (HH b D w T pa dr np mk).2 (b + o) = cellR b (D o) w T pa dr np o := by
  show HF b D w T pa dr np mk (b + o) = _
  unfold HF
  rw [if_neg (by omega), if_pos (by omega), show b + o - b = o by omega]
theorem HH_at0 : (HH b D w T pa dr np mk).2 b = cellR b (D 0) w T pa dr np 0 := HH_at (o := 0) (by decide)
theorem HH_atP {x : Nat} : (HH b D w T pa dr np mk).2 (b + 66 + x) = cellP b D mk x := by
  show HF b D w T pa dr np mk (b + 66 + x) = _
  unfold HF
  rw [if_neg (by omega), if_neg (by omega), show b + 66 + x - b - 66 = x by omega]
/-- a fixed cell's ints change -/
theorem HH_set {o k : Nat} {v : Int32} {e : PE} (ho : o < 66) (he : cellR b (upd (D o) k v) w T pa dr np o = some e) : ((HH b D w T pa dr np mk).1, hup (HH b D w T pa dr np mk).2 (b + o) e) = HH b (up2 D o k v) w T pa dr np mk := by
  refine Prod.ext rfl (funext fun a => ?_)
  show hup (HF b D w T pa dr np mk) (b + o) e a = HF b (up2 D o k v) w T pa dr np mk a
  unfold hup
  by_cases q : a = b + o
  · subst q
    rw [if_pos rfl]
    unfold HF
    rw [if_neg (by omega), if_pos (by omega), show b + o - b = o by omega, up2_same, he]
  · rw [if_neg q]
    unfold HF
    by_cases q1 : a < b
    · rw [if_pos q1, if_pos q1]
    · rw [if_neg q1, if_neg q1]
      by_cases q2 : a < b + 66
      · rw [if_pos q2, if_pos q2, up2_ne (by omega)]
      · rw [if_neg q2, if_neg q2]
        unfold cellP
        rw [up2_ne (by omega)]
/-- a piece's ints change -/
theorem HH_setP {x k : Nat} {v : Int32} {e : PE} (he : cellP b (up2 D (66 + x) k v) mk x = some e) : ((HH b D w T pa dr np mk).1, hup (HH b D w T pa dr np mk).2 (b + 66 + x) e) = HH b (up2 D (66 + x) k v) w T pa dr np mk := by
  refine Prod.ext rfl (funext fun a => ?_)
  show hup (HF b D w T pa dr np mk) (b + 66 + x) e a = HF b (up2 D (66 + x) k v) w T pa dr np mk a
  unfold hup
  by_cases q : a = b + 66 + x
  · subst q
    rw [if_pos rfl]
    unfold HF
    rw [if_neg (by omega), if_neg (by omega), show b + 66 + x - b - 66 = x by omega, he]
  · rw [if_neg q]
    unfold HF
    by_cases q1 : a < b
    · rw [if_pos q1, if_pos q1]
    · rw [if_neg q1, if_neg q1]
      by_cases q2 : a < b + 66
      · rw [if_pos q2, if_pos q2, up2_ne (by omega)]
      · rw [if_neg q2, if_neg q2]
        unfold cellP
        rw [up2_ne (by omega)]
theorem rd_of {ci k a : Nat} {h : PH} {fs : List Value} (h1 : h.2 a = some (.inr (ci, fs))) : rdV ci k a h = fs[k]? := by
  unfold rdV
  rw [h1]
  exact if_pos rfl
theorem wr_of {ci k a : Nat} {h : PH} {fs : List Value} {v : Value} (h1 : h.2 a = some (.inr (ci, fs))) (hk : k < fs.length) : wr ci k v a h = some (h.1, hup h.2 a (.inr (ci, fs.set k v))) := by
  unfold wr
  rw [h1]
  exact if_pos ⟨rfl, hk⟩
theorem ck_of {ci a : Nat} {h : PH} {fs : List Value} (h1 : h.2 a = some (.inr (ci, fs))) : chk ci a h = some () := by
  unfold chk
  rw [h1]
  exact if_pos rfl
theorem ald_of {t a n : Nat} {i : Int32} {h : PH} {f : Nat → Int32} (h1 : h.2 a = some (.inl (t, n, .inl f))) : aldI t a i h = if i < 0 ∨ n ≤ i.toNatClampNeg then none else some (f i.toNatClampNeg) := by
  unfold aldI
  rw [h1]
  by_cases q : i < 0 ∨ n ≤ i.toNatClampNeg
  · rw [if_pos q]
    exact if_neg (fun z => z.2 q)
  · rw [if_neg q]
    exact if_pos ⟨rfl, q⟩
theorem astI_of {a n : Nat} {i v : Int32} {h : PH} {f : Nat → Int32} (h1 : h.2 a = some (.inl (0, n, .inl f))) : astI a i v h = if i < 0 ∨ n ≤ i.toNatClampNeg then none else some (h.1, hup h.2 a (.inl (0, n, .inl (upd f i.toNatClampNeg v)))) := by
  unfold astI
  rw [h1]
  by_cases q : i < 0 ∨ n ≤ i.toNatClampNeg
  · rw [if_pos q]
    exact if_neg (fun z => z.2 q)
  · rw [if_neg q]
    exact if_pos ⟨rfl, q⟩
theorem astZ_of {a n : Nat} {i v : Int32} {h : PH} {f : Nat → Int32} (h1 : h.2 a = some (.inl (1, n, .inl f))) : astZ a i v h = if (v = 0 ∨ v = 1) ∧ ¬ (i < 0 ∨ n ≤ i.toNatClampNeg) then some (h.1, hup h.2 a (.inl (1, n, .inl (upd f i.toNatClampNeg v)))) else none := by
  unfold astZ
  rw [h1]
  by_cases q : (v = 0 ∨ v = 1) ∧ ¬ (i < 0 ∨ n ≤ i.toNatClampNeg)
  · rw [if_pos q]
    exact if_pos ⟨rfl, q⟩
  · rw [if_neg q]
    exact if_neg (fun z => q z.2)
theorem hk0 : chk 9 b (HH b D w T pa dr np mk) = some () := ck_of HH_at0
theorem hr0_0 : rdR 9 0 b (HH b D w T pa dr np mk) = some (b + 1) := by unfold rdR; rw [rd_of HH_at0]; rfl
theorem hr0_1 : rdR 9 1 b (HH b D w T pa dr np mk) = some (b + 8) := by unfold rdR; rw [rd_of HH_at0]; rfl
theorem hr0_2 : rdR 9 2 b (HH b D w T pa dr np mk) = some (b + 9) := by unfold rdR; rw [rd_of HH_at0]; rfl
theorem hr0_3 : rdR 9 3 b (HH b D w T pa dr np mk) = some (b + 10) := by unfold rdR; rw [rd_of HH_at0]; rfl
theorem hr0_4 : rdR 9 4 b (HH b D w T pa dr np mk) = some (b + 14) := by unfold rdR; rw [rd_of HH_at0]; rfl
theorem hr0_5 : rdR 9 5 b (HH b D w T pa dr np mk) = some (b + 22) := by unfold rdR; rw [rd_of HH_at0]; rfl
theorem hr0_6 : rdR 9 6 b (HH b D w T pa dr np mk) = some (b + pa) := by unfold rdR; rw [rd_of HH_at0]; rfl
theorem hr0_7 : rdR 9 7 b (HH b D w T pa dr np mk) = some (b + dr) := by unfold rdR; rw [rd_of HH_at0]; rfl
theorem hr0_8 : rdI 9 8 b (HH b D w T pa dr np mk) = some (D 0 8) := by unfold rdI; rw [rd_of HH_at0]; rfl
theorem hw0_8 (v : Int32) : wr 9 8 (.int v) b (HH b D w T pa dr np mk) = some (HH b (up2 D 0 8 v) w T pa dr np mk) := (wr_of HH_at0 (Nat.le_of_ble_eq_true rfl)).trans (congrArg some (HH_set (o := 0) (by decide) rfl))
theorem hr0_9 : rdI 9 9 b (HH b D w T pa dr np mk) = some (D 0 9) := by unfold rdI; rw [rd_of HH_at0]; rfl
theorem hw0_9 (v : Int32) : wr 9 9 (.int v) b (HH b D w T pa dr np mk) = some (HH b (up2 D 0 9 v) w T pa dr np mk) := (wr_of HH_at0 (Nat.le_of_ble_eq_true rfl)).trans (congrArg some (HH_set (o := 0) (by decide) rfl))
theorem hk1 : chk 7 (b + 1) (HH b D w T pa dr np mk) = some () := ck_of (HH_at (o := 1) (by decide))
theorem hr1_0 : rdR 7 0 (b + 1) (HH b D w T pa dr np mk) = some (b + 2) := by unfold rdR; rw [rd_of (HH_at (o := 1) (by decide))]; rfl
theorem hr1_1 : rdR 7 1 (b + 1) (HH b D w T pa dr np mk) = some (b + 3) := by unfold rdR; rw [rd_of (HH_at (o := 1) (by decide))]; rfl
theorem hr1_2 : rdR 7 2 (b + 1) (HH b D w T pa dr np mk) = some (b + 7) := by unfold rdR; rw [rd_of (HH_at (o := 1) (by decide))]; rfl
theorem hr1_3 : rdI 7 3 (b + 1) (HH b D w T pa dr np mk) = some (D 1 3) := by unfold rdI; rw [rd_of (HH_at (o := 1) (by decide))]; rfl
theorem hw1_3 (v : Int32) : wr 7 3 (.int v) (b + 1) (HH b D w T pa dr np mk) = some (HH b (up2 D 1 3 v) w T pa dr np mk) := (wr_of (HH_at (o := 1) (by decide)) (Nat.le_of_ble_eq_true rfl)).trans (congrArg some (HH_set (o := 1) (by decide) rfl))
theorem hr1_4 : rdI 7 4 (b + 1) (HH b D w T pa dr np mk) = some (D 1 4) := by unfold rdI; rw [rd_of (HH_at (o := 1) (by decide))]; rfl
theorem hw1_4 (v : Int32) : wr 7 4 (.int v) (b + 1) (HH b D w T pa dr np mk) = some (HH b (up2 D 1 4 v) w T pa dr np mk) := (wr_of (HH_at (o := 1) (by decide)) (Nat.le_of_ble_eq_true rfl)).trans (congrArg some (HH_set (o := 1) (by decide) rfl))
theorem hl4 (i : Int32) : aldI 0 (b + 4) i (HH b D w T pa dr np mk) = if i < 0 ∨ 10 ≤ i.toNatClampNeg then none else some (D 4 i.toNatClampNeg) := ald_of (HH_at (o := 4) (by decide))
theorem hs4 (i v : Int32) : astI (b + 4) i v (HH b D w T pa dr np mk) = if i < 0 ∨ 10 ≤ i.toNatClampNeg then none else some (HH b (up2 D 4 i.toNatClampNeg v) w T pa dr np mk) := (astI_of (HH_at (o := 4) (by decide))).trans (by rw [HH_set (o := 4) (by decide) rfl])
theorem hl5 (i : Int32) : aldI 0 (b + 5) i (HH b D w T pa dr np mk) = if i < 0 ∨ 10 ≤ i.toNatClampNeg then none else some (D 5 i.toNatClampNeg) := ald_of (HH_at (o := 5) (by decide))
theorem hs5 (i v : Int32) : astI (b + 5) i v (HH b D w T pa dr np mk) = if i < 0 ∨ 10 ≤ i.toNatClampNeg then none else some (HH b (up2 D 5 i.toNatClampNeg v) w T pa dr np mk) := (astI_of (HH_at (o := 5) (by decide))).trans (by rw [HH_set (o := 5) (by decide) rfl])
theorem hl6 (i : Int32) : aldI 0 (b + 6) i (HH b D w T pa dr np mk) = if i < 0 ∨ 10 ≤ i.toNatClampNeg then none else some (D 6 i.toNatClampNeg) := ald_of (HH_at (o := 6) (by decide))
theorem hs6 (i v : Int32) : astI (b + 6) i v (HH b D w T pa dr np mk) = if i < 0 ∨ 10 ≤ i.toNatClampNeg then none else some (HH b (up2 D 6 i.toNatClampNeg v) w T pa dr np mk) := (astI_of (HH_at (o := 6) (by decide))).trans (by rw [HH_set (o := 6) (by decide) rfl])
theorem hk8 : chk 0 (b + 8) (HH b D w T pa dr np mk) = some () := ck_of (HH_at (o := 8) (by decide))
theorem hr8_0 : rdI 0 0 (b + 8) (HH b D w T pa dr np mk) = some (D 8 0) := by unfold rdI; rw [rd_of (HH_at (o := 8) (by decide))]; rfl
theorem hw8_0 (v : Int32) : wr 0 0 (.int v) (b + 8) (HH b D w T pa dr np mk) = some (HH b (up2 D 8 0 v) w T pa dr np mk) := (wr_of (HH_at (o := 8) (by decide)) (Nat.le_of_ble_eq_true rfl)).trans (congrArg some (HH_set (o := 8) (by decide) rfl))
theorem hr8_1 : rdI 0 1 (b + 8) (HH b D w T pa dr np mk) = some (D 8 1) := by unfold rdI; rw [rd_of (HH_at (o := 8) (by decide))]; rfl
theorem hw8_1 (v : Int32) : wr 0 1 (.int v) (b + 8) (HH b D w T pa dr np mk) = some (HH b (up2 D 8 1 v) w T pa dr np mk) := (wr_of (HH_at (o := 8) (by decide)) (Nat.le_of_ble_eq_true rfl)).trans (congrArg some (HH_set (o := 8) (by decide) rfl))
theorem hr8_2 : rdI 0 2 (b + 8) (HH b D w T pa dr np mk) = some (D 8 2) := by unfold rdI; rw [rd_of (HH_at (o := 8) (by decide))]; rfl
theorem hw8_2 (v : Int32) : wr 0 2 (.int v) (b + 8) (HH b D w T pa dr np mk) = some (HH b (up2 D 8 2 v) w T pa dr np mk) := (wr_of (HH_at (o := 8) (by decide)) (Nat.le_of_ble_eq_true rfl)).trans (congrArg some (HH_set (o := 8) (by decide) rfl))
theorem hk9 : chk 1 (b + 9) (HH b D w T pa dr np mk) = some () := ck_of (HH_at (o := 9) (by decide))
theorem hr9_0 : rdR 1 0 (b + 9) (HH b D w T pa dr np mk) = some (b + 10) := by unfold rdR; rw [rd_of (HH_at (o := 9) (by decide))]; rfl
theorem hr9_1 : rdR 1 1 (b + 9) (HH b D w T pa dr np mk) = some (b + 12) := by unfold rdR; rw [rd_of (HH_at (o := 9) (by decide))]; rfl
theorem hr9_2 : rdR 1 2 (b + 9) (HH b D w T pa dr np mk) = some (b + 13) := by unfold rdR; rw [rd_of (HH_at (o := 9) (by decide))]; rfl
theorem hk10 : chk 8 (b + 10) (HH b D w T pa dr np mk) = some () := ck_of (HH_at (o := 10) (by decide))
theorem hr10_0 : rdR 8 0 (b + 10) (HH b D w T pa dr np mk) = some (b + 11) := by unfold rdR; rw [rd_of (HH_at (o := 10) (by decide))]; rfl
theorem hr10_1 : rdI 8 1 (b + 10) (HH b D w T pa dr np mk) = some (D 10 1) := by unfold rdI; rw [rd_of (HH_at (o := 10) (by decide))]; rfl
theorem hw10_1 (v : Int32) : wr 8 1 (.int v) (b + 10) (HH b D w T pa dr np mk) = some (HH b (up2 D 10 1 v) w T pa dr np mk) := (wr_of (HH_at (o := 10) (by decide)) (Nat.le_of_ble_eq_true rfl)).trans (congrArg some (HH_set (o := 10) (by decide) rfl))
theorem hr10_2 : rdI 8 2 (b + 10) (HH b D w T pa dr np mk) = some (D 10 2) := by unfold rdI; rw [rd_of (HH_at (o := 10) (by decide))]; rfl
theorem hw10_2 (v : Int32) : wr 8 2 (.int v) (b + 10) (HH b D w T pa dr np mk) = some (HH b (up2 D 10 2 v) w T pa dr np mk) := (wr_of (HH_at (o := 10) (by decide)) (Nat.le_of_ble_eq_true rfl)).trans (congrArg some (HH_set (o := 10) (by decide) rfl))
theorem hr10_3 : rdI 8 3 (b + 10) (HH b D w T pa dr np mk) = some (D 10 3) := by unfold rdI; rw [rd_of (HH_at (o := 10) (by decide))]; rfl
theorem hw10_3 (v : Int32) : wr 8 3 (.int v) (b + 10) (HH b D w T pa dr np mk) = some (HH b (up2 D 10 3 v) w T pa dr np mk) := (wr_of (HH_at (o := 10) (by decide)) (Nat.le_of_ble_eq_true rfl)).trans (congrArg some (HH_set (o := 10) (by decide) rfl))
theorem hr10_4 : rdI 8 4 (b + 10) (HH b D w T pa dr np mk) = some (D 10 4) := by unfold rdI; rw [rd_of (HH_at (o := 10) (by decide))]; rfl
theorem hw10_4 (v : Int32) : wr 8 4 (.int v) (b + 10) (HH b D w T pa dr np mk) = some (HH b (up2 D 10 4 v) w T pa dr np mk) := (wr_of (HH_at (o := 10) (by decide)) (Nat.le_of_ble_eq_true rfl)).trans (congrArg some (HH_set (o := 10) (by decide) rfl))
theorem hl11 (i : Int32) : aldI 0 (b + 11) i (HH b D w T pa dr np mk) = if i < 0 ∨ 300 ≤ i.toNatClampNeg then none else some (D 11 i.toNatClampNeg) := ald_of (HH_at (o := 11) (by decide))
theorem hs11 (i v : Int32) : astI (b + 11) i v (HH b D w T pa dr np mk) = if i < 0 ∨ 300 ≤ i.toNatClampNeg then none else some (HH b (up2 D 11 i.toNatClampNeg v) w T pa dr np mk) := (astI_of (HH_at (o := 11) (by decide))).trans (by rw [HH_set (o := 11) (by decide) rfl])
theorem hl12 (i : Int32) : aldI 0 (b + 12) i (HH b D w T pa dr np mk) = if i < 0 ∨ 10 ≤ i.toNatClampNeg then none else some (D 12 i.toNatClampNeg) := ald_of (HH_at (o := 12) (by decide))
theorem hs12 (i v : Int32) : astI (b + 12) i v (HH b D w T pa dr np mk) = if i < 0 ∨ 10 ≤ i.toNatClampNeg then none else some (HH b (up2 D 12 i.toNatClampNeg v) w T pa dr np mk) := (astI_of (HH_at (o := 12) (by decide))).trans (by rw [HH_set (o := 12) (by decide) rfl])
theorem hl13 (i : Int32) : aldI 0 (b + 13) i (HH b D w T pa dr np mk) = if i < 0 ∨ 10 ≤ i.toNatClampNeg then none else some (D 13 i.toNatClampNeg) := ald_of (HH_at (o := 13) (by decide))
theorem hs13 (i v : Int32) : astI (b + 13) i v (HH b D w T pa dr np mk) = if i < 0 ∨ 10 ≤ i.toNatClampNeg then none else some (HH b (up2 D 13 i.toNatClampNeg v) w T pa dr np mk) := (astI_of (HH_at (o := 13) (by decide))).trans (by rw [HH_set (o := 13) (by decide) rfl])
theorem hk14 : chk 6 (b + 14) (HH b D w T pa dr np mk) = some () := ck_of (HH_at (o := 14) (by decide))
theorem hr14_0 : rdR 6 0 (b + 14) (HH b D w T pa dr np mk) = some (b + 15) := by unfold rdR; rw [rd_of (HH_at (o := 14) (by decide))]; rfl
theorem hr14_1 : rdR 6 1 (b + 14) (HH b D w T pa dr np mk) = some (b + 19) := by unfold rdR; rw [rd_of (HH_at (o := 14) (by decide))]; rfl
theorem hr14_2 : rdR 6 2 (b + 14) (HH b D w T pa dr np mk) = some (b + 20) := by unfold rdR; rw [rd_of (HH_at (o := 14) (by decide))]; rfl
theorem hr14_3 : rdR 6 3 (b + 14) (HH b D w T pa dr np mk) = some (b + 21) := by unfold rdR; rw [rd_of (HH_at (o := 14) (by decide))]; rfl
theorem hr14_4 : rdI 6 4 (b + 14) (HH b D w T pa dr np mk) = some (D 14 4) := by unfold rdI; rw [rd_of (HH_at (o := 14) (by decide))]; rfl
theorem hw14_4 (v : Int32) : wr 6 4 (.int v) (b + 14) (HH b D w T pa dr np mk) = some (HH b (up2 D 14 4 v) w T pa dr np mk) := (wr_of (HH_at (o := 14) (by decide)) (Nat.le_of_ble_eq_true rfl)).trans (congrArg some (HH_set (o := 14) (by decide) rfl))
theorem hk16 : chk 3 (b + 16) (HH b D w T pa dr np mk) = some () := ck_of (HH_at (o := 16) (by decide))
theorem hr16_0 : rdI 3 0 (b + 16) (HH b D w T pa dr np mk) = some (D 16 0) := by unfold rdI; rw [rd_of (HH_at (o := 16) (by decide))]; rfl
theorem hw16_0 (v : Int32) : wr 3 0 (.int v) (b + 16) (HH b D w T pa dr np mk) = some (HH b (up2 D 16 0 v) w T pa dr np mk) := (wr_of (HH_at (o := 16) (by decide)) (Nat.le_of_ble_eq_true rfl)).trans (congrArg some (HH_set (o := 16) (by decide) rfl))
theorem hr16_1 : rdI 3 1 (b + 16) (HH b D w T pa dr np mk) = some (D 16 1) := by unfold rdI; rw [rd_of (HH_at (o := 16) (by decide))]; rfl
theorem hw16_1 (v : Int32) : wr 3 1 (.int v) (b + 16) (HH b D w T pa dr np mk) = some (HH b (up2 D 16 1 v) w T pa dr np mk) := (wr_of (HH_at (o := 16) (by decide)) (Nat.le_of_ble_eq_true rfl)).trans (congrArg some (HH_set (o := 16) (by decide) rfl))
theorem hr16_2 : rdI 3 2 (b + 16) (HH b D w T pa dr np mk) = some (D 16 2) := by unfold rdI; rw [rd_of (HH_at (o := 16) (by decide))]; rfl
theorem hw16_2 (v : Int32) : wr 3 2 (.int v) (b + 16) (HH b D w T pa dr np mk) = some (HH b (up2 D 16 2 v) w T pa dr np mk) := (wr_of (HH_at (o := 16) (by decide)) (Nat.le_of_ble_eq_true rfl)).trans (congrArg some (HH_set (o := 16) (by decide) rfl))
theorem hr16_3 : rdI 3 3 (b + 16) (HH b D w T pa dr np mk) = some (D 16 3) := by unfold rdI; rw [rd_of (HH_at (o := 16) (by decide))]; rfl
theorem hw16_3 (v : Int32) : wr 3 3 (.int v) (b + 16) (HH b D w T pa dr np mk) = some (HH b (up2 D 16 3 v) w T pa dr np mk) := (wr_of (HH_at (o := 16) (by decide)) (Nat.le_of_ble_eq_true rfl)).trans (congrArg some (HH_set (o := 16) (by decide) rfl))
theorem hr16_4 : rdI 3 4 (b + 16) (HH b D w T pa dr np mk) = some (D 16 4) := by unfold rdI; rw [rd_of (HH_at (o := 16) (by decide))]; rfl
theorem hw16_4 (v : Int32) : wr 3 4 (.int v) (b + 16) (HH b D w T pa dr np mk) = some (HH b (up2 D 16 4 v) w T pa dr np mk) := (wr_of (HH_at (o := 16) (by decide)) (Nat.le_of_ble_eq_true rfl)).trans (congrArg some (HH_set (o := 16) (by decide) rfl))
theorem hk17 : chk 3 (b + 17) (HH b D w T pa dr np mk) = some () := ck_of (HH_at (o := 17) (by decide))
theorem hr17_0 : rdI 3 0 (b + 17) (HH b D w T pa dr np mk) = some (D 17 0) := by unfold rdI; rw [rd_of (HH_at (o := 17) (by decide))]; rfl
theorem hw17_0 (v : Int32) : wr 3 0 (.int v) (b + 17) (HH b D w T pa dr np mk) = some (HH b (up2 D 17 0 v) w T pa dr np mk) := (wr_of (HH_at (o := 17) (by decide)) (Nat.le_of_ble_eq_true rfl)).trans (congrArg some (HH_set (o := 17) (by decide) rfl))
theorem hr17_1 : rdI 3 1 (b + 17) (HH b D w T pa dr np mk) = some (D 17 1) := by unfold rdI; rw [rd_of (HH_at (o := 17) (by decide))]; rfl
theorem hw17_1 (v : Int32) : wr 3 1 (.int v) (b + 17) (HH b D w T pa dr np mk) = some (HH b (up2 D 17 1 v) w T pa dr np mk) := (wr_of (HH_at (o := 17) (by decide)) (Nat.le_of_ble_eq_true rfl)).trans (congrArg some (HH_set (o := 17) (by decide) rfl))
theorem hr17_2 : rdI 3 2 (b + 17) (HH b D w T pa dr np mk) = some (D 17 2) := by unfold rdI; rw [rd_of (HH_at (o := 17) (by decide))]; rfl
theorem hw17_2 (v : Int32) : wr 3 2 (.int v) (b + 17) (HH b D w T pa dr np mk) = some (HH b (up2 D 17 2 v) w T pa dr np mk) := (wr_of (HH_at (o := 17) (by decide)) (Nat.le_of_ble_eq_true rfl)).trans (congrArg some (HH_set (o := 17) (by decide) rfl))
theorem hr17_3 : rdI 3 3 (b + 17) (HH b D w T pa dr np mk) = some (D 17 3) := by unfold rdI; rw [rd_of (HH_at (o := 17) (by decide))]; rfl
theorem hw17_3 (v : Int32) : wr 3 3 (.int v) (b + 17) (HH b D w T pa dr np mk) = some (HH b (up2 D 17 3 v) w T pa dr np mk) := (wr_of (HH_at (o := 17) (by decide)) (Nat.le_of_ble_eq_true rfl)).trans (congrArg some (HH_set (o := 17) (by decide) rfl))
theorem hr17_4 : rdI 3 4 (b + 17) (HH b D w T pa dr np mk) = some (D 17 4) := by unfold rdI; rw [rd_of (HH_at (o := 17) (by decide))]; rfl
theorem hw17_4 (v : Int32) : wr 3 4 (.int v) (b + 17) (HH b D w T pa dr np mk) = some (HH b (up2 D 17 4 v) w T pa dr np mk) := (wr_of (HH_at (o := 17) (by decide)) (Nat.le_of_ble_eq_true rfl)).trans (congrArg some (HH_set (o := 17) (by decide) rfl))
theorem hk18 : chk 3 (b + 18) (HH b D w T pa dr np mk) = some () := ck_of (HH_at (o := 18) (by decide))
theorem hr18_0 : rdI 3 0 (b + 18) (HH b D w T pa dr np mk) = some (D 18 0) := by unfold rdI; rw [rd_of (HH_at (o := 18) (by decide))]; rfl
theorem hw18_0 (v : Int32) : wr 3 0 (.int v) (b + 18) (HH b D w T pa dr np mk) = some (HH b (up2 D 18 0 v) w T pa dr np mk) := (wr_of (HH_at (o := 18) (by decide)) (Nat.le_of_ble_eq_true rfl)).trans (congrArg some (HH_set (o := 18) (by decide) rfl))
theorem hr18_1 : rdI 3 1 (b + 18) (HH b D w T pa dr np mk) = some (D 18 1) := by unfold rdI; rw [rd_of (HH_at (o := 18) (by decide))]; rfl
theorem hw18_1 (v : Int32) : wr 3 1 (.int v) (b + 18) (HH b D w T pa dr np mk) = some (HH b (up2 D 18 1 v) w T pa dr np mk) := (wr_of (HH_at (o := 18) (by decide)) (Nat.le_of_ble_eq_true rfl)).trans (congrArg some (HH_set (o := 18) (by decide) rfl))
theorem hr18_2 : rdI 3 2 (b + 18) (HH b D w T pa dr np mk) = some (D 18 2) := by unfold rdI; rw [rd_of (HH_at (o := 18) (by decide))]; rfl
theorem hw18_2 (v : Int32) : wr 3 2 (.int v) (b + 18) (HH b D w T pa dr np mk) = some (HH b (up2 D 18 2 v) w T pa dr np mk) := (wr_of (HH_at (o := 18) (by decide)) (Nat.le_of_ble_eq_true rfl)).trans (congrArg some (HH_set (o := 18) (by decide) rfl))
theorem hr18_3 : rdI 3 3 (b + 18) (HH b D w T pa dr np mk) = some (D 18 3) := by unfold rdI; rw [rd_of (HH_at (o := 18) (by decide))]; rfl
theorem hw18_3 (v : Int32) : wr 3 3 (.int v) (b + 18) (HH b D w T pa dr np mk) = some (HH b (up2 D 18 3 v) w T pa dr np mk) := (wr_of (HH_at (o := 18) (by decide)) (Nat.le_of_ble_eq_true rfl)).trans (congrArg some (HH_set (o := 18) (by decide) rfl))
theorem hr18_4 : rdI 3 4 (b + 18) (HH b D w T pa dr np mk) = some (D 18 4) := by unfold rdI; rw [rd_of (HH_at (o := 18) (by decide))]; rfl
theorem hw18_4 (v : Int32) : wr 3 4 (.int v) (b + 18) (HH b D w T pa dr np mk) = some (HH b (up2 D 18 4 v) w T pa dr np mk) := (wr_of (HH_at (o := 18) (by decide)) (Nat.le_of_ble_eq_true rfl)).trans (congrArg some (HH_set (o := 18) (by decide) rfl))
theorem hl19 (i : Int32) : aldI 0 (b + 19) i (HH b D w T pa dr np mk) = if i < 0 ∨ 60 ≤ i.toNatClampNeg then none else some (D 19 i.toNatClampNeg) := ald_of (HH_at (o := 19) (by decide))
theorem hs19 (i v : Int32) : astI (b + 19) i v (HH b D w T pa dr np mk) = if i < 0 ∨ 60 ≤ i.toNatClampNeg then none else some (HH b (up2 D 19 i.toNatClampNeg v) w T pa dr np mk) := (astI_of (HH_at (o := 19) (by decide))).trans (by rw [HH_set (o := 19) (by decide) rfl])
theorem hl20 (i : Int32) : aldI 0 (b + 20) i (HH b D w T pa dr np mk) = if i < 0 ∨ 60 ≤ i.toNatClampNeg then none else some (D 20 i.toNatClampNeg) := ald_of (HH_at (o := 20) (by decide))
theorem hs20 (i v : Int32) : astI (b + 20) i v (HH b D w T pa dr np mk) = if i < 0 ∨ 60 ≤ i.toNatClampNeg then none else some (HH b (up2 D 20 i.toNatClampNeg v) w T pa dr np mk) := (astI_of (HH_at (o := 20) (by decide))).trans (by rw [HH_set (o := 20) (by decide) rfl])
theorem hl21 (i : Int32) : aldI 1 (b + 21) i (HH b D w T pa dr np mk) = if i < 0 ∨ 60 ≤ i.toNatClampNeg then none else some (D 21 i.toNatClampNeg) := ald_of (HH_at (o := 21) (by decide))
theorem hs21 (i v : Int32) : astZ (b + 21) i v (HH b D w T pa dr np mk) = if (v = 0 ∨ v = 1) ∧ ¬ (i < 0 ∨ 60 ≤ i.toNatClampNeg) then some (HH b (up2 D 21 i.toNatClampNeg v) w T pa dr np mk) else none := (astZ_of (HH_at (o := 21) (by decide))).trans (by rw [HH_set (o := 21) (by decide) rfl])
theorem hk22 : chk 2 (b + 22) (HH b D w T pa dr np mk) = some () := ck_of (HH_at (o := 22) (by decide))
theorem hr22_0 : rdR 2 0 (b + 22) (HH b D w T pa dr np mk) = some (b + 23) := by unfold rdR; rw [rd_of (HH_at (o := 22) (by decide))]; rfl
theorem hr22_1 : rdR 2 1 (b + 22) (HH b D w T pa dr np mk) = some (b + 24) := by unfold rdR; rw [rd_of (HH_at (o := 22) (by decide))]; rfl
theorem hr22_2 : rdR 2 2 (b + 22) (HH b D w T pa dr np mk) = some (b + 25) := by unfold rdR; rw [rd_of (HH_at (o := 22) (by decide))]; rfl
theorem hr22_3 : rdR 2 3 (b + 22) (HH b D w T pa dr np mk) = some (b + 26) := by unfold rdR; rw [rd_of (HH_at (o := 22) (by decide))]; rfl
theorem hr22_4 : rdI 2 4 (b + 22) (HH b D w T pa dr np mk) = some (D 22 4) := by unfold rdI; rw [rd_of (HH_at (o := 22) (by decide))]; rfl
theorem hw22_4 (v : Int32) : wr 2 4 (.int v) (b + 22) (HH b D w T pa dr np mk) = some (HH b (up2 D 22 4 v) w T pa dr np mk) := (wr_of (HH_at (o := 22) (by decide)) (Nat.le_of_ble_eq_true rfl)).trans (congrArg some (HH_set (o := 22) (by decide) rfl))
theorem hr22_5 : rdR 2 5 (b + 22) (HH b D w T pa dr np mk) = some (b + 27) := by unfold rdR; rw [rd_of (HH_at (o := 22) (by decide))]; rfl
theorem hr22_6 : rdR 2 6 (b + 22) (HH b D w T pa dr np mk) = some (b + 28) := by unfold rdR; rw [rd_of (HH_at (o := 22) (by decide))]; rfl
theorem hr22_7 : rdR 2 7 (b + 22) (HH b D w T pa dr np mk) = some (b + 29) := by unfold rdR; rw [rd_of (HH_at (o := 22) (by decide))]; rfl
theorem hr22_8 : rdI 2 8 (b + 22) (HH b D w T pa dr np mk) = some (D 22 8) := by unfold rdI; rw [rd_of (HH_at (o := 22) (by decide))]; rfl
theorem hw22_8 (v : Int32) : wr 2 8 (.int v) (b + 22) (HH b D w T pa dr np mk) = some (HH b (up2 D 22 8 v) w T pa dr np mk) := (wr_of (HH_at (o := 22) (by decide)) (Nat.le_of_ble_eq_true rfl)).trans (congrArg some (HH_set (o := 22) (by decide) rfl))
theorem hl23 (i : Int32) : aldI 0 (b + 23) i (HH b D w T pa dr np mk) = if i < 0 ∨ 200 ≤ i.toNatClampNeg then none else some (D 23 i.toNatClampNeg) := ald_of (HH_at (o := 23) (by decide))
theorem hs23 (i v : Int32) : astI (b + 23) i v (HH b D w T pa dr np mk) = if i < 0 ∨ 200 ≤ i.toNatClampNeg then none else some (HH b (up2 D 23 i.toNatClampNeg v) w T pa dr np mk) := (astI_of (HH_at (o := 23) (by decide))).trans (by rw [HH_set (o := 23) (by decide) rfl])
theorem hl24 (i : Int32) : aldI 0 (b + 24) i (HH b D w T pa dr np mk) = if i < 0 ∨ 200 ≤ i.toNatClampNeg then none else some (D 24 i.toNatClampNeg) := ald_of (HH_at (o := 24) (by decide))
theorem hs24 (i v : Int32) : astI (b + 24) i v (HH b D w T pa dr np mk) = if i < 0 ∨ 200 ≤ i.toNatClampNeg then none else some (HH b (up2 D 24 i.toNatClampNeg v) w T pa dr np mk) := (astI_of (HH_at (o := 24) (by decide))).trans (by rw [HH_set (o := 24) (by decide) rfl])
theorem hl25 (i : Int32) : aldI 0 (b + 25) i (HH b D w T pa dr np mk) = if i < 0 ∨ 200 ≤ i.toNatClampNeg then none else some (D 25 i.toNatClampNeg) := ald_of (HH_at (o := 25) (by decide))
theorem hs25 (i v : Int32) : astI (b + 25) i v (HH b D w T pa dr np mk) = if i < 0 ∨ 200 ≤ i.toNatClampNeg then none else some (HH b (up2 D 25 i.toNatClampNeg v) w T pa dr np mk) := (astI_of (HH_at (o := 25) (by decide))).trans (by rw [HH_set (o := 25) (by decide) rfl])
theorem hl26 (i : Int32) : aldI 0 (b + 26) i (HH b D w T pa dr np mk) = if i < 0 ∨ 200 ≤ i.toNatClampNeg then none else some (D 26 i.toNatClampNeg) := ald_of (HH_at (o := 26) (by decide))
theorem hs26 (i v : Int32) : astI (b + 26) i v (HH b D w T pa dr np mk) = if i < 0 ∨ 200 ≤ i.toNatClampNeg then none else some (HH b (up2 D 26 i.toNatClampNeg v) w T pa dr np mk) := (astI_of (HH_at (o := 26) (by decide))).trans (by rw [HH_set (o := 26) (by decide) rfl])
theorem hl27 (i : Int32) : aldI 0 (b + 27) i (HH b D w T pa dr np mk) = if i < 0 ∨ 60 ≤ i.toNatClampNeg then none else some (D 27 i.toNatClampNeg) := ald_of (HH_at (o := 27) (by decide))
theorem hs27 (i v : Int32) : astI (b + 27) i v (HH b D w T pa dr np mk) = if i < 0 ∨ 60 ≤ i.toNatClampNeg then none else some (HH b (up2 D 27 i.toNatClampNeg v) w T pa dr np mk) := (astI_of (HH_at (o := 27) (by decide))).trans (by rw [HH_set (o := 27) (by decide) rfl])
theorem hl28 (i : Int32) : aldI 0 (b + 28) i (HH b D w T pa dr np mk) = if i < 0 ∨ 60 ≤ i.toNatClampNeg then none else some (D 28 i.toNatClampNeg) := ald_of (HH_at (o := 28) (by decide))
theorem hs28 (i v : Int32) : astI (b + 28) i v (HH b D w T pa dr np mk) = if i < 0 ∨ 60 ≤ i.toNatClampNeg then none else some (HH b (up2 D 28 i.toNatClampNeg v) w T pa dr np mk) := (astI_of (HH_at (o := 28) (by decide))).trans (by rw [HH_set (o := 28) (by decide) rfl])
theorem hl29 (i : Int32) : aldI 0 (b + 29) i (HH b D w T pa dr np mk) = if i < 0 ∨ 60 ≤ i.toNatClampNeg then none else some (D 29 i.toNatClampNeg) := ald_of (HH_at (o := 29) (by decide))
theorem hs29 (i v : Int32) : astI (b + 29) i v (HH b D w T pa dr np mk) = if i < 0 ∨ 60 ≤ i.toNatClampNeg then none else some (HH b (up2 D 29 i.toNatClampNeg v) w T pa dr np mk) := (astI_of (HH_at (o := 29) (by decide))).trans (by rw [HH_set (o := 29) (by decide) rfl])
theorem hk30 : chk 4 (b + 30) (HH b D w T pa dr np mk) = some () := ck_of (HH_at (o := 30) (by decide))
theorem hr30_0 : rdI 4 0 (b + 30) (HH b D w T pa dr np mk) = some (D 30 0) := by unfold rdI; rw [rd_of (HH_at (o := 30) (by decide))]; rfl
theorem hw30_0 (v : Int32) : wr 4 0 (.int v) (b + 30) (HH b D w T pa dr np mk) = some (HH b (up2 D 30 0 v) w T pa dr np mk) := (wr_of (HH_at (o := 30) (by decide)) (Nat.le_of_ble_eq_true rfl)).trans (congrArg some (HH_set (o := 30) (by decide) rfl))
theorem hr30_1 : rdI 4 1 (b + 30) (HH b D w T pa dr np mk) = some (D 30 1) := by unfold rdI; rw [rd_of (HH_at (o := 30) (by decide))]; rfl
theorem hw30_1 (v : Int32) : wr 4 1 (.int v) (b + 30) (HH b D w T pa dr np mk) = some (HH b (up2 D 30 1 v) w T pa dr np mk) := (wr_of (HH_at (o := 30) (by decide)) (Nat.le_of_ble_eq_true rfl)).trans (congrArg some (HH_set (o := 30) (by decide) rfl))
theorem hr30_2 : rdR 4 2 (b + 30) (HH b D w T pa dr np mk) = some (b + 31) := by unfold rdR; rw [rd_of (HH_at (o := 30) (by decide))]; rfl
theorem hr30_3 : rdR 4 3 (b + 30) (HH b D w T pa dr np mk) = some (b + 32) := by unfold rdR; rw [rd_of (HH_at (o := 30) (by decide))]; rfl
theorem hr30_4 : rdR 4 4 (b + 30) (HH b D w T pa dr np mk) = some (b + 33) := by unfold rdR; rw [rd_of (HH_at (o := 30) (by decide))]; rfl
theorem hr30_5 : rdR 4 5 (b + 30) (HH b D w T pa dr np mk) = some (b + 34) := by unfold rdR; rw [rd_of (HH_at (o := 30) (by decide))]; rfl
theorem hl31 (i : Int32) : aldI 0 (b + 31) i (HH b D w T pa dr np mk) = if i < 0 ∨ 30 ≤ i.toNatClampNeg then none else some (D 31 i.toNatClampNeg) := ald_of (HH_at (o := 31) (by decide))
theorem hs31 (i v : Int32) : astI (b + 31) i v (HH b D w T pa dr np mk) = if i < 0 ∨ 30 ≤ i.toNatClampNeg then none else some (HH b (up2 D 31 i.toNatClampNeg v) w T pa dr np mk) := (astI_of (HH_at (o := 31) (by decide))).trans (by rw [HH_set (o := 31) (by decide) rfl])
theorem hl32 (i : Int32) : aldI 0 (b + 32) i (HH b D w T pa dr np mk) = if i < 0 ∨ 30 ≤ i.toNatClampNeg then none else some (D 32 i.toNatClampNeg) := ald_of (HH_at (o := 32) (by decide))
theorem hs32 (i v : Int32) : astI (b + 32) i v (HH b D w T pa dr np mk) = if i < 0 ∨ 30 ≤ i.toNatClampNeg then none else some (HH b (up2 D 32 i.toNatClampNeg v) w T pa dr np mk) := (astI_of (HH_at (o := 32) (by decide))).trans (by rw [HH_set (o := 32) (by decide) rfl])
theorem hl33 (i : Int32) : aldI 0 (b + 33) i (HH b D w T pa dr np mk) = if i < 0 ∨ 30 ≤ i.toNatClampNeg then none else some (D 33 i.toNatClampNeg) := ald_of (HH_at (o := 33) (by decide))
theorem hs33 (i v : Int32) : astI (b + 33) i v (HH b D w T pa dr np mk) = if i < 0 ∨ 30 ≤ i.toNatClampNeg then none else some (HH b (up2 D 33 i.toNatClampNeg v) w T pa dr np mk) := (astI_of (HH_at (o := 33) (by decide))).trans (by rw [HH_set (o := 33) (by decide) rfl])
theorem hl34 (i : Int32) : aldI 0 (b + 34) i (HH b D w T pa dr np mk) = if i < 0 ∨ 30 ≤ i.toNatClampNeg then none else some (D 34 i.toNatClampNeg) := ald_of (HH_at (o := 34) (by decide))
theorem hs34 (i v : Int32) : astI (b + 34) i v (HH b D w T pa dr np mk) = if i < 0 ∨ 30 ≤ i.toNatClampNeg then none else some (HH b (up2 D 34 i.toNatClampNeg v) w T pa dr np mk) := (astI_of (HH_at (o := 34) (by decide))).trans (by rw [HH_set (o := 34) (by decide) rfl])
theorem hk35 : chk 4 (b + 35) (HH b D w T pa dr np mk) = some () := ck_of (HH_at (o := 35) (by decide))
theorem hr35_0 : rdI 4 0 (b + 35) (HH b D w T pa dr np mk) = some (D 35 0) := by unfold rdI; rw [rd_of (HH_at (o := 35) (by decide))]; rfl
theorem hw35_0 (v : Int32) : wr 4 0 (.int v) (b + 35) (HH b D w T pa dr np mk) = some (HH b (up2 D 35 0 v) w T pa dr np mk) := (wr_of (HH_at (o := 35) (by decide)) (Nat.le_of_ble_eq_true rfl)).trans (congrArg some (HH_set (o := 35) (by decide) rfl))
theorem hr35_1 : rdI 4 1 (b + 35) (HH b D w T pa dr np mk) = some (D 35 1) := by unfold rdI; rw [rd_of (HH_at (o := 35) (by decide))]; rfl
theorem hw35_1 (v : Int32) : wr 4 1 (.int v) (b + 35) (HH b D w T pa dr np mk) = some (HH b (up2 D 35 1 v) w T pa dr np mk) := (wr_of (HH_at (o := 35) (by decide)) (Nat.le_of_ble_eq_true rfl)).trans (congrArg some (HH_set (o := 35) (by decide) rfl))
theorem hr35_2 : rdR 4 2 (b + 35) (HH b D w T pa dr np mk) = some (b + 36) := by unfold rdR; rw [rd_of (HH_at (o := 35) (by decide))]; rfl
theorem hr35_3 : rdR 4 3 (b + 35) (HH b D w T pa dr np mk) = some (b + 37) := by unfold rdR; rw [rd_of (HH_at (o := 35) (by decide))]; rfl
theorem hr35_4 : rdR 4 4 (b + 35) (HH b D w T pa dr np mk) = some (b + 38) := by unfold rdR; rw [rd_of (HH_at (o := 35) (by decide))]; rfl
theorem hr35_5 : rdR 4 5 (b + 35) (HH b D w T pa dr np mk) = some (b + 39) := by unfold rdR; rw [rd_of (HH_at (o := 35) (by decide))]; rfl
theorem hl36 (i : Int32) : aldI 0 (b + 36) i (HH b D w T pa dr np mk) = if i < 0 ∨ 30 ≤ i.toNatClampNeg then none else some (D 36 i.toNatClampNeg) := ald_of (HH_at (o := 36) (by decide))
theorem hs36 (i v : Int32) : astI (b + 36) i v (HH b D w T pa dr np mk) = if i < 0 ∨ 30 ≤ i.toNatClampNeg then none else some (HH b (up2 D 36 i.toNatClampNeg v) w T pa dr np mk) := (astI_of (HH_at (o := 36) (by decide))).trans (by rw [HH_set (o := 36) (by decide) rfl])
theorem hl37 (i : Int32) : aldI 0 (b + 37) i (HH b D w T pa dr np mk) = if i < 0 ∨ 30 ≤ i.toNatClampNeg then none else some (D 37 i.toNatClampNeg) := ald_of (HH_at (o := 37) (by decide))
theorem hs37 (i v : Int32) : astI (b + 37) i v (HH b D w T pa dr np mk) = if i < 0 ∨ 30 ≤ i.toNatClampNeg then none else some (HH b (up2 D 37 i.toNatClampNeg v) w T pa dr np mk) := (astI_of (HH_at (o := 37) (by decide))).trans (by rw [HH_set (o := 37) (by decide) rfl])
theorem hl38 (i : Int32) : aldI 0 (b + 38) i (HH b D w T pa dr np mk) = if i < 0 ∨ 30 ≤ i.toNatClampNeg then none else some (D 38 i.toNatClampNeg) := ald_of (HH_at (o := 38) (by decide))
theorem hs38 (i v : Int32) : astI (b + 38) i v (HH b D w T pa dr np mk) = if i < 0 ∨ 30 ≤ i.toNatClampNeg then none else some (HH b (up2 D 38 i.toNatClampNeg v) w T pa dr np mk) := (astI_of (HH_at (o := 38) (by decide))).trans (by rw [HH_set (o := 38) (by decide) rfl])
theorem hl39 (i : Int32) : aldI 0 (b + 39) i (HH b D w T pa dr np mk) = if i < 0 ∨ 30 ≤ i.toNatClampNeg then none else some (D 39 i.toNatClampNeg) := ald_of (HH_at (o := 39) (by decide))
theorem hs39 (i v : Int32) : astI (b + 39) i v (HH b D w T pa dr np mk) = if i < 0 ∨ 30 ≤ i.toNatClampNeg then none else some (HH b (up2 D 39 i.toNatClampNeg v) w T pa dr np mk) := (astI_of (HH_at (o := 39) (by decide))).trans (by rw [HH_set (o := 39) (by decide) rfl])
theorem hk40 : chk 10 (b + 40) (HH b D w T pa dr np mk) = some () := ck_of (HH_at (o := 40) (by decide))
theorem hr40_0 : rdI 10 0 (b + 40) (HH b D w T pa dr np mk) = some (D 40 0) := by unfold rdI; rw [rd_of (HH_at (o := 40) (by decide))]; rfl
theorem hw40_0 (v : Int32) : wr 10 0 (.int v) (b + 40) (HH b D w T pa dr np mk) = some (HH b (up2 D 40 0 v) w T pa dr np mk) := (wr_of (HH_at (o := 40) (by decide)) (Nat.le_of_ble_eq_true rfl)).trans (congrArg some (HH_set (o := 40) (by decide) rfl))
theorem hr40_1 : rdI 10 1 (b + 40) (HH b D w T pa dr np mk) = some (D 40 1) := by unfold rdI; rw [rd_of (HH_at (o := 40) (by decide))]; rfl
theorem hw40_1 (v : Int32) : wr 10 1 (.int v) (b + 40) (HH b D w T pa dr np mk) = some (HH b (up2 D 40 1 v) w T pa dr np mk) := (wr_of (HH_at (o := 40) (by decide)) (Nat.le_of_ble_eq_true rfl)).trans (congrArg some (HH_set (o := 40) (by decide) rfl))
theorem hr40_2 : rdI 10 2 (b + 40) (HH b D w T pa dr np mk) = some (D 40 2) := by unfold rdI; rw [rd_of (HH_at (o := 40) (by decide))]; rfl
theorem hw40_2 (v : Int32) : wr 10 2 (.int v) (b + 40) (HH b D w T pa dr np mk) = some (HH b (up2 D 40 2 v) w T pa dr np mk) := (wr_of (HH_at (o := 40) (by decide)) (Nat.le_of_ble_eq_true rfl)).trans (congrArg some (HH_set (o := 40) (by decide) rfl))
theorem hr40_3 : rdR 10 3 (b + 40) (HH b D w T pa dr np mk) = some (b + 41) := by unfold rdR; rw [rd_of (HH_at (o := 40) (by decide))]; rfl
theorem hr40_4 : rdI 10 4 (b + 40) (HH b D w T pa dr np mk) = some (D 40 4) := by unfold rdI; rw [rd_of (HH_at (o := 40) (by decide))]; rfl
theorem hw40_4 (v : Int32) : wr 10 4 (.int v) (b + 40) (HH b D w T pa dr np mk) = some (HH b (up2 D 40 4 v) w T pa dr np mk) := (wr_of (HH_at (o := 40) (by decide)) (Nat.le_of_ble_eq_true rfl)).trans (congrArg some (HH_set (o := 40) (by decide) rfl))
theorem hr40_5 : rdR 10 5 (b + 40) (HH b D w T pa dr np mk) = some (b + 42) := by unfold rdR; rw [rd_of (HH_at (o := 40) (by decide))]; rfl
theorem hr40_6 : rdR 10 6 (b + 40) (HH b D w T pa dr np mk) = some (b + 43) := by unfold rdR; rw [rd_of (HH_at (o := 40) (by decide))]; rfl
theorem hr40_7 : rdR 10 7 (b + 40) (HH b D w T pa dr np mk) = some (b + 44) := by unfold rdR; rw [rd_of (HH_at (o := 40) (by decide))]; rfl
theorem hr40_8 : rdR 10 8 (b + 40) (HH b D w T pa dr np mk) = some (b + 45) := by unfold rdR; rw [rd_of (HH_at (o := 40) (by decide))]; rfl
theorem hr40_9 : rdI 10 9 (b + 40) (HH b D w T pa dr np mk) = some (D 40 9) := by unfold rdI; rw [rd_of (HH_at (o := 40) (by decide))]; rfl
theorem hw40_9 (v : Int32) : wr 10 9 (.int v) (b + 40) (HH b D w T pa dr np mk) = some (HH b (up2 D 40 9 v) w T pa dr np mk) := (wr_of (HH_at (o := 40) (by decide)) (Nat.le_of_ble_eq_true rfl)).trans (congrArg some (HH_set (o := 40) (by decide) rfl))
theorem hr40_10 : rdI 10 10 (b + 40) (HH b D w T pa dr np mk) = some (D 40 10) := by unfold rdI; rw [rd_of (HH_at (o := 40) (by decide))]; rfl
theorem hw40_10 (v : Int32) : wr 10 10 (.int v) (b + 40) (HH b D w T pa dr np mk) = some (HH b (up2 D 40 10 v) w T pa dr np mk) := (wr_of (HH_at (o := 40) (by decide)) (Nat.le_of_ble_eq_true rfl)).trans (congrArg some (HH_set (o := 40) (by decide) rfl))
theorem hr40_11 : rdR 10 11 (b + 40) (HH b D w T pa dr np mk) = some (b + 46) := by unfold rdR; rw [rd_of (HH_at (o := 40) (by decide))]; rfl
theorem hr40_12 : rdR 10 12 (b + 40) (HH b D w T pa dr np mk) = some (b + 47) := by unfold rdR; rw [rd_of (HH_at (o := 40) (by decide))]; rfl
theorem hr40_13 : rdI 10 13 (b + 40) (HH b D w T pa dr np mk) = some (D 40 13) := by unfold rdI; rw [rd_of (HH_at (o := 40) (by decide))]; rfl
theorem hw40_13 (v : Int32) : wr 10 13 (.int v) (b + 40) (HH b D w T pa dr np mk) = some (HH b (up2 D 40 13 v) w T pa dr np mk) := (wr_of (HH_at (o := 40) (by decide)) (Nat.le_of_ble_eq_true rfl)).trans (congrArg some (HH_set (o := 40) (by decide) rfl))
theorem hr40_14 : rdI 10 14 (b + 40) (HH b D w T pa dr np mk) = some (D 40 14) := by unfold rdI; rw [rd_of (HH_at (o := 40) (by decide))]; rfl
theorem hw40_14 (v : Int32) : wr 10 14 (.int v) (b + 40) (HH b D w T pa dr np mk) = some (HH b (up2 D 40 14 v) w T pa dr np mk) := (wr_of (HH_at (o := 40) (by decide)) (Nat.le_of_ble_eq_true rfl)).trans (congrArg some (HH_set (o := 40) (by decide) rfl))
theorem hr40_15 : rdR 10 15 (b + 40) (HH b D w T pa dr np mk) = some (b + 48) := by unfold rdR; rw [rd_of (HH_at (o := 40) (by decide))]; rfl
theorem hr40_16 : rdR 10 16 (b + 40) (HH b D w T pa dr np mk) = some (b + 49) := by unfold rdR; rw [rd_of (HH_at (o := 40) (by decide))]; rfl
theorem hr40_17 : rdR 10 17 (b + 40) (HH b D w T pa dr np mk) = some (b + 50) := by unfold rdR; rw [rd_of (HH_at (o := 40) (by decide))]; rfl
theorem hr40_18 : rdR 10 18 (b + 40) (HH b D w T pa dr np mk) = some (b + 51) := by unfold rdR; rw [rd_of (HH_at (o := 40) (by decide))]; rfl
theorem hr40_19 : rdR 10 19 (b + 40) (HH b D w T pa dr np mk) = some (b + 52) := by unfold rdR; rw [rd_of (HH_at (o := 40) (by decide))]; rfl
theorem hr40_20 : rdI 10 20 (b + 40) (HH b D w T pa dr np mk) = some (D 40 20) := by unfold rdI; rw [rd_of (HH_at (o := 40) (by decide))]; rfl
theorem hw40_20 (v : Int32) : wr 10 20 (.int v) (b + 40) (HH b D w T pa dr np mk) = some (HH b (up2 D 40 20 v) w T pa dr np mk) := (wr_of (HH_at (o := 40) (by decide)) (Nat.le_of_ble_eq_true rfl)).trans (congrArg some (HH_set (o := 40) (by decide) rfl))
theorem hr40_21 : rdI 10 21 (b + 40) (HH b D w T pa dr np mk) = some (D 40 21) := by unfold rdI; rw [rd_of (HH_at (o := 40) (by decide))]; rfl
theorem hw40_21 (v : Int32) : wr 10 21 (.int v) (b + 40) (HH b D w T pa dr np mk) = some (HH b (up2 D 40 21 v) w T pa dr np mk) := (wr_of (HH_at (o := 40) (by decide)) (Nat.le_of_ble_eq_true rfl)).trans (congrArg some (HH_set (o := 40) (by decide) rfl))
theorem hr40_22 : rdI 10 22 (b + 40) (HH b D w T pa dr np mk) = some (D 40 22) := by unfold rdI; rw [rd_of (HH_at (o := 40) (by decide))]; rfl
theorem hw40_22 (v : Int32) : wr 10 22 (.int v) (b + 40) (HH b D w T pa dr np mk) = some (HH b (up2 D 40 22 v) w T pa dr np mk) := (wr_of (HH_at (o := 40) (by decide)) (Nat.le_of_ble_eq_true rfl)).trans (congrArg some (HH_set (o := 40) (by decide) rfl))
theorem hr40_23 : rdI 10 23 (b + 40) (HH b D w T pa dr np mk) = some (D 40 23) := by unfold rdI; rw [rd_of (HH_at (o := 40) (by decide))]; rfl
theorem hw40_23 (v : Int32) : wr 10 23 (.int v) (b + 40) (HH b D w T pa dr np mk) = some (HH b (up2 D 40 23 v) w T pa dr np mk) := (wr_of (HH_at (o := 40) (by decide)) (Nat.le_of_ble_eq_true rfl)).trans (congrArg some (HH_set (o := 40) (by decide) rfl))
theorem hr40_24 : rdJ 10 24 (b + 40) (HH b D w T pa dr np mk) = some w := by unfold rdJ; rw [rd_of (HH_at (o := 40) (by decide))]; rfl
theorem hr40_25 : rdI 10 25 (b + 40) (HH b D w T pa dr np mk) = some (D 40 25) := by unfold rdI; rw [rd_of (HH_at (o := 40) (by decide))]; rfl
theorem hw40_25 (v : Int32) : wr 10 25 (.int v) (b + 40) (HH b D w T pa dr np mk) = some (HH b (up2 D 40 25 v) w T pa dr np mk) := (wr_of (HH_at (o := 40) (by decide)) (Nat.le_of_ble_eq_true rfl)).trans (congrArg some (HH_set (o := 40) (by decide) rfl))
theorem hr40_26 : rdI 10 26 (b + 40) (HH b D w T pa dr np mk) = some (D 40 26) := by unfold rdI; rw [rd_of (HH_at (o := 40) (by decide))]; rfl
theorem hw40_26 (v : Int32) : wr 10 26 (.int v) (b + 40) (HH b D w T pa dr np mk) = some (HH b (up2 D 40 26 v) w T pa dr np mk) := (wr_of (HH_at (o := 40) (by decide)) (Nat.le_of_ble_eq_true rfl)).trans (congrArg some (HH_set (o := 40) (by decide) rfl))
theorem hr40_27 : rdI 10 27 (b + 40) (HH b D w T pa dr np mk) = some (D 40 27) := by unfold rdI; rw [rd_of (HH_at (o := 40) (by decide))]; rfl
theorem hw40_27 (v : Int32) : wr 10 27 (.int v) (b + 40) (HH b D w T pa dr np mk) = some (HH b (up2 D 40 27 v) w T pa dr np mk) := (wr_of (HH_at (o := 40) (by decide)) (Nat.le_of_ble_eq_true rfl)).trans (congrArg some (HH_set (o := 40) (by decide) rfl))
theorem hr40_28 : rdR 10 28 (b + 40) (HH b D w T pa dr np mk) = some (b + 53) := by unfold rdR; rw [rd_of (HH_at (o := 40) (by decide))]; rfl
theorem hr40_29 : rdR 10 29 (b + 40) (HH b D w T pa dr np mk) = some (b + 54) := by unfold rdR; rw [rd_of (HH_at (o := 40) (by decide))]; rfl
theorem hr40_30 : rdR 10 30 (b + 40) (HH b D w T pa dr np mk) = some (b + 55) := by unfold rdR; rw [rd_of (HH_at (o := 40) (by decide))]; rfl
theorem hr40_31 : rdR 10 31 (b + 40) (HH b D w T pa dr np mk) = some (b + 56) := by unfold rdR; rw [rd_of (HH_at (o := 40) (by decide))]; rfl
theorem hr40_32 : rdR 10 32 (b + 40) (HH b D w T pa dr np mk) = some (b + 57) := by unfold rdR; rw [rd_of (HH_at (o := 40) (by decide))]; rfl
theorem hr40_33 : rdR 10 33 (b + 40) (HH b D w T pa dr np mk) = some (b + 58) := by unfold rdR; rw [rd_of (HH_at (o := 40) (by decide))]; rfl
theorem hr40_34 : rdI 10 34 (b + 40) (HH b D w T pa dr np mk) = some (D 40 34) := by unfold rdI; rw [rd_of (HH_at (o := 40) (by decide))]; rfl
theorem hw40_34 (v : Int32) : wr 10 34 (.int v) (b + 40) (HH b D w T pa dr np mk) = some (HH b (up2 D 40 34 v) w T pa dr np mk) := (wr_of (HH_at (o := 40) (by decide)) (Nat.le_of_ble_eq_true rfl)).trans (congrArg some (HH_set (o := 40) (by decide) rfl))
theorem hr40_35 : rdI 10 35 (b + 40) (HH b D w T pa dr np mk) = some (D 40 35) := by unfold rdI; rw [rd_of (HH_at (o := 40) (by decide))]; rfl
theorem hw40_35 (v : Int32) : wr 10 35 (.int v) (b + 40) (HH b D w T pa dr np mk) = some (HH b (up2 D 40 35 v) w T pa dr np mk) := (wr_of (HH_at (o := 40) (by decide)) (Nat.le_of_ble_eq_true rfl)).trans (congrArg some (HH_set (o := 40) (by decide) rfl))
theorem hr40_36 : rdR 10 36 (b + 40) (HH b D w T pa dr np mk) = some (b + 59) := by unfold rdR; rw [rd_of (HH_at (o := 40) (by decide))]; rfl
theorem hr40_37 : rdR 10 37 (b + 40) (HH b D w T pa dr np mk) = some (b + 60) := by unfold rdR; rw [rd_of (HH_at (o := 40) (by decide))]; rfl
theorem hr40_38 : rdR 10 38 (b + 40) (HH b D w T pa dr np mk) = some (b + 61) := by unfold rdR; rw [rd_of (HH_at (o := 40) (by decide))]; rfl
theorem hr40_39 : rdR 10 39 (b + 40) (HH b D w T pa dr np mk) = some (b + 62) := by unfold rdR; rw [rd_of (HH_at (o := 40) (by decide))]; rfl
theorem hr40_40 : rdI 10 40 (b + 40) (HH b D w T pa dr np mk) = some (D 40 40) := by unfold rdI; rw [rd_of (HH_at (o := 40) (by decide))]; rfl
theorem hw40_40 (v : Int32) : wr 10 40 (.int v) (b + 40) (HH b D w T pa dr np mk) = some (HH b (up2 D 40 40 v) w T pa dr np mk) := (wr_of (HH_at (o := 40) (by decide)) (Nat.le_of_ble_eq_true rfl)).trans (congrArg some (HH_set (o := 40) (by decide) rfl))
theorem hr40_41 : rdR 10 41 (b + 40) (HH b D w T pa dr np mk) = some (b + 63) := by unfold rdR; rw [rd_of (HH_at (o := 40) (by decide))]; rfl
theorem hr40_42 : rdR 10 42 (b + 40) (HH b D w T pa dr np mk) = some (b + 64) := by unfold rdR; rw [rd_of (HH_at (o := 40) (by decide))]; rfl
theorem hr40_43 : rdR 10 43 (b + 40) (HH b D w T pa dr np mk) = some (b + 65) := by unfold rdR; rw [rd_of (HH_at (o := 40) (by decide))]; rfl
theorem hl41 (i : Int32) : aldI 0 (b + 41) i (HH b D w T pa dr np mk) = if i < 0 ∨ 30 ≤ i.toNatClampNeg then none else some (D 41 i.toNatClampNeg) := ald_of (HH_at (o := 41) (by decide))
theorem hs41 (i v : Int32) : astI (b + 41) i v (HH b D w T pa dr np mk) = if i < 0 ∨ 30 ≤ i.toNatClampNeg then none else some (HH b (up2 D 41 i.toNatClampNeg v) w T pa dr np mk) := (astI_of (HH_at (o := 41) (by decide))).trans (by rw [HH_set (o := 41) (by decide) rfl])
theorem hl42 (i : Int32) : aldI 1 (b + 42) i (HH b D w T pa dr np mk) = if i < 0 ∨ 120 ≤ i.toNatClampNeg then none else some (D 42 i.toNatClampNeg) := ald_of (HH_at (o := 42) (by decide))
theorem hs42 (i v : Int32) : astZ (b + 42) i v (HH b D w T pa dr np mk) = if (v = 0 ∨ v = 1) ∧ ¬ (i < 0 ∨ 120 ≤ i.toNatClampNeg) then some (HH b (up2 D 42 i.toNatClampNeg v) w T pa dr np mk) else none := (astZ_of (HH_at (o := 42) (by decide))).trans (by rw [HH_set (o := 42) (by decide) rfl])
theorem hl43 (i : Int32) : aldI 0 (b + 43) i (HH b D w T pa dr np mk) = if i < 0 ∨ 1200 ≤ i.toNatClampNeg then none else some (D 43 i.toNatClampNeg) := ald_of (HH_at (o := 43) (by decide))
theorem hs43 (i v : Int32) : astI (b + 43) i v (HH b D w T pa dr np mk) = if i < 0 ∨ 1200 ≤ i.toNatClampNeg then none else some (HH b (up2 D 43 i.toNatClampNeg v) w T pa dr np mk) := (astI_of (HH_at (o := 43) (by decide))).trans (by rw [HH_set (o := 43) (by decide) rfl])
theorem hl44 (i : Int32) : aldI 0 (b + 44) i (HH b D w T pa dr np mk) = if i < 0 ∨ 120 ≤ i.toNatClampNeg then none else some (D 44 i.toNatClampNeg) := ald_of (HH_at (o := 44) (by decide))
theorem hs44 (i v : Int32) : astI (b + 44) i v (HH b D w T pa dr np mk) = if i < 0 ∨ 120 ≤ i.toNatClampNeg then none else some (HH b (up2 D 44 i.toNatClampNeg v) w T pa dr np mk) := (astI_of (HH_at (o := 44) (by decide))).trans (by rw [HH_set (o := 44) (by decide) rfl])
theorem hl45 (i : Int32) : aldI 0 (b + 45) i (HH b D w T pa dr np mk) = if i < 0 ∨ 120 ≤ i.toNatClampNeg then none else some (D 45 i.toNatClampNeg) := ald_of (HH_at (o := 45) (by decide))
theorem hs45 (i v : Int32) : astI (b + 45) i v (HH b D w T pa dr np mk) = if i < 0 ∨ 120 ≤ i.toNatClampNeg then none else some (HH b (up2 D 45 i.toNatClampNeg v) w T pa dr np mk) := (astI_of (HH_at (o := 45) (by decide))).trans (by rw [HH_set (o := 45) (by decide) rfl])
theorem hl46 (i : Int32) : aldI 0 (b + 46) i (HH b D w T pa dr np mk) = if i < 0 ∨ 11 ≤ i.toNatClampNeg then none else some (D 46 i.toNatClampNeg) := ald_of (HH_at (o := 46) (by decide))
theorem hs46 (i v : Int32) : astI (b + 46) i v (HH b D w T pa dr np mk) = if i < 0 ∨ 11 ≤ i.toNatClampNeg then none else some (HH b (up2 D 46 i.toNatClampNeg v) w T pa dr np mk) := (astI_of (HH_at (o := 46) (by decide))).trans (by rw [HH_set (o := 46) (by decide) rfl])
theorem hl47 (i : Int32) : aldI 0 (b + 47) i (HH b D w T pa dr np mk) = if i < 0 ∨ 90 ≤ i.toNatClampNeg then none else some (D 47 i.toNatClampNeg) := ald_of (HH_at (o := 47) (by decide))
theorem hs47 (i v : Int32) : astI (b + 47) i v (HH b D w T pa dr np mk) = if i < 0 ∨ 90 ≤ i.toNatClampNeg then none else some (HH b (up2 D 47 i.toNatClampNeg v) w T pa dr np mk) := (astI_of (HH_at (o := 47) (by decide))).trans (by rw [HH_set (o := 47) (by decide) rfl])
theorem hl48 (i : Int32) : aldI 0 (b + 48) i (HH b D w T pa dr np mk) = if i < 0 ∨ 11 ≤ i.toNatClampNeg then none else some (D 48 i.toNatClampNeg) := ald_of (HH_at (o := 48) (by decide))
theorem hs48 (i v : Int32) : astI (b + 48) i v (HH b D w T pa dr np mk) = if i < 0 ∨ 11 ≤ i.toNatClampNeg then none else some (HH b (up2 D 48 i.toNatClampNeg v) w T pa dr np mk) := (astI_of (HH_at (o := 48) (by decide))).trans (by rw [HH_set (o := 48) (by decide) rfl])
theorem hl49 (i : Int32) : aldI 0 (b + 49) i (HH b D w T pa dr np mk) = if i < 0 ∨ 90 ≤ i.toNatClampNeg then none else some (D 49 i.toNatClampNeg) := ald_of (HH_at (o := 49) (by decide))
theorem hs49 (i v : Int32) : astI (b + 49) i v (HH b D w T pa dr np mk) = if i < 0 ∨ 90 ≤ i.toNatClampNeg then none else some (HH b (up2 D 49 i.toNatClampNeg v) w T pa dr np mk) := (astI_of (HH_at (o := 49) (by decide))).trans (by rw [HH_set (o := 49) (by decide) rfl])
theorem hl50 (i : Int32) : aldI 0 (b + 50) i (HH b D w T pa dr np mk) = if i < 0 ∨ 10 ≤ i.toNatClampNeg then none else some (D 50 i.toNatClampNeg) := ald_of (HH_at (o := 50) (by decide))
theorem hs50 (i v : Int32) : astI (b + 50) i v (HH b D w T pa dr np mk) = if i < 0 ∨ 10 ≤ i.toNatClampNeg then none else some (HH b (up2 D 50 i.toNatClampNeg v) w T pa dr np mk) := (astI_of (HH_at (o := 50) (by decide))).trans (by rw [HH_set (o := 50) (by decide) rfl])
theorem hl51 (i : Int32) : aldI 0 (b + 51) i (HH b D w T pa dr np mk) = if i < 0 ∨ 10 ≤ i.toNatClampNeg then none else some (D 51 i.toNatClampNeg) := ald_of (HH_at (o := 51) (by decide))
theorem hs51 (i v : Int32) : astI (b + 51) i v (HH b D w T pa dr np mk) = if i < 0 ∨ 10 ≤ i.toNatClampNeg then none else some (HH b (up2 D 51 i.toNatClampNeg v) w T pa dr np mk) := (astI_of (HH_at (o := 51) (by decide))).trans (by rw [HH_set (o := 51) (by decide) rfl])
theorem hl52 (i : Int32) : aldI 0 (b + 52) i (HH b D w T pa dr np mk) = if i < 0 ∨ 300 ≤ i.toNatClampNeg then none else some (D 52 i.toNatClampNeg) := ald_of (HH_at (o := 52) (by decide))
theorem hs52 (i v : Int32) : astI (b + 52) i v (HH b D w T pa dr np mk) = if i < 0 ∨ 300 ≤ i.toNatClampNeg then none else some (HH b (up2 D 52 i.toNatClampNeg v) w T pa dr np mk) := (astI_of (HH_at (o := 52) (by decide))).trans (by rw [HH_set (o := 52) (by decide) rfl])
theorem hl53 (i : Int32) : aldI 0 (b + 53) i (HH b D w T pa dr np mk) = if i < 0 ∨ 60 ≤ i.toNatClampNeg then none else some (D 53 i.toNatClampNeg) := ald_of (HH_at (o := 53) (by decide))
theorem hs53 (i v : Int32) : astI (b + 53) i v (HH b D w T pa dr np mk) = if i < 0 ∨ 60 ≤ i.toNatClampNeg then none else some (HH b (up2 D 53 i.toNatClampNeg v) w T pa dr np mk) := (astI_of (HH_at (o := 53) (by decide))).trans (by rw [HH_set (o := 53) (by decide) rfl])
theorem hl54 (i : Int32) : aldI 0 (b + 54) i (HH b D w T pa dr np mk) = if i < 0 ∨ 60 ≤ i.toNatClampNeg then none else some (D 54 i.toNatClampNeg) := ald_of (HH_at (o := 54) (by decide))
theorem hs54 (i v : Int32) : astI (b + 54) i v (HH b D w T pa dr np mk) = if i < 0 ∨ 60 ≤ i.toNatClampNeg then none else some (HH b (up2 D 54 i.toNatClampNeg v) w T pa dr np mk) := (astI_of (HH_at (o := 54) (by decide))).trans (by rw [HH_set (o := 54) (by decide) rfl])
theorem hl55 (i : Int32) : aldI 1 (b + 55) i (HH b D w T pa dr np mk) = if i < 0 ∨ 60 ≤ i.toNatClampNeg then none else some (D 55 i.toNatClampNeg) := ald_of (HH_at (o := 55) (by decide))
theorem hs55 (i v : Int32) : astZ (b + 55) i v (HH b D w T pa dr np mk) = if (v = 0 ∨ v = 1) ∧ ¬ (i < 0 ∨ 60 ≤ i.toNatClampNeg) then some (HH b (up2 D 55 i.toNatClampNeg v) w T pa dr np mk) else none := (astZ_of (HH_at (o := 55) (by decide))).trans (by rw [HH_set (o := 55) (by decide) rfl])
theorem hl56 (i : Int32) : aldI 0 (b + 56) i (HH b D w T pa dr np mk) = if i < 0 ∨ 3 ≤ i.toNatClampNeg then none else some (D 56 i.toNatClampNeg) := ald_of (HH_at (o := 56) (by decide))
theorem hs56 (i v : Int32) : astI (b + 56) i v (HH b D w T pa dr np mk) = if i < 0 ∨ 3 ≤ i.toNatClampNeg then none else some (HH b (up2 D 56 i.toNatClampNeg v) w T pa dr np mk) := (astI_of (HH_at (o := 56) (by decide))).trans (by rw [HH_set (o := 56) (by decide) rfl])
theorem hl57 (i : Int32) : aldI 0 (b + 57) i (HH b D w T pa dr np mk) = if i < 0 ∨ 6 ≤ i.toNatClampNeg then none else some (D 57 i.toNatClampNeg) := ald_of (HH_at (o := 57) (by decide))
theorem hs57 (i v : Int32) : astI (b + 57) i v (HH b D w T pa dr np mk) = if i < 0 ∨ 6 ≤ i.toNatClampNeg then none else some (HH b (up2 D 57 i.toNatClampNeg v) w T pa dr np mk) := (astI_of (HH_at (o := 57) (by decide))).trans (by rw [HH_set (o := 57) (by decide) rfl])
theorem hl58 (i : Int32) : aldI 0 (b + 58) i (HH b D w T pa dr np mk) = if i < 0 ∨ 6 ≤ i.toNatClampNeg then none else some (D 58 i.toNatClampNeg) := ald_of (HH_at (o := 58) (by decide))
theorem hs58 (i v : Int32) : astI (b + 58) i v (HH b D w T pa dr np mk) = if i < 0 ∨ 6 ≤ i.toNatClampNeg then none else some (HH b (up2 D 58 i.toNatClampNeg v) w T pa dr np mk) := (astI_of (HH_at (o := 58) (by decide))).trans (by rw [HH_set (o := 58) (by decide) rfl])
theorem hl59 (i : Int32) : aldI 0 (b + 59) i (HH b D w T pa dr np mk) = if i < 0 ∨ 200 ≤ i.toNatClampNeg then none else some (D 59 i.toNatClampNeg) := ald_of (HH_at (o := 59) (by decide))
theorem hs59 (i v : Int32) : astI (b + 59) i v (HH b D w T pa dr np mk) = if i < 0 ∨ 200 ≤ i.toNatClampNeg then none else some (HH b (up2 D 59 i.toNatClampNeg v) w T pa dr np mk) := (astI_of (HH_at (o := 59) (by decide))).trans (by rw [HH_set (o := 59) (by decide) rfl])
theorem hl60 (i : Int32) : aldI 0 (b + 60) i (HH b D w T pa dr np mk) = if i < 0 ∨ 200 ≤ i.toNatClampNeg then none else some (D 60 i.toNatClampNeg) := ald_of (HH_at (o := 60) (by decide))
theorem hs60 (i v : Int32) : astI (b + 60) i v (HH b D w T pa dr np mk) = if i < 0 ∨ 200 ≤ i.toNatClampNeg then none else some (HH b (up2 D 60 i.toNatClampNeg v) w T pa dr np mk) := (astI_of (HH_at (o := 60) (by decide))).trans (by rw [HH_set (o := 60) (by decide) rfl])
theorem hl61 (i : Int32) : aldI 0 (b + 61) i (HH b D w T pa dr np mk) = if i < 0 ∨ 200 ≤ i.toNatClampNeg then none else some (D 61 i.toNatClampNeg) := ald_of (HH_at (o := 61) (by decide))
theorem hs61 (i v : Int32) : astI (b + 61) i v (HH b D w T pa dr np mk) = if i < 0 ∨ 200 ≤ i.toNatClampNeg then none else some (HH b (up2 D 61 i.toNatClampNeg v) w T pa dr np mk) := (astI_of (HH_at (o := 61) (by decide))).trans (by rw [HH_set (o := 61) (by decide) rfl])
theorem hl62 (i : Int32) : aldI 0 (b + 62) i (HH b D w T pa dr np mk) = if i < 0 ∨ 200 ≤ i.toNatClampNeg then none else some (D 62 i.toNatClampNeg) := ald_of (HH_at (o := 62) (by decide))
theorem hs62 (i v : Int32) : astI (b + 62) i v (HH b D w T pa dr np mk) = if i < 0 ∨ 200 ≤ i.toNatClampNeg then none else some (HH b (up2 D 62 i.toNatClampNeg v) w T pa dr np mk) := (astI_of (HH_at (o := 62) (by decide))).trans (by rw [HH_set (o := 62) (by decide) rfl])
theorem hl63 (i : Int32) : aldI 0 (b + 63) i (HH b D w T pa dr np mk) = if i < 0 ∨ 60 ≤ i.toNatClampNeg then none else some (D 63 i.toNatClampNeg) := ald_of (HH_at (o := 63) (by decide))
theorem hs63 (i v : Int32) : astI (b + 63) i v (HH b D w T pa dr np mk) = if i < 0 ∨ 60 ≤ i.toNatClampNeg then none else some (HH b (up2 D 63 i.toNatClampNeg v) w T pa dr np mk) := (astI_of (HH_at (o := 63) (by decide))).trans (by rw [HH_set (o := 63) (by decide) rfl])
theorem hl64 (i : Int32) : aldI 0 (b + 64) i (HH b D w T pa dr np mk) = if i < 0 ∨ 60 ≤ i.toNatClampNeg then none else some (D 64 i.toNatClampNeg) := ald_of (HH_at (o := 64) (by decide))
theorem hs64 (i v : Int32) : astI (b + 64) i v (HH b D w T pa dr np mk) = if i < 0 ∨ 60 ≤ i.toNatClampNeg then none else some (HH b (up2 D 64 i.toNatClampNeg v) w T pa dr np mk) := (astI_of (HH_at (o := 64) (by decide))).trans (by rw [HH_set (o := 64) (by decide) rfl])
theorem hl65 (i : Int32) : aldI 0 (b + 65) i (HH b D w T pa dr np mk) = if i < 0 ∨ 60 ≤ i.toNatClampNeg then none else some (D 65 i.toNatClampNeg) := ald_of (HH_at (o := 65) (by decide))
theorem hs65 (i v : Int32) : astI (b + 65) i v (HH b D w T pa dr np mk) = if i < 0 ∨ 60 ≤ i.toNatClampNeg then none else some (HH b (up2 D 65 i.toNatClampNeg v) w T pa dr np mk) := (astI_of (HH_at (o := 65) (by decide))).trans (by rw [HH_set (o := 65) (by decide) rfl])
end
