section
variable {b : Nat} {D : Nat → Nat → Int32} {w : Int64} {T : Nat → Int64} {pa dr np mk : Nat}
theorem cellR_w {r : Nat → Int32} {v : Int64} : ∀ o, o ≠ 40 → cellR b r w T pa dr np o = cellR b r v T pa dr np o
  | 0, _ => rfl
  | 1, _ => rfl
  | 2, _ => rfl
  | 3, _ => rfl
  | 4, _ => rfl
  | 5, _ => rfl
  | 6, _ => rfl
  | 7, _ => rfl
  | 8, _ => rfl
  | 9, _ => rfl
  | 10, _ => rfl
  | 11, _ => rfl
  | 12, _ => rfl
  | 13, _ => rfl
  | 14, _ => rfl
  | 15, _ => rfl
  | 16, _ => rfl
  | 17, _ => rfl
  | 18, _ => rfl
  | 19, _ => rfl
  | 20, _ => rfl
  | 21, _ => rfl
  | 22, _ => rfl
  | 23, _ => rfl
  | 24, _ => rfl
  | 25, _ => rfl
  | 26, _ => rfl
  | 27, _ => rfl
  | 28, _ => rfl
  | 29, _ => rfl
  | 30, _ => rfl
  | 31, _ => rfl
  | 32, _ => rfl
  | 33, _ => rfl
  | 34, _ => rfl
  | 35, _ => rfl
  | 36, _ => rfl
  | 37, _ => rfl
  | 38, _ => rfl
  | 39, _ => rfl
  | 40, h => absurd rfl h
  | 41, _ => rfl
  | 42, _ => rfl
  | 43, _ => rfl
  | 44, _ => rfl
  | 45, _ => rfl
  | 46, _ => rfl
  | 47, _ => rfl
  | 48, _ => rfl
  | 49, _ => rfl
  | 50, _ => rfl
  | 51, _ => rfl
  | 52, _ => rfl
  | 53, _ => rfl
  | 54, _ => rfl
  | 55, _ => rfl
  | 56, _ => rfl
  | 57, _ => rfl
  | 58, _ => rfl
  | 59, _ => rfl
  | 60, _ => rfl
  | 61, _ => rfl
  | 62, _ => rfl
  | 63, _ => rfl
  | 64, _ => rfl
  | 65, _ => rfl
  | _ + 66, _ => rfl
theorem cellR_T {r : Nat → Int32} {v : Nat → Int64} : ∀ o, o ≠ 7 → cellR b r w T pa dr np o = cellR b r w v pa dr np o
  | 0, _ => rfl
  | 1, _ => rfl
  | 2, _ => rfl
  | 3, _ => rfl
  | 4, _ => rfl
  | 5, _ => rfl
  | 6, _ => rfl
  | 7, h => absurd rfl h
  | 8, _ => rfl
  | 9, _ => rfl
  | 10, _ => rfl
  | 11, _ => rfl
  | 12, _ => rfl
  | 13, _ => rfl
  | 14, _ => rfl
  | 15, _ => rfl
  | 16, _ => rfl
  | 17, _ => rfl
  | 18, _ => rfl
  | 19, _ => rfl
  | 20, _ => rfl
  | 21, _ => rfl
  | 22, _ => rfl
  | 23, _ => rfl
  | 24, _ => rfl
  | 25, _ => rfl
  | 26, _ => rfl
  | 27, _ => rfl
  | 28, _ => rfl
  | 29, _ => rfl
  | 30, _ => rfl
  | 31, _ => rfl
  | 32, _ => rfl
  | 33, _ => rfl
  | 34, _ => rfl
  | 35, _ => rfl
  | 36, _ => rfl
  | 37, _ => rfl
  | 38, _ => rfl
  | 39, _ => rfl
  | 40, _ => rfl
  | 41, _ => rfl
  | 42, _ => rfl
  | 43, _ => rfl
  | 44, _ => rfl
  | 45, _ => rfl
  | 46, _ => rfl
  | 47, _ => rfl
  | 48, _ => rfl
  | 49, _ => rfl
  | 50, _ => rfl
  | 51, _ => rfl
  | 52, _ => rfl
  | 53, _ => rfl
  | 54, _ => rfl
  | 55, _ => rfl
  | 56, _ => rfl
  | 57, _ => rfl
  | 58, _ => rfl
  | 59, _ => rfl
  | 60, _ => rfl
  | 61, _ => rfl
  | 62, _ => rfl
  | 63, _ => rfl
  | 64, _ => rfl
  | 65, _ => rfl
  | _ + 66, _ => rfl
theorem cellR_p {r : Nat → Int32} {x y : Nat} : ∀ o, o ≠ 0 → cellR b r w T pa dr np o = cellR b r w T x y np o
  | 0, h => absurd rfl h
  | 1, _ => rfl
  | 2, _ => rfl
  | 3, _ => rfl
  | 4, _ => rfl
  | 5, _ => rfl
  | 6, _ => rfl
  | 7, _ => rfl
  | 8, _ => rfl
  | 9, _ => rfl
  | 10, _ => rfl
  | 11, _ => rfl
  | 12, _ => rfl
  | 13, _ => rfl
  | 14, _ => rfl
  | 15, _ => rfl
  | 16, _ => rfl
  | 17, _ => rfl
  | 18, _ => rfl
  | 19, _ => rfl
  | 20, _ => rfl
  | 21, _ => rfl
  | 22, _ => rfl
  | 23, _ => rfl
  | 24, _ => rfl
  | 25, _ => rfl
  | 26, _ => rfl
  | 27, _ => rfl
  | 28, _ => rfl
  | 29, _ => rfl
  | 30, _ => rfl
  | 31, _ => rfl
  | 32, _ => rfl
  | 33, _ => rfl
  | 34, _ => rfl
  | 35, _ => rfl
  | 36, _ => rfl
  | 37, _ => rfl
  | 38, _ => rfl
  | 39, _ => rfl
  | 40, _ => rfl
  | 41, _ => rfl
  | 42, _ => rfl
  | 43, _ => rfl
  | 44, _ => rfl
  | 45, _ => rfl
  | 46, _ => rfl
  | 47, _ => rfl
  | 48, _ => rfl
  | 49, _ => rfl
  | 50, _ => rfl
  | 51, _ => rfl
  | 52, _ => rfl
  | 53, _ => rfl
  | 54, _ => rfl
  | 55, _ => rfl
  | 56, _ => rfl
  | 57, _ => rfl
  | 58, _ => rfl
  | 59, _ => rfl
  | 60, _ => rfl
  | 61, _ => rfl
  | 62, _ => rfl
  | 63, _ => rfl
  | 64, _ => rfl
  | 65, _ => rfl
  | _ + 66, _ => rfl
theorem cellR_n {r : Nat → Int32} {x : Nat} : ∀ o, o ≠ 2 → cellR b r w T pa dr np o = cellR b r w T pa dr x o
  | 0, _ => rfl
  | 1, _ => rfl
  | 2, h => absurd rfl h
  | 3, _ => rfl
  | 4, _ => rfl
  | 5, _ => rfl
  | 6, _ => rfl
  | 7, _ => rfl
  | 8, _ => rfl
  | 9, _ => rfl
  | 10, _ => rfl
  | 11, _ => rfl
  | 12, _ => rfl
  | 13, _ => rfl
  | 14, _ => rfl
  | 15, _ => rfl
  | 16, _ => rfl
  | 17, _ => rfl
  | 18, _ => rfl
  | 19, _ => rfl
  | 20, _ => rfl
  | 21, _ => rfl
  | 22, _ => rfl
  | 23, _ => rfl
  | 24, _ => rfl
  | 25, _ => rfl
  | 26, _ => rfl
  | 27, _ => rfl
  | 28, _ => rfl
  | 29, _ => rfl
  | 30, _ => rfl
  | 31, _ => rfl
  | 32, _ => rfl
  | 33, _ => rfl
  | 34, _ => rfl
  | 35, _ => rfl
  | 36, _ => rfl
  | 37, _ => rfl
  | 38, _ => rfl
  | 39, _ => rfl
  | 40, _ => rfl
  | 41, _ => rfl
  | 42, _ => rfl
  | 43, _ => rfl
  | 44, _ => rfl
  | 45, _ => rfl
  | 46, _ => rfl
  | 47, _ => rfl
  | 48, _ => rfl
  | 49, _ => rfl
  | 50, _ => rfl
  | 51, _ => rfl
  | 52, _ => rfl
  | 53, _ => rfl
  | 54, _ => rfl
  | 55, _ => rfl
  | 56, _ => rfl
  | 57, _ => rfl
  | 58, _ => rfl
  | 59, _ => rfl
  | 60, _ => rfl
  | 61, _ => rfl
  | 62, _ => rfl
  | 63, _ => rfl
  | 64, _ => rfl
  | 65, _ => rfl
  | _ + 66, _ => rfl
theorem HH_chg {o : Nat} {w1 : Int64} {T1 : Nat → Int64} {pa1 dr1 np1 : Nat} {e : PE} (ho : o < 66) (hs : ∀ (r : Nat → Int32) (x : Nat), x ≠ o → cellR b r w T pa dr np x = cellR b r w1 T1 pa1 dr1 np1 x) (he : cellR b (D o) w1 T1 pa1 dr1 np1 o = some e) : ((HH b D w T pa dr np mk).1, hup (HH b D w T pa dr np mk).2 (b + o) e) = HH b D w1 T1 pa1 dr1 np1 mk := by
  refine Prod.ext rfl (funext fun a => ?_)
  show hup (HF b D w T pa dr np mk) (b + o) e a = HF b D w1 T1 pa1 dr1 np1 mk a
  unfold hup
  by_cases q : a = b + o
  · subst q
    rw [if_pos rfl]
    unfold HF
    rw [if_neg (by omega), if_pos (by omega), show b + o - b = o by omega, he]
  · rw [if_neg q]
    unfold HF
    by_cases q1 : a < b
    · rw [if_pos q1, if_pos q1]
    · rw [if_neg q1, if_neg q1]
      by_cases q2 : a < b + 66
      · rw [if_pos q2, if_pos q2, hs _ _ (by omega)]
      · rw [if_neg q2, if_neg q2]
theorem hw40_24 (v : Int64) : wr 10 24 (.long v) (b + 40) (HH b D w T pa dr np mk) = some (HH b D v T pa dr np mk) := (wr_of (HH_at (o := 40) (by decide)) (Nat.le_of_ble_eq_true rfl)).trans (congrArg some (HH_chg (o := 40) (by decide) (fun _ x h => cellR_w x h) rfl))
theorem hw0_6 (x : Nat) : wr 9 6 (.ref (b + x)) b (HH b D w T pa dr np mk) = some (HH b D w T x dr np mk) := (wr_of HH_at0 (Nat.le_of_ble_eq_true rfl)).trans (congrArg some (HH_chg (o := 0) (by decide) (fun _ x h => cellR_p x h) rfl))
theorem hw0_7 (x : Nat) : wr 9 7 (.ref (b + x)) b (HH b D w T pa dr np mk) = some (HH b D w T pa x np mk) := (wr_of HH_at0 (Nat.le_of_ble_eq_true rfl)).trans (congrArg some (HH_chg (o := 0) (by decide) (fun _ x h => cellR_p x h) rfl))
theorem aldJ_of {a n : Nat} {i : Int32} {h : PH} {f : Nat → Int64} (h1 : h.2 a = some (.inl (2, n, .inr (.inl f)))) : aldJ a i h = if i < 0 ∨ n ≤ i.toNatClampNeg then none else some (f i.toNatClampNeg) := by
  unfold aldJ
  rw [h1]
  by_cases q : i < 0 ∨ n ≤ i.toNatClampNeg
  · rw [if_pos q]
    exact if_neg (fun z => z.2 q)
  · rw [if_neg q]
    exact if_pos ⟨rfl, q⟩
theorem astJ_of {a n : Nat} {i : Int32} {v : Int64} {h : PH} {f : Nat → Int64} (h1 : h.2 a = some (.inl (2, n, .inr (.inl f)))) : astJ a i v h = if i < 0 ∨ n ≤ i.toNatClampNeg then none else some (h.1, hup h.2 a (.inl (2, n, .inr (.inl (vp_updL f i.toNatClampNeg v))))) := by
  unfold astJ
  rw [h1]
  by_cases q : i < 0 ∨ n ≤ i.toNatClampNeg
  · rw [if_pos q]
    exact if_neg (fun z => z.2 q)
  · rw [if_neg q]
    exact if_pos ⟨rfl, q⟩
theorem aldR_of {t a n : Nat} {i : Int32} {h : PH} {f : Nat → Option Nat} (h1 : h.2 a = some (.inl (t, n, .inr (.inr (.inr (.inr f)))))) : aldR t a i h = if i < 0 ∨ n ≤ i.toNatClampNeg then none else some (f i.toNatClampNeg) := by
  unfold aldR
  rw [h1]
  by_cases q : i < 0 ∨ n ≤ i.toNatClampNeg
  · rw [if_pos q]
    exact if_neg (fun z => z.2 q)
  · rw [if_neg q]
    exact if_pos ⟨rfl, q⟩
theorem hl7 (i : Int32) : aldJ (b + 7) i (HH b D w T pa dr np mk) = if i < 0 ∨ 10 ≤ i.toNatClampNeg then none else some (T i.toNatClampNeg) := aldJ_of (HH_at (o := 7) (by decide))
theorem hs7 (i : Int32) (v : Int64) : astJ (b + 7) i v (HH b D w T pa dr np mk) = if i < 0 ∨ 10 ≤ i.toNatClampNeg then none else some (HH b D w (vp_updL T i.toNatClampNeg v) pa dr np mk) := (astJ_of (HH_at (o := 7) (by decide))).trans (by rw [HH_chg (o := 7) (by decide) (fun _ x h => cellR_T x h) rfl])
theorem hl2 (i : Int32) : aldR 3 (b + 2) i (HH b D w T pa dr np mk) = if i < 0 ∨ 120 ≤ i.toNatClampNeg then none else some (if i.toNatClampNeg < np then some (b + 66 + 2 * i.toNatClampNeg) else none) := aldR_of (HH_at (o := 2) (by decide))
theorem hl3 (i : Int32) : aldR 5 (b + 3) i (HH b D w T pa dr np mk) = if i < 0 ∨ 3 ≤ i.toNatClampNeg then none else some (if i.toNatClampNeg < 3 then some (b + 3 + 1 + i.toNatClampNeg) else none) := aldR_of (HH_at (o := 3) (by decide))
theorem hl3_0 : aldR 5 (b + 3) 0 (HH b D w T pa dr np mk) = some (some (b + 4)) := hl3 0
theorem hl3_1 : aldR 5 (b + 3) 1 (HH b D w T pa dr np mk) = some (some (b + 5)) := hl3 1
theorem hl3_2 : aldR 5 (b + 3) 2 (HH b D w T pa dr np mk) = some (some (b + 6)) := hl3 2
theorem hl15 (i : Int32) : aldR 4 (b + 15) i (HH b D w T pa dr np mk) = if i < 0 ∨ 3 ≤ i.toNatClampNeg then none else some (if i.toNatClampNeg = 0 then some (b + 16) else if i.toNatClampNeg = 1 then some (b + 17) else if i.toNatClampNeg = 2 then some (b + 18) else none) := aldR_of (HH_at (o := 15) (by decide))
theorem alen_of {t a : Nat} {h : PH} {f : vp_A} (h1 : h.2 a = some (.inl (t, f))) : alenR t a h = some (Int32.ofNat f.1) := by
  unfold alenR
  rw [h1]
  exact if_pos rfl
theorem hn15 : alenR 4 (b + 15) (HH b D w T pa dr np mk) = some (3 : Int32) := alen_of (HH_at (o := 15) (by decide))
theorem hl15_0 : aldR 4 (b + 15) 0 (HH b D w T pa dr np mk) = some (some (b + 16)) := hl15 0
theorem hl15_1 : aldR 4 (b + 15) 1 (HH b D w T pa dr np mk) = some (some (b + 17)) := hl15 1
theorem hl15_2 : aldR 4 (b + 15) 2 (HH b D w T pa dr np mk) = some (some (b + 18)) := hl15 2
/-! pieces -/
theorem HP_o {p : Nat} (hp : p < mk) : (HH b D w T pa dr np mk).2 (b + 66 + 2 * p) = some (.inr (5, [.ref (b + 66 + 2 * p + 1), .int (D (66 + 2 * p) 1), .int (D (66 + 2 * p) 2), .int (D (66 + 2 * p) 3), .int (D (66 + 2 * p) 4)])) := by
  rw [HH_atP]
  unfold cellP
  rw [if_pos (by omega), if_pos (by omega)]
theorem HP_g {p : Nat} (hp : p < mk) : (HH b D w T pa dr np mk).2 (b + 66 + 2 * p + 1) = some (.inl (0, 10, .inl (D (66 + 2 * p + 1)))) := by
  rw [show b + 66 + 2 * p + 1 = b + 66 + (2 * p + 1) by omega, HH_atP]
  unfold cellP
  rw [if_pos (by omega), if_neg (by omega)]
  rfl
theorem hkP {p : Nat} (hp : p < mk) : chk 5 (b + 66 + 2 * p) (HH b D w T pa dr np mk) = some () := ck_of (HP_o hp)
theorem hrP_0 {p : Nat} (hp : p < mk) : rdR 5 0 (b + 66 + 2 * p) (HH b D w T pa dr np mk) = some (b + 66 + 2 * p + 1) := by unfold rdR; rw [rd_of (HP_o hp)]; rfl
theorem hrP_1 {p : Nat} (hp : p < mk) : rdI 5 1 (b + 66 + 2 * p) (HH b D w T pa dr np mk) = some (D (66 + 2 * p) 1) := by unfold rdI; rw [rd_of (HP_o hp)]; rfl
theorem hwP_1 {p : Nat} (hp : p < mk) (v : Int32) : wr 5 1 (.int v) (b + 66 + 2 * p) (HH b D w T pa dr np mk) = some (HH b (up2 D (66 + 2 * p) 1 v) w T pa dr np mk) := (wr_of (HP_o hp) (Nat.le_of_ble_eq_true rfl)).trans (congrArg some (HH_setP (by
  unfold cellP
  rw [if_pos (by omega), if_pos (by omega), up2_same]
  rfl)))
theorem hrP_2 {p : Nat} (hp : p < mk) : rdI 5 2 (b + 66 + 2 * p) (HH b D w T pa dr np mk) = some (D (66 + 2 * p) 2) := by unfold rdI; rw [rd_of (HP_o hp)]; rfl
theorem hwP_2 {p : Nat} (hp : p < mk) (v : Int32) : wr 5 2 (.int v) (b + 66 + 2 * p) (HH b D w T pa dr np mk) = some (HH b (up2 D (66 + 2 * p) 2 v) w T pa dr np mk) := (wr_of (HP_o hp) (Nat.le_of_ble_eq_true rfl)).trans (congrArg some (HH_setP (by
  unfold cellP
  rw [if_pos (by omega), if_pos (by omega), up2_same]
  rfl)))
theorem hrP_3 {p : Nat} (hp : p < mk) : rdI 5 3 (b + 66 + 2 * p) (HH b D w T pa dr np mk) = some (D (66 + 2 * p) 3) := by unfold rdI; rw [rd_of (HP_o hp)]; rfl
theorem hwP_3 {p : Nat} (hp : p < mk) (v : Int32) : wr 5 3 (.int v) (b + 66 + 2 * p) (HH b D w T pa dr np mk) = some (HH b (up2 D (66 + 2 * p) 3 v) w T pa dr np mk) := (wr_of (HP_o hp) (Nat.le_of_ble_eq_true rfl)).trans (congrArg some (HH_setP (by
  unfold cellP
  rw [if_pos (by omega), if_pos (by omega), up2_same]
  rfl)))
theorem hrP_4 {p : Nat} (hp : p < mk) : rdI 5 4 (b + 66 + 2 * p) (HH b D w T pa dr np mk) = some (D (66 + 2 * p) 4) := by unfold rdI; rw [rd_of (HP_o hp)]; rfl
theorem hwP_4 {p : Nat} (hp : p < mk) (v : Int32) : wr 5 4 (.int v) (b + 66 + 2 * p) (HH b D w T pa dr np mk) = some (HH b (up2 D (66 + 2 * p) 4 v) w T pa dr np mk) := (wr_of (HP_o hp) (Nat.le_of_ble_eq_true rfl)).trans (congrArg some (HH_setP (by
  unfold cellP
  rw [if_pos (by omega), if_pos (by omega), up2_same]
  rfl)))
theorem hlP {p : Nat} (hp : p < mk) (i : Int32) : aldI 0 (b + 66 + 2 * p + 1) i (HH b D w T pa dr np mk) = if i < 0 ∨ 10 ≤ i.toNatClampNeg then none else some (D (66 + 2 * p + 1) i.toNatClampNeg) := ald_of (HP_g hp)
theorem hsP {p : Nat} (hp : p < mk) (i v : Int32) : astI (b + 66 + 2 * p + 1) i v (HH b D w T pa dr np mk) = if i < 0 ∨ 10 ≤ i.toNatClampNeg then none else some (HH b (up2 D (66 + 2 * p + 1) i.toNatClampNeg v) w T pa dr np mk) := (astI_of (HP_g hp)).trans (by
  have he : ((HH b D w T pa dr np mk).1, hup (HH b D w T pa dr np mk).2 (b + 66 + (2 * p + 1)) (.inl (0, 10, .inl (upd (D (66 + 2 * p + 1)) i.toNatClampNeg v)))) = HH b (up2 D (66 + (2 * p + 1)) i.toNatClampNeg v) w T pa dr np mk := HH_setP (by
    unfold cellP
    rw [if_pos (by omega), if_neg (by omega), up2_same]
    rfl)
  rw [show b + 66 + 2 * p + 1 = b + 66 + (2 * p + 1) by omega, he]
  rfl)
theorem hup_same {f : Nat → Option PE} {a : Nat} {e : PE} : hup f a e a = some e := if_pos rfl
theorem hup_ne {f : Nat → Option PE} {a x : Nat} {e : PE} (h : ¬ x = a) : hup f a e x = f x := if_neg h
/-- a row of ints laid anew -/
def upR (D : Nat → Nat → Int32) (o : Nat) (r : Nat → Int32) : Nat → Nat → Int32 := fun x => if x = o then r else D x
def rowP : Nat → Int32 := fun k => if k = 3 then -1 else 0
def newP (D : Nat → Nat → Int32) (mk : Nat) : Nat → Nat → Int32 := upR (upR D (66 + 2 * mk) rowP) (66 + 2 * mk + 1) (fun _ => 0)
theorem mkPiece {β : Type} (f : Nat → PH → Option β) : (nwB (.inr (5, [.null, .int 0, .int 0, .int 0, .int 0])) (HH b D w T pa dr np mk) fun a h => bn2 (fX5_init a h) fun _ h1 => f a h1) = f (b + 66 + 2 * mk) (HH b (newP D mk) w T pa dr np (mk + 1)) := by
  have key : fX5_init (b + 66 + 2 * mk) (b + 66 + 2 * mk + 1, hup (HH b D w T pa dr np mk).2 (b + 66 + 2 * mk) (.inr (5, [.null, .int 0, .int 0, .int 0, .int 0]))) = some ((), HH b (newP D mk) w T pa dr np (mk + 1)) := by
    have hne : ¬ b + 66 + 2 * mk = b + 66 + 2 * mk + 1 := by omega
    simp only [fX5_init, nwB, wr, hup, bn, if_pos, hne, if_false, List.length_cons, List.length_nil, List.set_cons_zero, List.set_cons_succ, true_and, and_true, Nat.lt_add_one, Nat.zero_lt_succ, Nat.succ_lt_succ_iff, if_true, Nat.reduceAdd, Nat.reduceLT]
    refine congrArg some (Prod.ext rfl (Prod.ext (by show b + 66 + 2 * mk + 1 + 1 = b + 66 + 2 * (mk + 1); omega) (funext fun a => ?_)))
    show _ = HF b (newP D mk) w T pa dr np (mk + 1) a
    dsimp only
    have hN : ∀ x, x ≠ 66 + 2 * mk → x ≠ 66 + 2 * mk + 1 → newP D mk x = D x := fun x h1 h2 => by unfold newP upR; rw [if_neg h2, if_neg h1]
    by_cases q : a = b + 66 + 2 * mk
    · subst q
      rw [hup_same]
      unfold HF cellP
      rw [if_neg (by omega), if_neg (by omega), if_pos (by omega), if_pos (by omega)]
      have e : newP D mk (66 + (b + 66 + 2 * mk - b - 66)) = rowP := by
        rw [show 66 + (b + 66 + 2 * mk - b - 66) = 66 + 2 * mk by omega]
        unfold newP upR
        rw [if_neg (by omega), if_pos rfl]
      rw [e, show b + 66 + (b + 66 + 2 * mk - b - 66) + 1 = b + 66 + 2 * mk + 1 by omega]
      rfl
    · by_cases q1 : a = b + 66 + 2 * mk + 1
      · subst q1
        rw [hup_ne q, hup_ne q, hup_ne q, hup_ne q, hup_ne q, hup_same]
        unfold HF cellP
        rw [if_neg (by omega), if_neg (by omega), if_pos (by omega), if_neg (by omega)]
        rw [show 66 + (b + 66 + 2 * mk + 1 - b - 66) = 66 + 2 * mk + 1 by omega]
        unfold newP upR
        rw [if_pos rfl]
      · rw [hup_ne q, hup_ne q, hup_ne q, hup_ne q, hup_ne q, hup_ne q1, hup_ne q]
        show HF b D w T pa dr np mk a = _
        unfold HF
        by_cases c1 : a < b
        · rw [if_pos c1, if_pos c1]
        · rw [if_neg c1, if_neg c1]
          by_cases c2 : a < b + 66
          · rw [if_pos c2, if_pos c2, hN _ (by omega) (by omega)]
          · rw [if_neg c2, if_neg c2]
            unfold cellP
            by_cases c3 : a - b - 66 < 2 * mk
            · rw [if_pos c3, if_pos (show a - b - 66 < 2 * (mk + 1) by omega), hN _ (by omega) (by omega)]
            · rw [if_neg c3, if_neg (show ¬ a - b - 66 < 2 * (mk + 1) by omega)]
  refine Eq.trans (b := bn2 (fX5_init (b + 66 + 2 * mk) (b + 66 + 2 * mk + 1, hup (HH b D w T pa dr np mk).2 (b + 66 + 2 * mk) (.inr (5, [.null, .int 0, .int 0, .int 0, .int 0])))) (fun _ h1 => f (b + 66 + 2 * mk) h1)) rfl ?_
  rw [key]
  rfl
theorem hsPieces {i : Int32} (hi : i.toNatClampNeg = np) (hi0 : ¬ i < 0) (hn : np < 120) (hm : np < mk) : astR 3 5 (b + 2) i (b + 66 + 2 * np) (HH b D w T pa dr np mk) = some (HH b D w T pa dr (np + 1) mk) := by
  have h1 : (HH b D w T pa dr np mk).2 (b + 2) = some (.inl (3, 120, .inr (.inr (.inr (.inr (fun i => if i < np then some (b + 66 + 2 * i) else none)))))) := HH_at (o := 2) (by decide)
  unfold astR
  rw [h1, hkP hm]
  have hq : (3 : Nat) = 3 ∧ ¬ (i < 0 ∨ 120 ≤ i.toNatClampNeg) := ⟨rfl, fun h => h.elim hi0 (fun h => by omega)⟩
  refine Eq.trans (if_pos hq) ?_
  refine congrArg some (HH_chg (o := 2) (by decide) (fun _ x h => cellR_n x h) ?_)
  show some (Sum.inl (3, 120, Sum.inr (Sum.inr (Sum.inr (Sum.inr (fun i => if i < np + 1 then some (b + 66 + 2 * i) else none)))))) = some (Sum.inl (3, 120, Sum.inr (Sum.inr (Sum.inr (Sum.inr (va_up (fun i => if i < np then some (b + 66 + 2 * i) else none) i.toNatClampNeg (some (b + 66 + 2 * np))))))))
  refine congrArg (fun f => some (Sum.inl (3, 120, Sum.inr (Sum.inr (Sum.inr (Sum.inr f)))))) (funext fun j => ?_)
  unfold va_up
  rw [hi]
  by_cases q : j = np
  · subst q
    rw [if_pos (by omega), if_pos rfl]
  · rw [if_neg q]
    dsimp only
    by_cases q2 : j < np
    · rw [if_pos q2, if_pos (by omega)]
    · rw [if_neg q2, if_neg (by omega)]
end
