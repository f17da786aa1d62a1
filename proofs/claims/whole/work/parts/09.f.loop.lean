theorem nI_sub7 {L k : Nat} (hL : L ≤ 3584) (hk : k ≤ 3584) : nI L - nI 7 < nI k ↔ L < k + 7 := by
  have e : (nI L - nI 7).toInt = (L : Int) - 7 := by
    rw [Int32.toInt_sub, nI_ti (by omega), nI_ti (by omega)]
    apply Int.bmod_eq_of_le <;> omega
  rw [lt3, e, nI_ti (by omega)]
  omega
section
variable {p : Program} {l : Launch} {e : Env} {s : State} {m : MethodId} {args : Array Value} {below : List Frame} {meth : Method} {c : Code} {G : GX} {qf : Unit × PH → State → Prop} {bs L : Nat} {xs : Nat → Int32} {g : Nat}
theorem law_loop (C : Cx p s m args meth c G code 4 R_law) (X : SX G s bs L xs) (kend : ∀ (h : PH) (k cells slots : Nat), cells ≤ 600000 → slots ≤ 7302250 → J p l e room_1 s m args below meth c G 4 qf cells slots h 1057 (lvL bs g (g + 40) k) [] (some z00)) : ∀ (n k cells slots : Nat) (D : Nat → Nat → Int32) (w : Int64) (T : Nat → Int64) (pa dr np : Nat), Inv D pa dr np → L < k + 7 * n → k ≤ L → cells + 2 * n ≤ 600000 → slots + 15 * n ≤ 7302250 → J p l e room_1 s m args below meth c G 4 qf cells slots (HH g D w T pa dr np np) 18 (lvL bs g (g + 40) k) [] (some z00) := by
  have hL := X.2.2.2
  intro n
  induction n with
  | zero => intro k cells slots D w T pa dr np hI h1 h2; omega
  | succ n ih =>
    intro k cells slots D w T pa dr np hI h1 h2 h3 h4
    refine J_iload_n (pc := 18) C dl_18 rfl 0 rfl ?_
    refine J_aload_n (pc := 19) C dl_19 rfl 3 rfl ?_
    refine J_slen (pc := 20) C X dl_20 ?_
    refine J_bipush (pc := 21) (v := nI 7) C dl_21 (by decide) ?_
    refine J_isub (pc := 23) C dl_23 ?_
    by_cases q : L < k + 7
    · rw [← if_pos (t := some z00) (e := none) ((nI_sub7 hL (by omega)).mpr q)]
      exact J_icmp_gt (pc := 24) (tgt := 1057) C dl_24 (by decide) (kend _ k _ _ (by omega) (by omega)) (J_none C)
    · rw [← if_neg (t := none) (e := some z00) (fun z => q ((nI_sub7 hL (by omega)).mp z))]
      refine J_icmp_gt (pc := 24) (tgt := 1057) C dl_24 (by decide) (J_none C) ?_
      have hk : k + 7 ≤ L := by omega
      have kk : ∀ (h2 : PH) (c2 s2 : Nat), c2 ≤ cells + 2 → s2 ≤ slots + 15 → J p l e room_1 s m args below meth c G 4 qf c2 s2 h2 1051 (lvL bs g (g + 40) k) [] (KO g h2) := by
        intro h2 c2 s2 hc2 hs2
        have b1 : ∀ (D : Nat → Nat → Int32) (w : Int64) (T : Nat → Int64) (pa dr np : Nat), Inv D pa dr np → J p l e room_1 s m args below meth c G 4 qf c2 s2 (HH g D w T pa dr np np) 1051 (lvL bs g (g + 40) k) [] (some z00) := by
          intro D w T pa dr np hI
          refine J_iinc (pc := 1051) (v := nI (k + 7)) C dl_1051 0 rfl (nI_add k 7) (by decide) rfl ?_
          exact J_goto (pc := 1054) (tgt := 18) C dl_1054 (by decide) (ih (k + 7) c2 s2 D w T pa dr np hI (by omega) hk (by omega) (by omega))
        intro z hz H locs ls hh hS hl
        obtain ⟨⟨D1, w1, T1, pa1, dr1, np1, e1, hI1⟩, e2⟩ := KO_inv hz
        subst e1
        subst e2
        exact b1 D1 w1 T1 pa1 dr1 np1 hI1 z00 rfl H locs ls hh hS hl
      have kk0 : J p l e room_1 s m args below meth c G 4 qf cells slots (HH g D w T pa dr np np) 1051 (lvL bs g (g + 40) k) [] (some z00) := by
        rw [← KO_ok (g := g) ⟨D, w, T, pa, dr, np, rfl, hI⟩]
        exact kk _ _ _ (by omega) (by omega)
      have hc : cells + 2 ≤ 600000 := by omega
      have hs : slots + 15 ≤ 7302250 := by omega
      refine J_aload_n (pc := 27) C dl_27 rfl 3 rfl ?_
      refine J_iload_n (pc := 28) C dl_28 rfl 0 rfl ?_
      refine J_sld (pc := 29) C X (by omega) dl_29 ?_
      refine J_bipush (pc := 30) (v := 31) C dl_30 (by decide) ?_
      refine J_iand (pc := 32) C dl_32 ?_
      generalize xs k &&& 31 = x
      by_cases q0 : x = 0
      · rw [← if_pos (t := some z00) (e := none) q0]
        exact J_tableIn (pc := 33) (off := 123) (tgt := 156) C 0 dl_33 (by decide) (by decide) rfl (by decide) (go_bar C X hk hc hs hI kk) (J_none C)
      by_cases q1 : x = 1
      · rw [← if_pos (t := some z00) (e := none) q1]
        exact J_tableIn (pc := 33) (off := 166) (tgt := 199) C 1 dl_33 (by decide) (by decide) rfl (by decide) (go_cut C X hk hc hs hI kk) (J_none C)
      by_cases q2 : x = 2
      · rw [← if_pos (t := some z00) (e := none) q2]
        exact J_tableIn (pc := 33) (off := 199) (tgt := 232) C 2 dl_33 (by decide) (by decide) rfl (by decide) (go_melt C X hk hc hs hI kk) (J_none C)
      by_cases q3 : x = 3
      · rw [← if_pos (t := some z00) (e := none) q3]
        exact J_tableIn (pc := 33) (off := 232) (tgt := 265) C 3 dl_33 (by decide) (by decide) rfl (by decide) (go_weight C X hk hc hs hI kk) (J_none C)
      by_cases q4 : x = 4
      · rw [← if_pos (t := some z00) (e := none) q4]
        exact J_tableIn (pc := 33) (off := 255) (tgt := 288) C 4 dl_33 (by decide) (by decide) rfl (by decide) (go_from C X hk hc hs hI kk) (J_none C)
      by_cases q5 : x = 5
      · rw [← if_pos (t := some z00) (e := none) q5]
        exact J_tableIn (pc := 33) (off := 288) (tgt := 321) C 5 dl_33 (by decide) (by decide) rfl (by decide) (go_part C X hk hc hs hI kk) (J_none C)
      by_cases q6 : x = 6
      · rw [← if_pos (t := some z00) (e := none) q6]
        exact J_tableIn (pc := 33) (off := 322) (tgt := 355) C 6 dl_33 (by decide) (by decide) rfl (by decide) (go_feed C X hk hc hs hI kk) (J_none C)
      by_cases q7 : x = 7
      · rw [← if_pos (t := some z00) (e := none) q7]
        exact J_tableIn (pc := 33) (off := 385) (tgt := 418) C 7 dl_33 (by decide) (by decide) rfl (by decide) (go_end C X hk hc hs hI kk) (J_none C)
      by_cases q8 : x = 8
      · rw [← if_pos (t := some z00) (e := none) q8]
        exact J_tableIn (pc := 33) (off := 408) (tgt := 441) C 8 dl_33 (by decide) (by decide) rfl (by decide) (go_colours C X hk hc hs hI kk) (J_none C)
      by_cases q9 : x = 9
      · rw [← if_pos (t := some z00) (e := none) q9]
        exact J_tableIn (pc := 33) (off := 421) (tgt := 454) C 9 dl_33 (by decide) (by decide) rfl (by decide) (go_fault C X hk hc hs hI kk) (J_none C)
      by_cases q10 : x = 10
      · rw [← if_pos (t := some z00) (e := none) q10]
        exact J_tableIn (pc := 33) (off := 434) (tgt := 467) C 10 dl_33 (by decide) (by decide) rfl (by decide) (go_colour C X hk hc hs hI kk) (J_none C)
      by_cases q11 : x = 11
      · rw [← if_pos (t := some z00) (e := none) q11]
        exact J_tableIn (pc := 33) (off := 457) (tgt := 490) C 11 dl_33 (by decide) (by decide) rfl (by decide) (go_skin C X hk hc hs hI kk) (J_none C)
      by_cases q12 : x = 12
      · rw [← if_pos (t := some z00) (e := none) q12]
        exact J_tableIn (pc := 33) (off := 480) (tgt := 513) C 12 dl_33 (by decide) (by decide) rfl (by decide) (go_dry C X hk hc hs hI kk) (J_none C)
      by_cases q13 : x = 13
      · rw [← if_pos (t := some z00) (e := none) q13]
        exact J_tableIn (pc := 33) (off := 513) (tgt := 546) C 13 dl_33 (by decide) (by decide) rfl (by decide) (go_age C X hk hc hs hI kk) (J_none C)
      by_cases q14 : x = 14
      · rw [← if_pos (t := some z00) (e := none) q14]
        exact J_tableIn (pc := 33) (off := 536) (tgt := 569) C 14 dl_33 (by decide) (by decide) rfl (by decide) (go_pack C X hk hc hs hI kk) (J_none C)
      by_cases q15 : x = 15
      · rw [← if_pos (t := some z00) (e := none) q15]
        exact J_tableIn (pc := 33) (off := 611) (tgt := 644) C 15 dl_33 (by decide) (by decide) rfl (by decide) (go_beat C X hk hc hs hI kk) (J_none C)
      by_cases q16 : x = 16
      · rw [← if_pos (t := some z00) (e := none) q16]
        exact J_tableIn (pc := 33) (off := 644) (tgt := 677) C 16 dl_33 (by decide) (by decide) rfl (by decide) (go_leaf C X hk hc hs hI kk) (J_none C)
      by_cases q17 : x = 17
      · rw [← if_pos (t := some z00) (e := none) q17]
        exact J_tableIn (pc := 33) (off := 677) (tgt := 710) C 17 dl_33 (by decide) (by decide) rfl (by decide) (go_flatter C X hk hc hs hI kk) (J_none C)
      by_cases q18 : x = 18
      · rw [← if_pos (t := some z00) (e := none) q18]
        exact J_tableIn (pc := 33) (off := 710) (tgt := 743) C 18 dl_33 (by decide) (by decide) rfl (by decide) (go_bind C X hk hc hs hI kk) (J_none C)
      by_cases q19 : x = 19
      · rw [← if_pos (t := some z00) (e := none) q19]
        exact J_tableIn (pc := 33) (off := 733) (tgt := 766) C 19 dl_33 (by decide) (by decide) rfl (by decide) (go_book C X hk hc hs hI kk) (J_none C)
      by_cases q20 : x = 20
      · rw [← if_pos (t := some z00) (e := none) q20]
        exact J_tableIn (pc := 33) (off := 756) (tgt := 789) C 20 dl_33 (by decide) (by decide) rfl (by decide) (go_surface C X hk hc hs hI kk) (J_none C)
      by_cases q21 : x = 21
      · rw [← if_pos (t := some z00) (e := none) q21]
        exact J_tableIn (pc := 33) (off := 810) (tgt := 843) C 21 dl_33 (by decide) (by decide) rfl (by decide) (go_pass C X hk hc hs hI kk) (J_none C)
      by_cases q22 : x = 22
      · rw [← if_pos (t := some z00) (e := none) q22]
        exact J_tableIn (pc := 33) (off := 863) (tgt := 896) C 22 dl_33 (by decide) (by decide) rfl (by decide) (go_held C X hk hc hs hI kk) (J_none C)
      by_cases q23 : x = 23
      · rw [← if_pos (t := some z00) (e := none) q23]
        exact J_tableIn (pc := 33) (off := 906) (tgt := 939) C 23 dl_33 (by decide) (by decide) rfl (by decide) (go_find C X hk hc hs hI kk) (J_none C)
      by_cases q24 : x = 24
      · rw [← if_pos (t := some z00) (e := none) q24]
        exact J_tableIn (pc := 33) (off := 949) (tgt := 982) C 24 dl_33 (by decide) (by decide) rfl (by decide) (go_missing C X hk hc hs hI kk) (J_none C)
      by_cases q25 : x = 25
      · rw [← if_pos (t := some z00) (e := none) q25]
        exact J_tableIn (pc := 33) (off := 982) (tgt := 1015) C 25 dl_33 (by decide) (by decide) rfl (by decide) (go_count C X hk hc hs hI kk) (J_none C)
      by_cases q26 : x = 26
      · rw [← if_pos (t := some z00) (e := none) q26]
        exact J_tableIn (pc := 33) (off := 1005) (tgt := 1038) C 26 dl_33 (by decide) (by decide) rfl (by decide) (go_status C X hk hc hs hI kk) (J_none C)
      rw [eq3] at q0
      rw [eq3] at q1
      rw [eq3] at q2
      rw [eq3] at q3
      rw [eq3] at q4
      rw [eq3] at q5
      rw [eq3] at q6
      rw [eq3] at q7
      rw [eq3] at q8
      rw [eq3] at q9
      rw [eq3] at q10
      rw [eq3] at q11
      rw [eq3] at q12
      rw [eq3] at q13
      rw [eq3] at q14
      rw [eq3] at q15
      rw [eq3] at q16
      rw [eq3] at q17
      rw [eq3] at q18
      rw [eq3] at q19
      rw [eq3] at q20
      rw [eq3] at q21
      rw [eq3] at q22
      rw [eq3] at q23
      rw [eq3] at q24
      rw [eq3] at q25
      rw [eq3] at q26
      have ho : x.toInt < 0 ∨ 26 < x.toInt := by
        have e0 : (0 : Int32).toInt = 0 := rfl; have e1 : (1 : Int32).toInt = 1 := rfl; have e2 : (2 : Int32).toInt = 2 := rfl; have e3 : (3 : Int32).toInt = 3 := rfl; have e4 : (4 : Int32).toInt = 4 := rfl; have e5 : (5 : Int32).toInt = 5 := rfl; have e6 : (6 : Int32).toInt = 6 := rfl; have e7 : (7 : Int32).toInt = 7 := rfl; have e8 : (8 : Int32).toInt = 8 := rfl; have e9 : (9 : Int32).toInt = 9 := rfl; have e10 : (10 : Int32).toInt = 10 := rfl; have e11 : (11 : Int32).toInt = 11 := rfl; have e12 : (12 : Int32).toInt = 12 := rfl; have e13 : (13 : Int32).toInt = 13 := rfl; have e14 : (14 : Int32).toInt = 14 := rfl; have e15 : (15 : Int32).toInt = 15 := rfl; have e16 : (16 : Int32).toInt = 16 := rfl; have e17 : (17 : Int32).toInt = 17 := rfl; have e18 : (18 : Int32).toInt = 18 := rfl; have e19 : (19 : Int32).toInt = 19 := rfl; have e20 : (20 : Int32).toInt = 20 := rfl; have e21 : (21 : Int32).toInt = 21 := rfl; have e22 : (22 : Int32).toInt = 22 := rfl; have e23 : (23 : Int32).toInt = 23 := rfl; have e24 : (24 : Int32).toInt = 24 := rfl; have e25 : (25 : Int32).toInt = 25 := rfl; have e26 : (26 : Int32).toInt = 26 := rfl
        omega
      rw [← if_pos (t := some z00) (e := none) ho]
      exact J_tableOut (pc := 33) (tgt := 1051) C dl_33 (by decide) kk0
end
