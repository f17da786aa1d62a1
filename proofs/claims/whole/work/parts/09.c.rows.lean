theorem nlL_7 : NL R_law 7 9 10 [.null, .null, .null, .null, .null, .null, .null, .null, .int 0, .int 0] := ⟨_, _, tyX9, rfl, inC9, tyX9_ok, by decide +kernel, gw1 (List.mem_of_getElem? (i := 18) (by decide +kernel)) rfl, gw1 (List.mem_of_getElem? (i := 19) (by decide +kernel)) rfl, gw1 (List.mem_of_getElem? (i := 1) (by decide +kernel)) rfl⟩
theorem nlL_10 : NL R_law 10 10 44 [.int 0, .int 0, .int 0, .null, .int 0, .null, .null, .null, .null, .int 0, .int 0, .null, .null, .int 0, .int 0, .null, .null, .null, .null, .null, .int 0, .int 0, .int 0, .int 0, .long 0, .int 0, .int 0, .int 0, .null, .null, .null, .null, .null, .null, .int 0, .int 0, .null, .null, .null, .null, .int 0, .null, .null, .null] := ⟨_, _, tyX10, rfl, inC10, tyX10_ok, by decide +kernel, gw3 (List.mem_of_getElem? (i := 215) (by decide +kernel)) rfl, gw3 (List.mem_of_getElem? (i := 216) (by decide +kernel)) rfl, gw1 (List.mem_of_getElem? (i := 10) (by decide +kernel)) rfl⟩
theorem mqL_9 : Cond.methodLink R_law 9 yX9_init ∈ GW := gw1 (List.mem_of_getElem? (i := 20) (by decide +kernel)) rfl
theorem mqL_12 : Cond.methodLink R_law 12 yX10_init ∈ GW := gw3 (List.mem_of_getElem? (i := 217) (by decide +kernel)) rfl
theorem mqL_13 : Cond.methodLink R_law 13 yX9_bar ∈ GW := gw2 (List.mem_of_getElem? (i := 29) (by decide +kernel)) rfl
theorem mqL_17 : Cond.methodLink R_law 17 yX10_bar ∈ GW := gw4 (List.mem_of_getElem? (i := 114) (by decide +kernel)) rfl
theorem mqL_18 : Cond.methodLink R_law 18 yX9_cut ∈ GW := gw2 (List.mem_of_getElem? (i := 80) (by decide +kernel)) rfl
theorem mqL_22 : Cond.methodLink R_law 22 yX10_cut ∈ GW := gw4 (List.mem_of_getElem? (i := 131) (by decide +kernel)) rfl
theorem mqL_23 : Cond.methodLink R_law 23 yX9_melt ∈ GW := gw2 (List.mem_of_getElem? (i := 111) (by decide +kernel)) rfl
theorem mqL_26 : Cond.methodLink R_law 26 yX10_melt ∈ GW := gw4 (List.mem_of_getElem? (i := 147) (by decide +kernel)) rfl
theorem mqL_27 : Cond.methodLink R_law 27 yX9_weight ∈ GW := gw2 (List.mem_of_getElem? (i := 119) (by decide +kernel)) rfl
theorem mqL_31 : Cond.methodLink R_law 31 yX10_weight ∈ GW := gw4 (List.mem_of_getElem? (i := 151) (by decide +kernel)) rfl
theorem mqL_32 : Cond.methodLink R_law 32 yX9_from ∈ GW := gw2 (List.mem_of_getElem? (i := 124) (by decide +kernel)) rfl
theorem mqL_35 : Cond.methodLink R_law 35 yX10_from ∈ GW := gw4 (List.mem_of_getElem? (i := 155) (by decide +kernel)) rfl
theorem mqL_36 : Cond.methodLink R_law 36 yX9_part ∈ GW := gw2 (List.mem_of_getElem? (i := 128) (by decide +kernel)) rfl
theorem mqL_40 : Cond.methodLink R_law 40 yX10_part ∈ GW := gw4 (List.mem_of_getElem? (i := 159) (by decide +kernel)) rfl
theorem mqL_41 : Cond.methodLink R_law 41 yX9_feed ∈ GW := gw2 (List.mem_of_getElem? (i := 138) (by decide +kernel)) rfl
theorem mqL_45 : Cond.methodLink R_law 45 yX10_feed ∈ GW := gw4 (List.mem_of_getElem? (i := 169) (by decide +kernel)) rfl
theorem mqL_46 : Cond.methodLink R_law 46 yX9_end ∈ GW := gw2 (List.mem_of_getElem? (i := 146) (by decide +kernel)) rfl
theorem mqL_49 : Cond.methodLink R_law 49 yX10_end ∈ GW := gw4 (List.mem_of_getElem? (i := 177) (by decide +kernel)) rfl
theorem mqL_50 : Cond.methodLink R_law 50 yX9_colours ∈ GW := gw2 (List.mem_of_getElem? (i := 150) (by decide +kernel)) rfl
theorem mqL_54 : Cond.methodLink R_law 54 yX10_colours ∈ GW := gw4 (List.mem_of_getElem? (i := 181) (by decide +kernel)) rfl
theorem mqL_55 : Cond.methodLink R_law 55 yX9_fault ∈ GW := gw3 (List.mem_of_getElem? (i := 32) (by decide +kernel)) rfl
theorem mqL_58 : Cond.methodLink R_law 58 yX10_fault ∈ GW := gw4 (List.mem_of_getElem? (i := 227) (by decide +kernel)) rfl
theorem mqL_59 : Cond.methodLink R_law 59 yX9_colour ∈ GW := gw3 (List.mem_of_getElem? (i := 36) (by decide +kernel)) rfl
theorem mqL_62 : Cond.methodLink R_law 62 yX10_colour ∈ GW := gw4 (List.mem_of_getElem? (i := 231) (by decide +kernel)) rfl
theorem mqL_63 : Cond.methodLink R_law 63 yX9_skin ∈ GW := gw3 (List.mem_of_getElem? (i := 53) (by decide +kernel)) rfl
theorem mqL_66 : Cond.methodLink R_law 66 yX10_skin ∈ GW := gw4 (List.mem_of_getElem? (i := 235) (by decide +kernel)) rfl
theorem mqL_67 : Cond.methodLink R_law 67 yX9_dry ∈ GW := gw3 (List.mem_of_getElem? (i := 62) (by decide +kernel)) rfl
theorem mqL_70 : Cond.methodLink R_law 70 yX10_dry ∈ GW := gw5 (List.mem_of_getElem? (i := 0) (by decide +kernel)) rfl
theorem mqL_71 : Cond.methodLink R_law 71 yX9_age ∈ GW := gw3 (List.mem_of_getElem? (i := 74) (by decide +kernel)) rfl
theorem mqL_74 : Cond.methodLink R_law 74 yX10_age ∈ GW := gw5 (List.mem_of_getElem? (i := 8) (by decide +kernel)) rfl
theorem mqL_75 : Cond.methodLink R_law 75 yX9_pack ∈ GW := gw3 (List.mem_of_getElem? (i := 79) (by decide +kernel)) rfl
theorem mqL_79 : Cond.methodLink R_law 79 yX10_pack ∈ GW := gw5 (List.mem_of_getElem? (i := 12) (by decide +kernel)) rfl
theorem mqL_80 : Cond.methodLink R_law 80 yX9_beat ∈ GW := gw3 (List.mem_of_getElem? (i := 90) (by decide +kernel)) rfl
theorem mqL_83 : Cond.methodLink R_law 83 yX10_beat ∈ GW := gw5 (List.mem_of_getElem? (i := 17) (by decide +kernel)) rfl
theorem mqL_84 : Cond.methodLink R_law 84 yX9_leaf ∈ GW := gw3 (List.mem_of_getElem? (i := 115) (by decide +kernel)) rfl
theorem mqL_87 : Cond.methodLink R_law 87 yX10_leaf ∈ GW := gw5 (List.mem_of_getElem? (i := 25) (by decide +kernel)) rfl
theorem mqL_88 : Cond.methodLink R_law 88 yX9_flatter ∈ GW := gw3 (List.mem_of_getElem? (i := 125) (by decide +kernel)) rfl
theorem mqL_91 : Cond.methodLink R_law 91 yX10_flatter ∈ GW := gw5 (List.mem_of_getElem? (i := 30) (by decide +kernel)) rfl
theorem mqL_92 : Cond.methodLink R_law 92 yX9_bind ∈ GW := gw3 (List.mem_of_getElem? (i := 133) (by decide +kernel)) rfl
theorem mqL_95 : Cond.methodLink R_law 95 yX10_bind ∈ GW := gw5 (List.mem_of_getElem? (i := 34) (by decide +kernel)) rfl
theorem mqL_96 : Cond.methodLink R_law 96 yX9_book ∈ GW := gw3 (List.mem_of_getElem? (i := 142) (by decide +kernel)) rfl
theorem mqL_99 : Cond.methodLink R_law 99 yX10_book ∈ GW := gw5 (List.mem_of_getElem? (i := 39) (by decide +kernel)) rfl
theorem mqL_100 : Cond.methodLink R_law 100 yX9_surface ∈ GW := gw3 (List.mem_of_getElem? (i := 146) (by decide +kernel)) rfl
theorem mqL_104 : Cond.methodLink R_law 104 yX10_surface ∈ GW := gw5 (List.mem_of_getElem? (i := 43) (by decide +kernel)) rfl
theorem mqL_105 : Cond.methodLink R_law 105 yX9_pass ∈ GW := gw3 (List.mem_of_getElem? (i := 153) (by decide +kernel)) rfl
theorem mqL_109 : Cond.methodLink R_law 109 yX10_pass ∈ GW := gw5 (List.mem_of_getElem? (i := 51) (by decide +kernel)) rfl
theorem mqL_110 : Cond.methodLink R_law 110 yX9_held ∈ GW := gw3 (List.mem_of_getElem? (i := 167) (by decide +kernel)) rfl
theorem mqL_113 : Cond.methodLink R_law 113 yX10_held ∈ GW := gw5 (List.mem_of_getElem? (i := 60) (by decide +kernel)) rfl
theorem mqL_114 : Cond.methodLink R_law 114 yX9_find ∈ GW := gw3 (List.mem_of_getElem? (i := 181) (by decide +kernel)) rfl
theorem mqL_117 : Cond.methodLink R_law 117 yX10_find ∈ GW := gw5 (List.mem_of_getElem? (i := 69) (by decide +kernel)) rfl
theorem mqL_118 : Cond.methodLink R_law 118 yX9_missing ∈ GW := gw3 (List.mem_of_getElem? (i := 190) (by decide +kernel)) rfl
theorem mqL_121 : Cond.methodLink R_law 121 yX10_missing ∈ GW := gw5 (List.mem_of_getElem? (i := 74) (by decide +kernel)) rfl
theorem mqL_122 : Cond.methodLink R_law 122 yX9_count ∈ GW := gw3 (List.mem_of_getElem? (i := 199) (by decide +kernel)) rfl
theorem mqL_125 : Cond.methodLink R_law 125 yX10_count ∈ GW := gw5 (List.mem_of_getElem? (i := 78) (by decide +kernel)) rfl
theorem mqL_126 : Cond.methodLink R_law 126 yX9_status ∈ GW := gw3 (List.mem_of_getElem? (i := 211) (by decide +kernel)) rfl
theorem mqL_129 : Cond.methodLink R_law 129 yX10_status ∈ GW := gw5 (List.mem_of_getElem? (i := 82) (by decide +kernel)) rfl
/-- the script lies below all that is ours -/
def SX (G : GX) (s : State) (bs L : Nat) (xs : Nat → Int32) : Prop := va_X bs L xs s s.heap ∧ bs < s.heap.size ∧ ¬ gA G bs ∧ L ≤ 3584
abbrev lvL (bs a1 a2 k : Nat) : List (Nat × Value) := [(3, .int (nI k)), (2, .ref a2), (1, .ref a1), (0, .ref bs)]
section
variable {p : Program} {l : Launch} {e : Env} {s : State} {m : MethodId} {args : Array Value} {below : List Frame} {meth : Method} {c : Code} {G : GX} {qf : Unit × PH → State → Prop} {cells slots : Nat} {h : PH} {bs L : Nat} {xs : Nat → Int32} {a1 a2 k : Nat}
theorem J_sld (C : Cx p s m args meth c G code 4 R_law) (X : SX G s bs L xs) {pc j : Nat} {lv : List (Nat × Value)} {st : List Value} {bb : Option (Unit × PH)} (hj : j < L) (hd : decode code pc = .ok (.iaload, 1)) (kk : J p l e room_1 s m args below meth c G 4 qf cells slots h (pc + 1) lv (.int (xs j) :: st) bb) : J p l e room_1 s m args below meth c G 4 qf cells slots h pc lv (.int (nI j) :: .ref bs :: st) bb := fun z hz H locs ls hh hS hl => by
  have hL := X.2.2.2
  refine va_sld C.1 C.2.1 X.1 X.2.1 X.2.2.1 hS (vp_in_nI hj (by omega)) hd ?_
  rw [nI_clamp (by omega)]
  exact kk z hz H locs ls hh hS hl
theorem J_slen (C : Cx p s m args meth c G code 4 R_law) (X : SX G s bs L xs) {pc : Nat} {lv : List (Nat × Value)} {st : List Value} {bb : Option (Unit × PH)} (hd : decode code pc = .ok (.arraylength, 1)) (kk : J p l e room_1 s m args below meth c G 4 qf cells slots h (pc + 1) lv (.int (nI L) :: st) bb) : J p l e room_1 s m args below meth c G 4 qf cells slots h pc lv (.ref bs :: st) bb := fun z hz H locs ls hh hS hl => va_slen C.1 C.2.1 X.1 X.2.1 X.2.2.1 hS hd (kk z hz H locs ls hh hS hl)
theorem J_argC (C : Cx p s m args meth c G code 4 R_law) (X : SX G s bs L xs) (hk : k + 7 ≤ L) {pc : Nat} {st : List Value} {bb : Option (Unit × PH)} (j : Nat) {n : Int} (hj : j < 7) (hn : Int32.ofInt n = nI j) (D : ArgC pc n) (kk : J p l e room_1 s m args below meth c G 4 qf cells slots h (pc + 5) (lvL bs a1 a2 k) (.int (xs (k + j)) :: st) bb) : J p l e room_1 s m args below meth c G 4 qf cells slots h pc (lvL bs a1 a2 k) st bb := by
  obtain ⟨d1, d2, d3, d4, d5⟩ := D
  refine J_aload_n C d1 rfl 3 rfl ?_
  refine J_iload_n C d2 rfl 0 rfl ?_
  refine J_iconst C d3 hn ?_
  refine J_iadd C d4 ?_
  rw [nI_add]
  exact J_sld C X (by omega) d5 kk
theorem J_argB (C : Cx p s m args meth c G code 4 R_law) (X : SX G s bs L xs) (hk : k + 7 ≤ L) {pc : Nat} {st : List Value} {bb : Option (Unit × PH)} (j : Nat) {n : Int} (hj : j < 7) (hn : (Int8.ofInt n).toInt32 = nI j) (D : ArgB pc n) (kk : J p l e room_1 s m args below meth c G 4 qf cells slots h (pc + 6) (lvL bs a1 a2 k) (.int (xs (k + j)) :: st) bb) : J p l e room_1 s m args below meth c G 4 qf cells slots h pc (lvL bs a1 a2 k) st bb := by
  obtain ⟨d1, d2, d3, d4, d5⟩ := D
  refine J_aload_n C d1 rfl 3 rfl ?_
  refine J_iload_n C d2 rfl 0 rfl ?_
  refine J_bipush C d3 hn ?_
  refine J_iadd C d4 ?_
  rw [nI_add]
  exact J_sld C X (by omega) d5 kk
end
