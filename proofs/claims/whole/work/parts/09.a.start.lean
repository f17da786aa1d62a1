/-! THE CLAIM OUT OF ONE WALK OF THE LAW'S BODY. Your part is whole_start (and what it stands on); all else here is the same for every law, but numbers. -/
def R_law : String := "GoldLeavesLaw"
def lw_P (b : Addr) (xs : List Int32) (args : Array Value) (s : State) : Prop := args = #[.ref b] ∧ s.IntsAt b xs ∧ xs.length ≤ 3584 ∧ (Jvm.Cond.and given_1 narrow_1).before args s = true
def lw_Q (_ : Array Value) (s : State) (o : Outcome) (t : State) : Prop := o = .returned (some (.int 1)) ∧ Framed s o t [] 600000 7302250
def lw_Z (below : List Frame) (a : Array Value) (s : State) : State → Prop := fun t => ∃ o, t.status = .running ∧ Ended t below o ∧ lw_Q a s o t
/-- the law's own end, with 1 on the stack, nothing written that was there before, its room as the claim has it -/
theorem lw_ret {p : Program} {l : Launch} {e : Env} {s : State} {m : MethodId} {below : List Frame} {meth : Method} {c : Code} {b : Nat} (hx : p.tables.exec = Jvm.exec) (hb : c.code = code) (hr : meth.sig.returnType = ret) (hlocks : meth.locks = false) {pc : Nat} {H : Heap} {ls : Array Slot} (hdg : decode code pc = .ok (.ireturn, 1)) : W p l e room_1 s m #[Value.ref b] below meth c H [] 600000 7302250 (lw_Z below #[Value.ref b] s) (F0 m pc ls [.int 1]) := by
  intro T hT X
  obtain ⟨fs, hret, hrun, hended, hW, hframe⟩ := X.leave (v := some (.int 1)) (hlocks := hlocks) (fun h => by rw [hr] at h; cases h)
  have hmeth' : T.vm.method? m = some meth := X.method'
  refine ⟨T.setFrames fs, ?_, .returned (some (.int 1)), hrun, hended, rfl, ⟨_, rfl⟩, hW, hframe⟩
  jvm_step X.here [X.here.top, hx, hb, hdg, hmeth', hr, ret, narrow_b1]
  (try refine ⟨rfl, ?_⟩); (try refine ⟨rfl, ?_⟩)
  first | (intro acts; rw [hret _ acts rfl rfl rfl]) | rw [hret _ _ rfl rfl rfl]
  exact Steps.refl _
/-- what holds at the law's entry: the machine, the code, the tables' words (any of lw_tbl by 'hts w (by decide +kernel)'), the script of L ints xs at the cell b, what the Statement gives of the start (any of its parts by flat_of_before) -/
def lw_At (p : Program) (s : State) (m : MethodId) (meth : Method) (c : Code) (b L : Nat) (xs : Nat → Int32) : Prop :=
  p.tables.exec = Jvm.exec ∧ c.code = code ∧ meth.sig.returnType = ret ∧ c.maxLocals = 4 ∧ s.vm.findClass R_law = some m.cls ∧ (∀ w ∈ lw_tbl, w.before #[Value.ref b] s = true) ∧ va_X b L xs s s.heap ∧ b < s.heap.size ∧ meth.locks = false ∧ (Jvm.Cond.and given_1 narrow_1).before #[Value.ref b] s = true

theorem tb1 {w : Cond} (h : w ∈ tables_1_1) : w ∈ lw_tbl := List.mem_append_right _ (show w ∈ tables_1_1 ++ (tables_1_2 ++ (tables_1_3 ++ (tables_1_4 ++ tables_1_5))) from List.mem_append_left _ h)
theorem tb2 {w : Cond} (h : w ∈ tables_1_2) : w ∈ lw_tbl := List.mem_append_right _ (show w ∈ tables_1_1 ++ (tables_1_2 ++ (tables_1_3 ++ (tables_1_4 ++ tables_1_5))) from List.mem_append_right _ (List.mem_append_left _ h))
theorem tb3 {w : Cond} (h : w ∈ tables_1_3) : w ∈ lw_tbl := List.mem_append_right _ (show w ∈ tables_1_1 ++ (tables_1_2 ++ (tables_1_3 ++ (tables_1_4 ++ tables_1_5))) from List.mem_append_right _ (List.mem_append_right _ (List.mem_append_left _ h)))
theorem tb4 {w : Cond} (h : w ∈ tables_1_4) : w ∈ lw_tbl := List.mem_append_right _ (show w ∈ tables_1_1 ++ (tables_1_2 ++ (tables_1_3 ++ (tables_1_4 ++ tables_1_5))) from List.mem_append_right _ (List.mem_append_right _ (List.mem_append_right _ (List.mem_append_left _ h))))
theorem tb5 {w : Cond} (h : w ∈ tables_1_5) : w ∈ lw_tbl := List.mem_append_right _ (show w ∈ tables_1_1 ++ (tables_1_2 ++ (tables_1_3 ++ (tables_1_4 ++ tables_1_5))) from List.mem_append_right _ (List.mem_append_right _ (List.mem_append_right _ (List.mem_append_right _ (h)))))
theorem nw_start {s : State} {args : Array Value} (hts : ∀ w ∈ lw_tbl, w.before args s = true) : ∀ q ∈ NW, va_Nw (.methodLinkNest q.1 q.2.1 q.2.2.1 q.2.2.2) s :=
  List.forall_mem_cons.mpr ⟨va_Nw.of rfl (hts _ (tb1 (List.mem_of_getElem? (i := 28) (by decide +kernel)))), List.forall_mem_cons.mpr ⟨va_Nw.of rfl (hts _ (tb1 (List.mem_of_getElem? (i := 59) (by decide +kernel)))), List.forall_mem_cons.mpr ⟨va_Nw.of rfl (hts _ (tb1 (List.mem_of_getElem? (i := 77) (by decide +kernel)))), List.forall_mem_cons.mpr ⟨va_Nw.of rfl (hts _ (tb1 (List.mem_of_getElem? (i := 83) (by decide +kernel)))), List.forall_mem_cons.mpr ⟨va_Nw.of rfl (hts _ (tb1 (List.mem_of_getElem? (i := 121) (by decide +kernel)))), List.forall_mem_cons.mpr ⟨va_Nw.of rfl (hts _ (tb1 (List.mem_of_getElem? (i := 128) (by decide +kernel)))), List.forall_mem_cons.mpr ⟨va_Nw.of rfl (hts _ (tb1 (List.mem_of_getElem? (i := 179) (by decide +kernel)))), List.forall_mem_cons.mpr ⟨va_Nw.of rfl (hts _ (tb1 (List.mem_of_getElem? (i := 213) (by decide +kernel)))), List.forall_mem_cons.mpr ⟨va_Nw.of rfl (hts _ (tb2 (List.mem_of_getElem? (i := 38) (by decide +kernel)))), List.forall_mem_cons.mpr ⟨va_Nw.of rfl (hts _ (tb2 (List.mem_of_getElem? (i := 42) (by decide +kernel)))), List.forall_mem_cons.mpr ⟨va_Nw.of rfl (hts _ (tb2 (List.mem_of_getElem? (i := 173) (by decide +kernel)))), List.forall_mem_cons.mpr ⟨va_Nw.of rfl (hts _ (tb3 (List.mem_of_getElem? (i := 61) (by decide +kernel)))), List.forall_mem_cons.mpr ⟨va_Nw.of rfl (hts _ (tb3 (List.mem_of_getElem? (i := 123) (by decide +kernel)))), List.forall_mem_cons.mpr ⟨va_Nw.of rfl (hts _ (tb3 (List.mem_of_getElem? (i := 161) (by decide +kernel)))), List.forall_mem_cons.mpr ⟨va_Nw.of rfl (hts _ (tb3 (List.mem_of_getElem? (i := 164) (by decide +kernel)))), fun _ h => absurd h List.not_mem_nil⟩⟩⟩⟩⟩⟩⟩⟩⟩⟩⟩⟩⟩⟩⟩
theorem cls_start {s : State} {args : Array Value} (hg : ∀ w ∈ GW, w.before args s = true) : ∀ c : Nat, ∃ q : ClassId × (Nat → Nat), ∀ r, vwCl[c]? = some r → u_Kn s r.1 r.2.1 r.2.2 q.1 q.2
  | 0 => by
    obtain ⟨cC, iS, h⟩ := u_known (C := RX0) (T := TX0) (N := 3) (n := 3) hg inC0 (hg _ (gw1 (List.mem_of_getElem? (i := 58) (by decide +kernel)) rfl))
    exact ⟨(cC, iS), fun r hr => by cases hr; exact h⟩
  | 1 => by
    obtain ⟨cC, iS, h⟩ := u_known (C := RX1) (T := TX1) (N := 3) (n := 3) hg inC1 (hg _ (gw1 (List.mem_of_getElem? (i := 76) (by decide +kernel)) rfl))
    exact ⟨(cC, iS), fun r hr => by cases hr; exact h⟩
  | 2 => by
    obtain ⟨cC, iS, h⟩ := u_known (C := RX2) (T := TX2) (N := 9) (n := 9) hg inC2 (hg _ (gw1 (List.mem_of_getElem? (i := 178) (by decide +kernel)) rfl))
    exact ⟨(cC, iS), fun r hr => by cases hr; exact h⟩
  | 3 => by
    obtain ⟨cC, iS, h⟩ := u_known (C := RX3) (T := TX3) (N := 5) (n := 5) hg inC3 (hg _ (gw1 (List.mem_of_getElem? (i := 127) (by decide +kernel)) rfl))
    exact ⟨(cC, iS), fun r hr => by cases hr; exact h⟩
  | 4 => by
    obtain ⟨cC, iS, h⟩ := u_known (C := RX4) (T := TX4) (N := 6) (n := 6) hg inC4 (hg _ (gw1 (List.mem_of_getElem? (i := 212) (by decide +kernel)) rfl))
    exact ⟨(cC, iS), fun r hr => by cases hr; exact h⟩
  | 5 => by
    obtain ⟨cC, iS, h⟩ := u_known (C := RX5) (T := TX5) (N := 5) (n := 5) hg inC5 (hg _ (gw2 (List.mem_of_getElem? (i := 41) (by decide +kernel)) rfl))
    exact ⟨(cC, iS), fun r hr => by cases hr; exact h⟩
  | 6 => by
    obtain ⟨cC, iS, h⟩ := u_known (C := RX6) (T := TX6) (N := 5) (n := 5) hg inC6 (hg _ (gw1 (List.mem_of_getElem? (i := 120) (by decide +kernel)) rfl))
    exact ⟨(cC, iS), fun r hr => by cases hr; exact h⟩
  | 7 => by
    obtain ⟨cC, iS, h⟩ := u_known (C := RX7) (T := TX7) (N := 5) (n := 5) hg inC7 (hg _ (gw1 (List.mem_of_getElem? (i := 27) (by decide +kernel)) rfl))
    exact ⟨(cC, iS), fun r hr => by cases hr; exact h⟩
  | 8 => by
    obtain ⟨cC, iS, h⟩ := u_known (C := RX8) (T := TX8) (N := 5) (n := 5) hg inC8 (hg _ (gw1 (List.mem_of_getElem? (i := 82) (by decide +kernel)) rfl))
    exact ⟨(cC, iS), fun r hr => by cases hr; exact h⟩
  | 9 => by
    obtain ⟨cC, iS, h⟩ := u_known (C := RX9) (T := TX9) (N := 10) (n := 10) hg inC9 (hg _ (gw1 (List.mem_of_getElem? (i := 19) (by decide +kernel)) rfl))
    exact ⟨(cC, iS), fun r hr => by cases hr; exact h⟩
  | 10 => by
    obtain ⟨cC, iS, h⟩ := u_known (C := RX10) (T := TX10) (N := 44) (n := 44) hg inC10 (hg _ (gw3 (List.mem_of_getElem? (i := 216) (by decide +kernel)) rfl))
    exact ⟨(cC, iS), fun r hr => by cases hr; exact h⟩
  | _ + 11 => ⟨(0, fun _ => 0), fun r hr => by cases hr⟩
def tmS (i : Nat) : Term := .string "GoldLeaves$ColourReader" (if i = 0 then 92 else if i = 1 then 94 else if i = 2 then 96 else 82)
def gvn : List Cond := flatC (Jvm.Cond.and given_1 narrow_1)
theorem gv_ex : ∀ i, i < 4 → Cond.exactly (tmS i) "java/lang/String" ∈ gvn := by decide +kernel
theorem gv_co : ∀ i, i < 4 → Cond.eq (.field (tmS i) "java/lang/String" "coder" "B") (.int 0) ∈ gvn := by decide +kernel
theorem gv_ar : ∀ i, i < 4 → Cond.arrayOf (.field (tmS i) "java/lang/String" "value" "[B") .byte ∈ gvn := by decide +kernel
theorem gv_le : ∀ i, i < 4 → Cond.eq (.length (.field (tmS i) "java/lang/String" "value" "[B")) (.int (Int32.ofNat (slens.getD i 0))) ∈ gvn := by decide +kernel
theorem gv_el : ∀ i, i < 4 → ∀ j, j < slens.getD i 0 → Cond.eq (.elem (.field (tmS i) "java/lang/String" "value" "[B") (.int (Int32.ofNat j))) (.int ((sbyts.getD i []).getD j 0)) ∈ gvn := by decide +kernel
theorem gv_ne : ∀ i, i < 4 → ∀ j, j < 4 → i < j → Cond.not (Cond.eq (tmS i) (tmS j)) ∈ gvn := by decide +kernel
theorem gv_le4 : ∀ i, i < 4 → slens.getD i 0 < 2 ^ 31 := by decide +kernel
theorem gv_cs : Cond.eq (.static "java/lang/String" "COMPACT_STRINGS" "Z") (.int 1) ∈ gvn := by decide +kernel
theorem gv_si : Cond.isRef (.static "jdk/internal/util/Preconditions" "SIOOBE_FORMATTER" "Ljava/util/function/BiFunction;") ∈ gvn := by decide +kernel
theorem kt_start {s : State} {bs : Nat} (hts : ∀ w ∈ lw_tbl, w.before #[Value.ref bs] s = true) (hgv : (Jvm.Cond.and given_1 narrow_1).before #[Value.ref bs] s = true) : ∃ G : GX, G.2.2.1 = s.heap.size ∧ kt G s := by
  have hg : ∀ w ∈ GW, w.before #[Value.ref bs] s = true := fun w h => hts w (GW_in w h)
  have hs : ∀ w ∈ gvn, w.before #[Value.ref bs] s = true := flat_of_before _ hgv
  have hA : ∀ a : Nat, a < s.heap.size → ¬ (fun q : Nat => s.heap.size ≤ q) a := fun a h q => Nat.lt_irrefl _ (Nat.lt_of_lt_of_le h q)
  obtain ⟨D, hD⟩ := Classical.axiomOfChoice (cls_start hg)
  obtain ⟨c0, k0, p0, a01, a02, a03⟩ := Cond.arrayClass_spec (hg _ wArrI)
  obtain ⟨c1, k1, p1, a11, a12, a13⟩ := Cond.arrayClass_spec (hg _ wArrZ)
  obtain ⟨c2, k2, p2, a21, a22, a23⟩ := Cond.arrayClass_spec (hg _ wArrJ)
  have o3 := hts (.arrayOver (.object "GoldLeaves$Piece")) (tb1 (List.mem_of_getElem? (i := 33) (by decide +kernel)))
  have o4 := hts (.arrayOver (.object "GoldLeaves$PackNeed")) (tb1 (List.mem_of_getElem? (i := 126) (by decide +kernel)))
  have o5 := hts (.arrayOver (.array .int)) (tb1 (List.mem_of_getElem? (i := 35) (by decide +kernel)))
  obtain ⟨p3, c3, k3, a31, -, a32, a33, a34⟩ := Cond.arrayOver_spec o3
  obtain ⟨p4, c4, k4, a41, -, a42, a43, a44⟩ := Cond.arrayOver_spec o4
  obtain ⟨p5, c5, k5, a51, -, a52, a53, a54⟩ := arrayOverA_spec o5
  obtain ⟨adK, adV, hS, hev⟩ := vk_Sof (args := #[Value.ref bs]) (s := s) (N := 4) (tm := tmS) (len := slens) (byt := sbyts) (A := fun q => s.heap.size ≤ q) gv_le4 (fun i hi => hs _ (gv_ex i hi)) (fun i hi => hs _ (gv_co i hi)) (fun i hi => hs _ (gv_ar i hi)) (fun i hi => hs _ (gv_le i hi)) (fun i hi j hj => hs _ (gv_el i hi j hj)) (fun i j hi hj hij => by
    rcases Nat.lt_or_gt_of_ne hij with h | h
    · exact Or.inl (hs _ (gv_ne i hi j hj h))
    · exact Or.inr (hs _ (gv_ne j hj i hi h))) hA
  refine ⟨(((fun c => (D c).1), (fun c => (D c).2)), (fun t => match t with | 0 => c0 | 1 => c1 | 2 => c2 | 3 => c3 | 4 => c4 | _ => c5), s.heap.size, adK, adV), rfl, ⟨fun c q hq => hD c q hq, fun k q hq => ?_⟩, nw_start hts, va_AO.of o3, va_AO.of o4, o5, ⟨vk_R.of (hts _ (tb2 (List.mem_of_getElem? (i := 203) (by decide +kernel)))) (hev 0 (by decide)), vk_R.of (hts _ (tb3 (List.mem_of_getElem? (i := 16) (by decide +kernel)))) (hev 1 (by decide)), vk_R.of (hts _ (tb3 (List.mem_of_getElem? (i := 17) (by decide +kernel)))) (hev 2 (by decide)), vk_R.of (hts _ (tb3 (List.mem_of_getElem? (i := 26) (by decide +kernel)))) (hev 3 (by decide))⟩, hS, va_Zof (hts _ (tb2 (List.mem_of_getElem? (i := 217) (by decide +kernel)))) (hts _ (tb1 (List.mem_of_getElem? (i := 13) (by decide +kernel)))) (va_eqt (hs _ gv_cs)) hA, va_Zqof (hts _ (tb2 (List.mem_of_getElem? (i := 233) (by decide +kernel)))) (hts _ (tb1 (List.mem_of_getElem? (i := 15) (by decide +kernel)))) (hs _ gv_si) hA⟩
  match k, hq with
  | 0, hq => cases hq; exact ⟨fun n z => ⟨fun k h => (by cases h), k0, a02, p0, a03⟩, a01⟩
  | 1, hq => cases hq; exact ⟨fun n z => ⟨fun k h => (by cases h), k1, a12, p1, a13⟩, a11⟩
  | 2, hq => cases hq; exact ⟨fun n z => ⟨fun k h => (by cases h), k2, a22, p2, a23⟩, a21⟩
  | 3, hq => cases hq; exact ⟨fun n z => ⟨fun k h => (by cases h), k3, a32, p3, a33⟩, k3, p3, a32, a33, a31, a34⟩
  | 4, hq => cases hq; exact ⟨fun n z => ⟨fun k h => (by cases h), k4, a42, p4, a43⟩, k4, p4, a42, a43, a41, a44⟩
  | 5, hq => cases hq; exact ⟨fun n z => ⟨fun k h => (by cases h), k5, a52, p5, a53⟩, a54⟩
  | _ + 6, hq => cases hq
