theorem Inv0 : Inv D0 30 35 0 := by
  refine ⟨⟨rfl, rfl⟩, ⟨⟨0, by decide, rfl, rfl, rfl, rfl⟩, ?_⟩, ⟨0, 0, by decide, by decide, rfl, rfl, rfl, rfl, rfl, rfl, rfl, rfl, rfl, rfl, rfl, fun i hi => absurd hi (Nat.not_lt_zero i)⟩, ⟨0, by decide, rfl, rfl, rfl⟩, ⟨Or.inl ⟨rfl, rfl⟩, ⟨0, 0, fun _ => 0, by decide, by decide, rfl, rfl, rfl, rfl, rfl, fun i hi => absurd hi (Nat.not_lt_zero i), fun i hi => rfl, fun i j hi => absurd hi (Nat.not_lt_zero i), fun j hj => absurd hj (Nat.not_lt_zero j)⟩⟩, ⟨0, by decide, by decide, rfl, rfl, rfl, rfl, fun i hi => absurd hi (Nat.not_lt_zero i), fun i _ => ⟨rfl, rfl, rfl⟩, fun p hp => absurd hp (Nat.not_lt_zero p), fun p _ => ⟨rfl, rfl⟩, fun j => ?_, ?_, rfl, rfl, ?_, ?_, ?_, ?_⟩⟩
  · intro s hs
    match s, hs with
    | 0, _ => exact ⟨by decide +kernel, by decide +kernel, rfl, rfl, rfl, rfl, rfl⟩
    | 1, _ => exact ⟨by decide +kernel, by decide +kernel, rfl, rfl, rfl, rfl, rfl⟩
    | 2, _ => exact ⟨by decide +kernel, by decide +kernel, rfl, rfl, rfl, rfl, rfl⟩
    | _ + 3, h => exact absurd h (by omega)
  · show (0 : Int) ≤ (0 : Int32).toInt
    decide
  · decide +kernel
  · decide +kernel
  · decide +kernel
  · decide +kernel
  · decide +kernel
theorem law_body {p : Program} {l : Launch} {e : Env} {s : State} {m : MethodId} {args : Array Value} {below : List Frame} {meth : Method} {c : Code} {G : GX} {qf : Unit × PH → State → Prop} {bs L : Nat} {xs : Nat → Int32} {g : Nat} (C : Cx p s m args meth c G code 4 R_law) (X : SX G s bs L xs) (kend : ∀ (h : PH) (k cells slots : Nat), cells ≤ 600000 → slots ≤ 7302250 → J p l e room_1 s m args below meth c G 4 qf cells slots h 1057 (lvL bs g (g + 40) k) [] (some z00)) : J p l e room_1 s m args below meth c G 4 qf 0 0 (g, fun _ => none) 0 [(0, .ref bs)] [] (some z00) := by
  have hL := X.2.2.2
  have e0 := start0 g (fun a a2 h => @ite _ (a = g ∧ a2 = g + 40 ∧ Ok g h) (Classical.propDecidable _) (some z00) none)
  rw [if_pos ⟨rfl, rfl, ⟨_, _, _, _, _, _, rfl, Inv0⟩⟩] at e0
  rw [← e0]
  refine J_new (pc := 0) C nlL_7 (by decide) (by decide) dl_0 (fun a h1 => ?_)
  refine J_dup (pc := 3) C dl_3 rfl ?_
  refine J_callIU (pc := 4) (As := []) (rest := [.ref a]) C (fun z hz => mX9_init a h1 z hz) mwX9_init rfl rfl mqL_9 inX9_init rfl dl_4 (by decide) rfl (Nat.le_of_ble_eq_true rfl) (by decide) (fun _ h2 => ?_)
  refine J_astore_n (pc := 7) (lv1 := [(1, .ref a), (0, .ref bs)]) C dl_7 rfl (by decide) rfl ?_
  refine J_new (pc := 8) C nlL_10 (by decide) (by decide) dl_8 (fun a2 h3 => ?_)
  refine J_dup (pc := 11) C dl_11 rfl ?_
  refine J_callIU (pc := 12) (As := []) (rest := [.ref a2]) C (fun z hz => mX10_init a2 h3 z hz) mwX10_init rfl rfl mqL_12 inX10_init rfl dl_12 (by decide) rfl (Nat.le_of_ble_eq_true rfl) (by decide) (fun _ h4 => ?_)
  refine J_astore_n (pc := 15) (lv1 := [(2, .ref a2), (1, .ref a), (0, .ref bs)]) C dl_15 rfl (by decide) rfl ?_
  refine J_iconst (pc := 16) (v := nI 0) C dl_16 (by decide) ?_
  refine J_istore_n (pc := 17) (lv1 := lvL bs a a2 0) C dl_17 rfl (by decide) rfl ?_
  intro z hz H locs ls hh hS hl
  by_cases q : a = g ∧ a2 = g + 40 ∧ Ok g h4
  · rw [if_pos q] at hz
    obtain ⟨q1, q2, D1, w1, T1, pa1, dr1, np1, q3, hI1⟩ := q
    subst q1
    subst q2
    subst q3
    exact law_loop C X kend 513 0 _ _ D1 w1 T1 pa1 dr1 np1 hI1 (by omega) (by omega) (by decide) (by decide) z hz H locs ls hh hS hl
  · rw [if_neg q] at hz
    cases hz
/-- from the entry, for every script, the law comes to its end with true -/
theorem whole_start {p : Program} {e : Env} {s : State} {m : MethodId} {below : List Frame} {meth : Method} {c : Code} (l : Launch) {b L : Nat} {xs : Nat → Int32} (hL : L ≤ 3584) (C0 : lw_At p s m meth c b L xs) : W p l e room_1 s m #[Value.ref b] below meth c s.heap [] 0 0 (lw_Z below #[Value.ref b] s) (entryFrame m ([Value.ref b] : List Value).toArray 4) := by
  obtain ⟨hx, hb, hr, hml, hown, hts, hX, hbl, hlocks, hgv⟩ := C0
  obtain ⟨G, hG, hkt⟩ := kt_start hts hgv
  have C : Cx p s m #[Value.ref b] meth c G code 4 R_law := ⟨hx, hb, hml, hown, fun w h => hts w (GW_in w h), hlocks, hkt⟩
  have X : SX G s b L xs := ⟨hX, hbl, fun q => by
    have : G.2.2.1 ≤ b := q
    omega, hL⟩
  rw [lg_entry_eq]
  refine law_body (qf := fun _ => lw_Z below #[Value.ref b] s) (g := s.heap.size) C X ?_ z00 rfl s.heap [] _ ⟨rfl, by rw [hG]; exact Nat.le_refl _, fun a e h => by cases h⟩ va_S.rf (lv_entry [.ref b] (Nat.le_of_ble_eq_true rfl))
  intro h k cells slots hc hs
  refine J_iconst (pc := 1057) (v := 1) C dl_1057 (by decide) ?_
  intro z hz H locs ls hh hS hl
  refine va_forget (fun q hq => ?_) (W.widen hc hs (lw_ret hx hb hr hlocks dl_1058))
  have : G.2.2.1 ≤ q.base := hS.2.2 q hq
  omega
set_option maxHeartbeats 4000000 in
theorem lw_walk (l : Launch) (b : Addr) (xs : List Int32) : MetFree l x (headSpec (Jvm.Cond.code x code maxLocals ret :: tables_1) room_1) (lw_P b xs) (fun _ _ _ _ _ => True) lw_Q := by
  refine MetFree.of_bodyS (code := code) (maxLocals := maxLocals) (ret := ret) (by decide) ?_ ?_
  · intro args s m h hn
    obtain ⟨meth, c, h1, h2, h3, h4, h5, h6, -, -⟩ := Cond.code_spec hn (atoms_spec (ws := Jvm.Cond.code x code maxLocals ret :: tables_1) h _ List.mem_cons_self)
    exact ⟨meth, c, h1, h2, h3, h4, h5, h6⟩
  · intro p e s m args below meth c s₁ B hml0 hP _
    obtain ⟨rfl, hx, hbd, hgv⟩ := hP
    obtain ⟨scr, harrAt, hlist, hof, hsmall⟩ := hx
    obtain ⟨hcb, hkn, -, -⟩ := State.arrayAt?_spec harrAt
    have hown : s.vm.findClass R_law = some m.cls := findClass_of_methodNamed B.named
    have hts0 : ∀ c ∈ (Jvm.Cond.code x code maxLocals ret :: tables_1), c.before #[Value.ref b] s = true := atoms_spec (ws := Jvm.Cond.code x code maxLocals ret :: tables_1) B.pre
    have hts : ∀ w ∈ lw_tbl, w.before #[Value.ref b] s = true := k2_hts_sels lw_privs (fun w hw => hts0 w (List.mem_cons_of_mem _ hw)) lw_privs_ok
    have hml : c.maxLocals = 4 := B.maxLocals_eq (hts0 _ List.mem_cons_self)
    have X₀ : Stand p l e room_1 s m #[Value.ref b] below meth c s₁ [] 0 0 := Stand.of_body B
    have hh0 : s₁.heap = s.heap := by rw [B.state]; rfl
    have hsz : scr.slots.size = xs.length := by rw [← Array.length_toList, hlist, List.length_map]
    have hval : ∀ j : Nat, j < xs.length → scr.slots[j]? = some (.int (xs.getD j 0)) := fun j hj => by
      rw [← Array.getElem?_toList, hlist]
      simp [hj]
    have hbl : b < s.heap.size := (Array.getElem?_eq_some_iff.mp hcb).1
    have hX : va_X b xs.length (fun j => xs.getD j 0) s s.heap := ⟨scr, hcb, hof, hkn, hsz, hval⟩
    have K : W p l e room_1 s m #[Value.ref b] below meth c s₁.heap [] 0 0 (lw_Z below #[Value.ref b] s) (entryFrame m ([Value.ref b] : List Value).toArray 4) := by
      rw [hh0]
      exact whole_start l hbd ⟨B.exec, B.bytes, B.returns, hml, hown, hts, hX, hbl, B.notSynchronized, hgv⟩
    obtain ⟨t, a1, o, b1, b2, b3⟩ := K s₁ rfl X₀
    exact ⟨t, o, a1, b1, b2, b3⟩
theorem lw_pre_spec {args : Array Value} {s : State} (h : (Jvm.Cond.and given_1 narrow_1).before args s = true) (hr : rest_1_c.before args s = true) : ∃ (b : Addr) (xs : List Int32), lw_P b xs args s := by
  have hs := flat_of_before _ h
  have hq := flat_of_before _ hr
  have hc : (Cond.count 1).before args s = true := hs _ (by decide +kernel)
  have harr : (Cond.arrayOf (.arg 0) .int).before args s = true := hs _ (by decide +kernel)
  have hle : (Cond.le (.length (.arg 0)) (.int 3584)).before args s = true := hs _ (by decide +kernel)
  have hlen : (Cond.isInt (.length (.arg 0))).before args s = true := hq _ (by decide +kernel)
  have hall : (Cond.all (.arg 0) (.isInt (.elem (.arg 0) (.index 0)))).before args s = true := hq _ (by decide +kernel)
  obtain ⟨b, xs, hb, hx⟩ := State.ints_of_pre rfl harr hlen hall
  have hsm : xs.length < 2 ^ 31 := hx.choose_spec.2.2.2
  have hev : (Term.length (.arg 0)).eval args s none [] s = some (.int xs.length.toInt32) := hx.length_eval hb
  have hv := Cond.le_ints hev (show (Term.int 3584).eval args s none [] s = some (.int 3584) from rfl)
  have hd : xs.length.toInt32 ≤ 3584 := by
    simpa [Cond.before, Cond.holds, hv] using hle
  have hN : xs.length ≤ 3584 := (Int32.ofNat_le_ofNat hsm (by decide)).mp (show Int32.ofNat xs.length ≤ Int32.ofNat 3584 from hd)
  exact ⟨b, xs, Cond.one_arg hc (show args[0]? = some (.ref b) from hb), hx, hN, h⟩
theorem lw_comes (l : Launch) : Comes l x (Jvm.Cond.code x code maxLocals ret :: tables_1) room_1 (fun tb e args s => Calls_1 tb e args s ∧ rest_1 tb e args s ∧ Pre_1 tb e args s)
    (fun _ _ args s o t => lw_Q args s o t) := by
  intro p e ha hc hk s m args below hf hfit hheap happ hpre
  obtain ⟨b, xs, hP⟩ := lw_pre_spec hpre.2.2 hpre.2.1
  obtain ⟨k, o, h1, h2, h3, hQ⟩ := lw_walk l b xs p e ha hc hk s m args below hf ((Spec.applies_iff_loose hf).mp happ).1 hP trivial
  exact ⟨k, o, h1, h2, h3, hQ⟩
theorem lw_frame {s t : State} {o : Outcome} {args : Array Value} (h : Framed s o t [] 600000 7302250) :
    Framed s o t (fieldLocs frame_1_writes args s ++ arrayLocs frame_1_arrays args s ++ staticLocs frame_1_statics s) 600000 7302250 := h
theorem lw_limb (L : Cond) (hL : ∀ (args : Array Value) (s t : State), L.after args s (.returned (some (.int 1))) t = true) :
    ArmFor flags0 classFile x code maxLocals ret World_1 tables_1 room_1 Calls_1 rest_1 Pre_1
      (fun tb e a s o t => postC L tb e a s o t ∧ Framed s o t (fieldLocs frame_1_writes a s ++ arrayLocs frame_1_arrays a s ++ staticLocs frame_1_statics s) 600000 7302250) := by
  intro l _ _ _ p e ha hc hk s m args below hf hfit hheap happ hpre
  obtain ⟨k, o, h1, h2, h3, rfl, hF⟩ := lw_comes l p e ha hc hk s m args below hf hfit hheap happ hpre
  exact ⟨k, _, h1, h2, h3, hL args s _, lw_frame hF⟩
theorem i_vc : Claimed_1_1 ∧ Claimed_1_2 := ⟨lw_limb limb_1_1 (fun args s t => by simp [limb_1_1, Cond.after, Cond.holds, Cond.value]), lw_limb limb_1_2 (fun args s t => Cond.after_iff.mpr (by
  first | (rw [show limb_1_2 = Cond.eq .result (.int 1) from rfl, Cond.eq_ints (x := 1) (y := 1) rfl rfl]; simp; done) | (simp [limb_1_2, Cond.value, Term.eval]; done)))⟩

