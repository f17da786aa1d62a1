theorem wArrI : Cond.arrayClass .int ∈ GW := gw1 (List.mem_of_getElem? (i := 55) (by decide +kernel)) rfl
theorem wArrZ : Cond.arrayClass .boolean ∈ GW := gw1 (List.mem_of_getElem? (i := 176) (by decide +kernel)) rfl
theorem wArrJ : Cond.arrayClass .long ∈ GW := gw1 (List.mem_of_getElem? (i := 56) (by decide +kernel)) rfl

def mnB {β : Type} (N K : Nat) (h : PH) (f : Nat → PH → Option β) : Option β :=
  f h.1 (h.1 + 1 + N, fun a => if a = h.1 then some (.inl (5, N, .inr (.inr (.inr (.inr (fun i => if i < N then some (h.1 + 1 + i) else none)))))) else if h.1 < a ∧ a < h.1 + 1 + N then some (.inl (0, K, .inl (fun _ => 0))) else h.2 a)
/-- how a method ends: its answer, the heap behind it, nothing else changed -/
def QQ (G : GX) (r : Option Value) (h1 : PH) : Array Value → State → Outcome → State → Prop := fun _ st o t => o = .returned r ∧ hp G h1 t.heap ∧ va_F (gA G) st t
def qM (below : List Frame) (args : Array Value) (s : State) {α : Type} (rv : α → Option Value) (G : GX) (mc ms : Nat) : α × PH → State → Prop := fun z => MQ below (QQ G (rv z.1) z.2) args s mc ms (gA G)
def rvI (x : Int32) : Option Value := some (.int x)
def rvJ (x : Int64) : Option Value := some (.long x)
def rvU (_ : Unit) : Option Value := none
def rvR (x : Option Nat) : Option Value := some (va_rf x)
/-- a method's contract -/
def MC (l : Launch) (G : GX) (y : MethodName) (cc : ByteArray) (nL : Nat) (ret : Option FieldType) (rm : Room) (av : List Value) (h : PH) (r : Option Value) (h1 : PH) : Prop :=
  Met l y (.code y cc nL ret :: GW) rm (va_Pc av (fun U => kt G U ∧ hp G h U.heap)) (QQ G r h1) rm.cells rm.slots (gA G)
def NL (own : String) (idx ci N : Nat) (fs : List Value) : Prop := ∃ (C : String) (T : u_T) (ty : Nat → FieldType), vwCl[ci]? = some (C, T, N) ∧ (∀ w ∈ u_ws C T N, w ∈ GW) ∧ (∀ k, k < N → parseFieldDescriptor (T k).2.2.1 = some (ty k)) ∧ (∀ j, j < N → defaultValue (ty j) = vp_V fs j) ∧ Cond.classLink own idx C ∈ GW ∧ Cond.instantiable C N ∈ GW ∧ Cond.initialized C ∈ GW
/-- what a call of a method asks of the tables, whatever its kind -/
def MW (y : MethodName) (cc : ByteArray) (nL : Nat) (ret : Option FieldType) (n : Nat) : Prop := Cond.code y cc nL ret ∈ GW ∧ Cond.initialized y.cls ∈ GW ∧ (y.cls ≠ "java/lang/invoke/MethodHandle" ∧ y.cls ≠ "java/lang/invoke/VarHandle" ∧ (parseMethodDescriptor y.desc).map (fun d => d.parameters.length) = some n)
theorem MW_good {y : MethodName} {cc : ByteArray} {nL n : Nat} {ret : Option FieldType} (h : MW y cc nL ret n) : GoodIn GW (.code y cc nL ret :: GW) := by
  intro w hw
  rcases List.mem_cons.mp hw with rfl | hw
  · exact ⟨h.1, good_of_word (GW_good _ h.1)⟩
  · exact ⟨hw, good_of_word (GW_good _ hw)⟩
theorem Met_J {l : Launch} {G : GX} {h : PH} {y : MethodName} {cc : ByteArray} {nL : Nat} {ret : Option FieldType} {own : String} {rm : Room} {av : List Value} {α : Type} {rv : α → Option Value} {b : Option (α × PH)} (hy : plainName y.cls = true) (ho : y.cls = own) (hlen : (lg_sl av).length ≤ nL)
    (k : ∀ (p : Program) (e : Env) (s : State) (m : MethodId) (args : Array Value) (below : List Frame) (meth : Method) (c : Code), Cx p s m args meth c G cc nL own → meth.sig.returnType = ret → meth.name = y.name → J p l e rm s m args below meth c G nL (qM below args s rv G rm.cells rm.slots) 0 0 h 0 (lv_args 0 av) [] b) :
    ∀ z, b = some z → MC l G y cc nL ret rm av h (rv z.1) z.2 := by
  intro z hz
  refine Met.ofW (cc := cc) (maxL := nL) (ret := ret) hy rfl ?_
  intro p e s m args below meth c s₁ B hml hv
  obtain ⟨rfl, hK, hh⟩ := hv
  have hts := atoms_spec (ws := .code y cc nL ret :: GW) B.pre
  rw [lg_entry_eq]
  exact k p e s m _ below meth c ⟨B.exec, B.bytes, hml, by rw [← ho]; exact findClass_of_methodNamed B.named, fun w hw => hts w (List.mem_cons_of_mem _ hw), B.notSynchronized, hK⟩ B.returns (name_of_methodNamed B.named B.method).1 z hz s.heap [] _ hh va_S.rf (lv_entry av hlen)
theorem Met_JF {l : Launch} {G : GX} {h : PH} {y : MethodName} {cc : ByteArray} {nL : Nat} {ret : Option FieldType} {own : String} {rm : Room} {av : List Value} {α : Type} {rv : α → Option Value} {b : Option (α × PH)} (hy : plainFor y = true) (ho : y.cls = own) (hlen : (lg_sl av).length ≤ nL)
    (k : ∀ (p : Program) (e : Env) (s : State) (m : MethodId) (args : Array Value) (below : List Frame) (meth : Method) (c : Code), Cx p s m args meth c G cc nL own → meth.sig.returnType = ret → meth.name = y.name → J p l e rm s m args below meth c G nL (qM below args s rv G rm.cells rm.slots) 0 0 h 0 (lv_args 0 av) [] b) :
    ∀ z, b = some z → MC l G y cc nL ret rm av h (rv z.1) z.2 := by
  intro z hz
  refine va_MetF (cc := cc) (maxL := nL) (ret := ret) hy rfl ?_
  intro p e s m args below meth c s₁ B hml hv
  obtain ⟨rfl, hK, hh⟩ := hv
  have hts := atoms_spec (ws := .code y cc nL ret :: GW) B.pre
  rw [lg_entry_eq]
  exact k p e s m _ below meth c ⟨B.exec, B.bytes, hml, by rw [← ho]; exact findClass_of_methodNamed B.named, fun w hw => hts w (List.mem_cons_of_mem _ hw), B.notSynchronized, hK⟩ B.returns (name_of_methodNamed B.named B.method).1 z hz s.heap [] _ hh va_S.rf (lv_entry av hlen)

section
variable {p : Program} {l : Launch} {e : Env} {R : Room} {s : State} {m : MethodId} {args : Array Value} {below : List Frame} {meth : Method} {c : Code} {G : GX} {cc : ByteArray} {nL : Nat} {own : String} {α : Type} {qf : α × PH → State → Prop} {cells slots : Nat} {h : PH} {pc : Nat} {lv : List (Nat × Value)} {st : List Value} {b : Option (α × PH)}
theorem J_newI (C : Cx p s m args meth c G cc nL own) {n : Int32} {N : Nat} {f : Nat → PH → Option (α × PH)} (hN : n.toNatClampNeg = N) (hn : ¬ n < 0) (hb : N * componentBytes .int ≤ 536870912) (hcl : cells + 1 ≤ R.cells) (hsl : slots + N ≤ R.slots) (hd : decode cc pc = .ok (.newarray .int, 2)) (kk : ∀ (q : Nat) (h1 : PH), J p l e R s m args below meth c G nL qf (cells + 1) (slots + N) h1 (pc + 2) lv (.ref q :: st) (f q h1)) : J p l e R s m args below meth c G nL qf cells slots h pc lv (.int n :: st) (nwB (.inl (0, N, .inl (fun _ => 0))) h f) := by
  intro z hz H locs ls hh hS hl
  refine va_newaK (atype := .int) C.1 C.2.1 (C.2.2.2.2.1 _ wArrI) rfl hd rfl hn hN hb hcl hsl hh.1 fun H1 cA e1 z1 o1 hAr hNm => ?_
  have hcA : G.2.1 0 = cA := Option.some.inj ((C.2.2.2.2.2.2.1.2 0 _ rfl).2.symm.trans hNm)
  subst hcA
  exact kk h.1 _ z hz H1 locs ls (hp_new hh e1 z1 o1) (hS_new hS hh.1 z1 o1) hl
theorem J_newZ (C : Cx p s m args meth c G cc nL own) {n : Int32} {N : Nat} {f : Nat → PH → Option (α × PH)} (hN : n.toNatClampNeg = N) (hn : ¬ n < 0) (hb : N * componentBytes .boolean ≤ 536870912) (hcl : cells + 1 ≤ R.cells) (hsl : slots + N ≤ R.slots) (hd : decode cc pc = .ok (.newarray .boolean, 2)) (kk : ∀ (q : Nat) (h1 : PH), J p l e R s m args below meth c G nL qf (cells + 1) (slots + N) h1 (pc + 2) lv (.ref q :: st) (f q h1)) : J p l e R s m args below meth c G nL qf cells slots h pc lv (.int n :: st) (nwB (.inl (1, N, .inl (fun _ => 0))) h f) := by
  intro z hz H locs ls hh hS hl
  refine va_newaK (atype := .boolean) C.1 C.2.1 (C.2.2.2.2.1 _ wArrZ) rfl hd rfl hn hN hb hcl hsl hh.1 fun H1 cA e1 z1 o1 hAr hNm => ?_
  have hcA : G.2.1 1 = cA := Option.some.inj ((C.2.2.2.2.2.2.1.2 1 _ rfl).2.symm.trans hNm)
  subst hcA
  exact kk h.1 _ z hz H1 locs ls (hp_new hh e1 z1 o1) (hS_new hS hh.1 z1 o1) hl
theorem J_newJ (C : Cx p s m args meth c G cc nL own) {n : Int32} {N : Nat} {f : Nat → PH → Option (α × PH)} (hN : n.toNatClampNeg = N) (hn : ¬ n < 0) (hb : N * componentBytes .long ≤ 536870912) (hcl : cells + 1 ≤ R.cells) (hsl : slots + N ≤ R.slots) (hd : decode cc pc = .ok (.newarray .long, 2)) (kk : ∀ (q : Nat) (h1 : PH), J p l e R s m args below meth c G nL qf (cells + 1) (slots + N) h1 (pc + 2) lv (.ref q :: st) (f q h1)) : J p l e R s m args below meth c G nL qf cells slots h pc lv (.int n :: st) (nwB (.inl (2, N, .inr (.inl (fun _ => 0)))) h f) := by
  intro z hz H locs ls hh hS hl
  refine va_newaK (atype := .long) C.1 C.2.1 (C.2.2.2.2.1 _ wArrJ) rfl hd rfl hn hN hb hcl hsl hh.1 fun H1 cA e1 z1 o1 hAr hNm => ?_
  have hcA : G.2.1 2 = cA := Option.some.inj ((C.2.2.2.2.2.2.1.2 2 _ rfl).2.symm.trans hNm)
  subst hcA
  exact kk h.1 _ z hz H1 locs ls (hp_new hh e1 z1 o1) (hS_new hS hh.1 z1 o1) hl
theorem J_newQ (C : Cx p s m args meth c G cc nL own) (t : Nat) (Cn : String) (ht : ∀ G : GX, (tysL G)[t]? = some (G.2.1 t, .object Cn)) {n : Int32} {N idx : Nat} {f : Nat → PH → Option (α × PH)} (hcw : Cond.classLink own idx Cn ∈ GW) (ho : ∀ G U, kt G U → va_AO Cn U) (hN : n.toNatClampNeg = N) (hn : ¬ n < 0) (hb : N * 4 ≤ 536870912) (hcl : cells + 1 ≤ R.cells) (hsl : slots + N ≤ R.slots) (hd : decode cc pc = .ok (.anewarray idx, 3)) (kk : ∀ (q : Nat) (h1 : PH), J p l e R s m args below meth c G nL qf (cells + 1) (slots + N) h1 (pc + 3) lv (.ref q :: st) (f q h1)) : J p l e R s m args below meth c G nL qf cells slots h pc lv (.int n :: st) (nwB (.inl (t, N, .inr (.inr (.inr (.inr (fun _ => none)))))) h f) := by
  intro z hz H locs ls hh hS hl
  subst hN
  refine W.anew C.1 C.2.1 C.2.2.2.1 (C.2.2.2.2.1 _ hcw) (va_AO.use (ho G s C.2.2.2.2.2.2)) rfl hd rfl hn hb hcl hsl fun cA kA comp f1 f2 f3 f4 => ?_
  obtain ⟨-, -, -, -, -, k4⟩ := (C.2.2.2.2.2.2.1.2 t _ (ht G)).2
  have hcA : G.2.1 t = cA := Option.some.inj (k4.symm.trans f1)
  subst hcA
  have z1 : (H.push ({ cls := G.2.1 t, slots := Array.replicate n.toNatClampNeg .null, vm := .none } : Cell)).size = h.1 + 1 := by rw [Array.size_push, hh.1]
  have e1 : (H.push ({ cls := G.2.1 t, slots := Array.replicate n.toNatClampNeg .null, vm := .none } : Cell))[h.1]? = some (arrV (G.2.1 t) n.toNatClampNeg (fun _ => .null)) := by rw [← hh.1, Array.getElem?_push_size, ← arrV_new]
  have o1 : ∀ q : Nat, q < h.1 → (H.push ({ cls := G.2.1 t, slots := Array.replicate n.toNatClampNeg .null, vm := .none } : Cell))[q]? = H[q]? := fun q hq => by rw [Array.getElem?_push, if_neg (Nat.ne_of_lt (by rw [hh.1]; exact hq))]
  have hw := kk h.1 _ z hz _ locs ls (hp_new (e := .inl (t, n.toNatClampNeg, .inr (.inr (.inr (.inr (fun _ => none)))))) hh e1 z1 o1) (hS_new hS hh.1 z1 o1) hl
  show W p l e R s m args below meth c _ locs _ _ _ (F0 m (pc + 3) ls (.ref H.size :: st))
  rw [hh.1]
  exact hw
theorem J_new (C : Cx p s m args meth c G cc nL own) {idx ci N : Nat} {fs : List Value} {f : Nat → PH → Option (α × PH)} (F : NL own idx ci N fs) (hcl : cells + 1 ≤ R.cells) (hsl : slots + N ≤ R.slots) (hd : decode cc pc = .ok (.new idx, 3)) (kk : ∀ (q : Nat) (h1 : PH), J p l e R s m args below meth c G nL qf (cells + 1) (slots + N) h1 (pc + 3) lv (.ref q :: st) (f q h1)) : J p l e R s m args below meth c G nL qf cells slots h pc lv st (nwB (.inr (ci, fs)) h f) := by
  intro z hz H locs ls hh hS hl
  obtain ⟨Cn, T, ty, hc, hin, hty, hfs, w1, w2, w3⟩ := F
  have hts := C.2.2.2.2.1
  have hKn := C.2.2.2.2.2.2.1.1 ci _ hc
  refine W.newcK C.1 C.2.1 C.2.2.2.1 (hts _ w1) (hts _ w2) (hts _ w3) rfl hd hcl hsl hKn.2.1 hh.1 fun H1 kC hkC e1 z1 o1 => ?_
  exact kk h.1 _ z hz H1 locs ls (hp_new hh ⟨_, hc, (u_born ty hts hin hKn hkC e1 hty).to hfs⟩ z1 o1) (hS_new hS hh.1 z1 o1) hl
theorem J_mna (C : Cx p s m args meth c G cc nL own) {n k : Int32} {N K idx : Nat} {f : Nat → PH → Option (α × PH)} (hcw : Cond.classLink own idx ("[" ++ (FieldType.array .int).toString) ∈ GW) (hN : n.toNatClampNeg = N) (hn : ¬ n < 0) (hK : k.toNatClampNeg = K) (hk : ¬ k < 0) (hb1 : N * 4 ≤ 536870912) (hb2 : K * componentBytes .int ≤ 536870912) (hb3 : K ≤ 536870912) (hcl : cells + (1 + N) ≤ R.cells) (hsl : slots + (N + N * K) ≤ R.slots) (hd : decode cc pc = .ok (.multianewarray idx 2, 4)) (kk : ∀ (q : Nat) (h1 : PH), J p l e R s m args below meth c G nL qf (cells + 1 + N) (slots + N + N * K) h1 (pc + 4) lv (.ref q :: st) (f q h1)) : J p l e R s m args below meth c G nL qf cells slots h pc lv (.int k :: .int n :: st) (mnB N K h f) := by
  intro z hz H locs ls hh hS hl
  subst hN
  subst hK
  intro T hT Xs
  obtain ⟨vm₁, cA, comp, -, fA, fC, hO, -, X', step⟩ := Xs.multianewarray2F C.1 C.2.2.2.1 (C.2.2.2.2.1 _ hcw) (show (Cond.arrayOver (.array .int)).before args s = true from C.2.2.2.2.2.2.2.2.2.2.1) (C.2.2.2.2.1 _ wArrI) (g := F0 m pc ls (.int k :: .int n :: st)) rfl (by rw [C.2.1]; exact hd) rfl hn hk hb1 hb2 hb3 rfl rfl hcl hsl
  have e5 : G.2.1 5 = cA := Option.some.inj ((C.2.2.2.2.2.2.1.2 5 _ rfl).2.symm.trans fA)
  have e0 : G.2.1 0 = comp := Option.some.inj ((C.2.2.2.2.2.2.1.2 0 _ rfl).2.symm.trans fC)
  subst e5
  subst e0
  generalize hF : Jvm.Free.Multi.fill (T.setVm vm₁) (G.2.1 5) (G.2.1 0) n.toNatClampNeg k.toNatClampNeg (defaultValue .int) n.toNatClampNeg = F at X' step
  have hTh : (T.setVm vm₁).heap = H := hT
  obtain ⟨f1, f2, -, -⟩ := Jvm.Free.Multi.fill_facts (T.setVm vm₁) (G.2.1 5) (G.2.1 0) n.toNatClampNeg k.toNatClampNeg (defaultValue .int) n.toNatClampNeg
  rw [hF, hTh] at f1 f2
  have hold : ∀ x : Nat, x < H.size → F.heap[x]? = H[x]? := fun x hx => by
    have := Jvm.Free.Multi.fill_old (T.setVm vm₁) (G.2.1 5) (G.2.1 0) n.toNatClampNeg k.toNatClampNeg (defaultValue .int) (a := x) (by rw [hTh]; exact hx) n.toNatClampNeg
    rw [hF, hTh] at this
    exact this
  have hrow : ∀ j : Nat, j < n.toNatClampNeg → F.heap[H.size + 1 + j]? = some (vp_cell (G.2.1 0) (k.toNatClampNeg, .inl (fun _ => 0))) := fun j hj => by
    have := Jvm.Free.Multi.fill_inner (T.setVm vm₁) (G.2.1 5) (G.2.1 0) n.toNatClampNeg k.toNatClampNeg (defaultValue .int) n.toNatClampNeg j hj
    rw [hF, hTh] at this
    rw [this, vp_cell_i, ← arrV_new]
    rfl
  rw [vr_outer] at f2
  have h0 : H.size = h.1 := hh.1
  have hB := hh.2.1
  have hw := kk h.1 _ z hz F.heap locs ls ⟨by rw [f1, h0], by omega, fun a e9 ha => ?_⟩ ⟨Nat.le_trans hS.1 (by rw [f1]; omega), fun x h1 h2 => (hold x (Nat.lt_of_lt_of_le h1 hS.1)).trans (hS.2.1 x h1 h2), hS.2.2⟩ hl
  · obtain ⟨t, a1, b1⟩ := hw F rfl X'
    refine ⟨t, step t ?_, b1⟩
    rw [show T.heap.size = h.1 by rw [hT]; exact h0]
    exact a1
  · dsimp only at ha
    by_cases c1 : a = h.1
    · rw [if_pos c1] at ha
      cases ha
      subst c1
      refine ⟨hB, ?_⟩
      show F.heap[h.1]? = some (vp_cell _ _)
      rw [← h0, f2, vp_cell_q, h0]
    · rw [if_neg c1] at ha
      by_cases c2 : h.1 < a ∧ a < h.1 + 1 + n.toNatClampNeg
      · rw [if_pos c2] at ha
        cases ha
        refine ⟨by omega, ?_⟩
        show F.heap[a]? = some (vp_cell _ _)
        have := hrow (a - (H.size + 1)) (by omega)
        rw [show H.size + 1 + (a - (H.size + 1)) = a by omega] at this
        exact this
      · rw [if_neg c2] at ha
        have h3 := hh.2.2 a e9 ha
        exact ⟨h3.1, h3.2.kept (hold a h3.2.lt)⟩
theorem run_J {rest : List Value} {r : Option Value} {h1 : PH} {a9 : Array Value} {mc ms : Nat} {ls : Array Slot} {H : Heap} {locs : List Loc} {Q : State → Prop} (hr : va_Run p l e R s m args below meth c H locs cells slots mc ms (F0 m pc ls st) rest (QQ G r h1 a9) (gA G)) (hS : va_S (gA G) s.heap H locs)
    (kk : ∀ (H1 : Heap) (locs1 : List Loc), hp G h1 H1 → va_S (gA G) s.heap H1 locs1 → W p l e R s m args below meth c H1 locs1 (cells + mc) (slots + ms) Q (F0 m (pc + 3) ls (r.toList ++ rest))) : W p l e R s m args below meth c H locs cells slots Q (F0 m pc ls st) := by
  intro T hT X
  obtain ⟨v, st₀, t, T', L, h0, X', hL, e1, e2, ⟨hv, hb, hz, hk⟩, stp⟩ := hr T hT X
  cases hv
  rw [h0] at hz hk
  obtain ⟨t2, a1, b1⟩ := kk T'.heap (locs ++ L) (by rw [e1]; exact hb)
    ⟨Nat.le_trans hS.1 (by rw [e1]; exact hz), fun q h1 h2 => by rw [e1, hk q (Nat.lt_of_lt_of_le h1 hS.1) h2]; exact hS.2.1 q h1 h2, fun q hq => by
      rcases List.mem_append.mp hq with h | h
      · exact hS.2.2 q h
      · exact hL q h⟩ T' rfl X'
  exact ⟨t2, stp t2 a1, b1⟩
theorem blind_J {av : List Value} : FrameBlind (va_Pc av (fun U => kt G U ∧ hp G h U.heap)) := fun a U g mk q => ⟨q.1, kt_blind q.2.1, q.2.2⟩
theorem J_callV (C : Cx p s m args meth c G cc nL own) {β : Type} {rv : β → Option Value} {y : MethodName} {cy : ByteArray} {nY n idx : Nat} {ret : Option FieldType} {rm : Room} {As rest : List Value} {g : Option (β × PH)} {f : β → PH → Option (α × PH)} {a : Nat} (hM : ∀ z, g = some z → MC l G y cy nY ret rm (.ref a :: As) h (rv z.1) z.2) (M : MW y cy nY ret n) {ci : Nat} (hci : ∃ T N, vwCl[ci]? = some (y.cls, T, N) ∧ Cond.selects y.cls y y ∈ GW) (hl1 : Cond.methodLink own idx y ∈ GW) (hi1 : Cond.instanceMethod y ∈ GW) (hq : st = As.reverse ++ .ref a :: rest) (hd : decode cc pc = .ok (.invokevirtual idx, 3)) (hR : rm.frames + 1 ≤ R.frames ∧ 8 + (nY + 11) + rm.locals ≤ R.locals) (hn : As.length = n) (hst : (rest.map fun v => v.category).sum ≤ 8) (hf : cells + rm.cells ≤ R.cells ∧ slots + rm.slots ≤ R.slots) (kk : ∀ (r : β) (h1 : PH), J p l e R s m args below meth c G nL qf (cells + rm.cells) (slots + rm.slots) h1 (pc + 3) lv ((rv r).toList ++ rest) (f r h1)) : J p l e R s m args below meth c G nL qf cells slots h pc lv st (bn (chk ci a h) fun _ => bn2 g f) := by
  intro z hz H locs ls hh hS hl
  obtain ⟨u, hc, hz⟩ := bn_some hz
  obtain ⟨fs, hfs⟩ := chk_spec hc
  obtain ⟨x, h1, hg, hz⟩ := bn2_some hz
  have hM := hM _ hg
  obtain ⟨T, N, hcl, hcls⟩ := hci
  refine run_J (r := rv x) (h1 := h1) (va_runV (C := y.cls) (b := a) (As := As) (rest := rest) ⟨C.1, C.2.1, C.2.2.1, C.2.2.2.1, C.2.2.2.2.1⟩ hM ⟨callB_of n C.2.2.2.2.1 (MW_good M) rfl rfl rfl (C.2.2.2.2.1 _ M.2.1) (C.2.2.2.2.1 _ hl1) M.2.2 hR, C.2.2.2.2.1 _ hi1, C.2.2.2.2.1 _ hcls⟩ ⟨blind_J, va_recv C.2.2.2.2.2.2.1 (hp_one hh hfs) hcl (q0 := 0) rfl, fun U hU hW => ⟨rfl, kt_step C.2.2.2.2.2.2 hS hU hW, by rw [hU]; exact hh⟩⟩ rfl hn hl.1 hq (lv_room hst) hd hf) hS fun H1 locs1 hh1 hS1 => ?_
  exact kk x h1 z hz H1 locs1 ls hh1 hS1 hl
theorem J_callS (C : Cx p s m args meth c G cc nL own) {β : Type} {rv : β → Option Value} {y : MethodName} {cy : ByteArray} {nY n idx : Nat} {ret : Option FieldType} {rm : Room} {As rest : List Value} {g : Option (β × PH)} {f : β → PH → Option (α × PH)} (hM : ∀ z, g = some z → MC l G y cy nY ret rm As h (rv z.1) z.2) (M : MW y cy nY ret n) (hl1 : Cond.methodLink own idx y ∈ GW) (hi1 : Cond.static y ∈ GW) (hq : st = As.reverse ++ rest) (hd : decode cc pc = .ok (.invokestatic idx, 3)) (hR : rm.frames + 1 ≤ R.frames ∧ 8 + (nY + 11) + rm.locals ≤ R.locals) (hn : As.length = n) (hst : (rest.map fun v => v.category).sum ≤ 8) (hf : cells + rm.cells ≤ R.cells ∧ slots + rm.slots ≤ R.slots) (kk : ∀ (r : β) (h1 : PH), J p l e R s m args below meth c G nL qf (cells + rm.cells) (slots + rm.slots) h1 (pc + 3) lv ((rv r).toList ++ rest) (f r h1)) : J p l e R s m args below meth c G nL qf cells slots h pc lv st (bn2 g f) := by
  intro z hz H locs ls hh hS hl
  obtain ⟨x, h1, hg, hz⟩ := bn2_some hz
  have hM := hM _ hg
  refine run_J (r := rv x) (h1 := h1) (va_runS (As := As) (rest := rest) ⟨C.1, C.2.1, C.2.2.1, C.2.2.2.1, C.2.2.2.2.1⟩ hM ⟨callB_of n C.2.2.2.2.1 (MW_good M) rfl rfl rfl (C.2.2.2.2.1 _ M.2.1) (C.2.2.2.2.1 _ hl1) M.2.2 hR, C.2.2.2.2.1 _ hi1⟩ ⟨blind_J, fun U hU hW => ⟨rfl, kt_step C.2.2.2.2.2.2 hS hU hW, by rw [hU]; exact hh⟩⟩ rfl hn hl.1 hq (lv_room hst) hd hf) hS fun H1 locs1 hh1 hS1 => ?_
  exact kk x h1 z hz H1 locs1 ls hh1 hS1 hl
theorem J_callSN (C : Cx p s m args meth c G cc nL own) {β : Type} {rv : β → Option Value} {y : MethodName} {cy : ByteArray} {nY n idx : Nat} {ret : Option FieldType} {rm : Room} {As rest : List Value} {g : Option (β × PH)} {f : β → PH → Option (α × PH)} (hM : ∀ z, g = some z → MC l G y cy nY ret rm As h (rv z.1) z.2) (M : MW y cy nY ret n) (host : String) (hl1 : (own, idx, y, host) ∈ NW) (hi1 : Cond.static y ∈ GW) (hq : st = As.reverse ++ rest) (hd : decode cc pc = .ok (.invokestatic idx, 3)) (hR : rm.frames + 1 ≤ R.frames ∧ 8 + (nY + 11) + rm.locals ≤ R.locals) (hn : As.length = n) (hst : (rest.map fun v => v.category).sum ≤ 8) (hf : cells + rm.cells ≤ R.cells ∧ slots + rm.slots ≤ R.slots) (kk : ∀ (r : β) (h1 : PH), J p l e R s m args below meth c G nL qf (cells + rm.cells) (slots + rm.slots) h1 (pc + 3) lv ((rv r).toList ++ rest) (f r h1)) : J p l e R s m args below meth c G nL qf cells slots h pc lv st (bn2 g f) := by
  intro z hz H locs ls hh hS hl
  obtain ⟨x, h1, hg, hz⟩ := bn2_some hz
  have hM := hM _ hg
  refine run_J (r := rv x) (h1 := h1) (va_runSN (As := As) (rest := rest) ⟨C.1, C.2.1, C.2.2.1, C.2.2.2.1, C.2.2.2.2.1⟩ hM ⟨va_cnB n C.2.2.2.2.1 (MW_good M) rfl rfl rfl (C.2.2.2.2.2.2.2.1 _ hl1) (C.2.2.2.2.1 _ M.2.1) M.2.2 hR, C.2.2.2.2.1 _ hi1, trivial⟩ ⟨blind_J, fun U hU hW => ⟨rfl, kt_step C.2.2.2.2.2.2 hS hU hW, by rw [hU]; exact hh⟩⟩ rfl hn hl.1 hq (lv_room hst) hd hf) hS fun H1 locs1 hh1 hS1 => ?_
  exact kk x h1 z hz H1 locs1 ls hh1 hS1 hl
theorem J_callI (C : Cx p s m args meth c G cc nL own) {β : Type} {rv : β → Option Value} {y : MethodName} {cy : ByteArray} {nY n idx : Nat} {ret : Option FieldType} {rm : Room} {As rest : List Value} {g : Option (β × PH)} {f : β → PH → Option (α × PH)} {a : Nat} (hM : ∀ z, g = some z → MC l G y cy nY ret rm (.ref a :: As) h (rv z.1) z.2) (M : MW y cy nY ret n) (hnr : ret = none) (hy1 : y.name = "<init>") (hl1 : Cond.methodLink own idx y ∈ GW) (hi1 : Cond.instanceMethod y ∈ GW) (hq : st = As.reverse ++ .ref a :: rest) (hd : decode cc pc = .ok (.invokespecial idx, 3)) (hR : rm.frames + 1 ≤ R.frames ∧ 8 + (nY + 11) + rm.locals ≤ R.locals) (hn : As.length = n) (hst : (rest.map fun v => v.category).sum ≤ 8) (hf : cells + rm.cells ≤ R.cells ∧ slots + rm.slots ≤ R.slots) (kk : ∀ (r : β) (h1 : PH), J p l e R s m args below meth c G nL qf (cells + rm.cells) (slots + rm.slots) h1 (pc + 3) lv ((rv r).toList ++ rest) (f r h1)) : J p l e R s m args below meth c G nL qf cells slots h pc lv st (bn2 g f) := by
  intro z hz H locs ls hh hS hl
  subst hnr
  obtain ⟨x, h1, hg, hz⟩ := bn2_some hz
  have hM := hM _ hg
  refine run_J (r := rv x) (h1 := h1) (va_runI (b := a) (As := As) (rest := rest) ⟨C.1, C.2.1, C.2.2.1, C.2.2.2.1, C.2.2.2.2.1⟩ hM ⟨callB_of n C.2.2.2.2.1 (MW_good M) rfl rfl rfl (C.2.2.2.2.1 _ M.2.1) (C.2.2.2.2.1 _ hl1) M.2.2 hR, hy1, C.2.2.2.2.1 _ hi1⟩ ⟨blind_J, fun U hU hW => ⟨rfl, kt_step C.2.2.2.2.2.2 hS hU hW, by rw [hU]; exact hh⟩⟩ rfl hn hl.1 hq (lv_room hst) hd hf) hS fun H1 locs1 hh1 hS1 => ?_
  exact kk x h1 z hz H1 locs1 ls hh1 hS1 hl
theorem J_callIN (C : Cx p s m args meth c G cc nL own) {β : Type} {rv : β → Option Value} {y : MethodName} {cy : ByteArray} {nY n idx : Nat} {ret : Option FieldType} {rm : Room} {As rest : List Value} {g : Option (β × PH)} {f : β → PH → Option (α × PH)} {a : Nat} (hM : ∀ z, g = some z → MC l G y cy nY ret rm (.ref a :: As) h (rv z.1) z.2) (M : MW y cy nY ret n) (hnr : ret = none) (host : String) (hy1 : y.name = "<init>") (hl1 : (own, idx, y, host) ∈ NW) (hi1 : Cond.instanceMethod y ∈ GW) (hq : st = As.reverse ++ .ref a :: rest) (hd : decode cc pc = .ok (.invokespecial idx, 3)) (hR : rm.frames + 1 ≤ R.frames ∧ 8 + (nY + 11) + rm.locals ≤ R.locals) (hn : As.length = n) (hst : (rest.map fun v => v.category).sum ≤ 8) (hf : cells + rm.cells ≤ R.cells ∧ slots + rm.slots ≤ R.slots) (kk : ∀ (r : β) (h1 : PH), J p l e R s m args below meth c G nL qf (cells + rm.cells) (slots + rm.slots) h1 (pc + 3) lv ((rv r).toList ++ rest) (f r h1)) : J p l e R s m args below meth c G nL qf cells slots h pc lv st (bn2 g f) := by
  intro z hz H locs ls hh hS hl
  subst hnr
  obtain ⟨x, h1, hg, hz⟩ := bn2_some hz
  have hM := hM _ hg
  refine run_J (r := rv x) (h1 := h1) (va_runIN (b := a) (As := As) (rest := rest) ⟨C.1, C.2.1, C.2.2.1, C.2.2.2.1, C.2.2.2.2.1⟩ hM ⟨va_cnB n C.2.2.2.2.1 (MW_good M) rfl rfl rfl (C.2.2.2.2.2.2.2.1 _ hl1) (C.2.2.2.2.1 _ M.2.1) M.2.2 hR, hy1, C.2.2.2.2.1 _ hi1⟩ ⟨blind_J, fun U hU hW => ⟨rfl, kt_step C.2.2.2.2.2.2 hS hU hW, by rw [hU]; exact hh⟩⟩ rfl hn hl.1 hq (lv_room hst) hd hf) hS fun H1 locs1 hh1 hS1 => ?_
  exact kk x h1 z hz H1 locs1 ls hh1 hS1 hl
theorem J_callVI (C : Cx p s m args meth c G cc nL own) {y : MethodName} {cy : ByteArray} {nY n idx : Nat} {ret : Option FieldType} {rm : Room} {As rest : List Value} {g : Option (Int32 × PH)} {f : Int32 → PH → Option (α × PH)} {a : Nat} (hM : ∀ z, g = some z → MC l G y cy nY ret rm (.ref a :: As) h (rvI z.1) z.2) (M : MW y cy nY ret n) {ci : Nat} (hci : ∃ T N, vwCl[ci]? = some (y.cls, T, N) ∧ Cond.selects y.cls y y ∈ GW) (hl1 : Cond.methodLink own idx y ∈ GW) (hi1 : Cond.instanceMethod y ∈ GW) (hq : st = As.reverse ++ .ref a :: rest) (hd : decode cc pc = .ok (.invokevirtual idx, 3)) (hR : rm.frames + 1 ≤ R.frames ∧ 8 + (nY + 11) + rm.locals ≤ R.locals) (hn : As.length = n) (hst : (rest.map fun v => v.category).sum ≤ 8) (hf : cells + rm.cells ≤ R.cells ∧ slots + rm.slots ≤ R.slots) (kk : ∀ (r : Int32) (h1 : PH), J p l e R s m args below meth c G nL qf (cells + rm.cells) (slots + rm.slots) h1 (pc + 3) lv (.int r :: rest) (f r h1)) : J p l e R s m args below meth c G nL qf cells slots h pc lv st (bn (chk ci a h) fun _ => bn2 g f) := J_callV (rv := rvI) C hM M hci hl1 hi1 hq hd hR hn hst hf kk
theorem J_callVJ (C : Cx p s m args meth c G cc nL own) {y : MethodName} {cy : ByteArray} {nY n idx : Nat} {ret : Option FieldType} {rm : Room} {As rest : List Value} {g : Option (Int64 × PH)} {f : Int64 → PH → Option (α × PH)} {a : Nat} (hM : ∀ z, g = some z → MC l G y cy nY ret rm (.ref a :: As) h (rvJ z.1) z.2) (M : MW y cy nY ret n) {ci : Nat} (hci : ∃ T N, vwCl[ci]? = some (y.cls, T, N) ∧ Cond.selects y.cls y y ∈ GW) (hl1 : Cond.methodLink own idx y ∈ GW) (hi1 : Cond.instanceMethod y ∈ GW) (hq : st = As.reverse ++ .ref a :: rest) (hd : decode cc pc = .ok (.invokevirtual idx, 3)) (hR : rm.frames + 1 ≤ R.frames ∧ 8 + (nY + 11) + rm.locals ≤ R.locals) (hn : As.length = n) (hst : (rest.map fun v => v.category).sum ≤ 8) (hf : cells + rm.cells ≤ R.cells ∧ slots + rm.slots ≤ R.slots) (kk : ∀ (r : Int64) (h1 : PH), J p l e R s m args below meth c G nL qf (cells + rm.cells) (slots + rm.slots) h1 (pc + 3) lv (.long r :: rest) (f r h1)) : J p l e R s m args below meth c G nL qf cells slots h pc lv st (bn (chk ci a h) fun _ => bn2 g f) := J_callV (rv := rvJ) C hM M hci hl1 hi1 hq hd hR hn hst hf kk
theorem J_callVU (C : Cx p s m args meth c G cc nL own) {y : MethodName} {cy : ByteArray} {nY n idx : Nat} {ret : Option FieldType} {rm : Room} {As rest : List Value} {g : Option (Unit × PH)} {f : Unit → PH → Option (α × PH)} {a : Nat} (hM : ∀ z, g = some z → MC l G y cy nY ret rm (.ref a :: As) h (rvU z.1) z.2) (M : MW y cy nY ret n) {ci : Nat} (hci : ∃ T N, vwCl[ci]? = some (y.cls, T, N) ∧ Cond.selects y.cls y y ∈ GW) (hl1 : Cond.methodLink own idx y ∈ GW) (hi1 : Cond.instanceMethod y ∈ GW) (hq : st = As.reverse ++ .ref a :: rest) (hd : decode cc pc = .ok (.invokevirtual idx, 3)) (hR : rm.frames + 1 ≤ R.frames ∧ 8 + (nY + 11) + rm.locals ≤ R.locals) (hn : As.length = n) (hst : (rest.map fun v => v.category).sum ≤ 8) (hf : cells + rm.cells ≤ R.cells ∧ slots + rm.slots ≤ R.slots) (kk : ∀ (r : Unit) (h1 : PH), J p l e R s m args below meth c G nL qf (cells + rm.cells) (slots + rm.slots) h1 (pc + 3) lv rest (f r h1)) : J p l e R s m args below meth c G nL qf cells slots h pc lv st (bn (chk ci a h) fun _ => bn2 g f) := J_callV (rv := rvU) C hM M hci hl1 hi1 hq hd hR hn hst hf kk
theorem J_callVR (C : Cx p s m args meth c G cc nL own) {y : MethodName} {cy : ByteArray} {nY n idx : Nat} {ret : Option FieldType} {rm : Room} {As rest : List Value} {g : Option (Option Nat × PH)} {f : Option Nat → PH → Option (α × PH)} {a : Nat} (hM : ∀ z, g = some z → MC l G y cy nY ret rm (.ref a :: As) h (rvR z.1) z.2) (M : MW y cy nY ret n) {ci : Nat} (hci : ∃ T N, vwCl[ci]? = some (y.cls, T, N) ∧ Cond.selects y.cls y y ∈ GW) (hl1 : Cond.methodLink own idx y ∈ GW) (hi1 : Cond.instanceMethod y ∈ GW) (hq : st = As.reverse ++ .ref a :: rest) (hd : decode cc pc = .ok (.invokevirtual idx, 3)) (hR : rm.frames + 1 ≤ R.frames ∧ 8 + (nY + 11) + rm.locals ≤ R.locals) (hn : As.length = n) (hst : (rest.map fun v => v.category).sum ≤ 8) (hf : cells + rm.cells ≤ R.cells ∧ slots + rm.slots ≤ R.slots) (kk : ∀ (r : Option Nat) (h1 : PH), J p l e R s m args below meth c G nL qf (cells + rm.cells) (slots + rm.slots) h1 (pc + 3) lv (va_rf r :: rest) (f r h1)) : J p l e R s m args below meth c G nL qf cells slots h pc lv st (bn (chk ci a h) fun _ => bn2 g f) := J_callV (rv := rvR) C hM M hci hl1 hi1 hq hd hR hn hst hf kk
theorem J_callSI (C : Cx p s m args meth c G cc nL own) {y : MethodName} {cy : ByteArray} {nY n idx : Nat} {ret : Option FieldType} {rm : Room} {As rest : List Value} {g : Option (Int32 × PH)} {f : Int32 → PH → Option (α × PH)} (hM : ∀ z, g = some z → MC l G y cy nY ret rm As h (rvI z.1) z.2) (M : MW y cy nY ret n) (hl1 : Cond.methodLink own idx y ∈ GW) (hi1 : Cond.static y ∈ GW) (hq : st = As.reverse ++ rest) (hd : decode cc pc = .ok (.invokestatic idx, 3)) (hR : rm.frames + 1 ≤ R.frames ∧ 8 + (nY + 11) + rm.locals ≤ R.locals) (hn : As.length = n) (hst : (rest.map fun v => v.category).sum ≤ 8) (hf : cells + rm.cells ≤ R.cells ∧ slots + rm.slots ≤ R.slots) (kk : ∀ (r : Int32) (h1 : PH), J p l e R s m args below meth c G nL qf (cells + rm.cells) (slots + rm.slots) h1 (pc + 3) lv (.int r :: rest) (f r h1)) : J p l e R s m args below meth c G nL qf cells slots h pc lv st (bn2 g f) := J_callS (rv := rvI) C hM M hl1 hi1 hq hd hR hn hst hf kk
theorem J_callSJ (C : Cx p s m args meth c G cc nL own) {y : MethodName} {cy : ByteArray} {nY n idx : Nat} {ret : Option FieldType} {rm : Room} {As rest : List Value} {g : Option (Int64 × PH)} {f : Int64 → PH → Option (α × PH)} (hM : ∀ z, g = some z → MC l G y cy nY ret rm As h (rvJ z.1) z.2) (M : MW y cy nY ret n) (hl1 : Cond.methodLink own idx y ∈ GW) (hi1 : Cond.static y ∈ GW) (hq : st = As.reverse ++ rest) (hd : decode cc pc = .ok (.invokestatic idx, 3)) (hR : rm.frames + 1 ≤ R.frames ∧ 8 + (nY + 11) + rm.locals ≤ R.locals) (hn : As.length = n) (hst : (rest.map fun v => v.category).sum ≤ 8) (hf : cells + rm.cells ≤ R.cells ∧ slots + rm.slots ≤ R.slots) (kk : ∀ (r : Int64) (h1 : PH), J p l e R s m args below meth c G nL qf (cells + rm.cells) (slots + rm.slots) h1 (pc + 3) lv (.long r :: rest) (f r h1)) : J p l e R s m args below meth c G nL qf cells slots h pc lv st (bn2 g f) := J_callS (rv := rvJ) C hM M hl1 hi1 hq hd hR hn hst hf kk
theorem J_callSU (C : Cx p s m args meth c G cc nL own) {y : MethodName} {cy : ByteArray} {nY n idx : Nat} {ret : Option FieldType} {rm : Room} {As rest : List Value} {g : Option (Unit × PH)} {f : Unit → PH → Option (α × PH)} (hM : ∀ z, g = some z → MC l G y cy nY ret rm As h (rvU z.1) z.2) (M : MW y cy nY ret n) (hl1 : Cond.methodLink own idx y ∈ GW) (hi1 : Cond.static y ∈ GW) (hq : st = As.reverse ++ rest) (hd : decode cc pc = .ok (.invokestatic idx, 3)) (hR : rm.frames + 1 ≤ R.frames ∧ 8 + (nY + 11) + rm.locals ≤ R.locals) (hn : As.length = n) (hst : (rest.map fun v => v.category).sum ≤ 8) (hf : cells + rm.cells ≤ R.cells ∧ slots + rm.slots ≤ R.slots) (kk : ∀ (r : Unit) (h1 : PH), J p l e R s m args below meth c G nL qf (cells + rm.cells) (slots + rm.slots) h1 (pc + 3) lv rest (f r h1)) : J p l e R s m args below meth c G nL qf cells slots h pc lv st (bn2 g f) := J_callS (rv := rvU) C hM M hl1 hi1 hq hd hR hn hst hf kk
theorem J_callSR (C : Cx p s m args meth c G cc nL own) {y : MethodName} {cy : ByteArray} {nY n idx : Nat} {ret : Option FieldType} {rm : Room} {As rest : List Value} {g : Option (Option Nat × PH)} {f : Option Nat → PH → Option (α × PH)} (hM : ∀ z, g = some z → MC l G y cy nY ret rm As h (rvR z.1) z.2) (M : MW y cy nY ret n) (hl1 : Cond.methodLink own idx y ∈ GW) (hi1 : Cond.static y ∈ GW) (hq : st = As.reverse ++ rest) (hd : decode cc pc = .ok (.invokestatic idx, 3)) (hR : rm.frames + 1 ≤ R.frames ∧ 8 + (nY + 11) + rm.locals ≤ R.locals) (hn : As.length = n) (hst : (rest.map fun v => v.category).sum ≤ 8) (hf : cells + rm.cells ≤ R.cells ∧ slots + rm.slots ≤ R.slots) (kk : ∀ (r : Option Nat) (h1 : PH), J p l e R s m args below meth c G nL qf (cells + rm.cells) (slots + rm.slots) h1 (pc + 3) lv (va_rf r :: rest) (f r h1)) : J p l e R s m args below meth c G nL qf cells slots h pc lv st (bn2 g f) := J_callS (rv := rvR) C hM M hl1 hi1 hq hd hR hn hst hf kk
theorem J_callSNI (C : Cx p s m args meth c G cc nL own) {y : MethodName} {cy : ByteArray} {nY n idx : Nat} {ret : Option FieldType} {rm : Room} {As rest : List Value} {g : Option (Int32 × PH)} {f : Int32 → PH → Option (α × PH)} (hM : ∀ z, g = some z → MC l G y cy nY ret rm As h (rvI z.1) z.2) (M : MW y cy nY ret n) (host : String) (hl1 : (own, idx, y, host) ∈ NW) (hi1 : Cond.static y ∈ GW) (hq : st = As.reverse ++ rest) (hd : decode cc pc = .ok (.invokestatic idx, 3)) (hR : rm.frames + 1 ≤ R.frames ∧ 8 + (nY + 11) + rm.locals ≤ R.locals) (hn : As.length = n) (hst : (rest.map fun v => v.category).sum ≤ 8) (hf : cells + rm.cells ≤ R.cells ∧ slots + rm.slots ≤ R.slots) (kk : ∀ (r : Int32) (h1 : PH), J p l e R s m args below meth c G nL qf (cells + rm.cells) (slots + rm.slots) h1 (pc + 3) lv (.int r :: rest) (f r h1)) : J p l e R s m args below meth c G nL qf cells slots h pc lv st (bn2 g f) := J_callSN (rv := rvI) C hM M host hl1 hi1 hq hd hR hn hst hf kk
theorem J_callSNJ (C : Cx p s m args meth c G cc nL own) {y : MethodName} {cy : ByteArray} {nY n idx : Nat} {ret : Option FieldType} {rm : Room} {As rest : List Value} {g : Option (Int64 × PH)} {f : Int64 → PH → Option (α × PH)} (hM : ∀ z, g = some z → MC l G y cy nY ret rm As h (rvJ z.1) z.2) (M : MW y cy nY ret n) (host : String) (hl1 : (own, idx, y, host) ∈ NW) (hi1 : Cond.static y ∈ GW) (hq : st = As.reverse ++ rest) (hd : decode cc pc = .ok (.invokestatic idx, 3)) (hR : rm.frames + 1 ≤ R.frames ∧ 8 + (nY + 11) + rm.locals ≤ R.locals) (hn : As.length = n) (hst : (rest.map fun v => v.category).sum ≤ 8) (hf : cells + rm.cells ≤ R.cells ∧ slots + rm.slots ≤ R.slots) (kk : ∀ (r : Int64) (h1 : PH), J p l e R s m args below meth c G nL qf (cells + rm.cells) (slots + rm.slots) h1 (pc + 3) lv (.long r :: rest) (f r h1)) : J p l e R s m args below meth c G nL qf cells slots h pc lv st (bn2 g f) := J_callSN (rv := rvJ) C hM M host hl1 hi1 hq hd hR hn hst hf kk
theorem J_callSNU (C : Cx p s m args meth c G cc nL own) {y : MethodName} {cy : ByteArray} {nY n idx : Nat} {ret : Option FieldType} {rm : Room} {As rest : List Value} {g : Option (Unit × PH)} {f : Unit → PH → Option (α × PH)} (hM : ∀ z, g = some z → MC l G y cy nY ret rm As h (rvU z.1) z.2) (M : MW y cy nY ret n) (host : String) (hl1 : (own, idx, y, host) ∈ NW) (hi1 : Cond.static y ∈ GW) (hq : st = As.reverse ++ rest) (hd : decode cc pc = .ok (.invokestatic idx, 3)) (hR : rm.frames + 1 ≤ R.frames ∧ 8 + (nY + 11) + rm.locals ≤ R.locals) (hn : As.length = n) (hst : (rest.map fun v => v.category).sum ≤ 8) (hf : cells + rm.cells ≤ R.cells ∧ slots + rm.slots ≤ R.slots) (kk : ∀ (r : Unit) (h1 : PH), J p l e R s m args below meth c G nL qf (cells + rm.cells) (slots + rm.slots) h1 (pc + 3) lv rest (f r h1)) : J p l e R s m args below meth c G nL qf cells slots h pc lv st (bn2 g f) := J_callSN (rv := rvU) C hM M host hl1 hi1 hq hd hR hn hst hf kk
theorem J_callSNR (C : Cx p s m args meth c G cc nL own) {y : MethodName} {cy : ByteArray} {nY n idx : Nat} {ret : Option FieldType} {rm : Room} {As rest : List Value} {g : Option (Option Nat × PH)} {f : Option Nat → PH → Option (α × PH)} (hM : ∀ z, g = some z → MC l G y cy nY ret rm As h (rvR z.1) z.2) (M : MW y cy nY ret n) (host : String) (hl1 : (own, idx, y, host) ∈ NW) (hi1 : Cond.static y ∈ GW) (hq : st = As.reverse ++ rest) (hd : decode cc pc = .ok (.invokestatic idx, 3)) (hR : rm.frames + 1 ≤ R.frames ∧ 8 + (nY + 11) + rm.locals ≤ R.locals) (hn : As.length = n) (hst : (rest.map fun v => v.category).sum ≤ 8) (hf : cells + rm.cells ≤ R.cells ∧ slots + rm.slots ≤ R.slots) (kk : ∀ (r : Option Nat) (h1 : PH), J p l e R s m args below meth c G nL qf (cells + rm.cells) (slots + rm.slots) h1 (pc + 3) lv (va_rf r :: rest) (f r h1)) : J p l e R s m args below meth c G nL qf cells slots h pc lv st (bn2 g f) := J_callSN (rv := rvR) C hM M host hl1 hi1 hq hd hR hn hst hf kk
theorem J_callIU (C : Cx p s m args meth c G cc nL own) {y : MethodName} {cy : ByteArray} {nY n idx : Nat} {ret : Option FieldType} {rm : Room} {As rest : List Value} {g : Option (Unit × PH)} {f : Unit → PH → Option (α × PH)} {a : Nat} (hM : ∀ z, g = some z → MC l G y cy nY ret rm (.ref a :: As) h (rvU z.1) z.2) (M : MW y cy nY ret n) (hnr : ret = none) (hy1 : y.name = "<init>") (hl1 : Cond.methodLink own idx y ∈ GW) (hi1 : Cond.instanceMethod y ∈ GW) (hq : st = As.reverse ++ .ref a :: rest) (hd : decode cc pc = .ok (.invokespecial idx, 3)) (hR : rm.frames + 1 ≤ R.frames ∧ 8 + (nY + 11) + rm.locals ≤ R.locals) (hn : As.length = n) (hst : (rest.map fun v => v.category).sum ≤ 8) (hf : cells + rm.cells ≤ R.cells ∧ slots + rm.slots ≤ R.slots) (kk : ∀ (r : Unit) (h1 : PH), J p l e R s m args below meth c G nL qf (cells + rm.cells) (slots + rm.slots) h1 (pc + 3) lv rest (f r h1)) : J p l e R s m args below meth c G nL qf cells slots h pc lv st (bn2 g f) := J_callI (rv := rvU) C hM M hnr hy1 hl1 hi1 hq hd hR hn hst hf kk
theorem J_callINU (C : Cx p s m args meth c G cc nL own) {y : MethodName} {cy : ByteArray} {nY n idx : Nat} {ret : Option FieldType} {rm : Room} {As rest : List Value} {g : Option (Unit × PH)} {f : Unit → PH → Option (α × PH)} {a : Nat} (hM : ∀ z, g = some z → MC l G y cy nY ret rm (.ref a :: As) h (rvU z.1) z.2) (M : MW y cy nY ret n) (hnr : ret = none) (host : String) (hy1 : y.name = "<init>") (hl1 : (own, idx, y, host) ∈ NW) (hi1 : Cond.instanceMethod y ∈ GW) (hq : st = As.reverse ++ .ref a :: rest) (hd : decode cc pc = .ok (.invokespecial idx, 3)) (hR : rm.frames + 1 ≤ R.frames ∧ 8 + (nY + 11) + rm.locals ≤ R.locals) (hn : As.length = n) (hst : (rest.map fun v => v.category).sum ≤ 8) (hf : cells + rm.cells ≤ R.cells ∧ slots + rm.slots ≤ R.slots) (kk : ∀ (r : Unit) (h1 : PH), J p l e R s m args below meth c G nL qf (cells + rm.cells) (slots + rm.slots) h1 (pc + 3) lv rest (f r h1)) : J p l e R s m args below meth c G nL qf cells slots h pc lv st (bn2 g f) := J_callIN (rv := rvU) C hM M hnr host hy1 hl1 hi1 hq hd hR hn hst hf kk
theorem J_obj (C : Cx p s m args meth c G cc nL own) {idx a : Nat} (hl1 : Cond.methodLink own idx objectInit ∈ GW) (hi1 : Cond.instanceMethod objectInit ∈ GW) (hc1 : Cond.code objectInit ⟨#[0xb1]⟩ 1 none ∈ GW) (hd : decode cc pc = .ok (.invokespecial idx, 3)) (hfr : 1 ≤ R.frames) (hlo : (st.map fun v => v.category).sum + 12 ≤ R.locals) (k : J p l e R s m args below meth c G nL qf cells slots h (pc + 3) lv st b) : J p l e R s m args below meth c G nL qf cells slots h pc lv (.ref a :: st) b := by
  intro z hz H locs ls hh hS hl
  refine W.objInit C.1 C.2.1 C.2.2.2.1 (C.2.2.2.2.1 _ hl1) (C.2.2.2.2.1 _ hi1) (C.2.2.2.2.1 _ hc1) rfl (by rw [C.2.2.1]; exact hl.1) rfl hd hfr (by show 2 * 0 + _ + 12 ≤ _; omega) ?_
  exact k z hz H locs ls hh hS hl
theorem J_iret (C : Cx p s m args meth c G cc nL own) {v : Int32} (hr : meth.sig.returnType = some .int) (hd : decode cc pc = .ok (.ireturn, 1)) : J p l e R s m args below meth c G nL (qM below args s rvI G cells slots) cells slots h pc lv [.int v] (some (v, h)) := by
  intro z hz H locs ls hh hS hl
  cases hz
  exact W.iret C.1 C.2.1 hr (fun t ht hW => ⟨rfl, by rw [ht]; exact hh, hS.F ht⟩) hS.2.2 hd C.2.2.2.2.2.1
theorem J_zret (C : Cx p s m args meth c G cc nL own) {v : Int32} {ty : FieldType} (hr : meth.sig.returnType = some ty) (hn : narrow ty (.int v) = .int v) (hd : decode cc pc = .ok (.ireturn, 1)) : J p l e R s m args below meth c G nL (qM below args s rvI G cells slots) cells slots h pc lv [.int v] (some (v, h)) := by
  intro z hz H locs ls hh hS hl
  cases hz
  exact W.zret C.1 C.2.1 hr hn (fun t ht hW => ⟨rfl, by rw [ht]; exact hh, hS.F ht⟩) hS.2.2 hd C.2.2.2.2.2.1
theorem J_zretC (C : Cx p s m args meth c G cc nL own) {v : Int32} (hr : meth.sig.returnType = some .boolean) (hd : decode cc pc = .ok (.ireturn, 1)) : J p l e R s m args below meth c G nL (qM below args s rvI G cells slots) cells slots h pc lv [.int v] (if v = 0 ∨ v = 1 then some (v, h) else none) := by
  intro z hz H locs ls hh hS hl
  by_cases q : v = 0 ∨ v = 1
  · rw [if_pos q] at hz
    exact J_zret C hr (by rcases q with rfl | rfl <;> rfl) hd z hz H locs ls hh hS hl
  · rw [if_neg q] at hz
    cases hz
theorem J_lret (C : Cx p s m args meth c G cc nL own) {v : Int64} (hr : meth.sig.returnType = some .long) (hd : decode cc pc = .ok (.lreturn, 1)) : J p l e R s m args below meth c G nL (qM below args s rvJ G cells slots) cells slots h pc lv [.long v] (some (v, h)) := by
  intro z hz H locs ls hh hS hl
  cases hz
  exact W.lret C.1 C.2.1 hr (fun t ht hW => ⟨rfl, by rw [ht]; exact hh, hS.F ht⟩) hS.2.2 hd C.2.2.2.2.2.1
theorem J_vret (C : Cx p s m args meth c G cc nL own) (hr : meth.sig.returnType = none) (hd : decode cc pc = .ok (.return_, 1)) : J p l e R s m args below meth c G nL (qM below args s rvU G cells slots) cells slots h pc lv [] (some ((), h)) := by
  intro z hz H locs ls hh hS hl
  cases hz
  exact W.vret C.1 C.2.1 hr (fun t ht hW => ⟨rfl, by rw [ht]; exact hh, hS.F ht⟩) hS.2.2 hd C.2.2.2.2.2.1
theorem J_aret (C : Cx p s m args meth c G cc nL own) {v : Option Nat} {Cn : String} (hr : meth.sig.returnType = some (.object Cn)) (hd : decode cc pc = .ok (.areturn, 1)) : J p l e R s m args below meth c G nL (qM below args s rvR G cells slots) cells slots h pc lv [va_rf v] (some (v, h)) := by
  intro z hz H locs ls hh hS hl
  cases hz
  exact W.aret C.1 C.2.1 hr (Or.inl ⟨_, rfl⟩) (by cases v with | none => exact Or.inl rfl | some a => exact Or.inr ⟨a, rfl⟩) (fun t ht hW => ⟨rfl, by rw [ht]; exact hh, hS.F ht⟩) hS.2.2 hd C.2.2.2.2.2.1
end
