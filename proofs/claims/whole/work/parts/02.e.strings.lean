def schk (w : Nat) : Option Unit := if w < 4 then some () else none
def slenI (w : Nat) : Int32 := Int32.ofNat (slens.getD w 0)
def sbyt (w : Nat) (i : Int32) : Option Int32 := if w < 4 ∧ ¬ (i < 0 ∨ slens.getD w 0 ≤ i.toNatClampNeg) then some ((sbyts.getD w []).getD i.toNatClampNeg 0) else none
theorem schk_spec {w : Nat} {u : Unit} (h : schk w = some u) : w < 4 := by
  unfold schk at h
  split at h
  · assumption
  · cases h
theorem sbyt_spec {w : Nat} {i x : Int32} (h : sbyt w i = some x) : w < 4 ∧ vp_in i (slens.getD w 0) ∧ x = (sbyts.getD w []).getD i.toNatClampNeg 0 := by
  unfold sbyt at h
  split at h
  · next e => cases h; exact ⟨e.1, e.2, rfl⟩
  · cases h

theorem wSval : Cond.fieldLink RJ0 9 "java/lang/String" "value" "[B" ∈ GW := gw5 (List.mem_of_getElem? (i := 86) (by decide +kernel)) rfl
theorem wScod : Cond.fieldLink RJ0 15 "java/lang/String" "coder" "B" ∈ GW := gw5 (List.mem_of_getElem? (i := 87) (by decide +kernel)) rfl
theorem wScmp : Cond.fieldLink RJ0 38 "java/lang/String" "COMPACT_STRINGS" "Z" ∈ GW := gw2 (List.mem_of_getElem? (i := 216) (by decide +kernel)) rfl
theorem wSfor : Cond.fieldLink RJ0 1053 "jdk/internal/util/Preconditions" "SIOOBE_FORMATTER" "Ljava/util/function/BiFunction;" ∈ GW := gw2 (List.mem_of_getElem? (i := 232) (by decide +kernel)) rfl
section
variable {p : Program} {l : Launch} {e : Env} {R : Room} {s : State} {m : MethodId} {args : Array Value} {below : List Frame} {meth : Method} {c : Code} {G : GX} {cc : ByteArray} {nL : Nat} {own : String} {α : Type} {qf : α × PH → State → Prop} {cells slots : Nat} {h : PH} {pc : Nat} {lv : List (Nat × Value)} {st : List Value} {b : Option (α × PH)}
theorem J_ldcS0 (C : Cx p s m args meth c G cc nL "GoldLeaves$ColourReader") (hd : decode cc pc = .ok (.ldc 92, 2)) (k : J p l e R s m args below meth c G nL qf cells slots h (pc + 2) lv (.ref (G.2.2.2.1 0) :: st) b) : J p l e R s m args below meth c G nL qf cells slots h pc lv st b := fun z hz H locs ls hh hS hl => va_ldcS C.1 C.2.1 C.2.2.2.1 C.2.2.2.2.2.2.2.2.2.2.2.1.1 hd (k z hz H locs ls hh hS hl)
theorem J_ldcS1 (C : Cx p s m args meth c G cc nL "GoldLeaves$ColourReader") (hd : decode cc pc = .ok (.ldc 94, 2)) (k : J p l e R s m args below meth c G nL qf cells slots h (pc + 2) lv (.ref (G.2.2.2.1 1) :: st) b) : J p l e R s m args below meth c G nL qf cells slots h pc lv st b := fun z hz H locs ls hh hS hl => va_ldcS C.1 C.2.1 C.2.2.2.1 C.2.2.2.2.2.2.2.2.2.2.2.1.2.1 hd (k z hz H locs ls hh hS hl)
theorem J_ldcS2 (C : Cx p s m args meth c G cc nL "GoldLeaves$ColourReader") (hd : decode cc pc = .ok (.ldc 96, 2)) (k : J p l e R s m args below meth c G nL qf cells slots h (pc + 2) lv (.ref (G.2.2.2.1 2) :: st) b) : J p l e R s m args below meth c G nL qf cells slots h pc lv st b := fun z hz H locs ls hh hS hl => va_ldcS C.1 C.2.1 C.2.2.2.1 C.2.2.2.2.2.2.2.2.2.2.2.1.2.2.1 hd (k z hz H locs ls hh hS hl)
theorem J_ldcS3 (C : Cx p s m args meth c G cc nL "GoldLeaves$ColourReader") (hd : decode cc pc = .ok (.ldc 82, 2)) (k : J p l e R s m args below meth c G nL qf cells slots h (pc + 2) lv (.ref (G.2.2.2.1 3) :: st) b) : J p l e R s m args below meth c G nL qf cells slots h pc lv st b := fun z hz H locs ls hh hS hl => va_ldcS C.1 C.2.1 C.2.2.2.1 C.2.2.2.2.2.2.2.2.2.2.2.1.2.2.2 hd (k z hz H locs ls hh hS hl)
theorem J_gsC (C : Cx p s m args meth c G cc nL RJ0) (hd : decode cc pc = .ok (.getstatic 38, 3)) (k : J p l e R s m args below meth c G nL qf cells slots h (pc + 3) lv (.int 1 :: st) b) : J p l e R s m args below meth c G nL qf cells slots h pc lv st b := by
  intro z hz H locs ls hh hS hl
  exact va_gets C.1 C.2.1 C.2.2.2.2.2.2.2.2.2.2.2.2.2.1 hS C.2.2.2.1 (C.2.2.2.2.1 _ wScmp) (fun _ h9 => h9) hd (k z hz H locs ls hh hS hl)
theorem J_gsQ (C : Cx p s m args meth c G cc nL RJ0) (hd : decode cc pc = .ok (.getstatic 1053, 3)) (k : ∀ o : Option Nat, J p l e R s m args below meth c G nL qf cells slots h (pc + 3) lv (va_rf o :: st) b) : J p l e R s m args below meth c G nL qf cells slots h pc lv st b := by
  intro z hz H locs ls hh hS hl
  rcases C.2.2.2.2.2.2.2.2.2.2.2.2.2.2 with h9 | ⟨t, h9⟩
  · exact va_gets C.1 C.2.1 h9 hS C.2.2.2.1 (C.2.2.2.2.1 _ wSfor) (fun _ h9 => h9) hd (k none z hz H locs ls hh hS hl)
  · exact va_gets C.1 C.2.1 h9 hS C.2.2.2.1 (C.2.2.2.2.1 _ wSfor) (fun _ h9 => h9) hd (k (some t) z hz H locs ls hh hS hl)
theorem J_sgetV (C : Cx p s m args meth c G cc nL RJ0) {w : Nat} (hd : decode cc pc = .ok (.getfield 9, 3)) (k : J p l e R s m args below meth c G nL qf cells slots h (pc + 3) lv (.ref (G.2.2.2.2 w) :: st) b) : J p l e R s m args below meth c G nL qf cells slots h pc lv (.ref (G.2.2.2.1 w) :: st) (bn (schk w) fun _ => b) := by
  intro z hz H locs ls hh hS hl
  obtain ⟨u, hw, hz⟩ := bn_some hz
  exact vk_getf C.1 C.2.1 (C.2.2.2.2.2.2.2.2.2.2.2.2.1.1 w (schk_spec hw)).2.2.1 hS C.2.2.2.1 (C.2.2.2.2.1 _ wSval) (fun _ h9 => h9) hd (k z hz H locs ls hh hS hl)
theorem J_sgetC (C : Cx p s m args meth c G cc nL RJ0) {w : Nat} (hd : decode cc pc = .ok (.getfield 15, 3)) (k : J p l e R s m args below meth c G nL qf cells slots h (pc + 3) lv (.int 0 :: st) b) : J p l e R s m args below meth c G nL qf cells slots h pc lv (.ref (G.2.2.2.1 w) :: st) (bn (schk w) fun _ => b) := by
  intro z hz H locs ls hh hS hl
  obtain ⟨u, hw, hz⟩ := bn_some hz
  exact vk_getf C.1 C.2.1 (C.2.2.2.2.2.2.2.2.2.2.2.2.1.1 w (schk_spec hw)).2.1 hS C.2.2.2.1 (C.2.2.2.2.1 _ wScod) (fun _ h9 => h9) hd (k z hz H locs ls hh hS hl)
theorem J_salen (C : Cx p s m args meth c G cc nL own) {w : Nat} (hd : decode cc pc = .ok (.arraylength, 1)) (k : J p l e R s m args below meth c G nL qf cells slots h (pc + 1) lv (.int (slenI w) :: st) b) : J p l e R s m args below meth c G nL qf cells slots h pc lv (.ref (G.2.2.2.2 w) :: st) (bn (schk w) fun _ => b) := by
  intro z hz H locs ls hh hS hl
  obtain ⟨u, hw, hz⟩ := bn_some hz
  exact va_tlen C.1 C.2.1 (C.2.2.2.2.2.2.2.2.2.2.2.2.1.1 w (schk_spec hw)).2.2.2 hS rfl hd (k z hz H locs ls hh hS hl)
theorem J_sbald (C : Cx p s m args meth c G cc nL own) {w : Nat} {i : Int32} {f : Int32 → Option (α × PH)} (hd : decode cc pc = .ok (.baload, 1)) (k : ∀ x : Int32, J p l e R s m args below meth c G nL qf cells slots h (pc + 1) lv (.int x :: st) (f x)) : J p l e R s m args below meth c G nL qf cells slots h pc lv (.int i :: .ref (G.2.2.2.2 w) :: st) (bn (sbyt w i) f) := by
  intro z hz H locs ls hh hS hl
  obtain ⟨x, hw, hz⟩ := bn_some hz
  obtain ⟨h1, h2, rfl⟩ := sbyt_spec hw
  exact va_tb C.1 C.2.1 (C.2.2.2.2.2.2.2.2.2.2.2.2.1.1 w h1).2.2.2 hS h2 rfl hd (k _ z hz H locs ls hh hS hl)
theorem J_i2c (C : Cx p s m args meth c G cc nL own) {x : Int32} (hd : decode cc pc = .ok (.i2c, 1)) (k : J p l e R s m args below meth c G nL qf cells slots h (pc + 1) lv (.int (x.toUInt32 % 65536).toInt32 :: st) b) : J p l e R s m args below meth c G nL qf cells slots h pc lv (.int x :: st) b := fun z hz H locs ls hh hS hl => lv_i2c C.1 C.2.1 hd rfl (k z hz H locs ls hh hS hl)
theorem J_pop (C : Cx p s m args meth c G cc nL own) {va : Value} (hd : decode cc pc = .ok (.pop, 1)) (hva : va.category = 1) (k : J p l e R s m args below meth c G nL qf cells slots h (pc + 1) lv st b) : J p l e R s m args below meth c G nL qf cells slots h pc lv (va :: st) b := fun z hz H locs ls hh hS hl => lv_pop C.1 C.2.1 hd hva (k z hz H locs ls hh hS hl)
theorem J_cretC (C : Cx p s m args meth c G cc nL own) {v : Int32} (hr : meth.sig.returnType = some .char) (hd : decode cc pc = .ok (.ireturn, 1)) : J p l e R s m args below meth c G nL (qM below args s rvI G cells slots) cells slots h pc lv [.int v] (if (v.toUInt32 % 65536).toInt32 = v then some (v, h) else none) := by
  intro z hz H locs ls hh hS hl
  by_cases q : (v.toUInt32 % 65536).toInt32 = v
  · rw [if_pos q] at hz
    exact J_zret C hr (by rw [← q]; exact pk_nc _) hd z hz H locs ls hh hS hl
  · rw [if_neg q] at hz
    cases hz
theorem J_callVS (C : Cx p s m args meth c G cc nL own) {y : MethodName} {cy : ByteArray} {nY n idx : Nat} {ret : Option FieldType} {rm : Room} {As rest : List Value} {g : Option (Int32 × PH)} {f : Int32 → PH → Option (α × PH)} {w : Nat} (hM : ∀ z, g = some z → MC l G y cy nY ret rm (.ref (G.2.2.2.1 w) :: As) h (rvI z.1) z.2) (M : MW y cy nY ret n) (hcy : y.cls = "java/lang/String") (hse : Cond.selects "java/lang/String" y y ∈ GW) (hl1 : Cond.methodLink own idx y ∈ GW) (hi1 : Cond.instanceMethod y ∈ GW) (hq : st = As.reverse ++ .ref (G.2.2.2.1 w) :: rest) (hd : decode cc pc = .ok (.invokevirtual idx, 3)) (hR : rm.frames + 1 ≤ R.frames ∧ 8 + (nY + 11) + rm.locals ≤ R.locals) (hn : As.length = n) (hst : (rest.map fun v => v.category).sum ≤ 8) (hf : cells + rm.cells ≤ R.cells ∧ slots + rm.slots ≤ R.slots) (kk : ∀ (r : Int32) (h1 : PH), J p l e R s m args below meth c G nL qf (cells + rm.cells) (slots + rm.slots) h1 (pc + 3) lv (.int r :: rest) (f r h1)) : J p l e R s m args below meth c G nL qf cells slots h pc lv st (bn (schk w) fun _ => bn2 g f) := by
  intro z hz H locs ls hh hS hl
  obtain ⟨u, hw, hz⟩ := bn_some hz
  obtain ⟨x, h1, hg, hz⟩ := bn2_some hz
  have hM := hM _ hg
  refine run_J (r := rvI x) (h1 := h1) (va_runV (C := "java/lang/String") (b := G.2.2.2.1 w) (As := As) (rest := rest) ⟨C.1, C.2.1, C.2.2.1, C.2.2.2.1, C.2.2.2.2.1⟩ hM ⟨callB_of n C.2.2.2.2.1 (MW_good M) rfl rfl rfl (C.2.2.2.2.1 _ M.2.1) (C.2.2.2.2.1 _ hl1) M.2.2 hR, C.2.2.2.2.1 _ hi1, C.2.2.2.2.1 _ hse⟩ ⟨blind_J, vk_recv C.2.2.2.2.2.2.2.2.2.2.2.2.1 (schk_spec hw) hS, fun U hU hW => ⟨rfl, kt_step C.2.2.2.2.2.2 hS hU hW, by rw [hU]; exact hh⟩⟩ rfl hn hl.1 hq (lv_room hst) hd hf) hS fun H1 locs1 hh1 hS1 => ?_
  exact kk x h1 z hz H1 locs1 ls hh1 hS1 hl
end
