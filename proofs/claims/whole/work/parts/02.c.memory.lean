/-- a field's link: class number ci, field k, read at own's pool place idx -/
def FL (own : String) (idx ci k : Nat) : Prop := ∃ (C : String) (T : u_T) (N : Nat), vwCl[ci]? = some (C, T, N) ∧ k < N ∧ (∀ w ∈ u_ws C T N, w ∈ GW) ∧ Cond.fieldLink own idx (T k).1 (T k).2.1 (T k).2.2.1 ∈ GW
/-- what a store needs of a class -/
def CLo (ci : Nat) : Prop := ∃ (C : String) (T : u_T) (N : Nat) (ty : Nat → FieldType), vwCl[ci]? = some (C, T, N) ∧ (∀ w ∈ u_ws C T N, w ∈ GW) ∧ (∀ k, k < N → parseFieldDescriptor (T k).2.2.1 = some (ty k)) ∧ (∀ a, a < N → ∀ b, b < N → a ≠ b → (T a).2.1 ≠ (T b).2.1)
def FT (ci k : Nat) (fin : Bool) (ty : FieldType) : Prop := ∃ (C : String) (T : u_T) (N : Nat), vwCl[ci]? = some (C, T, N) ∧ (T k).2.2.2 = fin ∧ (T k).1 = C ∧ parseFieldDescriptor (T k).2.2.1 = some ty
def rdV (ci k a : Nat) (h : PH) : Option Value := match h.2 a with
  | some (.inr o) => if o.1 = ci then o.2[k]? else none
  | _ => none
def vI (v : Option Value) : Option Int32 := match v with
  | some (.int x) => some x
  | _ => none
def vJ (v : Option Value) : Option Int64 := match v with
  | some (.long x) => some x
  | _ => none
def vR (v : Option Value) : Option Nat := match v with
  | some (.ref x) => some x
  | _ => none
def rdI (ci k a : Nat) (h : PH) : Option Int32 := vI (rdV ci k a h)
def rdJ (ci k a : Nat) (h : PH) : Option Int64 := vJ (rdV ci k a h)
def rdR (ci k a : Nat) (h : PH) : Option Nat := vR (rdV ci k a h)
def wr (ci k : Nat) (v : Value) (a : Nat) (h : PH) : Option PH := match h.2 a with
  | some (.inr o) => if o.1 = ci ∧ k < o.2.length then some (h.1, hup h.2 a (.inr (o.1, o.2.set k v))) else none
  | _ => none
def chk (ci a : Nat) (h : PH) : Option Unit := match h.2 a with
  | some (.inr o) => if o.1 = ci then some () else none
  | _ => none
theorem rdV_spec {ci k a : Nat} {h : PH} {v : Value} (q : rdV ci k a h = some v) : ∃ fs, h.2 a = some (.inr (ci, fs)) ∧ fs[k]? = some v := by
  unfold rdV at q
  split at q
  · next o ho =>
    split at q
    · next e => subst e; exact ⟨o.2, ho, q⟩
    · cases q
  · cases q
theorem vI_spec {v : Option Value} {x : Int32} (q : vI v = some x) : v = some (.int x) := by
  unfold vI at q
  split at q
  · cases q; rfl
  · cases q
theorem vJ_spec {v : Option Value} {x : Int64} (q : vJ v = some x) : v = some (.long x) := by
  unfold vJ at q
  split at q
  · cases q; rfl
  · cases q
theorem vR_spec {v : Option Value} {x : Nat} (q : vR v = some x) : v = some (.ref x) := by
  unfold vR at q
  split at q
  · cases q; rfl
  · cases q
theorem wr_spec {ci k a : Nat} {v : Value} {h h1 : PH} (q : wr ci k v a h = some h1) : ∃ fs, h.2 a = some (.inr (ci, fs)) ∧ k < fs.length ∧ h1 = (h.1, hup h.2 a (.inr (ci, fs.set k v))) := by
  unfold wr at q
  split at q
  · next o ho =>
    split at q
    · next e => obtain ⟨e1, e2⟩ := e; subst e1; cases q; exact ⟨o.2, ho, e2, rfl⟩
    · cases q
  · cases q
theorem chk_spec {ci a : Nat} {h : PH} {u : Unit} (q : chk ci a h = some u) : ∃ fs, h.2 a = some (.inr (ci, fs)) := by
  unfold chk at q
  split at q
  · next o ho =>
    split at q
    · next e => subst e; exact ⟨o.2, ho⟩
    · cases q
  · cases q
/-- the rows: kind t, an index within -/
def aldI (t a : Nat) (i : Int32) (h : PH) : Option Int32 := match h.2 a with
  | some (.inl (t1, n, .inl f)) => if t1 = t ∧ ¬ (i < 0 ∨ n ≤ i.toNatClampNeg) then some (f i.toNatClampNeg) else none
  | _ => none
def aldJ (a : Nat) (i : Int32) (h : PH) : Option Int64 := match h.2 a with
  | some (.inl (t1, n, .inr (.inl f))) => if t1 = 2 ∧ ¬ (i < 0 ∨ n ≤ i.toNatClampNeg) then some (f i.toNatClampNeg) else none
  | _ => none
def aldR (t a : Nat) (i : Int32) (h : PH) : Option (Option Nat) := match h.2 a with
  | some (.inl (t1, n, .inr (.inr (.inr (.inr f))))) => if t1 = t ∧ ¬ (i < 0 ∨ n ≤ i.toNatClampNeg) then some (f i.toNatClampNeg) else none
  | _ => none
def astI (a : Nat) (i x : Int32) (h : PH) : Option PH := match h.2 a with
  | some (.inl (t1, n, .inl f)) => if t1 = 0 ∧ ¬ (i < 0 ∨ n ≤ i.toNatClampNeg) then some (h.1, hup h.2 a (.inl (0, n, .inl (upd f i.toNatClampNeg x)))) else none
  | _ => none
def astZ (a : Nat) (i x : Int32) (h : PH) : Option PH := match h.2 a with
  | some (.inl (t1, n, .inl f)) => if t1 = 1 ∧ (x = 0 ∨ x = 1) ∧ ¬ (i < 0 ∨ n ≤ i.toNatClampNeg) then some (h.1, hup h.2 a (.inl (1, n, .inl (upd f i.toNatClampNeg x)))) else none
  | _ => none
def astJ (a : Nat) (i : Int32) (x : Int64) (h : PH) : Option PH := match h.2 a with
  | some (.inl (t1, n, .inr (.inl f))) => if t1 = 2 ∧ ¬ (i < 0 ∨ n ≤ i.toNatClampNeg) then some (h.1, hup h.2 a (.inl (2, n, .inr (.inl (vp_updL f i.toNatClampNeg x))))) else none
  | _ => none
/-- an object of class ci into a row of kind t -/
def astR (t ci a : Nat) (i : Int32) (v : Nat) (h : PH) : Option PH := match h.2 a, chk ci v h with
  | some (.inl (t1, n, .inr (.inr (.inr (.inr f))))), some _ => if t1 = t ∧ ¬ (i < 0 ∨ n ≤ i.toNatClampNeg) then some (h.1, hup h.2 a (.inl (t, n, .inr (.inr (.inr (.inr (va_up f i.toNatClampNeg (some v)))))))) else none
  | _, _ => none
theorem aldI_spec {t a : Nat} {i x : Int32} {h : PH} (q : aldI t a i h = some x) : ∃ n f, h.2 a = some (.inl (t, n, .inl f)) ∧ vp_in i n ∧ x = f i.toNatClampNeg := by
  unfold aldI at q
  split at q
  · next t1 n f ho =>
    split at q
    · next e => obtain ⟨e1, e2⟩ := e; subst e1; cases q; exact ⟨n, f, ho, e2, rfl⟩
    · cases q
  · cases q
theorem aldJ_spec {a : Nat} {i : Int32} {x : Int64} {h : PH} (q : aldJ a i h = some x) : ∃ n f, h.2 a = some (.inl (2, n, .inr (.inl f))) ∧ vp_in i n ∧ x = f i.toNatClampNeg := by
  unfold aldJ at q
  split at q
  · next t1 n f ho =>
    split at q
    · next e => obtain ⟨e1, e2⟩ := e; subst e1; cases q; exact ⟨n, f, ho, e2, rfl⟩
    · cases q
  · cases q
def alenR (t a : Nat) (h : PH) : Option Int32 := match h.2 a with
  | some (.inl o) => if o.1 = t then some (Int32.ofNat o.2.1) else none
  | _ => none
theorem alenR_spec {t a : Nat} {x : Int32} {h : PH} (q : alenR t a h = some x) : ∃ y, h.2 a = some (.inl (t, y)) ∧ x = Int32.ofNat y.1 := by
  unfold alenR at q
  split at q
  · next o ho =>
    split at q
    · next e => subst e; cases q; exact ⟨o.2, ho, rfl⟩
    · cases q
  · cases q
theorem aldR_spec {t a : Nat} {i : Int32} {x : Option Nat} {h : PH} (q : aldR t a i h = some x) : ∃ n f, h.2 a = some (.inl (t, n, .inr (.inr (.inr (.inr f))))) ∧ vp_in i n ∧ x = f i.toNatClampNeg := by
  unfold aldR at q
  split at q
  · next t1 n f ho =>
    split at q
    · next e => obtain ⟨e1, e2⟩ := e; subst e1; cases q; exact ⟨n, f, ho, e2, rfl⟩
    · cases q
  · cases q
theorem astI_spec {a : Nat} {i x : Int32} {h h1 : PH} (q : astI a i x h = some h1) : ∃ n f, h.2 a = some (.inl (0, n, .inl f)) ∧ vp_in i n ∧ h1 = (h.1, hup h.2 a (.inl (0, n, .inl (upd f i.toNatClampNeg x)))) := by
  unfold astI at q
  split at q
  · next t1 n f ho =>
    split at q
    · next e => obtain ⟨e1, e2⟩ := e; subst e1; cases q; exact ⟨n, f, ho, e2, rfl⟩
    · cases q
  · cases q
theorem astZ_spec {a : Nat} {i x : Int32} {h h1 : PH} (q : astZ a i x h = some h1) : ∃ n f, h.2 a = some (.inl (1, n, .inl f)) ∧ vp_in i n ∧ (x = 0 ∨ x = 1) ∧ h1 = (h.1, hup h.2 a (.inl (1, n, .inl (upd f i.toNatClampNeg x)))) := by
  unfold astZ at q
  split at q
  · next t1 n f ho =>
    split at q
    · next e => obtain ⟨e1, e2, e3⟩ := e; subst e1; cases q; exact ⟨n, f, ho, e3, e2, rfl⟩
    · cases q
  · cases q
theorem astJ_spec {a : Nat} {i : Int32} {x : Int64} {h h1 : PH} (q : astJ a i x h = some h1) : ∃ n f, h.2 a = some (.inl (2, n, .inr (.inl f))) ∧ vp_in i n ∧ h1 = (h.1, hup h.2 a (.inl (2, n, .inr (.inl (vp_updL f i.toNatClampNeg x))))) := by
  unfold astJ at q
  split at q
  · next t1 n f ho =>
    split at q
    · next e => obtain ⟨e1, e2⟩ := e; subst e1; cases q; exact ⟨n, f, ho, e2, rfl⟩
    · cases q
  · cases q
theorem astR_spec {t ci a v : Nat} {i : Int32} {h h1 : PH} (q : astR t ci a i v h = some h1) : ∃ n f fs, h.2 a = some (.inl (t, n, .inr (.inr (.inr (.inr f))))) ∧ vp_in i n ∧ h.2 v = some (.inr (ci, fs)) ∧ h1 = (h.1, hup h.2 a (.inl (t, n, .inr (.inr (.inr (.inr (va_up f i.toNatClampNeg (some v)))))))) := by
  unfold astR at q
  split at q
  · next t1 n f u ho hc =>
    split at q
    · next e =>
      obtain ⟨e1, e2⟩ := e
      subst e1
      cases q
      obtain ⟨fs, hfs⟩ := chk_spec hc
      exact ⟨n, f, fs, ho, e2, hfs, rfl⟩
    · cases q
  · cases q

section
variable {p : Program} {l : Launch} {e : Env} {R : Room} {s : State} {m : MethodId} {args : Array Value} {below : List Frame} {meth : Method} {c : Code} {G : GX} {cc : ByteArray} {nL : Nat} {own : String} {α : Type} {qf : α × PH → State → Prop} {cells slots : Nat} {h : PH} {pc : Nat} {lv : List (Nat × Value)} {st : List Value} {b : Option (α × PH)}
theorem J_getI (C : Cx p s m args meth c G cc nL own) {idx ci k a : Nat} {f : Int32 → Option (α × PH)} (F : FL own idx ci k) (hd : decode cc pc = .ok (.getfield idx, 3)) (kk : ∀ x : Int32, J p l e R s m args below meth c G nL qf cells slots h (pc + 3) lv (.int x :: st) (f x)) : J p l e R s m args below meth c G nL qf cells slots h pc lv (.ref a :: st) (bn (rdI ci k a h) f) := by
  intro z hz H locs ls hh hS hl
  obtain ⟨x, hx, hz⟩ := bn_some hz
  obtain ⟨fs, ha, hk⟩ := rdV_spec (vI_spec hx)
  obtain ⟨Cn, T, N, hc, hkN, hin, hlk⟩ := F
  exact va_get C.1 C.2.1 C.2.2.2.2.1 hin C.2.2.2.1 C.2.2.2.2.2.2.1 (hp_one hh ha) 0 rfl hc k hkN (C.2.2.2.2.1 _ hlk) (fun _ h9 => h9) hk hd (kk x z hz H locs ls hh hS hl)
theorem J_getJ (C : Cx p s m args meth c G cc nL own) {idx ci k a : Nat} {f : Int64 → Option (α × PH)} (F : FL own idx ci k) (hd : decode cc pc = .ok (.getfield idx, 3)) (kk : ∀ x : Int64, J p l e R s m args below meth c G nL qf cells slots h (pc + 3) lv (.long x :: st) (f x)) : J p l e R s m args below meth c G nL qf cells slots h pc lv (.ref a :: st) (bn (rdJ ci k a h) f) := by
  intro z hz H locs ls hh hS hl
  obtain ⟨x, hx, hz⟩ := bn_some hz
  obtain ⟨fs, ha, hk⟩ := rdV_spec (vJ_spec hx)
  obtain ⟨Cn, T, N, hc, hkN, hin, hlk⟩ := F
  exact va_get C.1 C.2.1 C.2.2.2.2.1 hin C.2.2.2.1 C.2.2.2.2.2.2.1 (hp_one hh ha) 0 rfl hc k hkN (C.2.2.2.2.1 _ hlk) (fun _ h9 => h9) hk hd (kk x z hz H locs ls hh hS hl)
theorem J_getR (C : Cx p s m args meth c G cc nL own) {idx ci k a : Nat} {f : Nat → Option (α × PH)} (F : FL own idx ci k) (hd : decode cc pc = .ok (.getfield idx, 3)) (kk : ∀ x : Nat, J p l e R s m args below meth c G nL qf cells slots h (pc + 3) lv (.ref x :: st) (f x)) : J p l e R s m args below meth c G nL qf cells slots h pc lv (.ref a :: st) (bn (rdR ci k a h) f) := by
  intro z hz H locs ls hh hS hl
  obtain ⟨x, hx, hz⟩ := bn_some hz
  obtain ⟨fs, ha, hk⟩ := rdV_spec (vR_spec hx)
  obtain ⟨Cn, T, N, hc, hkN, hin, hlk⟩ := F
  exact va_get C.1 C.2.1 C.2.2.2.2.1 hin C.2.2.2.1 C.2.2.2.2.2.2.1 (hp_one hh ha) 0 rfl hc k hkN (C.2.2.2.2.1 _ hlk) (fun _ h9 => h9) hk hd (kk x z hz H locs ls hh hS hl)
theorem J_put (C : Cx p s m args meth c G cc nL own) {idx ci k a : Nat} {v : Value} {ty : FieldType} {f : PH → Option (α × PH)} (F : FL own idx ci k) (K : CLo ci) (Y : FT ci k false ty) (hn : narrow ty v = v) (hf : fits ty v = true) (hd : decode cc pc = .ok (.putfield idx, 3)) (kk : ∀ h1 : PH, J p l e R s m args below meth c G nL qf cells slots h1 (pc + 3) lv st (f h1)) : J p l e R s m args below meth c G nL qf cells slots h pc lv (v :: .ref a :: st) (bn (wr ci k v a h) f) := by
  intro z hz H locs ls hh hS hl
  obtain ⟨h1, hx, hz⟩ := bn_some hz
  obtain ⟨fs, ha, hl9, rfl⟩ := wr_spec hx
  obtain ⟨Cn, T, N, hc, hkN, hin, hlk⟩ := F
  obtain ⟨C2, T2, N2, ty2, hc2, -, htyA, hnm⟩ := K
  cases hc.symm.trans hc2
  obtain ⟨C3, T3, N3, hc3, hfin, hdecl, hty⟩ := Y
  cases hc.symm.trans hc3
  have hK := C.2.2.2.2.2.2.1
  have hts := C.2.2.2.2.1
  have hap := va_apart (own := own) hts hin ty2 htyA hnm hK hc
  obtain ⟨hba, r, h1, cell, q1, q2, q3, q4⟩ := hh.2.2 a _ ha
  have hr : r = (Cn, T, N) := Option.some.inj (h1.symm.trans hc)
  subst hr
  obtain ⟨hSl, hfc, kC, hkC, hkind⟩ := hK.1 ci _ hc
  obtain ⟨cf, kf, fi, f2, hi, hsl⟩ := hSl k hkN
  have hlay := hts _ (hin _ (u_in_lay hkN))
  have hst := (u_facts hfc hkC (u_lays hts hin hkN) hi).1
  unfold u_lay at hlay
  rw [if_neg (by rw [hfin]; decide)] at hlay
  have h6 := u_store hfc hkC hkind hlay hi hty hn hf
  refine W.putK C.1 C.2.1 (f := f2) ⟨C.2.2.2.1, C.2.2.2.2.1 _ hlk, ⟨_, _, _, hi⟩, hst⟩ (by rw [q2]; exact h6) q1 q3 (by rw [hsl]; exact k2_hasslot (q4 k hkN)) rfl rfl hd fun H1 e1 e2 e3 => ?_
  rw [hsl] at e1
  exact kk _ z hz H1 _ ls (hp_set hh hba ⟨_, hc, t_OB.to (V := updV (vp_V fs) k v) ⟨_, e1, q2, q3, t_set q4 hap hkN v⟩ (fun j _ => vp_updV_set hl9 v j)⟩ e2 e3) (hS.put e2 e3 hba) hl
theorem J_putF (C : Cx p s m args meth c G cc nL own) {idx ci k a : Nat} {v : Value} {ty : FieldType} {f : PH → Option (α × PH)} (F : FL own idx ci k) (K : CLo ci) (Y : FT ci k true ty) (hn : narrow ty v = v) (hf : fits ty v = true) (hinit : meth.name = "<init>") (hown : ∃ C T N, vwCl[ci]? = some (C, T, N) ∧ C = own) (hd : decode cc pc = .ok (.putfield idx, 3)) (kk : ∀ h1 : PH, J p l e R s m args below meth c G nL qf cells slots h1 (pc + 3) lv st (f h1)) : J p l e R s m args below meth c G nL qf cells slots h pc lv (v :: .ref a :: st) (bn (wr ci k v a h) f) := by
  intro z hz H locs ls hh hS hl
  obtain ⟨h1, hx, hz⟩ := bn_some hz
  obtain ⟨fs, ha, hl9, rfl⟩ := wr_spec hx
  obtain ⟨Cn, T, N, hc, hkN, hin, hlk⟩ := F
  obtain ⟨C2, T2, N2, ty2, hc2, -, htyA, hnm⟩ := K
  cases hc.symm.trans hc2
  obtain ⟨C3, T3, N3, hc3, hfin, hdecl, hty⟩ := Y
  cases hc.symm.trans hc3
  have hK := C.2.2.2.2.2.2.1
  have hts := C.2.2.2.2.1
  have hap := va_apart (own := own) hts hin ty2 htyA hnm hK hc
  obtain ⟨hba, r, h1, cell, q1, q2, q3, q4⟩ := hh.2.2 a _ ha
  have hr : r = (Cn, T, N) := Option.some.inj (h1.symm.trans hc)
  subst hr
  obtain ⟨hSl, hfc, kC, hkC, hkind⟩ := hK.1 ci _ hc
  obtain ⟨cf, kf, fi, f2, hi, hsl⟩ := hSl k hkN
  have hlay := hts _ (hin _ (u_in_lay hkN))
  have hst := (u_facts hfc hkC (u_lays hts hin hkN) hi).1
  unfold u_lay at hlay
  rw [if_pos hfin] at hlay
  have hcf : m.cls = cf := by
    obtain ⟨_, _, c', _, _, _, -, -, hf', -, -, -, hown2, -⟩ := Cond.laysFinal_spec hlay
    have e1 : c' = cf := by have := hi.symm.trans hf'; simp at this; exact this.1.symm
    obtain ⟨C9, T9, N9, hc9, ho9⟩ := hown
    cases hc9.symm.trans hc
    rw [hdecl, ho9] at hown2
    rw [← e1]; exact Option.some.inj (C.2.2.2.1.symm.trans hown2)
  have h6 := u_fits hfc hkC hkind (Or.inr hlay) hi hty hn hf
  refine W.putFinK C.1 C.2.1 C.2.2.2.1 (C.2.2.2.2.1 _ hlk) hi hst hcf hinit (by rw [q2]; exact h6) q1 q3 (by rw [hsl]; exact k2_hasslot (q4 k hkN)) rfl rfl hd fun H1 e1 e2 e3 => ?_
  rw [hsl] at e1
  exact kk _ z hz H1 _ ls (hp_set hh hba ⟨_, hc, t_OB.to (V := updV (vp_V fs) k v) ⟨_, e1, q2, q3, t_set q4 hap hkN v⟩ (fun j _ => vp_updV_set hl9 v j)⟩ e2 e3) (hS.put e2 e3 hba) hl
theorem J_iald (C : Cx p s m args meth c G cc nL own) {a : Nat} {i : Int32} {f : Int32 → Option (α × PH)} (hd : decode cc pc = .ok (.iaload, 1)) (kk : ∀ x : Int32, J p l e R s m args below meth c G nL qf cells slots h (pc + 1) lv (.int x :: st) (f x)) : J p l e R s m args below meth c G nL qf cells slots h pc lv (.int i :: .ref a :: st) (bn (aldI 0 a i h) f) := by
  intro z hz H locs ls hh hS hl
  obtain ⟨x, hx, hz⟩ := bn_some hz
  obtain ⟨n, g, ha, hin, rfl⟩ := aldI_spec hx
  exact va_iald C.1 C.2.1 C.2.2.2.2.2.2.1 (hp_one hh ha) 0 0 rfl rfl hin hd (kk _ z hz H locs ls hh hS hl)
theorem J_zald (C : Cx p s m args meth c G cc nL own) {a : Nat} {i : Int32} {f : Int32 → Option (α × PH)} (hd : decode cc pc = .ok (.baload, 1)) (kk : ∀ x : Int32, J p l e R s m args below meth c G nL qf cells slots h (pc + 1) lv (.int x :: st) (f x)) : J p l e R s m args below meth c G nL qf cells slots h pc lv (.int i :: .ref a :: st) (bn (aldI 1 a i h) f) := by
  intro z hz H locs ls hh hS hl
  obtain ⟨x, hx, hz⟩ := bn_some hz
  obtain ⟨n, g, ha, hin, rfl⟩ := aldI_spec hx
  exact va_zald C.1 C.2.1 C.2.2.2.2.2.2.1 (hp_one hh ha) 0 1 rfl rfl hin hd (kk _ z hz H locs ls hh hS hl)
theorem J_lald (C : Cx p s m args meth c G cc nL own) {a : Nat} {i : Int32} {f : Int64 → Option (α × PH)} (hd : decode cc pc = .ok (.laload, 1)) (kk : ∀ x : Int64, J p l e R s m args below meth c G nL qf cells slots h (pc + 1) lv (.long x :: st) (f x)) : J p l e R s m args below meth c G nL qf cells slots h pc lv (.int i :: .ref a :: st) (bn (aldJ a i h) f) := by
  intro z hz H locs ls hh hS hl
  obtain ⟨x, hx, hz⟩ := bn_some hz
  obtain ⟨n, g, ha, hin, rfl⟩ := aldJ_spec hx
  exact va_lald C.1 C.2.1 C.2.2.2.2.2.2.1 (hp_one hh ha) 0 2 rfl rfl hin hd (kk _ z hz H locs ls hh hS hl)
theorem J_alen (C : Cx p s m args meth c G cc nL own) (t : Nat) (ty : FieldType) (ht : ∀ G : GX, (tysL G)[t]? = some (G.2.1 t, ty)) {a : Nat} {f : Int32 → Option (α × PH)} (hd : decode cc pc = .ok (.arraylength, 1)) (kk : ∀ x : Int32, J p l e R s m args below meth c G nL qf cells slots h (pc + 1) lv (.int x :: st) (f x)) : J p l e R s m args below meth c G nL qf cells slots h pc lv (.ref a :: st) (bn (alenR t a h) f) := by
  intro z hz H locs ls hh hS hl
  obtain ⟨x, hx, hz⟩ := bn_some hz
  obtain ⟨y, ha, rfl⟩ := alenR_spec hx
  exact va_alen C.1 C.2.1 C.2.2.2.2.2.2.1 (hp_one hh ha) 0 t rfl (ht G) rfl hd (kk _ z hz H locs ls hh hS hl)
theorem J_aald (C : Cx p s m args meth c G cc nL own) (t : Nat) (ty : FieldType) (ht : ∀ G : GX, (tysL G)[t]? = some (G.2.1 t, ty)) (hrf : ty.isReference = true) {a : Nat} {i : Int32} {f : Option Nat → Option (α × PH)} (hd : decode cc pc = .ok (.aaload, 1)) (kk : ∀ x : Option Nat, J p l e R s m args below meth c G nL qf cells slots h (pc + 1) lv (va_rf x :: st) (f x)) : J p l e R s m args below meth c G nL qf cells slots h pc lv (.int i :: .ref a :: st) (bn (aldR t a i h) f) := by
  intro z hz H locs ls hh hS hl
  obtain ⟨x, hx, hz⟩ := bn_some hz
  obtain ⟨n, g, ha, hin, rfl⟩ := aldR_spec hx
  have hlt : i.toNatClampNeg < n := Nat.not_le.mp fun q => hin (Or.inr q)
  exact W.aald (v := va_rf (g i.toNatClampNeg)) (ty := ty) C.1 C.2.1 (hh.2.2 a _ ha).2 ((C.2.2.2.2.2.2.1.2 t _ (ht G)).1 n (fun j => va_rf (g j))) hrf (fun q => by cases q) (by show ¬ (i < 0 ∨ (arrV _ _ _).slots.size ≤ _); rw [arrV_size]; exact hin) (by show (arrV _ _ _).slots[_]? = _; rw [arrV_read _ _ hlt]) rfl rfl hd (kk _ z hz H locs ls hh hS hl)
theorem J_iast (C : Cx p s m args meth c G cc nL own) {a : Nat} {i : Int32} {x : Int32} {f : PH → Option (α × PH)} (hd : decode cc pc = .ok (.iastore, 1)) (kk : ∀ h1 : PH, J p l e R s m args below meth c G nL qf cells slots h1 (pc + 1) lv st (f h1)) : J p l e R s m args below meth c G nL qf cells slots h pc lv (.int x :: .int i :: .ref a :: st) (bn (astI a i x h) f) := by
  intro z hz H locs ls hh hS hl
  obtain ⟨h1, hx, hz⟩ := bn_some hz
  obtain ⟨n, g, ha, hin, rfl⟩ := astI_spec hx
  refine W.iast C.1 C.2.1 (hh.2.2 a _ ha).2 ((C.2.2.2.2.2.2.1.2 0 _ rfl).1 n (fun j => .int (g j))) (fun q => by cases q) (by show ¬ (i < 0 ∨ (arrV _ _ _).slots.size ≤ _); rw [arrV_size]; exact hin) rfl rfl hd fun H1 e1 e2 e3 => ?_
  refine kk _ z hz H1 _ ls (hp_set hh (hh.2.2 a _ ha).1 ?_ e2 e3) (hS.put e2 e3 (hh.2.2 a _ ha).1) hl
  show H1[a]? = some (vp_cell _ _)
  rw [e1]
  show some ((vp_cell _ _).setSlot _ _) = _
  rw [vp_cell_i, vp_cell_i, arrV_store]
  congr 2
  funext q
  by_cases hq : q = i.toNatClampNeg
  · subst hq
    simp [updV, upd]
  · simp [updV, upd, hq]
theorem J_zast (C : Cx p s m args meth c G cc nL own) {a : Nat} {i : Int32} {x : Int32} {f : PH → Option (α × PH)} (hd : decode cc pc = .ok (.bastore, 1)) (kk : ∀ h1 : PH, J p l e R s m args below meth c G nL qf cells slots h1 (pc + 1) lv st (f h1)) : J p l e R s m args below meth c G nL qf cells slots h pc lv (.int x :: .int i :: .ref a :: st) (bn (astZ a i x h) f) := by
  intro z hz H locs ls hh hS hl
  obtain ⟨h1, hx, hz⟩ := bn_some hz
  obtain ⟨n, g, ha, hin, hx01, rfl⟩ := astZ_spec hx
  refine W.zast C.1 C.2.1 (hh.2.2 a _ ha).2 ((C.2.2.2.2.2.2.1.2 1 _ rfl).1 n (fun j => .int (g j))) (fun q => by cases q) (by show ¬ (i < 0 ∨ (arrV _ _ _).slots.size ≤ _); rw [arrV_size]; exact hin) rfl rfl hd fun H1 e1 e2 e3 => ?_
  refine kk _ z hz H1 _ ls (hp_set hh (hh.2.2 a _ ha).1 ?_ e2 e3) (hS.put e2 e3 (hh.2.2 a _ ha).1) hl
  show H1[a]? = some (vp_cell _ _)
  rw [e1]
  show some ((vp_cell _ _).setSlot _ _) = _
  rw [vp_cell_i, vp_cell_i, arrV_store]
  congr 2
  funext q
  by_cases hq : q = i.toNatClampNeg
  · subst hq
    rcases hx01 with rfl | rfl <;> simp [updV, upd, narrow]
  · simp [updV, upd, hq]
theorem J_last (C : Cx p s m args meth c G cc nL own) {a : Nat} {i : Int32} {x : Int64} {f : PH → Option (α × PH)} (hd : decode cc pc = .ok (.lastore, 1)) (kk : ∀ h1 : PH, J p l e R s m args below meth c G nL qf cells slots h1 (pc + 1) lv st (f h1)) : J p l e R s m args below meth c G nL qf cells slots h pc lv (.long x :: .int i :: .ref a :: st) (bn (astJ a i x h) f) := by
  intro z hz H locs ls hh hS hl
  obtain ⟨h1, hx, hz⟩ := bn_some hz
  obtain ⟨n, g, ha, hin, rfl⟩ := astJ_spec hx
  refine W.last C.1 C.2.1 (hh.2.2 a _ ha).2 ((C.2.2.2.2.2.2.1.2 2 _ rfl).1 n (fun j => .long (g j))) (fun q => by cases q) (by show ¬ (i < 0 ∨ (arrV _ _ _).slots.size ≤ _); rw [arrV_size]; exact hin) rfl rfl hd fun H1 e1 e2 e3 => ?_
  refine kk _ z hz H1 _ ls (hp_set hh (hh.2.2 a _ ha).1 ?_ e2 e3) (hS.put e2 e3 (hh.2.2 a _ ha).1) hl
  show H1[a]? = some (vp_cell _ _)
  rw [e1]
  show some ((vp_cell _ _).setSlot _ _) = _
  rw [vp_cell_l, vp_cell_l, arrV_store]
  congr 2
  funext q
  by_cases hq : q = i.toNatClampNeg
  · subst hq
    simp [updV, vp_updL]
  · simp [updV, vp_updL, hq]
theorem J_aast (C : Cx p s m args meth c G cc nL own) (t ci : Nat) (Cn : String) (ht : ∀ G : GX, (tysL G)[t]? = some (G.2.1 t, .object Cn)) (hci : ∃ T N, vwCl[ci]? = some (Cn, T, N)) {a v : Nat} {i : Int32} {f : PH → Option (α × PH)} (hd : decode cc pc = .ok (.aastore, 1)) (kk : ∀ h1 : PH, J p l e R s m args below meth c G nL qf cells slots h1 (pc + 1) lv st (f h1)) : J p l e R s m args below meth c G nL qf cells slots h pc lv (.ref v :: .int i :: .ref a :: st) (bn (astR t ci a i v h) f) := by
  intro z hz H locs ls hh hS hl
  obtain ⟨h1, hx, hz⟩ := bn_some hz
  obtain ⟨n, g, fs, ha, hin, hv, rfl⟩ := astR_spec hx
  obtain ⟨T, N, hci⟩ := hci
  have hK := C.2.2.2.2.2.2.1
  have hlt : i.toNatClampNeg < n := Nat.not_le.mp fun q => hin (Or.inr q)
  have h0 : ¬ i < 0 := fun q => hin (Or.inl q)
  obtain ⟨-, r', hr', cellV, g1, g2, g3, -⟩ := hh.2.2 v _ hv
  have hcls := (hK.1 ci _ hci).2
  obtain ⟨kA, comp, k1, k2, k3, -⟩ := (hK.2 t _ (ht G)).2
  have hcomp : comp = G.1.1 ci := Option.some.inj (k3.symm.trans hcls.1)
  subst hcomp
  obtain ⟨kC, hkC, -⟩ := hcls.2
  refine W.aast C.1 C.2.1 (hh.2.2 a _ ha).2 (fun q h => by cases h) (fun h => by cases h) k1 k2 rfl hkC ⟨h0, by show _ < (arrV _ _ _).slots.size; rw [arrV_size]; exact hlt⟩ g1 (fun q h => by rw [g3] at h; cases h) (by rw [g2]; exact hkC) (by rw [g2]; exact va_assign hcls) rfl rfl hd fun H1 e1 e2 e3 => ?_
  refine kk _ z hz H1 _ ls (hp_set hh (hh.2.2 a _ ha).1 ?_ e2 e3) (hS.put e2 e3 (hh.2.2 a _ ha).1) hl
  show H1[a]? = some (vp_cell _ _)
  rw [e1]
  show some ((vp_cell _ _).setSlot _ _) = _
  rw [vp_cell_q, vp_cell_q, arrV_store]
  congr 2
  funext q
  by_cases hq : q = i.toNatClampNeg
  · subst hq
    simp [updV, va_up, va_rf]
  · simp [updV, va_up, hq]
end
