/-! ===== the pure heap: an address holds an object (the number of its class, its fields) or a row (its kind, length, contents); its first number is the real heap's size ===== -/
abbrev PE : Type := (Nat × vp_A) ⊕ (Nat × List Value)
abbrev PH : Type := Nat × (Nat → Option PE)
/-- what is fixed for a run: class numbers and slots, array classes by kind, the first address that is ours, the String constants' addresses and their rows' -/
abbrev GX : Type := va_G × (Nat → ClassId) × Nat × (Nat → Nat) × (Nat → Nat)
def gA (G : GX) : Nat → Prop := fun q => G.2.2.1 ≤ q
def cv (G : GX) (e : PE) : va_E := match e with
  | .inl a => .inl (G.2.1 a.1, a.2)
  | .inr o => .inr o
def hp (G : GX) (h : PH) (H : Heap) : Prop := H.size = h.1 ∧ G.2.2.1 ≤ h.1 ∧ ∀ (a : Nat) (e : PE), h.2 a = some e → G.2.2.1 ≤ a ∧ va_at G.1 vwCl (a, cv G e) H
def hup (f : Nat → Option PE) (a : Nat) (e : PE) : Nat → Option PE := fun b => if b = a then some e else f b
theorem hp_set {G : GX} {h : PH} {H H1 : Heap} {a : Nat} {e : PE} (hh : hp G h H) (hb : G.2.2.1 ≤ a) (h1 : va_at G.1 vwCl (a, cv G e) H1) (hz : H1.size = H.size) (ho : ∀ q, q ≠ a → H1[q]? = H[q]?) : hp G (h.1, hup h.2 a e) H1 := by
  refine ⟨hz.trans hh.1, hh.2.1, fun b e' hb' => ?_⟩
  simp only [hup] at hb'
  by_cases q : b = a
  · subst q
    rw [if_pos rfl] at hb'
    cases hb'
    exact ⟨hb, h1⟩
  · rw [if_neg q] at hb'
    exact ⟨(hh.2.2 b e' hb').1, (hh.2.2 b e' hb').2.kept (ho b q)⟩
theorem hp_new {G : GX} {h : PH} {H H1 : Heap} {e : PE} (hh : hp G h H) (h1 : va_at G.1 vwCl (h.1, cv G e) H1) (hz : H1.size = h.1 + 1) (ho : ∀ q, q < h.1 → H1[q]? = H[q]?) : hp G (h.1 + 1, hup h.2 h.1 e) H1 := by
  refine ⟨hz, Nat.le_succ_of_le hh.2.1, fun b e' hb' => ?_⟩
  simp only [hup] at hb'
  by_cases q : b = h.1
  · subst q
    rw [if_pos rfl] at hb'
    cases hb'
    exact ⟨hh.2.1, h1⟩
  · rw [if_neg q] at hb'
    have h3 := hh.2.2 b e' hb'
    have h4 : b < H.size := h3.2.lt
    exact ⟨h3.1, h3.2.kept (ho b (by rw [← hh.1]; exact h4))⟩
theorem hp_one {G : GX} {h : PH} {H : Heap} {a : Nat} {e : PE} (hh : hp G h H) (ha : h.2 a = some e) : va_P G.1 vwCl [(a, cv G e)] H := by
  intro k q hq
  have hk : k < 1 := (List.getElem?_eq_some_iff.mp hq).1
  rw [show k = 0 by omega] at hq
  cases hq
  exact (hh.2.2 a e ha).2
theorem hS_new {G : GX} {H0 H H1 : Heap} {locs : List Loc} {n : Nat} (hS : va_S (gA G) H0 H locs) (hn : H.size = n) (hz : H1.size = n + 1) (ho : ∀ q, q < n → H1[q]? = H[q]?) : va_S (gA G) H0 H1 locs :=
  ⟨Nat.le_trans hS.1 (by omega), fun x h1 h2 => (ho x (by have := hS.1; omega)).trans (hS.2.1 x h1 h2), hS.2.2⟩
/-- the kinds of rows -/
def tysL (G : GX) : List (ClassId × FieldType) := [(G.2.1 0, .int), (G.2.1 1, .boolean), (G.2.1 2, .long), (G.2.1 3, .object "GoldLeaves$Piece"), (G.2.1 4, .object "GoldLeaves$PackNeed"), (G.2.1 5, .array .int)]
/-- private members of nest mates -/
def NW : List (String × Nat × MethodName × String) := [("GoldLeaves", 9, ⟨"GoldLeaves$Stock", "<init>", "()V"⟩, "GoldLeaves"), ("GoldLeaves", 18, ⟨"GoldLeaves$Bindery", "<init>", "()V"⟩, "GoldLeaves"), ("GoldLeaves", 25, ⟨"GoldLeaves$ColourReader", "<init>", "()V"⟩, "GoldLeaves"), ("GoldLeaves$ColourReader", 11, ⟨"GoldLeaves$Tape", "<init>", "()V"⟩, "GoldLeaves"), ("GoldLeaves", 37, ⟨"GoldLeaves$SkinChest", "<init>", "()V"⟩, "GoldLeaves"), ("GoldLeaves$SkinChest", 11, ⟨"GoldLeaves$PackNeed", "<init>", "()V"⟩, "GoldLeaves"), ("GoldLeaves", 44, ⟨"GoldLeaves$Gatehouse", "<init>", "()V"⟩, "GoldLeaves"), ("GoldLeaves", 51, ⟨"GoldLeaves$Palette", "<init>", "()V"⟩, "GoldLeaves"), ("GoldLeaves$Stock", 38, ⟨"GoldLeaves", "within", "(III)Z"⟩, "GoldLeaves"), ("GoldLeaves$Stock", 42, ⟨"GoldLeaves$Piece", "<init>", "()V"⟩, "GoldLeaves"), ("GoldLeaves$Tape", 35, ⟨"GoldLeaves", "within", "(III)Z"⟩, "GoldLeaves"), ("GoldLeaves$SkinChest", 33, ⟨"GoldLeaves", "within", "(III)Z"⟩, "GoldLeaves"), ("GoldLeaves$Bindery", 21, ⟨"GoldLeaves", "within", "(III)Z"⟩, "GoldLeaves"), ("GoldLeaves$Gatehouse", 40, ⟨"GoldLeaves", "within", "(III)Z"⟩, "GoldLeaves"), ("GoldLeaves$Gatehouse", 46, ⟨"GoldLeaves", "isHour", "(I)Z"⟩, "GoldLeaves")]
def slens : List Nat := [4, 6, 6, 2]
def sbyts : List (List Int32) := [[103, 111, 108, 100], [115, 105, 108, 118, 101, 114], [99, 111, 112, 112, 101, 114], [116, 111]]
/-- what the tables and the start say, at any state of the run -/
def kt (G : GX) (U : State) : Prop :=
  va_K G.1 vwCl (tysL G) U ∧ (∀ q ∈ NW, va_Nw (.methodLinkNest q.1 q.2.1 q.2.2.1 q.2.2.2) U) ∧ va_AO "GoldLeaves$Piece" U ∧ va_AO "GoldLeaves$PackNeed" U ∧ (Cond.arrayOver (.array .int)).before #[] U = true ∧
  (vk_R "GoldLeaves$ColourReader" 92 "gold" (G.2.2.2.1 0) U ∧ vk_R "GoldLeaves$ColourReader" 94 "silver" (G.2.2.2.1 1) U ∧ vk_R "GoldLeaves$ColourReader" 96 "copper" (G.2.2.2.1 2) U ∧ vk_R "GoldLeaves$ColourReader" 82 "to" (G.2.2.2.1 3) U) ∧
  vk_S 4 slens sbyts G.2.2.2.1 G.2.2.2.2 (gA G) U U.heap ∧ va_Z "java/lang/String" "COMPACT_STRINGS" "Z" (.int 1) (gA G) U U.heap ∧ va_Zq "jdk/internal/util/Preconditions" "SIOOBE_FORMATTER" "Ljava/util/function/BiFunction;" (gA G) U U.heap
