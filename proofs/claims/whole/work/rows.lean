section
-- ===== PART A: goes FIRST, ahead of the names: the tables' words, and 'selects' of the private methods out of them =====
/-- a private method of a class that the tables say can be made, by its rows of tables_1 -/
def lw_okq (q : MethodName × Nat) : Prop := (q.1.cls ≠ "java/lang/invoke/MethodHandle" ∧ q.1.cls ≠ "java/lang/invoke/VarHandle") ∧ Cond.instantiable q.1.cls q.2 ∈ tables_1 ∧ Cond.privateMethod q.1 ∈ tables_1 ∧ Cond.instanceMethod q.1 ∈ tables_1
theorem lw_p0 : lw_okq (⟨"GoldLeaves$Stock", "addPiece", "(LGoldLeaves$Piece;)I"⟩, 5) := ⟨⟨by decide +kernel, by decide +kernel⟩, List.mem_of_getElem? (i := 27) (by decide +kernel), List.mem_of_getElem? (i := 316) (by decide +kernel), List.mem_of_getElem? (i := 317) (by decide +kernel)⟩
theorem lw_p1 : lw_okq (⟨"GoldLeaves", "noted", "(I)I"⟩, 10) := ⟨⟨by decide +kernel, by decide +kernel⟩, List.mem_of_getElem? (i := 19) (by decide +kernel), List.mem_of_getElem? (i := 320) (by decide +kernel), List.mem_of_getElem? (i := 321) (by decide +kernel)⟩
theorem lw_p2 : lw_okq (⟨"GoldLeaves$Stock", "giveWholeShares", "(LGoldLeaves$Piece;LGoldLeaves$Piece;I)I"⟩, 5) := ⟨⟨by decide +kernel, by decide +kernel⟩, List.mem_of_getElem? (i := 27) (by decide +kernel), List.mem_of_getElem? (i := 340) (by decide +kernel), List.mem_of_getElem? (i := 341) (by decide +kernel)⟩
theorem lw_p3 : lw_okq (⟨"GoldLeaves$Stock", "giveRests", "(LGoldLeaves$Piece;I)V"⟩, 5) := ⟨⟨by decide +kernel, by decide +kernel⟩, List.mem_of_getElem? (i := 27) (by decide +kernel), List.mem_of_getElem? (i := 347) (by decide +kernel), List.mem_of_getElem? (i := 348) (by decide +kernel)⟩
theorem lw_p4 : lw_okq (⟨"GoldLeaves$Stock", "greatestRest", "()I"⟩, 5) := ⟨⟨by decide +kernel, by decide +kernel⟩, List.mem_of_getElem? (i := 27) (by decide +kernel), List.mem_of_getElem? (i := 351) (by decide +kernel), List.mem_of_getElem? (i := 352) (by decide +kernel)⟩
theorem lw_p5 : lw_okq (⟨"GoldLeaves$ColourReader", "readColour", "(LGoldLeaves$Palette;)Z"⟩, 3) := ⟨⟨by decide +kernel, by decide +kernel⟩, List.mem_of_getElem? (i := 106) (by decide +kernel), List.mem_of_getElem? (i := 418) (by decide +kernel), List.mem_of_getElem? (i := 419) (by decide +kernel)⟩
theorem lw_p6 : lw_okq (⟨"GoldLeaves$ColourReader", "takeName", "(I)Z"⟩, 3) := ⟨⟨by decide +kernel, by decide +kernel⟩, List.mem_of_getElem? (i := 106) (by decide +kernel), List.mem_of_getElem? (i := 422) (by decide +kernel), List.mem_of_getElem? (i := 423) (by decide +kernel)⟩
theorem lw_p7 : lw_okq (⟨"GoldLeaves$ColourReader", "takeMark", "(C)Z"⟩, 3) := ⟨⟨by decide +kernel, by decide +kernel⟩, List.mem_of_getElem? (i := 106) (by decide +kernel), List.mem_of_getElem? (i := 431) (by decide +kernel), List.mem_of_getElem? (i := 432) (by decide +kernel)⟩
theorem lw_p8 : lw_okq (⟨"GoldLeaves$ColourReader", "readTest", "(LGoldLeaves$Palette;)Z"⟩, 3) := ⟨⟨by decide +kernel, by decide +kernel⟩, List.mem_of_getElem? (i := 106) (by decide +kernel), List.mem_of_getElem? (i := 439) (by decide +kernel), List.mem_of_getElem? (i := 440) (by decide +kernel)⟩
theorem lw_p9 : lw_okq (⟨"GoldLeaves$ColourReader", "metalTold", "()I"⟩, 3) := ⟨⟨by decide +kernel, by decide +kernel⟩, List.mem_of_getElem? (i := 106) (by decide +kernel), List.mem_of_getElem? (i := 443) (by decide +kernel), List.mem_of_getElem? (i := 444) (by decide +kernel)⟩
theorem lw_p10 : lw_okq (⟨"GoldLeaves$Palette", "allHold", "(ILGoldLeaves$Piece;LGoldLeaves$Stock;)Z"⟩, 6) := ⟨⟨by decide +kernel, by decide +kernel⟩, List.mem_of_getElem? (i := 215) (by decide +kernel), List.mem_of_getElem? (i := 528) (by decide +kernel), List.mem_of_getElem? (i := 529) (by decide +kernel)⟩
theorem lw_p11 : lw_okq (⟨"GoldLeaves$Palette", "holds", "(ILGoldLeaves$Piece;LGoldLeaves$Stock;)Z"⟩, 6) := ⟨⟨by decide +kernel, by decide +kernel⟩, List.mem_of_getElem? (i := 215) (by decide +kernel), List.mem_of_getElem? (i := 532) (by decide +kernel), List.mem_of_getElem? (i := 533) (by decide +kernel)⟩
theorem lw_p12 : lw_okq (⟨"GoldLeaves$SkinChest", "chooseFor", "(LGoldLeaves$PackNeed;)Z"⟩, 5) := ⟨⟨by decide +kernel, by decide +kernel⟩, List.mem_of_getElem? (i := 122) (by decide +kernel), List.mem_of_getElem? (i := 578) (by decide +kernel), List.mem_of_getElem? (i := 579) (by decide +kernel)⟩
theorem lw_p13 : lw_okq (⟨"GoldLeaves$SkinChest", "oldestFor", "(LGoldLeaves$PackNeed;)I"⟩, 5) := ⟨⟨by decide +kernel, by decide +kernel⟩, List.mem_of_getElem? (i := 122) (by decide +kernel), List.mem_of_getElem? (i := 582) (by decide +kernel), List.mem_of_getElem? (i := 583) (by decide +kernel)⟩
theorem lw_p14 : lw_okq (⟨"GoldLeaves$SkinChest", "suits", "(ILGoldLeaves$PackNeed;)Z"⟩, 5) := ⟨⟨by decide +kernel, by decide +kernel⟩, List.mem_of_getElem? (i := 122) (by decide +kernel), List.mem_of_getElem? (i := 586) (by decide +kernel), List.mem_of_getElem? (i := 587) (by decide +kernel)⟩
theorem lw_p15 : lw_okq (⟨"GoldLeaves$SkinChest", "ageChosen", "()V"⟩, 5) := ⟨⟨by decide +kernel, by decide +kernel⟩, List.mem_of_getElem? (i := 122) (by decide +kernel), List.mem_of_getElem? (i := 590) (by decide +kernel), List.mem_of_getElem? (i := 591) (by decide +kernel)⟩
def lw_privs_1 : List (MethodName × Nat) := [(⟨"GoldLeaves$Stock", "addPiece", "(LGoldLeaves$Piece;)I"⟩, 5), (⟨"GoldLeaves", "noted", "(I)I"⟩, 10), (⟨"GoldLeaves$Stock", "giveWholeShares", "(LGoldLeaves$Piece;LGoldLeaves$Piece;I)I"⟩, 5), (⟨"GoldLeaves$Stock", "giveRests", "(LGoldLeaves$Piece;I)V"⟩, 5), (⟨"GoldLeaves$Stock", "greatestRest", "()I"⟩, 5), (⟨"GoldLeaves$ColourReader", "readColour", "(LGoldLeaves$Palette;)Z"⟩, 3), (⟨"GoldLeaves$ColourReader", "takeName", "(I)Z"⟩, 3), (⟨"GoldLeaves$ColourReader", "takeMark", "(C)Z"⟩, 3), (⟨"GoldLeaves$ColourReader", "readTest", "(LGoldLeaves$Palette;)Z"⟩, 3), (⟨"GoldLeaves$ColourReader", "metalTold", "()I"⟩, 3), (⟨"GoldLeaves$Palette", "allHold", "(ILGoldLeaves$Piece;LGoldLeaves$Stock;)Z"⟩, 6), (⟨"GoldLeaves$Palette", "holds", "(ILGoldLeaves$Piece;LGoldLeaves$Stock;)Z"⟩, 6), (⟨"GoldLeaves$SkinChest", "chooseFor", "(LGoldLeaves$PackNeed;)Z"⟩, 5), (⟨"GoldLeaves$SkinChest", "oldestFor", "(LGoldLeaves$PackNeed;)I"⟩, 5), (⟨"GoldLeaves$SkinChest", "suits", "(ILGoldLeaves$PackNeed;)Z"⟩, 5), (⟨"GoldLeaves$SkinChest", "ageChosen", "()V"⟩, 5)]
theorem lw_r1 : ∀ q ∈ lw_privs_1, lw_okq q := List.forall_mem_cons.mpr ⟨lw_p0, List.forall_mem_cons.mpr ⟨lw_p1, List.forall_mem_cons.mpr ⟨lw_p2, List.forall_mem_cons.mpr ⟨lw_p3, List.forall_mem_cons.mpr ⟨lw_p4, List.forall_mem_cons.mpr ⟨lw_p5, List.forall_mem_cons.mpr ⟨lw_p6, List.forall_mem_cons.mpr ⟨lw_p7, List.forall_mem_cons.mpr ⟨lw_p8, List.forall_mem_cons.mpr ⟨lw_p9, List.forall_mem_cons.mpr ⟨lw_p10, List.forall_mem_cons.mpr ⟨lw_p11, List.forall_mem_cons.mpr ⟨lw_p12, List.forall_mem_cons.mpr ⟨lw_p13, List.forall_mem_cons.mpr ⟨lw_p14, List.forall_mem_cons.mpr ⟨lw_p15, fun _ h => absurd h List.not_mem_nil⟩⟩⟩⟩⟩⟩⟩⟩⟩⟩⟩⟩⟩⟩⟩⟩
theorem lw_p16 : lw_okq (⟨"GoldLeaves$Gatehouse", "through", "(III)I"⟩, 9) := ⟨⟨by decide +kernel, by decide +kernel⟩, List.mem_of_getElem? (i := 181) (by decide +kernel), List.mem_of_getElem? (i := 656) (by decide +kernel), List.mem_of_getElem? (i := 657) (by decide +kernel)⟩
theorem lw_p17 : lw_okq (⟨"GoldLeavesModel", "told", "(I)I"⟩, 44) := ⟨⟨by decide +kernel, by decide +kernel⟩, List.mem_of_getElem? (i := 694) (by decide +kernel), List.mem_of_getElem? (i := 842) (by decide +kernel), List.mem_of_getElem? (i := 843) (by decide +kernel)⟩
theorem lw_p18 : lw_okq (⟨"GoldLeavesModel", "addPiece", "()V"⟩, 44) := ⟨⟨by decide +kernel, by decide +kernel⟩, List.mem_of_getElem? (i := 694) (by decide +kernel), List.mem_of_getElem? (i := 846) (by decide +kernel), List.mem_of_getElem? (i := 847) (by decide +kernel)⟩
theorem lw_p19 : lw_okq (⟨"GoldLeavesModel", "isPiece", "(I)Z"⟩, 44) := ⟨⟨by decide +kernel, by decide +kernel⟩, List.mem_of_getElem? (i := 694) (by decide +kernel), List.mem_of_getElem? (i := 854) (by decide +kernel), List.mem_of_getElem? (i := 855) (by decide +kernel)⟩
theorem lw_p20 : lw_okq (⟨"GoldLeavesModel", "weightOf", "(I)I"⟩, 44) := ⟨⟨by decide +kernel, by decide +kernel⟩, List.mem_of_getElem? (i := 694) (by decide +kernel), List.mem_of_getElem? (i := 858) (by decide +kernel), List.mem_of_getElem? (i := 859) (by decide +kernel)⟩
theorem lw_p21 : lw_okq (⟨"GoldLeavesModel", "isLeaf", "(I)Z"⟩, 44) := ⟨⟨by decide +kernel, by decide +kernel⟩, List.mem_of_getElem? (i := 694) (by decide +kernel), List.mem_of_getElem? (i := 862) (by decide +kernel), List.mem_of_getElem? (i := 863) (by decide +kernel)⟩
theorem lw_p22 : lw_okq (⟨"GoldLeavesModel", "partOf", "(II)J"⟩, 44) := ⟨⟨by decide +kernel, by decide +kernel⟩, List.mem_of_getElem? (i := 694) (by decide +kernel), List.mem_of_getElem? (i := 883) (by decide +kernel), List.mem_of_getElem? (i := 884) (by decide +kernel)⟩
theorem lw_p23 : lw_okq (⟨"GoldLeavesModel", "four", "(I)V"⟩, 44) := ⟨⟨by decide +kernel, by decide +kernel⟩, List.mem_of_getElem? (i := 694) (by decide +kernel), List.mem_of_getElem? (i := 892) (by decide +kernel), List.mem_of_getElem? (i := 893) (by decide +kernel)⟩
theorem lw_p24 : lw_okq (⟨"GoldLeavesModel", "next", "()V"⟩, 44) := ⟨⟨by decide +kernel, by decide +kernel⟩, List.mem_of_getElem? (i := 694) (by decide +kernel), List.mem_of_getElem? (i := 904) (by decide +kernel), List.mem_of_getElem? (i := 905) (by decide +kernel)⟩
theorem lw_p25 : lw_okq (⟨"GoldLeavesModel", "readColour", "()V"⟩, 44) := ⟨⟨by decide +kernel, by decide +kernel⟩, List.mem_of_getElem? (i := 694) (by decide +kernel), List.mem_of_getElem? (i := 918) (by decide +kernel), List.mem_of_getElem? (i := 919) (by decide +kernel)⟩
theorem lw_p26 : lw_okq (⟨"GoldLeavesModel", "isNamed", "()Z"⟩, 44) := ⟨⟨by decide +kernel, by decide +kernel⟩, List.mem_of_getElem? (i := 694) (by decide +kernel), List.mem_of_getElem? (i := 922) (by decide +kernel), List.mem_of_getElem? (i := 923) (by decide +kernel)⟩
theorem lw_p27 : lw_okq (⟨"GoldLeavesModel", "must", "(Z)V"⟩, 44) := ⟨⟨by decide +kernel, by decide +kernel⟩, List.mem_of_getElem? (i := 694) (by decide +kernel), List.mem_of_getElem? (i := 926) (by decide +kernel), List.mem_of_getElem? (i := 927) (by decide +kernel)⟩
theorem lw_p28 : lw_okq (⟨"GoldLeavesModel", "isSign", "(I)Z"⟩, 44) := ⟨⟨by decide +kernel, by decide +kernel⟩, List.mem_of_getElem? (i := 694) (by decide +kernel), List.mem_of_getElem? (i := 930) (by decide +kernel), List.mem_of_getElem? (i := 931) (by decide +kernel)⟩
theorem lw_p29 : lw_okq (⟨"GoldLeavesModel", "readTest", "()V"⟩, 44) := ⟨⟨by decide +kernel, by decide +kernel⟩, List.mem_of_getElem? (i := 694) (by decide +kernel), List.mem_of_getElem? (i := 934) (by decide +kernel), List.mem_of_getElem? (i := 935) (by decide +kernel)⟩
theorem lw_p30 : lw_okq (⟨"GoldLeavesModel", "isWord", "(IIIIII)Z"⟩, 44) := ⟨⟨by decide +kernel, by decide +kernel⟩, List.mem_of_getElem? (i := 694) (by decide +kernel), List.mem_of_getElem? (i := 938) (by decide +kernel), List.mem_of_getElem? (i := 939) (by decide +kernel)⟩
theorem lw_p31 : lw_okq (⟨"GoldLeavesModel", "number", "(J)I"⟩, 44) := ⟨⟨by decide +kernel, by decide +kernel⟩, List.mem_of_getElem? (i := 694) (by decide +kernel), List.mem_of_getElem? (i := 942) (by decide +kernel), List.mem_of_getElem? (i := 943) (by decide +kernel)⟩
def lw_privs_2 : List (MethodName × Nat) := [(⟨"GoldLeaves$Gatehouse", "through", "(III)I"⟩, 9), (⟨"GoldLeavesModel", "told", "(I)I"⟩, 44), (⟨"GoldLeavesModel", "addPiece", "()V"⟩, 44), (⟨"GoldLeavesModel", "isPiece", "(I)Z"⟩, 44), (⟨"GoldLeavesModel", "weightOf", "(I)I"⟩, 44), (⟨"GoldLeavesModel", "isLeaf", "(I)Z"⟩, 44), (⟨"GoldLeavesModel", "partOf", "(II)J"⟩, 44), (⟨"GoldLeavesModel", "four", "(I)V"⟩, 44), (⟨"GoldLeavesModel", "next", "()V"⟩, 44), (⟨"GoldLeavesModel", "readColour", "()V"⟩, 44), (⟨"GoldLeavesModel", "isNamed", "()Z"⟩, 44), (⟨"GoldLeavesModel", "must", "(Z)V"⟩, 44), (⟨"GoldLeavesModel", "isSign", "(I)Z"⟩, 44), (⟨"GoldLeavesModel", "readTest", "()V"⟩, 44), (⟨"GoldLeavesModel", "isWord", "(IIIIII)Z"⟩, 44), (⟨"GoldLeavesModel", "number", "(J)I"⟩, 44)]
theorem lw_r2 : ∀ q ∈ lw_privs_2, lw_okq q := List.forall_mem_cons.mpr ⟨lw_p16, List.forall_mem_cons.mpr ⟨lw_p17, List.forall_mem_cons.mpr ⟨lw_p18, List.forall_mem_cons.mpr ⟨lw_p19, List.forall_mem_cons.mpr ⟨lw_p20, List.forall_mem_cons.mpr ⟨lw_p21, List.forall_mem_cons.mpr ⟨lw_p22, List.forall_mem_cons.mpr ⟨lw_p23, List.forall_mem_cons.mpr ⟨lw_p24, List.forall_mem_cons.mpr ⟨lw_p25, List.forall_mem_cons.mpr ⟨lw_p26, List.forall_mem_cons.mpr ⟨lw_p27, List.forall_mem_cons.mpr ⟨lw_p28, List.forall_mem_cons.mpr ⟨lw_p29, List.forall_mem_cons.mpr ⟨lw_p30, List.forall_mem_cons.mpr ⟨lw_p31, fun _ h => absurd h List.not_mem_nil⟩⟩⟩⟩⟩⟩⟩⟩⟩⟩⟩⟩⟩⟩⟩⟩
theorem lw_p32 : lw_okq (⟨"GoldLeavesModel", "isSkin", "(I)Z"⟩, 44) := ⟨⟨by decide +kernel, by decide +kernel⟩, List.mem_of_getElem? (i := 694) (by decide +kernel), List.mem_of_getElem? (i := 963) (by decide +kernel), List.mem_of_getElem? (i := 964) (by decide +kernel)⟩
theorem lw_p33 : lw_okq (⟨"GoldLeavesModel", "beatOne", "(I)Z"⟩, 44) := ⟨⟨by decide +kernel, by decide +kernel⟩, List.mem_of_getElem? (i := 694) (by decide +kernel), List.mem_of_getElem? (i := 980) (by decide +kernel), List.mem_of_getElem? (i := 981) (by decide +kernel)⟩
theorem lw_p34 : lw_okq (⟨"GoldLeavesModel", "heldIn", "(III)I"⟩, 44) := ⟨⟨by decide +kernel, by decide +kernel⟩, List.mem_of_getElem? (i := 694) (by decide +kernel), List.mem_of_getElem? (i := 1023) (by decide +kernel), List.mem_of_getElem? (i := 1024) (by decide +kernel)⟩
def lw_privs_3 : List (MethodName × Nat) := [(⟨"GoldLeavesModel", "isSkin", "(I)Z"⟩, 44), (⟨"GoldLeavesModel", "beatOne", "(I)Z"⟩, 44), (⟨"GoldLeavesModel", "heldIn", "(III)I"⟩, 44)]
theorem lw_r3 : ∀ q ∈ lw_privs_3, lw_okq q := List.forall_mem_cons.mpr ⟨lw_p32, List.forall_mem_cons.mpr ⟨lw_p33, List.forall_mem_cons.mpr ⟨lw_p34, fun _ h => absurd h List.not_mem_nil⟩⟩⟩
def lw_privs : List (MethodName × Nat) := lw_privs_1 ++ (lw_privs_2 ++ (lw_privs_3))
def lw_tbl : List Cond := k2_sels lw_privs ++ tables_1
theorem lw_privs_ok : ∀ q ∈ lw_privs, lw_okq q := by
  show ∀ q ∈ lw_privs_1 ++ (lw_privs_2 ++ (lw_privs_3)), lw_okq q
  exact List.forall_mem_append.mpr ⟨lw_r1, List.forall_mem_append.mpr ⟨lw_r2, lw_r3⟩⟩
end
section
/-! ===== BEGIN words of one list among another's, by their places ===== -/
theorem goodIn_r {big : List Cond} (ws : List Cond) (ps : List Nat) (hp : ws = ps.filterMap (fun i => big[i]?)) (h : ws.all goodWord = true) : GoodIn big ws := by
  intro w hw
  have h1 := List.all_eq_true.mp h w hw
  rw [hp] at hw
  obtain ⟨i, -, hi⟩ := List.mem_filterMap.mp hw
  have hm : w ∈ big := by first | exact List.mem_of_getElem? hi | exact List.getElem?_mem hi
  exact ⟨hm, good_of_word h1⟩
theorem goodIn_app {big a b : List Cond} (ha : GoodIn big a) (hb : GoodIn big b) : GoodIn big (a ++ b) := fun w h => (List.mem_append.mp h).elim (ha w) (hb w)
theorem goodIn_ca {big a b : List Cond} {c : Cond} (ha : GoodIn big (c :: a)) (hb : GoodIn big b) : GoodIn big (c :: (a ++ b)) := fun w h => (List.mem_cons.mp h).elim (fun e => ha w (List.mem_cons.mpr (Or.inl e))) (fun h => (List.mem_append.mp h).elim (fun h => ha w (List.mem_cons.mpr (Or.inr h))) (hb w))
theorem goodIn_sub {big ws : List Cond} (hm : ∀ w ∈ ws, w ∈ big) (h : ws.all goodWord = true) : GoodIn big ws := fun w hw => ⟨hm w hw, good_of_word (List.all_eq_true.mp h w hw)⟩
/-! ===== END ===== -/
theorem vr_outer (c : ClassId) (N h0 : Nat) : ∀ i : Nat, Jvm.Free.Multi.outerC c N h0 i = arrV c N (fun j => va_rf (if j < i then some (h0 + 1 + j) else none))
  | 0 => by
    show ({ cls := c, slots := Array.replicate N .null, vm := .none } : Cell) = _
    rw [arrV_new]
    refine congrArg (arrV c N) (funext fun j => ?_)
    simp [va_rf]
  | i + 1 => by
    show (Jvm.Free.Multi.outerC c N h0 i).setSlot i (.ref (h0 + 1 + i)) = _
    rw [vr_outer c N h0 i, arrV_store]
    refine congrArg (arrV c N) (funext fun j => ?_)
    by_cases e : j = i
    · subst e
      simp [updV, va_rf]
    · by_cases h : j < i
      · simp [updV, e, h, Nat.lt_succ_of_lt h]
      · simp [updV, e, h, show ¬ j < i + 1 by omega]
/-! ===== BEGIN printed: names, fields, word lists, decode rows ===== -/
def RX0 : String := "GoldLeaves$Bindery"
def TX0 : u_T := fun k => match k with
  | 0 => ("GoldLeaves$Bindery", "stock", "LGoldLeaves$Stock;", true)
  | 1 => ("GoldLeaves$Bindery", "leafCount", "I", false)
  | 2 => ("GoldLeaves$Bindery", "bookCount", "I", false)
  | _ => ("GoldLeaves$Bindery", "boundLeaves", "I", false)
def tyX0 : Nat → FieldType := fun k => match k with
  | 0 => .object "GoldLeaves$Stock"
  | 1 => .int
  | 2 => .int
  | _ => .int
abbrev wsX00 : List Cond := u_ws RX0 TX0 4
theorem nmX0 : ∀ a, a < 4 → ∀ b, b < 4 → a ≠ b → (TX0 a).2.1 ≠ (TX0 b).2.1 := by decide +kernel
theorem tyX0_ok : ∀ k, k < 4 → parseFieldDescriptor (TX0 k).2.2.1 = some (tyX0 k) := by decide +kernel
abbrev cX0_init : ByteArray := prog_2_method_1_code
def yX0_init : MethodName := ⟨RX0, "<init>", "(LGoldLeaves$Stock;)V"⟩
abbrev cX0_makeLeaf : ByteArray := prog_2_method_2_code
def yX0_makeLeaf : MethodName := ⟨RX0, "makeLeaf", "(II)I"⟩
abbrev cX0_bindBooks : ByteArray := prog_2_method_3_code
def yX0_bindBooks : MethodName := ⟨RX0, "bindBooks", "(I)I"⟩
def RX1 : String := "GoldLeaves$ColourReader"
def TX1 : u_T := fun k => match k with
  | 0 => ("GoldLeaves$ColourReader", "tape", "LGoldLeaves$Tape;", true)
  | 1 => ("GoldLeaves$ColourReader", "nameStarts", "[I", true)
  | _ => ("GoldLeaves$ColourReader", "nameStops", "[I", true)
def tyX1 : Nat → FieldType := fun k => match k with
  | 0 => .object "GoldLeaves$Tape"
  | 1 => .array .int
  | _ => .array .int
abbrev wsX10 : List Cond := u_ws RX1 TX1 3
theorem nmX1 : ∀ a, a < 3 → ∀ b, b < 3 → a ≠ b → (TX1 a).2.1 ≠ (TX1 b).2.1 := by decide +kernel
theorem tyX1_ok : ∀ k, k < 3 → parseFieldDescriptor (TX1 k).2.2.1 = some (tyX1 k) := by decide +kernel
abbrev cX1_init : ByteArray := prog_3_method_1_code
def yX1_init : MethodName := ⟨RX1, "<init>", "(LGoldLeaves$Tape;)V"⟩
abbrev cX1_readInto : ByteArray := prog_3_method_2_code
def yX1_readInto : MethodName := ⟨RX1, "readInto", "(LGoldLeaves$Palette;)Z"⟩
abbrev cX1_readColour : ByteArray := prog_3_method_3_code
def yX1_readColour : MethodName := ⟨RX1, "readColour", "(LGoldLeaves$Palette;)Z"⟩
abbrev cX1_takeName : ByteArray := prog_3_method_4_code
def yX1_takeName : MethodName := ⟨RX1, "takeName", "(I)Z"⟩
abbrev cX1_readTest : ByteArray := prog_3_method_5_code
def yX1_readTest : MethodName := ⟨RX1, "readTest", "(LGoldLeaves$Palette;)Z"⟩
abbrev cX1_metalTold : ByteArray := prog_3_method_6_code
def yX1_metalTold : MethodName := ⟨RX1, "metalTold", "()I"⟩
abbrev cX1_takeMark : ByteArray := prog_3_method_7_code
def yX1_takeMark : MethodName := ⟨RX1, "takeMark", "(C)Z"⟩
def RX2 : String := "GoldLeaves$Gatehouse"
def TX2 : u_T := fun k => match k with
  | 0 => ("GoldLeaves$Gatehouse", "doors", "[I", true)
  | 1 => ("GoldLeaves$Gatehouse", "passedGrains", "[I", true)
  | 2 => ("GoldLeaves$Gatehouse", "passedHours", "[I", true)
  | 3 => ("GoldLeaves$Gatehouse", "knownHours", "[I", true)
  | 4 => ("GoldLeaves$Gatehouse", "passed", "I", false)
  | 5 => ("GoldLeaves$Gatehouse", "rooms", "[I", true)
  | 6 => ("GoldLeaves$Gatehouse", "foundHours", "[I", true)
  | 7 => ("GoldLeaves$Gatehouse", "foundGrains", "[I", true)
  | _ => ("GoldLeaves$Gatehouse", "found", "I", false)
def tyX2 : Nat → FieldType := fun k => match k with
  | 0 => .array .int
  | 1 => .array .int
  | 2 => .array .int
  | 3 => .array .int
  | 4 => .int
  | 5 => .array .int
  | 6 => .array .int
  | 7 => .array .int
  | _ => .int
abbrev wsX20 : List Cond := u_ws RX2 TX2 9
theorem nmX2 : ∀ a, a < 9 → ∀ b, b < 9 → a ≠ b → (TX2 a).2.1 ≠ (TX2 b).2.1 := by decide +kernel
theorem tyX2_ok : ∀ k, k < 9 → parseFieldDescriptor (TX2 k).2.2.1 = some (tyX2 k) := by decide +kernel
abbrev cX2_init : ByteArray := prog_4_method_1_code
def yX2_init : MethodName := ⟨RX2, "<init>", "()V"⟩
abbrev cX2_addPassed : ByteArray := prog_4_method_2_code
def yX2_addPassed : MethodName := ⟨RX2, "addPassed", "(IIII)I"⟩
abbrev cX2_addFound : ByteArray := prog_4_method_3_code
def yX2_addFound : MethodName := ⟨RX2, "addFound", "(III)I"⟩
abbrev cX2_inRoom : ByteArray := prog_4_method_4_code
def yX2_inRoom : MethodName := ⟨RX2, "inRoom", "(III)I"⟩
abbrev cX2_through : ByteArray := prog_4_method_5_code
def yX2_through : MethodName := ⟨RX2, "through", "(III)I"⟩
abbrev cX2_firstMissing : ByteArray := prog_4_method_6_code
def yX2_firstMissing : MethodName := ⟨RX2, "firstMissing", "(II)I"⟩
def RX3 : String := "GoldLeaves$PackNeed"
def TX3 : u_T := fun k => match k with
  | 0 => ("GoldLeaves$PackNeed", "skins", "I", false)
  | 1 => ("GoldLeaves$PackNeed", "ageFrom", "I", false)
  | 2 => ("GoldLeaves$PackNeed", "ageTo", "I", false)
  | 3 => ("GoldLeaves$PackNeed", "dryFrom", "I", false)
  | _ => ("GoldLeaves$PackNeed", "dryTo", "I", false)
def tyX3 : Nat → FieldType := fun k => match k with
  | 0 => .int
  | 1 => .int
  | 2 => .int
  | 3 => .int
  | _ => .int
abbrev wsX30 : List Cond := u_ws RX3 TX3 5
theorem nmX3 : ∀ a, a < 5 → ∀ b, b < 5 → a ≠ b → (TX3 a).2.1 ≠ (TX3 b).2.1 := by decide +kernel
theorem tyX3_ok : ∀ k, k < 5 → parseFieldDescriptor (TX3 k).2.2.1 = some (tyX3 k) := by decide +kernel
abbrev cX3_init : ByteArray := prog_5_method_1_code
def yX3_init : MethodName := ⟨RX3, "<init>", "()V"⟩
def RX4 : String := "GoldLeaves$Palette"
def TX4 : u_T := fun k => match k with
  | 0 => ("GoldLeaves$Palette", "size", "I", false)
  | 1 => ("GoldLeaves$Palette", "tests", "I", false)
  | 2 => ("GoldLeaves$Palette", "owners", "[I", true)
  | 3 => ("GoldLeaves$Palette", "metals", "[I", true)
  | 4 => ("GoldLeaves$Palette", "lows", "[I", true)
  | _ => ("GoldLeaves$Palette", "highs", "[I", true)
def tyX4 : Nat → FieldType := fun k => match k with
  | 0 => .int
  | 1 => .int
  | 2 => .array .int
  | 3 => .array .int
  | 4 => .array .int
  | _ => .array .int
abbrev wsX40 : List Cond := u_ws RX4 TX4 6
theorem nmX4 : ∀ a, a < 6 → ∀ b, b < 6 → a ≠ b → (TX4 a).2.1 ≠ (TX4 b).2.1 := by decide +kernel
theorem tyX4_ok : ∀ k, k < 6 → parseFieldDescriptor (TX4 k).2.2.1 = some (tyX4 k) := by decide +kernel
abbrev cX4_init : ByteArray := prog_6_method_1_code
def yX4_init : MethodName := ⟨RX4, "<init>", "()V"⟩
abbrev cX4_empty : ByteArray := prog_6_method_2_code
def yX4_empty : MethodName := ⟨RX4, "empty", "()V"⟩
abbrev cX4_hasRoomForTest : ByteArray := prog_6_method_3_code
def yX4_hasRoomForTest : MethodName := ⟨RX4, "hasRoomForTest", "()Z"⟩
abbrev cX4_addTest : ByteArray := prog_6_method_4_code
def yX4_addTest : MethodName := ⟨RX4, "addTest", "(III)V"⟩
abbrev cX4_firstThatSuits : ByteArray := prog_6_method_5_code
def yX4_firstThatSuits : MethodName := ⟨RX4, "firstThatSuits", "(LGoldLeaves$Piece;LGoldLeaves$Stock;)I"⟩
abbrev cX4_allHold : ByteArray := prog_6_method_6_code
def yX4_allHold : MethodName := ⟨RX4, "allHold", "(ILGoldLeaves$Piece;LGoldLeaves$Stock;)Z"⟩
abbrev cX4_holds : ByteArray := prog_6_method_7_code
def yX4_holds : MethodName := ⟨RX4, "holds", "(ILGoldLeaves$Piece;LGoldLeaves$Stock;)Z"⟩
def RX5 : String := "GoldLeaves$Piece"
def TX5 : u_T := fun k => match k with
  | 0 => ("GoldLeaves$Piece", "grains", "[I", true)
  | 1 => ("GoldLeaves$Piece", "weight", "I", false)
  | 2 => ("GoldLeaves$Piece", "area", "I", false)
  | 3 => ("GoldLeaves$Piece", "book", "I", false)
  | _ => ("GoldLeaves$Piece", "gone", "Z", false)
def tyX5 : Nat → FieldType := fun k => match k with
  | 0 => .array .int
  | 1 => .int
  | 2 => .int
  | 3 => .int
  | _ => .boolean
abbrev wsX50 : List Cond := u_ws RX5 TX5 5
theorem nmX5 : ∀ a, a < 5 → ∀ b, b < 5 → a ≠ b → (TX5 a).2.1 ≠ (TX5 b).2.1 := by decide +kernel
theorem tyX5_ok : ∀ k, k < 5 → parseFieldDescriptor (TX5 k).2.2.1 = some (tyX5 k) := by decide +kernel
abbrev cX5_init : ByteArray := prog_7_method_1_code
def yX5_init : MethodName := ⟨RX5, "<init>", "()V"⟩
abbrev cX5_isLeaf : ByteArray := prog_7_method_2_code
def yX5_isLeaf : MethodName := ⟨RX5, "isLeaf", "()Z"⟩
def RX6 : String := "GoldLeaves$SkinChest"
def TX6 : u_T := fun k => match k with
  | 0 => ("GoldLeaves$SkinChest", "needs", "[LGoldLeaves$PackNeed;", true)
  | 1 => ("GoldLeaves$SkinChest", "ages", "[I", true)
  | 2 => ("GoldLeaves$SkinChest", "drynesses", "[I", true)
  | 3 => ("GoldLeaves$SkinChest", "chosen", "[Z", true)
  | _ => ("GoldLeaves$SkinChest", "size", "I", false)
def tyX6 : Nat → FieldType := fun k => match k with
  | 0 => .array (.object "GoldLeaves$PackNeed")
  | 1 => .array .int
  | 2 => .array .int
  | 3 => .array .boolean
  | _ => .int
abbrev wsX60 : List Cond := u_ws RX6 TX6 5
theorem nmX6 : ∀ a, a < 5 → ∀ b, b < 5 → a ≠ b → (TX6 a).2.1 ≠ (TX6 b).2.1 := by decide +kernel
theorem tyX6_ok : ∀ k, k < 5 → parseFieldDescriptor (TX6 k).2.2.1 = some (tyX6 k) := by decide +kernel
abbrev cX6_init : ByteArray := prog_8_method_1_code
def yX6_init : MethodName := ⟨RX6, "<init>", "()V"⟩
abbrev cX6_has : ByteArray := prog_8_method_2_code
def yX6_has : MethodName := ⟨RX6, "has", "(I)Z"⟩
abbrev cX6_addSkin : ByteArray := prog_8_method_3_code
def yX6_addSkin : MethodName := ⟨RX6, "addSkin", "(I)I"⟩
abbrev cX6_changeDryness : ByteArray := prog_8_method_4_code
def yX6_changeDryness : MethodName := ⟨RX6, "changeDryness", "(II)I"⟩
abbrev cX6_beatPacks : ByteArray := prog_8_method_5_code
def yX6_beatPacks : MethodName := ⟨RX6, "beatPacks", "(II)I"⟩
abbrev cX6_chooseFor : ByteArray := prog_8_method_6_code
def yX6_chooseFor : MethodName := ⟨RX6, "chooseFor", "(LGoldLeaves$PackNeed;)Z"⟩
abbrev cX6_oldestFor : ByteArray := prog_8_method_7_code
def yX6_oldestFor : MethodName := ⟨RX6, "oldestFor", "(LGoldLeaves$PackNeed;)I"⟩
abbrev cX6_suits : ByteArray := prog_8_method_8_code
def yX6_suits : MethodName := ⟨RX6, "suits", "(ILGoldLeaves$PackNeed;)Z"⟩
abbrev cX6_ageChosen : ByteArray := prog_8_method_9_code
def yX6_ageChosen : MethodName := ⟨RX6, "ageChosen", "()V"⟩
def RX7 : String := "GoldLeaves$Stock"
def TX7 : u_T := fun k => match k with
  | 0 => ("GoldLeaves$Stock", "pieces", "[LGoldLeaves$Piece;", true)
  | 1 => ("GoldLeaves$Stock", "thousandths", "[[I", true)
  | 2 => ("GoldLeaves$Stock", "rests", "[J", true)
  | 3 => ("GoldLeaves$Stock", "barCount", "I", false)
  | _ => ("GoldLeaves$Stock", "pieceCount", "I", false)
def tyX7 : Nat → FieldType := fun k => match k with
  | 0 => .array (.object "GoldLeaves$Piece")
  | 1 => .array (.array .int)
  | 2 => .array .long
  | 3 => .int
  | _ => .int
abbrev wsX70 : List Cond := u_ws RX7 TX7 5
theorem nmX7 : ∀ a, a < 5 → ∀ b, b < 5 → a ≠ b → (TX7 a).2.1 ≠ (TX7 b).2.1 := by decide +kernel
theorem tyX7_ok : ∀ k, k < 5 → parseFieldDescriptor (TX7 k).2.2.1 = some (tyX7 k) := by decide +kernel
abbrev cX7_init : ByteArray := prog_9_method_1_code
def yX7_init : MethodName := ⟨RX7, "<init>", "()V"⟩
abbrev cX7_living : ByteArray := prog_9_method_2_code
def yX7_living : MethodName := ⟨RX7, "living", "(I)LGoldLeaves$Piece;"⟩
abbrev cX7_addBar : ByteArray := prog_9_method_3_code
def yX7_addBar : MethodName := ⟨RX7, "addBar", "(III)I"⟩
abbrev cX7_cutOff : ByteArray := prog_9_method_4_code
def yX7_cutOff : MethodName := ⟨RX7, "cutOff", "(II)I"⟩
abbrev cX7_giveWholeShares : ByteArray := prog_9_method_5_code
def yX7_giveWholeShares : MethodName := ⟨RX7, "giveWholeShares", "(LGoldLeaves$Piece;LGoldLeaves$Piece;I)I"⟩
abbrev cX7_giveRests : ByteArray := prog_9_method_6_code
def yX7_giveRests : MethodName := ⟨RX7, "giveRests", "(LGoldLeaves$Piece;I)V"⟩
abbrev cX7_greatestRest : ByteArray := prog_9_method_7_code
def yX7_greatestRest : MethodName := ⟨RX7, "greatestRest", "()I"⟩
abbrev cX7_meltInto : ByteArray := prog_9_method_8_code
def yX7_meltInto : MethodName := ⟨RX7, "meltInto", "(II)I"⟩
abbrev cX7_metalIn : ByteArray := prog_9_method_9_code
def yX7_metalIn : MethodName := ⟨RX7, "metalIn", "(LGoldLeaves$Piece;I)J"⟩
abbrev cX7_livingPieces : ByteArray := prog_9_method_10_code
def yX7_livingPieces : MethodName := ⟨RX7, "livingPieces", "()I"⟩
abbrev cX7_allGrains : ByteArray := prog_9_method_11_code
def yX7_allGrains : MethodName := ⟨RX7, "allGrains", "()I"⟩
abbrev cX7_addPiece : ByteArray := prog_9_method_12_code
def yX7_addPiece : MethodName := ⟨RX7, "addPiece", "(LGoldLeaves$Piece;)I"⟩
def RX8 : String := "GoldLeaves$Tape"
def TX8 : u_T := fun k => match k with
  | 0 => ("GoldLeaves$Tape", "bytes", "[I", true)
  | 1 => ("GoldLeaves$Tape", "length", "I", false)
  | 2 => ("GoldLeaves$Tape", "kind", "I", false)
  | 3 => ("GoldLeaves$Tape", "start", "I", false)
  | _ => ("GoldLeaves$Tape", "stop", "I", false)
def tyX8 : Nat → FieldType := fun k => match k with
  | 0 => .array .int
  | 1 => .int
  | 2 => .int
  | 3 => .int
  | _ => .int
abbrev wsX80 : List Cond := u_ws RX8 TX8 5
theorem nmX8 : ∀ a, a < 5 → ∀ b, b < 5 → a ≠ b → (TX8 a).2.1 ≠ (TX8 b).2.1 := by decide +kernel
theorem tyX8_ok : ∀ k, k < 5 → parseFieldDescriptor (TX8 k).2.2.1 = some (tyX8 k) := by decide +kernel
abbrev cX8_init : ByteArray := prog_10_method_1_code
def yX8_init : MethodName := ⟨RX8, "<init>", "()V"⟩
abbrev cX8_appendFour : ByteArray := prog_10_method_2_code
def yX8_appendFour : MethodName := ⟨RX8, "appendFour", "(I)V"⟩
abbrev cX8_toFirstToken : ByteArray := prog_10_method_3_code
def yX8_toFirstToken : MethodName := ⟨RX8, "toFirstToken", "()V"⟩
abbrev cX8_toNextToken : ByteArray := prog_10_method_4_code
def yX8_toNextToken : MethodName := ⟨RX8, "toNextToken", "()V"⟩
abbrev cX8_kindOf : ByteArray := prog_10_method_5_code
def yX8_kindOf : MethodName := ⟨RX8, "kindOf", "(I)I"⟩
abbrev cX8_isMark : ByteArray := prog_10_method_6_code
def yX8_isMark : MethodName := ⟨RX8, "isMark", "(C)Z"⟩
abbrev cX8_isWord : ByteArray := prog_10_method_7_code
def yX8_isWord : MethodName := ⟨RX8, "isWord", "(Ljava/lang/String;)Z"⟩
abbrev cX8_isSameAs : ByteArray := prog_10_method_8_code
def yX8_isSameAs : MethodName := ⟨RX8, "isSameAs", "(II)Z"⟩
abbrev cX8_numberToThousand : ByteArray := prog_10_method_9_code
def yX8_numberToThousand : MethodName := ⟨RX8, "numberToThousand", "()I"⟩
def RX9 : String := "GoldLeaves"
def TX9 : u_T := fun k => match k with
  | 0 => ("GoldLeaves", "stock", "LGoldLeaves$Stock;", true)
  | 1 => ("GoldLeaves", "bindery", "LGoldLeaves$Bindery;", true)
  | 2 => ("GoldLeaves", "tape", "LGoldLeaves$Tape;", true)
  | 3 => ("GoldLeaves", "reader", "LGoldLeaves$ColourReader;", true)
  | 4 => ("GoldLeaves", "chest", "LGoldLeaves$SkinChest;", true)
  | 5 => ("GoldLeaves", "gates", "LGoldLeaves$Gatehouse;", true)
  | 6 => ("GoldLeaves", "palette", "LGoldLeaves$Palette;", false)
  | 7 => ("GoldLeaves", "draft", "LGoldLeaves$Palette;", false)
  | 8 => ("GoldLeaves", "faultPlace", "I", false)
  | _ => ("GoldLeaves", "refusal", "I", false)
def tyX9 : Nat → FieldType := fun k => match k with
  | 0 => .object "GoldLeaves$Stock"
  | 1 => .object "GoldLeaves$Bindery"
  | 2 => .object "GoldLeaves$Tape"
  | 3 => .object "GoldLeaves$ColourReader"
  | 4 => .object "GoldLeaves$SkinChest"
  | 5 => .object "GoldLeaves$Gatehouse"
  | 6 => .object "GoldLeaves$Palette"
  | 7 => .object "GoldLeaves$Palette"
  | 8 => .int
  | _ => .int
abbrev wsX90 : List Cond := u_ws RX9 TX9 10
theorem nmX9 : ∀ a, a < 10 → ∀ b, b < 10 → a ≠ b → (TX9 a).2.1 ≠ (TX9 b).2.1 := by decide +kernel
theorem tyX9_ok : ∀ k, k < 10 → parseFieldDescriptor (TX9 k).2.2.1 = some (tyX9 k) := by decide +kernel
abbrev cX9_init : ByteArray := prog_1_method_1_code
def yX9_init : MethodName := ⟨RX9, "<init>", "()V"⟩
abbrev cX9_bar : ByteArray := prog_1_method_2_code
def yX9_bar : MethodName := ⟨RX9, "bar", "(III)I"⟩
abbrev cX9_cut : ByteArray := prog_1_method_3_code
def yX9_cut : MethodName := ⟨RX9, "cut", "(II)I"⟩
abbrev cX9_melt : ByteArray := prog_1_method_4_code
def yX9_melt : MethodName := ⟨RX9, "melt", "(II)I"⟩
abbrev cX9_weight : ByteArray := prog_1_method_5_code
def yX9_weight : MethodName := ⟨RX9, "weight", "(I)I"⟩
abbrev cX9_from : ByteArray := prog_1_method_6_code
def yX9_from : MethodName := ⟨RX9, "from", "(II)I"⟩
abbrev cX9_part : ByteArray := prog_1_method_7_code
def yX9_part : MethodName := ⟨RX9, "part", "(II)J"⟩
abbrev cX9_feed : ByteArray := prog_1_method_8_code
def yX9_feed : MethodName := ⟨RX9, "feed", "(IIIII)I"⟩
abbrev cX9_end : ByteArray := prog_1_method_9_code
def yX9_end : MethodName := ⟨RX9, "end", "(I)I"⟩
abbrev cX9_colours : ByteArray := prog_1_method_10_code
def yX9_colours : MethodName := ⟨RX9, "colours", "()I"⟩
abbrev cX9_fault : ByteArray := prog_1_method_11_code
def yX9_fault : MethodName := ⟨RX9, "fault", "()I"⟩
abbrev cX9_colour : ByteArray := prog_1_method_12_code
def yX9_colour : MethodName := ⟨RX9, "colour", "(I)I"⟩
abbrev cX9_skin : ByteArray := prog_1_method_13_code
def yX9_skin : MethodName := ⟨RX9, "skin", "(I)I"⟩
abbrev cX9_dry : ByteArray := prog_1_method_14_code
def yX9_dry : MethodName := ⟨RX9, "dry", "(II)I"⟩
abbrev cX9_age : ByteArray := prog_1_method_15_code
def yX9_age : MethodName := ⟨RX9, "age", "(I)I"⟩
abbrev cX9_pack : ByteArray := prog_1_method_16_code
def yX9_pack : MethodName := ⟨RX9, "pack", "(IIIIII)I"⟩
abbrev cX9_beat : ByteArray := prog_1_method_17_code
def yX9_beat : MethodName := ⟨RX9, "beat", "(II)I"⟩
abbrev cX9_leaf : ByteArray := prog_1_method_18_code
def yX9_leaf : MethodName := ⟨RX9, "leaf", "(II)I"⟩
abbrev cX9_flatter : ByteArray := prog_1_method_19_code
def yX9_flatter : MethodName := ⟨RX9, "flatter", "(II)I"⟩
abbrev cX9_bind : ByteArray := prog_1_method_20_code
def yX9_bind : MethodName := ⟨RX9, "bind", "(I)I"⟩
abbrev cX9_book : ByteArray := prog_1_method_21_code
def yX9_book : MethodName := ⟨RX9, "book", "(I)I"⟩
abbrev cX9_surface : ByteArray := prog_1_method_22_code
def yX9_surface : MethodName := ⟨RX9, "surface", "(IIII)J"⟩
abbrev cX9_pass : ByteArray := prog_1_method_23_code
def yX9_pass : MethodName := ⟨RX9, "pass", "(IIII)I"⟩
abbrev cX9_held : ByteArray := prog_1_method_24_code
def yX9_held : MethodName := ⟨RX9, "held", "(III)I"⟩
abbrev cX9_find : ByteArray := prog_1_method_25_code
def yX9_find : MethodName := ⟨RX9, "find", "(III)I"⟩
abbrev cX9_missing : ByteArray := prog_1_method_26_code
def yX9_missing : MethodName := ⟨RX9, "missing", "(II)I"⟩
abbrev cX9_count : ByteArray := prog_1_method_27_code
def yX9_count : MethodName := ⟨RX9, "count", "(I)I"⟩
abbrev cX9_status : ByteArray := prog_1_method_28_code
def yX9_status : MethodName := ⟨RX9, "status", "()I"⟩
abbrev cX9_noted : ByteArray := prog_1_method_29_code
def yX9_noted : MethodName := ⟨RX9, "noted", "(I)I"⟩
abbrev cX9_within : ByteArray := prog_1_method_30_code
def yX9_within : MethodName := ⟨RX9, "within", "(III)Z"⟩
abbrev cX9_isSpan : ByteArray := prog_1_method_31_code
def yX9_isSpan : MethodName := ⟨RX9, "isSpan", "(III)Z"⟩
abbrev cX9_isHour : ByteArray := prog_1_method_32_code
def yX9_isHour : MethodName := ⟨RX9, "isHour", "(I)Z"⟩
abbrev cX9_leavesAlong : ByteArray := prog_1_method_33_code
def yX9_leavesAlong : MethodName := ⟨RX9, "leavesAlong", "(III)J"⟩
def RX10 : String := "GoldLeavesModel"
def TX10 : u_T := fun k => match k with
  | 0 => ("GoldLeavesModel", "thrown", "I", false)
  | 1 => ("GoldLeavesModel", "status", "I", false)
  | 2 => ("GoldLeavesModel", "bars", "I", false)
  | 3 => ("GoldLeavesModel", "metals", "[I", true)
  | 4 => ("GoldLeavesModel", "pieces", "I", false)
  | 5 => ("GoldLeavesModel", "isGone", "[Z", true)
  | 6 => ("GoldLeavesModel", "grains", "[I", true)
  | 7 => ("GoldLeavesModel", "areas", "[I", true)
  | 8 => ("GoldLeavesModel", "books", "[I", true)
  | 9 => ("GoldLeavesModel", "bookMany", "I", false)
  | 10 => ("GoldLeavesModel", "colourMany", "I", false)
  | 11 => ("GoldLeavesModel", "cFrom", "[I", true)
  | 12 => ("GoldLeavesModel", "cTests", "[I", true)
  | 13 => ("GoldLeavesModel", "nColours", "I", false)
  | 14 => ("GoldLeavesModel", "nTests", "I", false)
  | 15 => ("GoldLeavesModel", "nFrom", "[I", true)
  | 16 => ("GoldLeavesModel", "nTest", "[I", true)
  | 17 => ("GoldLeavesModel", "nameAt", "[I", true)
  | 18 => ("GoldLeavesModel", "nameLong", "[I", true)
  | 19 => ("GoldLeavesModel", "tape", "[I", true)
  | 20 => ("GoldLeavesModel", "taped", "I", false)
  | 21 => ("GoldLeavesModel", "from", "I", false)
  | 22 => ("GoldLeavesModel", "to", "I", false)
  | 23 => ("GoldLeavesModel", "sort", "I", false)
  | 24 => ("GoldLeavesModel", "worth", "J", false)
  | 25 => ("GoldLeavesModel", "fault", "I", false)
  | 26 => ("GoldLeavesModel", "bad", "Z", false)
  | 27 => ("GoldLeavesModel", "skins", "I", false)
  | 28 => ("GoldLeavesModel", "dryness", "[I", true)
  | 29 => ("GoldLeavesModel", "ages", "[I", true)
  | 30 => ("GoldLeavesModel", "isIn", "[Z", true)
  | 31 => ("GoldLeavesModel", "packSkins", "[I", true)
  | 32 => ("GoldLeavesModel", "packAges", "[I", true)
  | 33 => ("GoldLeavesModel", "packDry", "[I", true)
  | 34 => ("GoldLeavesModel", "leafMany", "I", false)
  | 35 => ("GoldLeavesModel", "passed", "I", false)
  | 36 => ("GoldLeavesModel", "pDoor", "[I", true)
  | 37 => ("GoldLeavesModel", "pGrains", "[I", true)
  | 38 => ("GoldLeavesModel", "pHour", "[I", true)
  | 39 => ("GoldLeavesModel", "pKnown", "[I", true)
  | 40 => ("GoldLeavesModel", "found", "I", false)
  | 41 => ("GoldLeavesModel", "fRoom", "[I", true)
  | 42 => ("GoldLeavesModel", "fHour", "[I", true)
  | _ => ("GoldLeavesModel", "fGrains", "[I", true)
def tyX10 : Nat → FieldType := fun k => match k with
  | 0 => .int
  | 1 => .int
  | 2 => .int
  | 3 => .array .int
  | 4 => .int
  | 5 => .array .boolean
  | 6 => .array .int
  | 7 => .array .int
  | 8 => .array .int
  | 9 => .int
  | 10 => .int
  | 11 => .array .int
  | 12 => .array .int
  | 13 => .int
  | 14 => .int
  | 15 => .array .int
  | 16 => .array .int
  | 17 => .array .int
  | 18 => .array .int
  | 19 => .array .int
  | 20 => .int
  | 21 => .int
  | 22 => .int
  | 23 => .int
  | 24 => .long
  | 25 => .int
  | 26 => .boolean
  | 27 => .int
  | 28 => .array .int
  | 29 => .array .int
  | 30 => .array .boolean
  | 31 => .array .int
  | 32 => .array .int
  | 33 => .array .int
  | 34 => .int
  | 35 => .int
  | 36 => .array .int
  | 37 => .array .int
  | 38 => .array .int
  | 39 => .array .int
  | 40 => .int
  | 41 => .array .int
  | 42 => .array .int
  | _ => .array .int
abbrev wsX100 : List Cond := u_ws RX10 TX10 44
theorem nmX10 : ∀ a, a < 44 → ∀ b, b < 44 → a ≠ b → (TX10 a).2.1 ≠ (TX10 b).2.1 := by decide +kernel
theorem tyX10_ok : ∀ k, k < 44 → parseFieldDescriptor (TX10 k).2.2.1 = some (tyX10 k) := by decide +kernel
abbrev cX10_init : ByteArray := prog_12_method_1_code
def yX10_init : MethodName := ⟨RX10, "<init>", "()V"⟩
abbrev cX10_in : ByteArray := prog_12_method_3_code
def yX10_in : MethodName := ⟨RX10, "in", "(JJJ)Z"⟩
abbrev cX10_told : ByteArray := prog_12_method_4_code
def yX10_told : MethodName := ⟨RX10, "told", "(I)I"⟩
abbrev cX10_isPiece : ByteArray := prog_12_method_5_code
def yX10_isPiece : MethodName := ⟨RX10, "isPiece", "(I)Z"⟩
abbrev cX10_isLeaf : ByteArray := prog_12_method_6_code
def yX10_isLeaf : MethodName := ⟨RX10, "isLeaf", "(I)Z"⟩
abbrev cX10_weightOf : ByteArray := prog_12_method_7_code
def yX10_weightOf : MethodName := ⟨RX10, "weightOf", "(I)I"⟩
abbrev cX10_addPiece : ByteArray := prog_12_method_8_code
def yX10_addPiece : MethodName := ⟨RX10, "addPiece", "()V"⟩
abbrev cX10_bar : ByteArray := prog_12_method_9_code
def yX10_bar : MethodName := ⟨RX10, "bar", "(III)I"⟩
abbrev cX10_cut : ByteArray := prog_12_method_10_code
def yX10_cut : MethodName := ⟨RX10, "cut", "(II)I"⟩
abbrev cX10_melt : ByteArray := prog_12_method_11_code
def yX10_melt : MethodName := ⟨RX10, "melt", "(II)I"⟩
abbrev cX10_weight : ByteArray := prog_12_method_12_code
def yX10_weight : MethodName := ⟨RX10, "weight", "(I)I"⟩
abbrev cX10_from : ByteArray := prog_12_method_13_code
def yX10_from : MethodName := ⟨RX10, "from", "(II)I"⟩
abbrev cX10_partOf : ByteArray := prog_12_method_14_code
def yX10_partOf : MethodName := ⟨RX10, "partOf", "(II)J"⟩
abbrev cX10_part : ByteArray := prog_12_method_15_code
def yX10_part : MethodName := ⟨RX10, "part", "(II)J"⟩
abbrev cX10_four : ByteArray := prog_12_method_16_code
def yX10_four : MethodName := ⟨RX10, "four", "(I)V"⟩
abbrev cX10_feed : ByteArray := prog_12_method_17_code
def yX10_feed : MethodName := ⟨RX10, "feed", "(IIIII)I"⟩
abbrev cX10_end : ByteArray := prog_12_method_18_code
def yX10_end : MethodName := ⟨RX10, "end", "(I)I"⟩
abbrev cX10_isSmall : ByteArray := prog_12_method_19_code
def yX10_isSmall : MethodName := ⟨RX10, "isSmall", "(I)Z"⟩
abbrev cX10_isDigit : ByteArray := prog_12_method_20_code
def yX10_isDigit : MethodName := ⟨RX10, "isDigit", "(I)Z"⟩
abbrev cX10_next : ByteArray := prog_12_method_21_code
def yX10_next : MethodName := ⟨RX10, "next", "()V"⟩
abbrev cX10_isWord : ByteArray := prog_12_method_22_code
def yX10_isWord : MethodName := ⟨RX10, "isWord", "(IIIIII)Z"⟩
abbrev cX10_isSign : ByteArray := prog_12_method_23_code
def yX10_isSign : MethodName := ⟨RX10, "isSign", "(I)Z"⟩
abbrev cX10_must : ByteArray := prog_12_method_24_code
def yX10_must : MethodName := ⟨RX10, "must", "(Z)V"⟩
abbrev cX10_number : ByteArray := prog_12_method_25_code
def yX10_number : MethodName := ⟨RX10, "number", "(J)I"⟩
abbrev cX10_isNamed : ByteArray := prog_12_method_26_code
def yX10_isNamed : MethodName := ⟨RX10, "isNamed", "()Z"⟩
abbrev cX10_readTest : ByteArray := prog_12_method_27_code
def yX10_readTest : MethodName := ⟨RX10, "readTest", "()V"⟩
abbrev cX10_readColour : ByteArray := prog_12_method_28_code
def yX10_readColour : MethodName := ⟨RX10, "readColour", "()V"⟩
abbrev cX10_colours : ByteArray := prog_12_method_29_code
def yX10_colours : MethodName := ⟨RX10, "colours", "()I"⟩
abbrev cX10_fault : ByteArray := prog_12_method_30_code
def yX10_fault : MethodName := ⟨RX10, "fault", "()I"⟩
abbrev cX10_colour : ByteArray := prog_12_method_31_code
def yX10_colour : MethodName := ⟨RX10, "colour", "(I)I"⟩
abbrev cX10_isSkin : ByteArray := prog_12_method_32_code
def yX10_isSkin : MethodName := ⟨RX10, "isSkin", "(I)Z"⟩
abbrev cX10_skin : ByteArray := prog_12_method_33_code
def yX10_skin : MethodName := ⟨RX10, "skin", "(I)I"⟩
abbrev cX10_dry : ByteArray := prog_12_method_34_code
def yX10_dry : MethodName := ⟨RX10, "dry", "(II)I"⟩
abbrev cX10_age : ByteArray := prog_12_method_35_code
def yX10_age : MethodName := ⟨RX10, "age", "(I)I"⟩
abbrev cX10_pack : ByteArray := prog_12_method_36_code
def yX10_pack : MethodName := ⟨RX10, "pack", "(IIIIII)I"⟩
abbrev cX10_beatOne : ByteArray := prog_12_method_37_code
def yX10_beatOne : MethodName := ⟨RX10, "beatOne", "(I)Z"⟩
abbrev cX10_beat : ByteArray := prog_12_method_38_code
def yX10_beat : MethodName := ⟨RX10, "beat", "(II)I"⟩
abbrev cX10_leaf : ByteArray := prog_12_method_39_code
def yX10_leaf : MethodName := ⟨RX10, "leaf", "(II)I"⟩
abbrev cX10_flatter : ByteArray := prog_12_method_40_code
def yX10_flatter : MethodName := ⟨RX10, "flatter", "(II)I"⟩
abbrev cX10_bind : ByteArray := prog_12_method_41_code
def yX10_bind : MethodName := ⟨RX10, "bind", "(I)I"⟩
abbrev cX10_book : ByteArray := prog_12_method_42_code
def yX10_book : MethodName := ⟨RX10, "book", "(I)I"⟩
abbrev cX10_along : ByteArray := prog_12_method_43_code
def yX10_along : MethodName := ⟨RX10, "along", "(III)J"⟩
abbrev cX10_surface : ByteArray := prog_12_method_44_code
def yX10_surface : MethodName := ⟨RX10, "surface", "(IIII)J"⟩
abbrev cX10_isHour : ByteArray := prog_12_method_45_code
def yX10_isHour : MethodName := ⟨RX10, "isHour", "(I)Z"⟩
abbrev cX10_pass : ByteArray := prog_12_method_46_code
def yX10_pass : MethodName := ⟨RX10, "pass", "(IIII)I"⟩
abbrev cX10_heldIn : ByteArray := prog_12_method_47_code
def yX10_heldIn : MethodName := ⟨RX10, "heldIn", "(III)I"⟩
abbrev cX10_held : ByteArray := prog_12_method_48_code
def yX10_held : MethodName := ⟨RX10, "held", "(III)I"⟩
abbrev cX10_find : ByteArray := prog_12_method_49_code
def yX10_find : MethodName := ⟨RX10, "find", "(III)I"⟩
abbrev cX10_missing : ByteArray := prog_12_method_50_code
def yX10_missing : MethodName := ⟨RX10, "missing", "(II)I"⟩
abbrev cX10_count : ByteArray := prog_12_method_51_code
def yX10_count : MethodName := ⟨RX10, "count", "(I)I"⟩
abbrev cX10_status : ByteArray := prog_12_method_52_code
def yX10_status : MethodName := ⟨RX10, "status", "()I"⟩
def RJ13 : String := "java/lang/Long"
def TJ13 : u_T := fun k => match k with
  | _ => ("", "", "", false)
def tyJ13 : Nat → FieldType := fun k => match k with
  | _ => .int
abbrev wsJ130 : List Cond := u_ws RJ13 TJ13 0
theorem nmJ13 : ∀ a, a < 0 → ∀ b, b < 0 → a ≠ b → (TJ13 a).2.1 ≠ (TJ13 b).2.1 := by decide +kernel
theorem tyJ13_ok : ∀ k, k < 0 → parseFieldDescriptor (TJ13 k).2.2.1 = some (tyJ13 k) := by decide +kernel
abbrev cJ13_compare_74951 : ByteArray := prog_13_method_42_code
def yJ13_compare_74951 : MethodName := ⟨RJ13, "compare", "(JJ)I"⟩
def RJ9 : String := "java/lang/Math"
def TJ9 : u_T := fun k => match k with
  | _ => ("", "", "", false)
def tyJ9 : Nat → FieldType := fun k => match k with
  | _ => .int
abbrev wsJ90 : List Cond := u_ws RJ9 TJ9 0
theorem nmJ9 : ∀ a, a < 0 → ∀ b, b < 0 → a ≠ b → (TJ9 a).2.1 ≠ (TJ9 b).2.1 := by decide +kernel
theorem tyJ9_ok : ∀ k, k < 0 → parseFieldDescriptor (TJ9 k).2.2.1 = some (tyJ9 k) := by decide +kernel
abbrev cJ9_max_7cf53 : ByteArray := prog_14_method_65_code
def yJ9_max_7cf53 : MethodName := ⟨RJ9, "max", "(II)I"⟩
def RJ0 : String := "java/lang/String"
def TJ0 : u_T := fun k => match k with
  | _ => ("", "", "", false)
def tyJ0 : Nat → FieldType := fun k => match k with
  | _ => .int
abbrev wsJ00 : List Cond := u_ws RJ0 TJ0 0
theorem nmJ0 : ∀ a, a < 0 → ∀ b, b < 0 → a ≠ b → (TJ0 a).2.1 ≠ (TJ0 b).2.1 := by decide +kernel
theorem tyJ0_ok : ∀ k, k < 0 → parseFieldDescriptor (TJ0 k).2.2.1 = some (tyJ0 k) := by decide +kernel
abbrev cJ0_length_8abf5 : ByteArray := prog_15_method_54_code
def yJ0_length_8abf5 : MethodName := ⟨RJ0, "length", "()I"⟩
abbrev cJ0_charAt_5068e : ByteArray := prog_15_method_56_code
def yJ0_charAt_5068e : MethodName := ⟨RJ0, "charAt", "(I)C"⟩
abbrev cJ0_coder_7d493 : ByteArray := prog_15_method_152_code
def yJ0_coder_7d493 : MethodName := ⟨RJ0, "coder", "()B"⟩
abbrev cJ0_isLatin1_aae02 : ByteArray := prog_15_method_154_code
def yJ0_isLatin1_aae02 : MethodName := ⟨RJ0, "isLatin1", "()Z"⟩
abbrev cJ0_checkIndex_df160 : ByteArray := prog_15_method_155_code
def yJ0_checkIndex_df160 : MethodName := ⟨RJ0, "checkIndex", "(II)V"⟩
def RJ1 : String := "java/lang/StringLatin1"
def TJ1 : u_T := fun k => match k with
  | _ => ("", "", "", false)
def tyJ1 : Nat → FieldType := fun k => match k with
  | _ => .int
abbrev wsJ10 : List Cond := u_ws RJ1 TJ1 0
theorem nmJ1 : ∀ a, a < 0 → ∀ b, b < 0 → a ≠ b → (TJ1 a).2.1 ≠ (TJ1 b).2.1 := by decide +kernel
theorem tyJ1_ok : ∀ k, k < 0 → parseFieldDescriptor (TJ1 k).2.2.1 = some (tyJ1 k) := by decide +kernel
abbrev cJ1_charAt_3b067 : ByteArray := prog_16_method_2_code
def yJ1_charAt_3b067 : MethodName := ⟨RJ1, "charAt", "([BI)C"⟩
def RJ2 : String := "java/lang/StringUTF16"
def TJ2 : u_T := fun k => match k with
  | _ => ("", "", "", false)
def tyJ2 : Nat → FieldType := fun k => match k with
  | _ => .int
abbrev wsJ20 : List Cond := u_ws RJ2 TJ2 0
theorem nmJ2 : ∀ a, a < 0 → ∀ b, b < 0 → a ≠ b → (TJ2 a).2.1 ≠ (TJ2 b).2.1 := by decide +kernel
theorem tyJ2_ok : ∀ k, k < 0 → parseFieldDescriptor (TJ2 k).2.2.1 = some (tyJ2 k) := by decide +kernel
abbrev cJ2_getChar_3b067 : ByteArray := prog_17_method_5_code
def yJ2_getChar_3b067 : MethodName := ⟨RJ2, "getChar", "([BI)C"⟩
abbrev cJ2_length_9d52b : ByteArray := prog_17_method_6_code
def yJ2_length_9d52b : MethodName := ⟨RJ2, "length", "([B)I"⟩
abbrev cJ2_charAt_3b067 : ByteArray := prog_17_method_83_code
def yJ2_charAt_3b067 : MethodName := ⟨RJ2, "charAt", "([BI)C"⟩
abbrev cJ2_checkIndex_2214a : ByteArray := prog_17_method_91_code
def yJ2_checkIndex_2214a : MethodName := ⟨RJ2, "checkIndex", "(I[B)V"⟩
def RJ3 : String := "jdk/internal/util/Preconditions"
def TJ3 : u_T := fun k => match k with
  | _ => ("", "", "", false)
def tyJ3 : Nat → FieldType := fun k => match k with
  | _ => .int
abbrev wsJ30 : List Cond := u_ws RJ3 TJ3 0
theorem nmJ3 : ∀ a, a < 0 → ∀ b, b < 0 → a ≠ b → (TJ3 a).2.1 ≠ (TJ3 b).2.1 := by decide +kernel
theorem tyJ3_ok : ∀ k, k < 0 → parseFieldDescriptor (TJ3 k).2.2.1 = some (tyJ3 k) := by decide +kernel
abbrev cJ3_checkIndex_8e157 : ByteArray := prog_18_method_11_code
def yJ3_checkIndex_8e157 : MethodName := ⟨RJ3, "checkIndex", "(IILjava/util/function/BiFunction;)I"⟩
def RL : String := "GoldLeavesLaw"
abbrev cL_law : ByteArray := code
def yL_law : MethodName := ⟨RL, "law", "([I)Z"⟩
abbrev vwCl : List vw_C := [(RX0, TX0, 4), (RX1, TX1, 3), (RX2, TX2, 9), (RX3, TX3, 5), (RX4, TX4, 6), (RX5, TX5, 5), (RX6, TX6, 5), (RX7, TX7, 5), (RX8, TX8, 5), (RX9, TX9, 10), (RX10, TX10, 44)]
end
section
/-- the words that every method's head asks for: those of the tables that a callee may keep -/
def GW : List Cond := lw_tbl.filter goodWord
theorem GW_in : ∀ w ∈ GW, w ∈ lw_tbl := fun w h => (List.mem_filter.mp h).1
theorem GW_good : ∀ w ∈ GW, goodWord w = true := fun w h => (List.mem_filter.mp h).2
theorem gw0 {w : Cond} (h : w ∈ k2_sels lw_privs) (g : goodWord w = true) : w ∈ GW := List.mem_filter.mpr ⟨List.mem_append_left _ h, g⟩
theorem gw1 {w : Cond} (h : w ∈ tables_1_1) (g : goodWord w = true) : w ∈ GW := List.mem_filter.mpr ⟨List.mem_append_right _ (show w ∈ tables_1_1 ++ (tables_1_2 ++ (tables_1_3 ++ (tables_1_4 ++ tables_1_5))) from List.mem_append_left _ h), g⟩
theorem gw2 {w : Cond} (h : w ∈ tables_1_2) (g : goodWord w = true) : w ∈ GW := List.mem_filter.mpr ⟨List.mem_append_right _ (show w ∈ tables_1_1 ++ (tables_1_2 ++ (tables_1_3 ++ (tables_1_4 ++ tables_1_5))) from List.mem_append_right _ (List.mem_append_left _ h)), g⟩
theorem gw3 {w : Cond} (h : w ∈ tables_1_3) (g : goodWord w = true) : w ∈ GW := List.mem_filter.mpr ⟨List.mem_append_right _ (show w ∈ tables_1_1 ++ (tables_1_2 ++ (tables_1_3 ++ (tables_1_4 ++ tables_1_5))) from List.mem_append_right _ (List.mem_append_right _ (List.mem_append_left _ h))), g⟩
theorem gw4 {w : Cond} (h : w ∈ tables_1_4) (g : goodWord w = true) : w ∈ GW := List.mem_filter.mpr ⟨List.mem_append_right _ (show w ∈ tables_1_1 ++ (tables_1_2 ++ (tables_1_3 ++ (tables_1_4 ++ tables_1_5))) from List.mem_append_right _ (List.mem_append_right _ (List.mem_append_right _ (List.mem_append_left _ h)))), g⟩
theorem gw5 {w : Cond} (h : w ∈ tables_1_5) (g : goodWord w = true) : w ∈ GW := List.mem_filter.mpr ⟨List.mem_append_right _ (show w ∈ tables_1_1 ++ (tables_1_2 ++ (tables_1_3 ++ (tables_1_4 ++ tables_1_5))) from List.mem_append_right _ (List.mem_append_right _ (List.mem_append_right _ (List.mem_append_right _ (h))))), g⟩
end
section
/-! ===== the pure heap: an address holds an object (the number of its class, its fields) or a row (its kind, length, contents); its first number is the real heap's size ===== -/
abbrev PE : Type := (Nat × vp_A) ⊕ (Nat × List Value)
abbrev PH : Type := Nat × (Nat → Option PE)
/-- what is fixed for a run: class numbers and slots, array classes by kind, the first address that is ours, the String constants' addresses and their rows' -/
abbrev GX : Type := va_G × (Nat → ClassId) × Nat × (Nat → Nat) × (Nat → Nat)
def gA (G : GX) : Nat → Prop := fun q => G.2.2.1 ≤ q
def cv (G : GX) (e : PE) : va_E := match e with
  | .inl a => .inl (G.2.1 a.1, a.2)
  | .inr o => .inr o
def hp (G : GX) (h : PH) (H : Heap) : Prop := H.size = h.1 ∧ G.2.2.1 ≤ h.1 ∧ ∀ (a : Nat) (e : PE), h.2 a = some e → G.2.2.1 ≤ a ∧ va_at G.1 vwCl (a, cv G e) H
def hup (f : Nat → Option PE) (a : Nat) (e : PE) : Nat → Option PE := fun b => if b = a then some e else f b
theorem hp_set {G : GX} {h : PH} {H H1 : Heap} {a : Nat} {e : PE} (hh : hp G h H) (hb : G.2.2.1 ≤ a) (h1 : va_at G.1 vwCl (a, cv G e) H1) (hz : H1.size = H.size) (ho : ∀ q, q ≠ a → H1[q]? = H[q]?) : hp G (h.1, hup h.2 a e) H1 := by
  refine ⟨hz.trans hh.1, hh.2.1, fun b e' hb' => ?_⟩
  simp only [hup] at hb'
  by_cases q : b = a
  · subst q
    rw [if_pos rfl] at hb'
    cases hb'
    exact ⟨hb, h1⟩
  · rw [if_neg q] at hb'
    exact ⟨(hh.2.2 b e' hb').1, (hh.2.2 b e' hb').2.kept (ho b q)⟩
theorem hp_new {G : GX} {h : PH} {H H1 : Heap} {e : PE} (hh : hp G h H) (h1 : va_at G.1 vwCl (h.1, cv G e) H1) (hz : H1.size = h.1 + 1) (ho : ∀ q, q < h.1 → H1[q]? = H[q]?) : hp G (h.1 + 1, hup h.2 h.1 e) H1 := by
  refine ⟨hz, Nat.le_succ_of_le hh.2.1, fun b e' hb' => ?_⟩
  simp only [hup] at hb'
  by_cases q : b = h.1
  · subst q
    rw [if_pos rfl] at hb'
    cases hb'
    exact ⟨hh.2.1, h1⟩
  · rw [if_neg q] at hb'
    have h3 := hh.2.2 b e' hb'
    have h4 : b < H.size := h3.2.lt
    exact ⟨h3.1, h3.2.kept (ho b (by rw [← hh.1]; exact h4))⟩
theorem hp_one {G : GX} {h : PH} {H : Heap} {a : Nat} {e : PE} (hh : hp G h H) (ha : h.2 a = some e) : va_P G.1 vwCl [(a, cv G e)] H := by
  intro k q hq
  have hk : k < 1 := (List.getElem?_eq_some_iff.mp hq).1
  rw [show k = 0 by omega] at hq
  cases hq
  exact (hh.2.2 a e ha).2
theorem hS_new {G : GX} {H0 H H1 : Heap} {locs : List Loc} {n : Nat} (hS : va_S (gA G) H0 H locs) (hn : H.size = n) (hz : H1.size = n + 1) (ho : ∀ q, q < n → H1[q]? = H[q]?) : va_S (gA G) H0 H1 locs :=
  ⟨Nat.le_trans hS.1 (by omega), fun x h1 h2 => (ho x (by have := hS.1; omega)).trans (hS.2.1 x h1 h2), hS.2.2⟩
/-- the kinds of rows -/
def tysL (G : GX) : List (ClassId × FieldType) := [(G.2.1 0, .int), (G.2.1 1, .boolean), (G.2.1 2, .long), (G.2.1 3, .object "GoldLeaves$Piece"), (G.2.1 4, .object "GoldLeaves$PackNeed"), (G.2.1 5, .array .int)]
/-- private members of nest mates -/
def NW : List (String × Nat × MethodName × String) := [("GoldLeaves", 9, ⟨"GoldLeaves$Stock", "<init>", "()V"⟩, "GoldLeaves"), ("GoldLeaves", 27, ⟨"GoldLeaves$Tape", "<init>", "()V"⟩, "GoldLeaves"), ("GoldLeaves", 43, ⟨"GoldLeaves$SkinChest", "<init>", "()V"⟩, "GoldLeaves"), ("GoldLeaves$SkinChest", 11, ⟨"GoldLeaves$PackNeed", "<init>", "()V"⟩, "GoldLeaves"), ("GoldLeaves", 50, ⟨"GoldLeaves$Gatehouse", "<init>", "()V"⟩, "GoldLeaves"), ("GoldLeaves", 57, ⟨"GoldLeaves$Palette", "<init>", "()V"⟩, "GoldLeaves"), ("GoldLeaves$Stock", 38, ⟨"GoldLeaves", "within", "(III)Z"⟩, "GoldLeaves"), ("GoldLeaves$Stock", 42, ⟨"GoldLeaves$Piece", "<init>", "()V"⟩, "GoldLeaves"), ("GoldLeaves$Tape", 35, ⟨"GoldLeaves", "within", "(III)Z"⟩, "GoldLeaves"), ("GoldLeaves$SkinChest", 33, ⟨"GoldLeaves", "within", "(III)Z"⟩, "GoldLeaves"), ("GoldLeaves$Bindery", 25, ⟨"GoldLeaves", "within", "(III)Z"⟩, "GoldLeaves"), ("GoldLeaves$Gatehouse", 40, ⟨"GoldLeaves", "within", "(III)Z"⟩, "GoldLeaves"), ("GoldLeaves$Gatehouse", 46, ⟨"GoldLeaves", "isHour", "(I)Z"⟩, "GoldLeaves")]
def slens : List Nat := [4, 6, 6, 2]
def sbyts : List (List Int32) := [[103, 111, 108, 100], [115, 105, 108, 118, 101, 114], [99, 111, 112, 112, 101, 114], [116, 111]]
/-- what the tables and the start say, at any state of the run -/
def kt (G : GX) (U : State) : Prop :=
  va_K G.1 vwCl (tysL G) U ∧ (∀ q ∈ NW, va_Nw (.methodLinkNest q.1 q.2.1 q.2.2.1 q.2.2.2) U) ∧ va_AO "GoldLeaves$Piece" U ∧ va_AO "GoldLeaves$PackNeed" U ∧ (Cond.arrayOver (.array .int)).before #[] U = true ∧
  (vk_R "GoldLeaves$ColourReader" 91 "gold" (G.2.2.2.1 0) U ∧ vk_R "GoldLeaves$ColourReader" 93 "silver" (G.2.2.2.1 1) U ∧ vk_R "GoldLeaves$ColourReader" 95 "copper" (G.2.2.2.1 2) U ∧ vk_R "GoldLeaves$ColourReader" 81 "to" (G.2.2.2.1 3) U) ∧
  vk_S 4 slens sbyts G.2.2.2.1 G.2.2.2.2 (gA G) U U.heap ∧ va_Z "java/lang/String" "COMPACT_STRINGS" "Z" (.int 1) (gA G) U U.heap ∧ va_Zq "jdk/internal/util/Preconditions" "SIOOBE_FORMATTER" "Ljava/util/function/BiFunction;" (gA G) U U.heap
end
section
theorem kt_step {G : GX} {s U : State} {H : Heap} {locs : List Loc} (hk : kt G s) (hS : va_S (gA G) s.heap H locs) (hU : U.heap = H) (hW : s.WarmedH U.vm) : kt G U := by
  obtain ⟨k1, k2, k3, k4, k5, ⟨s1, s2, s3, s4⟩, k6, k7, k8⟩ := hk
  refine ⟨va_K.moved hW.alike k1, fun q hq => va_Nw.warmM hW (k2 q hq), va_AO.moved hW.alike k3, va_AO.moved hW.alike k4, over_moved hW.alike k5, ⟨s1.warm hW, s2.warm hW, s3.warm hW, s4.warm hW⟩, ?_, ?_, ?_⟩
  · rw [hU]
    exact (k6.kept hS.2.1).moved hW.alike
  · rw [hU]
    exact (k7.kept hS.2.1).moved hW.alike
  · rw [hU]
    exact (k8.kept hS.2.1).moved hW.alike
theorem kt_blind {G : GX} {U : State} {g : JFrame} {mk : MethodId} {a : Array Value} (hk : kt G U) : kt G (U.calling g mk a) := by
  obtain ⟨k1, k2, k3, k4, k5, ⟨s1, s2, s3, s4⟩, k6, k7, k8⟩ := hk
  exact ⟨va_K.moved (u := U) (U := U.calling g mk a) (Vm.Alike.refl U.vm) k1, fun q hq => va_Nw.same rfl rfl (k2 q hq), va_AO.moved (u := U) (U := U.calling g mk a) (Vm.Alike.refl U.vm) k3, va_AO.moved (u := U) (U := U.calling g mk a) (Vm.Alike.refl U.vm) k4, over_moved (u := U) (E := U.calling g mk a) (Vm.Alike.refl U.vm) k5, ⟨vk_R.same (U := U.calling g mk a) rfl s1, vk_R.same (U := U.calling g mk a) rfl s2, vk_R.same (U := U.calling g mk a) rfl s3, vk_R.same (U := U.calling g mk a) rfl s4⟩, vk_S.moved (u := U) (U := U.calling g mk a) (Vm.Alike.refl U.vm) k6, va_Z.moved (u := U) (U := U.calling g mk a) (Vm.Alike.refl U.vm) k7, va_Zq.moved (u := U) (U := U.calling g mk a) (Vm.Alike.refl U.vm) k8⟩
/-- a method's fixed things -/
def Cx (p : Program) (s : State) (m : MethodId) (args : Array Value) (meth : Method) (c : Code) (G : GX) (cc : ByteArray) (nL : Nat) (own : String) : Prop :=
  p.tables.exec = Jvm.exec ∧ c.code = cc ∧ c.maxLocals = nL ∧ s.vm.findClass own = some m.cls ∧ (∀ w ∈ GW, w.before args s = true) ∧ meth.locks = false ∧ kt G s
/-- if the pure body gives z, the machine at this place comes to qf z -/
def J (p : Program) (l : Launch) (e : Env) (R : Room) (s : State) (m : MethodId) (args : Array Value) (below : List Frame) (meth : Method) (c : Code) (G : GX) (nL : Nat) {α : Type} (qf : α × PH → State → Prop) (cells slots : Nat) (h : PH) (pc : Nat) (lv : List (Nat × Value)) (st : List Value) (b : Option (α × PH)) : Prop :=
  ∀ z, b = some z → ∀ (H : Heap) (locs : List Loc) (ls : Array Slot), hp G h H → va_S (gA G) s.heap H locs → lv_has ls nL lv → W p l e R s m args below meth c H locs cells slots (qf z) (F0 m pc ls st)
def bn {α β : Type} (o : Option α) (f : α → Option β) : Option β := match o with
  | none => none
  | some x => f x
def bn2 {α β : Type} (o : Option (α × PH)) (f : α → PH → Option β) : Option β := match o with
  | none => none
  | some x => f x.1 x.2
def nm {α β : Type} (v : α) (f : α → β) : β := f v
def onul {β : Type} (x : Option Nat) (t : Option β) (f : Nat → Option β) : Option β := match x with
  | none => t
  | some a => f a
def nwB {β : Type} (e : PE) (h : PH) (f : Nat → PH → Option β) : Option β := f h.1 (h.1 + 1, hup h.2 h.1 e)
theorem bn_some {α β : Type} {o : Option α} {f : α → Option β} {z : β} (h : bn o f = some z) : ∃ x, o = some x ∧ f x = some z := by
  cases o with
  | none => cases h
  | some x => exact ⟨x, rfl, h⟩
theorem bn2_some {α β : Type} {o : Option (α × PH)} {f : α → PH → Option β} {z : β} (h : bn2 o f = some z) : ∃ x y, o = some (x, y) ∧ f x y = some z := by
  cases o with
  | none => cases h
  | some x => exact ⟨x.1, x.2, rfl, h⟩

section
variable {p : Program} {l : Launch} {e : Env} {R : Room} {s : State} {m : MethodId} {args : Array Value} {below : List Frame} {meth : Method} {c : Code} {G : GX} {cc : ByteArray} {nL : Nat} {own : String} {α : Type} {qf : α × PH → State → Prop} {cells slots : Nat} {h : PH} {pc : Nat} {lv : List (Nat × Value)} {st : List Value} {b : Option (α × PH)}
theorem J_iconst (C : Cx p s m args meth c G cc nL own) {n : Int} {v : Int32} (hd : decode cc pc = .ok (.iconst n, 1)) (hv : Int32.ofInt n = v) (k : J p l e R s m args below meth c G nL qf cells slots h (pc + 1) lv (.int v :: st) b) : J p l e R s m args below meth c G nL qf cells slots h pc lv st b := fun z hz H locs ls hh hS hl => lv_iconst C.1 C.2.1 hd hv (k z hz H locs ls hh hS hl)
theorem J_bipush (C : Cx p s m args meth c G cc nL own) {n : Int} {v : Int32} (hd : decode cc pc = .ok (.bipush n, 2)) (hv : (Int8.ofInt n).toInt32 = v) (k : J p l e R s m args below meth c G nL qf cells slots h (pc + 2) lv (.int v :: st) b) : J p l e R s m args below meth c G nL qf cells slots h pc lv st b := fun z hz H locs ls hh hS hl => lv_bipush C.1 C.2.1 hd hv (k z hz H locs ls hh hS hl)
theorem J_sipush (C : Cx p s m args meth c G cc nL own) {n : Int} {v : Int32} (hd : decode cc pc = .ok (.sipush n, 3)) (hv : (Int16.ofInt n).toInt32 = v) (k : J p l e R s m args below meth c G nL qf cells slots h (pc + 3) lv (.int v :: st) b) : J p l e R s m args below meth c G nL qf cells slots h pc lv st b := fun z hz H locs ls hh hS hl => lv_sipush C.1 C.2.1 hd hv (k z hz H locs ls hh hS hl)
theorem J_lconst (C : Cx p s m args meth c G cc nL own) {n : Fin 2} {v : Int64} (hd : decode cc pc = .ok (.lconst n, 1)) (hv : Int64.ofNat (n : Nat) = v) (k : J p l e R s m args below meth c G nL qf cells slots h (pc + 1) lv (.long v :: st) b) : J p l e R s m args below meth c G nL qf cells slots h pc lv st b := fun z hz H locs ls hh hS hl => lv_lconst C.1 C.2.1 hd hv (k z hz H locs ls hh hS hl)
theorem J_null (C : Cx p s m args meth c G cc nL own) (hd : decode cc pc = .ok (.aconst_null, 1)) (k : J p l e R s m args below meth c G nL qf cells slots h (pc + 1) lv (.null :: st) b) : J p l e R s m args below meth c G nL qf cells slots h pc lv st b := fun z hz H locs ls hh hS hl => lv_null C.1 C.2.1 hd (k z hz H locs ls hh hS hl)
theorem J_ldc (C : Cx p s m args meth c G cc nL own) {idx : Nat} {v : Int32} (hc : Jvm.Cond.constant own idx v ∈ GW) (hd : decode cc pc = .ok (.ldc idx, 2)) (k : J p l e R s m args below meth c G nL qf cells slots h (pc + 2) lv (.int v :: st) b) : J p l e R s m args below meth c G nL qf cells slots h pc lv st b := fun z hz H locs ls hh hS hl => lv_ldc C.1 C.2.1 C.2.2.2.1 (C.2.2.2.2.1 _ hc) hd (k z hz H locs ls hh hS hl)
theorem J_ldc2 (C : Cx p s m args meth c G cc nL own) {idx : Nat} {v : Int64} (hc : Jvm.Cond.constantLong own idx v ∈ GW) (hd : decode cc pc = .ok (.ldc2_w idx, 3)) (k : J p l e R s m args below meth c G nL qf cells slots h (pc + 3) lv (.long v :: st) b) : J p l e R s m args below meth c G nL qf cells slots h pc lv st b := fun z hz H locs ls hh hS hl => lv_ldc2 C.1 C.2.1 C.2.2.2.1 (C.2.2.2.2.1 _ hc) hd (k z hz H locs ls hh hS hl)
theorem J_iload_n (C : Cx p s m args meth c G cc nL own) {kf : Fin 4} {i : Nat} {x : Int32} (hd : decode cc pc = .ok (.iload_n kf, 1)) (hi : (kf : Nat) = i) (j : Nat) (hj : lv[j]? = some (i, .int x)) (k : J p l e R s m args below meth c G nL qf cells slots h (pc + 1) lv (.int x :: st) b) : J p l e R s m args below meth c G nL qf cells slots h pc lv st b := fun z hz H locs ls hh hS hl => lv_iload_n C.1 C.2.1 hd hi (lv_at hl j hj) (k z hz H locs ls hh hS hl)
theorem J_iload (C : Cx p s m args meth c G cc nL own) {i : Nat} {x : Int32} (hd : decode cc pc = .ok (.iload i, 2)) (j : Nat) (hj : lv[j]? = some (i, .int x)) (k : J p l e R s m args below meth c G nL qf cells slots h (pc + 2) lv (.int x :: st) b) : J p l e R s m args below meth c G nL qf cells slots h pc lv st b := fun z hz H locs ls hh hS hl => lv_iload C.1 C.2.1 hd (lv_at hl j hj) (k z hz H locs ls hh hS hl)
theorem J_istore_n (C : Cx p s m args meth c G cc nL own) {kf : Fin 4} {i : Nat} {x : Int32} {lv1 : List (Nat × Value)} (hd : decode cc pc = .ok (.istore_n kf, 1)) (hi : (kf : Nat) = i) (hn : i < nL) (hq : (i, Value.int x) :: lv.filter (fun q => !(q.1 == i) && !(q.1 + 1 == i && q.2.category == 2)) = lv1) (k : J p l e R s m args below meth c G nL qf cells slots h (pc + 1) lv1 st b) : J p l e R s m args below meth c G nL qf cells slots h pc lv (.int x :: st) b := fun z hz H locs ls hh hS hl => lv_istore_n C.1 C.2.1 hd hi hl hn hq (fun ls1 hl1 => k z hz H locs ls1 hh hS hl1)
theorem J_istore (C : Cx p s m args meth c G cc nL own) {i : Nat} {x : Int32} {lv1 : List (Nat × Value)} (hd : decode cc pc = .ok (.istore i, 2)) (hn : i < nL) (hq : (i, Value.int x) :: lv.filter (fun q => !(q.1 == i) && !(q.1 + 1 == i && q.2.category == 2)) = lv1) (k : J p l e R s m args below meth c G nL qf cells slots h (pc + 2) lv1 st b) : J p l e R s m args below meth c G nL qf cells slots h pc lv (.int x :: st) b := fun z hz H locs ls hh hS hl => lv_istore C.1 C.2.1 hd hl hn hq (fun ls1 hl1 => k z hz H locs ls1 hh hS hl1)
theorem J_lload_n (C : Cx p s m args meth c G cc nL own) {kf : Fin 4} {i : Nat} {x : Int64} (hd : decode cc pc = .ok (.lload_n kf, 1)) (hi : (kf : Nat) = i) (j : Nat) (hj : lv[j]? = some (i, .long x)) (k : J p l e R s m args below meth c G nL qf cells slots h (pc + 1) lv (.long x :: st) b) : J p l e R s m args below meth c G nL qf cells slots h pc lv st b := fun z hz H locs ls hh hS hl => lv_lload_n C.1 C.2.1 hd hi (lv_at hl j hj) (k z hz H locs ls hh hS hl)
theorem J_lload (C : Cx p s m args meth c G cc nL own) {i : Nat} {x : Int64} (hd : decode cc pc = .ok (.lload i, 2)) (j : Nat) (hj : lv[j]? = some (i, .long x)) (k : J p l e R s m args below meth c G nL qf cells slots h (pc + 2) lv (.long x :: st) b) : J p l e R s m args below meth c G nL qf cells slots h pc lv st b := fun z hz H locs ls hh hS hl => lv_lload C.1 C.2.1 hd (lv_at hl j hj) (k z hz H locs ls hh hS hl)
theorem J_lstore_n (C : Cx p s m args meth c G cc nL own) {kf : Fin 4} {i : Nat} {x : Int64} {lv1 : List (Nat × Value)} (hd : decode cc pc = .ok (.lstore_n kf, 1)) (hi : (kf : Nat) = i) (hn : i + 1 < nL) (hq : (i, Value.long x) :: lv.filter (fun q => !(q.1 == i) && (!(q.1 == i + 1) && !(q.1 + 1 == i && q.2.category == 2))) = lv1) (k : J p l e R s m args below meth c G nL qf cells slots h (pc + 1) lv1 st b) : J p l e R s m args below meth c G nL qf cells slots h pc lv (.long x :: st) b := fun z hz H locs ls hh hS hl => lv_lstore_n C.1 C.2.1 hd hi hl hn hq (fun ls1 hl1 => k z hz H locs ls1 hh hS hl1)
theorem J_lstore (C : Cx p s m args meth c G cc nL own) {i : Nat} {x : Int64} {lv1 : List (Nat × Value)} (hd : decode cc pc = .ok (.lstore i, 2)) (hn : i + 1 < nL) (hq : (i, Value.long x) :: lv.filter (fun q => !(q.1 == i) && (!(q.1 == i + 1) && !(q.1 + 1 == i && q.2.category == 2))) = lv1) (k : J p l e R s m args below meth c G nL qf cells slots h (pc + 2) lv1 st b) : J p l e R s m args below meth c G nL qf cells slots h pc lv (.long x :: st) b := fun z hz H locs ls hh hS hl => lv_lstore C.1 C.2.1 hd hl hn hq (fun ls1 hl1 => k z hz H locs ls1 hh hS hl1)
theorem J_aload_n (C : Cx p s m args meth c G cc nL own) {kf : Fin 4} {i : Nat} {x : Nat} (hd : decode cc pc = .ok (.aload_n kf, 1)) (hi : (kf : Nat) = i) (j : Nat) (hj : lv[j]? = some (i, .ref x)) (k : J p l e R s m args below meth c G nL qf cells slots h (pc + 1) lv (.ref x :: st) b) : J p l e R s m args below meth c G nL qf cells slots h pc lv st b := fun z hz H locs ls hh hS hl => lv_aload_n C.1 C.2.1 hd hi (lv_at hl j hj) (k z hz H locs ls hh hS hl)
theorem J_aload (C : Cx p s m args meth c G cc nL own) {i : Nat} {x : Nat} (hd : decode cc pc = .ok (.aload i, 2)) (j : Nat) (hj : lv[j]? = some (i, .ref x)) (k : J p l e R s m args below meth c G nL qf cells slots h (pc + 2) lv (.ref x :: st) b) : J p l e R s m args below meth c G nL qf cells slots h pc lv st b := fun z hz H locs ls hh hS hl => lv_aload C.1 C.2.1 hd (lv_at hl j hj) (k z hz H locs ls hh hS hl)
theorem J_astore_n (C : Cx p s m args meth c G cc nL own) {kf : Fin 4} {i : Nat} {x : Nat} {lv1 : List (Nat × Value)} (hd : decode cc pc = .ok (.astore_n kf, 1)) (hi : (kf : Nat) = i) (hn : i < nL) (hq : (i, Value.ref x) :: lv.filter (fun q => !(q.1 == i) && !(q.1 + 1 == i && q.2.category == 2)) = lv1) (k : J p l e R s m args below meth c G nL qf cells slots h (pc + 1) lv1 st b) : J p l e R s m args below meth c G nL qf cells slots h pc lv (.ref x :: st) b := fun z hz H locs ls hh hS hl => lv_astore_n C.1 C.2.1 hd hi hl hn hq (fun ls1 hl1 => k z hz H locs ls1 hh hS hl1)
theorem J_astore (C : Cx p s m args meth c G cc nL own) {i : Nat} {x : Nat} {lv1 : List (Nat × Value)} (hd : decode cc pc = .ok (.astore i, 2)) (hn : i < nL) (hq : (i, Value.ref x) :: lv.filter (fun q => !(q.1 == i) && !(q.1 + 1 == i && q.2.category == 2)) = lv1) (k : J p l e R s m args below meth c G nL qf cells slots h (pc + 2) lv1 st b) : J p l e R s m args below meth c G nL qf cells slots h pc lv (.ref x :: st) b := fun z hz H locs ls hh hS hl => lv_astore C.1 C.2.1 hd hl hn hq (fun ls1 hl1 => k z hz H locs ls1 hh hS hl1)
theorem J_aload_nQ (C : Cx p s m args meth c G cc nL own) {kf : Fin 4} {i : Nat} {x : Option Nat} (hd : decode cc pc = .ok (.aload_n kf, 1)) (hi : (kf : Nat) = i) (j : Nat) (hj : lv[j]? = some (i, va_rf x)) (k : J p l e R s m args below meth c G nL qf cells slots h (pc + 1) lv (va_rf x :: st) b) : J p l e R s m args below meth c G nL qf cells slots h pc lv st b := by
  cases x with
  | none => exact fun z hz H locs ls hh hS hl => lv_aload_nN C.1 C.2.1 hd hi (lv_at hl j hj) (k z hz H locs ls hh hS hl)
  | some x => exact fun z hz H locs ls hh hS hl => lv_aload_n C.1 C.2.1 hd hi (lv_at hl j hj) (k z hz H locs ls hh hS hl)
theorem J_aloadQ (C : Cx p s m args meth c G cc nL own) {i : Nat} {x : Option Nat} (hd : decode cc pc = .ok (.aload i, 2)) (j : Nat) (hj : lv[j]? = some (i, va_rf x)) (k : J p l e R s m args below meth c G nL qf cells slots h (pc + 2) lv (va_rf x :: st) b) : J p l e R s m args below meth c G nL qf cells slots h pc lv st b := by
  cases x with
  | none => exact fun z hz H locs ls hh hS hl => lv_aloadN C.1 C.2.1 hd (lv_at hl j hj) (k z hz H locs ls hh hS hl)
  | some x => exact fun z hz H locs ls hh hS hl => lv_aload C.1 C.2.1 hd (lv_at hl j hj) (k z hz H locs ls hh hS hl)
theorem J_astore_nQ (C : Cx p s m args meth c G cc nL own) {kf : Fin 4} {i : Nat} {x : Option Nat} {lv1 : List (Nat × Value)} (hd : decode cc pc = .ok (.astore_n kf, 1)) (hi : (kf : Nat) = i) (hn : i < nL) (hq : (i, va_rf x) :: lv.filter (fun q => !(q.1 == i) && !(q.1 + 1 == i && q.2.category == 2)) = lv1) (k : J p l e R s m args below meth c G nL qf cells slots h (pc + 1) lv1 st b) : J p l e R s m args below meth c G nL qf cells slots h pc lv (va_rf x :: st) b := by
  cases x with
  | none => exact fun z hz H locs ls hh hS hl => lv_astore_nN C.1 C.2.1 hd hi hl hn hq (fun ls1 hl1 => k z hz H locs ls1 hh hS hl1)
  | some x => exact fun z hz H locs ls hh hS hl => lv_astore_n C.1 C.2.1 hd hi hl hn hq (fun ls1 hl1 => k z hz H locs ls1 hh hS hl1)
theorem J_astoreQ (C : Cx p s m args meth c G cc nL own) {i : Nat} {x : Option Nat} {lv1 : List (Nat × Value)} (hd : decode cc pc = .ok (.astore i, 2)) (hn : i < nL) (hq : (i, va_rf x) :: lv.filter (fun q => !(q.1 == i) && !(q.1 + 1 == i && q.2.category == 2)) = lv1) (k : J p l e R s m args below meth c G nL qf cells slots h (pc + 2) lv1 st b) : J p l e R s m args below meth c G nL qf cells slots h pc lv (va_rf x :: st) b := by
  cases x with
  | none => exact fun z hz H locs ls hh hS hl => lv_astoreN C.1 C.2.1 hd hl hn hq (fun ls1 hl1 => k z hz H locs ls1 hh hS hl1)
  | some x => exact fun z hz H locs ls hh hS hl => lv_astore C.1 C.2.1 hd hl hn hq (fun ls1 hl1 => k z hz H locs ls1 hh hS hl1)
theorem J_iinc (C : Cx p s m args meth c G cc nL own) {i : Nat} {n : Int} {x v : Int32} {lv1 : List (Nat × Value)} (hd : decode cc pc = .ok (.iinc i n, 3)) (j : Nat) (hj : lv[j]? = some (i, .int x)) (hv : x + Int32.ofInt n = v) (hn : i < nL) (hq : (i, Value.int v) :: lv.filter (fun q => !(q.1 == i) && !(q.1 + 1 == i && q.2.category == 2)) = lv1) (k : J p l e R s m args below meth c G nL qf cells slots h (pc + 3) lv1 st b) : J p l e R s m args below meth c G nL qf cells slots h pc lv st b := fun z hz H locs ls hh hS hl => lv_iinc C.1 C.2.1 hd hl hj hv hn hq (fun ls1 hl1 => k z hz H locs ls1 hh hS hl1)
theorem J_iadd (C : Cx p s m args meth c G cc nL own) {x y : Int32} (hd : decode cc pc = .ok (.iadd, 1)) (k : J p l e R s m args below meth c G nL qf cells slots h (pc + 1) lv (.int (x + y) :: st) b) : J p l e R s m args below meth c G nL qf cells slots h pc lv (.int y :: .int x :: st) b := fun z hz H locs ls hh hS hl => lv_iadd C.1 C.2.1 hd (k z hz H locs ls hh hS hl)
theorem J_isub (C : Cx p s m args meth c G cc nL own) {x y : Int32} (hd : decode cc pc = .ok (.isub, 1)) (k : J p l e R s m args below meth c G nL qf cells slots h (pc + 1) lv (.int (x - y) :: st) b) : J p l e R s m args below meth c G nL qf cells slots h pc lv (.int y :: .int x :: st) b := fun z hz H locs ls hh hS hl => lv_isub C.1 C.2.1 hd (k z hz H locs ls hh hS hl)
theorem J_imul (C : Cx p s m args meth c G cc nL own) {x y : Int32} (hd : decode cc pc = .ok (.imul, 1)) (k : J p l e R s m args below meth c G nL qf cells slots h (pc + 1) lv (.int (x * y) :: st) b) : J p l e R s m args below meth c G nL qf cells slots h pc lv (.int y :: .int x :: st) b := fun z hz H locs ls hh hS hl => lv_imul C.1 C.2.1 hd (k z hz H locs ls hh hS hl)
theorem J_iand (C : Cx p s m args meth c G cc nL own) {x y : Int32} (hd : decode cc pc = .ok (.iand, 1)) (k : J p l e R s m args below meth c G nL qf cells slots h (pc + 1) lv (.int (x &&& y) :: st) b) : J p l e R s m args below meth c G nL qf cells slots h pc lv (.int y :: .int x :: st) b := fun z hz H locs ls hh hS hl => lv_iand C.1 C.2.1 hd (k z hz H locs ls hh hS hl)
theorem J_ishr (C : Cx p s m args meth c G cc nL own) {x y : Int32} (hd : decode cc pc = .ok (.ishr, 1)) (k : J p l e R s m args below meth c G nL qf cells slots h (pc + 1) lv (.int (x >>> (y &&& 31)) :: st) b) : J p l e R s m args below meth c G nL qf cells slots h pc lv (.int y :: .int x :: st) b := fun z hz H locs ls hh hS hl => lv_ishr C.1 C.2.1 hd (k z hz H locs ls hh hS hl)
theorem J_ladd (C : Cx p s m args meth c G cc nL own) {x y : Int64} (hd : decode cc pc = .ok (.ladd, 1)) (k : J p l e R s m args below meth c G nL qf cells slots h (pc + 1) lv (.long (x + y) :: st) b) : J p l e R s m args below meth c G nL qf cells slots h pc lv (.long y :: .long x :: st) b := fun z hz H locs ls hh hS hl => lv_ladd C.1 C.2.1 hd (k z hz H locs ls hh hS hl)
theorem J_lsub (C : Cx p s m args meth c G cc nL own) {x y : Int64} (hd : decode cc pc = .ok (.lsub, 1)) (k : J p l e R s m args below meth c G nL qf cells slots h (pc + 1) lv (.long (x - y) :: st) b) : J p l e R s m args below meth c G nL qf cells slots h pc lv (.long y :: .long x :: st) b := fun z hz H locs ls hh hS hl => lv_lsub C.1 C.2.1 hd (k z hz H locs ls hh hS hl)
theorem J_lmul (C : Cx p s m args meth c G cc nL own) {x y : Int64} (hd : decode cc pc = .ok (.lmul, 1)) (k : J p l e R s m args below meth c G nL qf cells slots h (pc + 1) lv (.long (x * y) :: st) b) : J p l e R s m args below meth c G nL qf cells slots h pc lv (.long y :: .long x :: st) b := fun z hz H locs ls hh hS hl => lv_lmul C.1 C.2.1 hd (k z hz H locs ls hh hS hl)
theorem J_ineg (C : Cx p s m args meth c G cc nL own) {x : Int32} (hd : decode cc pc = .ok (.ineg, 1)) (k : J p l e R s m args below meth c G nL qf cells slots h (pc + 1) lv (.int (-x) :: st) b) : J p l e R s m args below meth c G nL qf cells slots h pc lv (.int x :: st) b := fun z hz H locs ls hh hS hl => lv_ineg C.1 C.2.1 hd (k z hz H locs ls hh hS hl)
theorem J_iushr (C : Cx p s m args meth c G cc nL own) {x y : Int32} (hd : decode cc pc = .ok (.iushr, 1)) (k : J p l e R s m args below meth c G nL qf cells slots h (pc + 1) lv (.int ((x.toUInt32 >>> (y.toUInt32 &&& Int32.toUInt32 31)).toInt32) :: st) b) : J p l e R s m args below meth c G nL qf cells slots h pc lv (.int y :: .int x :: st) b := fun z hz H locs ls hh hS hl => lv_iushr C.1 C.2.1 hd rfl (k z hz H locs ls hh hS hl)
theorem J_i2l (C : Cx p s m args meth c G cc nL own) {x : Int32} (hd : decode cc pc = .ok (.i2l, 1)) (k : J p l e R s m args below meth c G nL qf cells slots h (pc + 1) lv (.long x.toInt64 :: st) b) : J p l e R s m args below meth c G nL qf cells slots h pc lv (.int x :: st) b := fun z hz H locs ls hh hS hl => lv_i2l C.1 C.2.1 hd rfl (k z hz H locs ls hh hS hl)
theorem J_l2i (C : Cx p s m args meth c G cc nL own) {x : Int64} (hd : decode cc pc = .ok (.l2i, 1)) (k : J p l e R s m args below meth c G nL qf cells slots h (pc + 1) lv (.int x.toInt32 :: st) b) : J p l e R s m args below meth c G nL qf cells slots h pc lv (.long x :: st) b := fun z hz H locs ls hh hS hl => lv_l2i C.1 C.2.1 hd rfl (k z hz H locs ls hh hS hl)
theorem J_dup (C : Cx p s m args meth c G cc nL own) {va : Value} (hd : decode cc pc = .ok (.dup, 1)) (hva : va.category = 1) (k : J p l e R s m args below meth c G nL qf cells slots h (pc + 1) lv (va :: va :: st) b) : J p l e R s m args below meth c G nL qf cells slots h pc lv (va :: st) b := fun z hz H locs ls hh hS hl => lv_dup C.1 C.2.1 hd hva (k z hz H locs ls hh hS hl)
theorem J_dup2 (C : Cx p s m args meth c G cc nL own) {va vb : Value} (hd : decode cc pc = .ok (.dup2, 1)) (hva : va.category = 1) (hvb : vb.category = 1) (k : J p l e R s m args below meth c G nL qf cells slots h (pc + 1) lv (va :: vb :: va :: vb :: st) b) : J p l e R s m args below meth c G nL qf cells slots h pc lv (va :: vb :: st) b := fun z hz H locs ls hh hS hl => lv_dup2_11 C.1 C.2.1 hd hva hvb (k z hz H locs ls hh hS hl)
theorem J_goto (C : Cx p s m args meth c G cc nL own) {off : Int} {tgt : Nat} (hd : decode cc pc = .ok (.goto off, 3)) (ht : (pc : Int) + off = (tgt : Int)) (k : J p l e R s m args below meth c G nL qf cells slots h tgt lv st b) : J p l e R s m args below meth c G nL qf cells slots h pc lv st b := fun z hz H locs ls hh hS hl => lv_goto C.1 C.2.1 hd ht (k z hz H locs ls hh hS hl)
theorem J_idiv (C : Cx p s m args meth c G cc nL own) {x y : Int32} (hd : decode cc pc = .ok (.idiv, 1)) (k : J p l e R s m args below meth c G nL qf cells slots h (pc + 1) lv (.int (x / y) :: st) b) : J p l e R s m args below meth c G nL qf cells slots h pc lv (.int y :: .int x :: st) (if y = 0 then none else b) := fun z hz H locs ls hh hS hl => by
  by_cases q : y = 0
  · rw [if_pos q] at hz
    cases hz
  · rw [if_neg q] at hz
    exact lv_idiv C.1 C.2.1 hd q (k z hz H locs ls hh hS hl)
theorem J_ldiv (C : Cx p s m args meth c G cc nL own) {x y : Int64} (hd : decode cc pc = .ok (.ldiv, 1)) (k : J p l e R s m args below meth c G nL qf cells slots h (pc + 1) lv (.long (x / y) :: st) b) : J p l e R s m args below meth c G nL qf cells slots h pc lv (.long y :: .long x :: st) (if y = 0 then none else b) := fun z hz H locs ls hh hS hl => by
  by_cases q : y = 0
  · rw [if_pos q] at hz
    cases hz
  · rw [if_neg q] at hz
    exact lv_ldiv C.1 C.2.1 hd q (k z hz H locs ls hh hS hl)
theorem J_irem (C : Cx p s m args meth c G cc nL own) {x y : Int32} (hd : decode cc pc = .ok (.irem, 1)) (k : J p l e R s m args below meth c G nL qf cells slots h (pc + 1) lv (.int (x - x / y * y) :: st) b) : J p l e R s m args below meth c G nL qf cells slots h pc lv (.int y :: .int x :: st) (if y = 0 then none else b) := fun z hz H locs ls hh hS hl => by
  by_cases q : y = 0
  · rw [if_pos q] at hz
    cases hz
  · rw [if_neg q] at hz
    exact lv_irem C.1 C.2.1 hd q (k z hz H locs ls hh hS hl)
theorem J_lrem (C : Cx p s m args meth c G cc nL own) {x y : Int64} (hd : decode cc pc = .ok (.lrem, 1)) (k : J p l e R s m args below meth c G nL qf cells slots h (pc + 1) lv (.long (x - x / y * y) :: st) b) : J p l e R s m args below meth c G nL qf cells slots h pc lv (.long y :: .long x :: st) (if y = 0 then none else b) := fun z hz H locs ls hh hS hl => by
  by_cases q : y = 0
  · rw [if_pos q] at hz
    cases hz
  · rw [if_neg q] at hz
    exact lv_lrem C.1 C.2.1 hd q (k z hz H locs ls hh hS hl)
theorem J_if_eq (C : Cx p s m args meth c G cc nL own) {x : Int32} {off : Int} {tgt : Nat} {bt bf : Option (α × PH)} (hd : decode cc pc = .ok (.ifCond .eq off, 3)) (ht : (pc : Int) + off = (tgt : Int)) (kt1 : J p l e R s m args below meth c G nL qf cells slots h tgt lv st bt) (kf1 : J p l e R s m args below meth c G nL qf cells slots h (pc + 3) lv st bf) : J p l e R s m args below meth c G nL qf cells slots h pc lv (.int x :: st) (if x = 0 then bt else bf) := fun z hz H locs ls hh hS hl => lv_if_eq C.1 C.2.1 hd ht (fun q => kt1 z (by rw [if_pos q] at hz; exact hz) H locs ls hh hS hl) (fun q => kf1 z (by rw [if_neg q] at hz; exact hz) H locs ls hh hS hl)
theorem J_icmp_eq (C : Cx p s m args meth c G cc nL own) {x y : Int32} {off : Int} {tgt : Nat} {bt bf : Option (α × PH)} (hd : decode cc pc = .ok (.if_icmp .eq off, 3)) (ht : (pc : Int) + off = (tgt : Int)) (kt1 : J p l e R s m args below meth c G nL qf cells slots h tgt lv st bt) (kf1 : J p l e R s m args below meth c G nL qf cells slots h (pc + 3) lv st bf) : J p l e R s m args below meth c G nL qf cells slots h pc lv (.int y :: .int x :: st) (if x = y then bt else bf) := fun z hz H locs ls hh hS hl => lv_icmp_eq C.1 C.2.1 hd ht (fun q => kt1 z (by rw [if_pos q] at hz; exact hz) H locs ls hh hS hl) (fun q => kf1 z (by rw [if_neg q] at hz; exact hz) H locs ls hh hS hl)
theorem J_lcmp_eq (C : Cx p s m args meth c G cc nL own) {x y : Int64} {off : Int} {tgt : Nat} {bt bf : Option (α × PH)} (hd : decode cc pc = .ok (.lcmp, 1)) (hd2 : decode cc (pc + 1) = .ok (.ifCond .eq off, 3)) (ht : ((pc + 1 : Nat) : Int) + off = (tgt : Int)) (kt1 : J p l e R s m args below meth c G nL qf cells slots h tgt lv st bt) (kf1 : J p l e R s m args below meth c G nL qf cells slots h (pc + 4) lv st bf) : J p l e R s m args below meth c G nL qf cells slots h pc lv (.long y :: .long x :: st) (if x = y then bt else bf) := fun z hz H locs ls hh hS hl => W.lcmp C.1 C.2.1 hd (lv_if_eq C.1 C.2.1 hd2 ht (fun q => kt1 z (by rw [if_pos ((lg_cmp_eq x y).mp q)] at hz; exact hz) H locs ls hh hS hl) (fun q => kf1 z (by rw [if_neg (fun w => q ((lg_cmp_eq x y).mpr w))] at hz; exact hz) H locs ls hh hS hl))
theorem J_if_ne (C : Cx p s m args meth c G cc nL own) {x : Int32} {off : Int} {tgt : Nat} {bt bf : Option (α × PH)} (hd : decode cc pc = .ok (.ifCond .ne off, 3)) (ht : (pc : Int) + off = (tgt : Int)) (kt1 : J p l e R s m args below meth c G nL qf cells slots h tgt lv st bt) (kf1 : J p l e R s m args below meth c G nL qf cells slots h (pc + 3) lv st bf) : J p l e R s m args below meth c G nL qf cells slots h pc lv (.int x :: st) (if x = 0 then bf else bt) := fun z hz H locs ls hh hS hl => lv_if_ne C.1 C.2.1 hd ht (fun q => kt1 z (by rw [if_neg q] at hz; exact hz) H locs ls hh hS hl) (fun q => kf1 z (by rw [if_pos q] at hz; exact hz) H locs ls hh hS hl)
theorem J_icmp_ne (C : Cx p s m args meth c G cc nL own) {x y : Int32} {off : Int} {tgt : Nat} {bt bf : Option (α × PH)} (hd : decode cc pc = .ok (.if_icmp .ne off, 3)) (ht : (pc : Int) + off = (tgt : Int)) (kt1 : J p l e R s m args below meth c G nL qf cells slots h tgt lv st bt) (kf1 : J p l e R s m args below meth c G nL qf cells slots h (pc + 3) lv st bf) : J p l e R s m args below meth c G nL qf cells slots h pc lv (.int y :: .int x :: st) (if x = y then bf else bt) := fun z hz H locs ls hh hS hl => lv_icmp_ne C.1 C.2.1 hd ht (fun q => kt1 z (by rw [if_neg q] at hz; exact hz) H locs ls hh hS hl) (fun q => kf1 z (by rw [if_pos q] at hz; exact hz) H locs ls hh hS hl)
theorem J_lcmp_ne (C : Cx p s m args meth c G cc nL own) {x y : Int64} {off : Int} {tgt : Nat} {bt bf : Option (α × PH)} (hd : decode cc pc = .ok (.lcmp, 1)) (hd2 : decode cc (pc + 1) = .ok (.ifCond .ne off, 3)) (ht : ((pc + 1 : Nat) : Int) + off = (tgt : Int)) (kt1 : J p l e R s m args below meth c G nL qf cells slots h tgt lv st bt) (kf1 : J p l e R s m args below meth c G nL qf cells slots h (pc + 4) lv st bf) : J p l e R s m args below meth c G nL qf cells slots h pc lv (.long y :: .long x :: st) (if x = y then bf else bt) := fun z hz H locs ls hh hS hl => W.lcmp C.1 C.2.1 hd (lv_if_ne C.1 C.2.1 hd2 ht (fun q => kt1 z (by rw [if_neg (fun w => q ((lg_cmp_eq x y).mpr w))] at hz; exact hz) H locs ls hh hS hl) (fun q => kf1 z (by rw [if_pos ((lg_cmp_eq x y).mp q)] at hz; exact hz) H locs ls hh hS hl))
theorem J_if_lt (C : Cx p s m args meth c G cc nL own) {x : Int32} {off : Int} {tgt : Nat} {bt bf : Option (α × PH)} (hd : decode cc pc = .ok (.ifCond .lt off, 3)) (ht : (pc : Int) + off = (tgt : Int)) (kt1 : J p l e R s m args below meth c G nL qf cells slots h tgt lv st bt) (kf1 : J p l e R s m args below meth c G nL qf cells slots h (pc + 3) lv st bf) : J p l e R s m args below meth c G nL qf cells slots h pc lv (.int x :: st) (if x < 0 then bt else bf) := fun z hz H locs ls hh hS hl => lv_if_lt C.1 C.2.1 hd ht (fun q => kt1 z (by rw [if_pos q] at hz; exact hz) H locs ls hh hS hl) (fun q => kf1 z (by rw [if_neg q] at hz; exact hz) H locs ls hh hS hl)
theorem J_icmp_lt (C : Cx p s m args meth c G cc nL own) {x y : Int32} {off : Int} {tgt : Nat} {bt bf : Option (α × PH)} (hd : decode cc pc = .ok (.if_icmp .lt off, 3)) (ht : (pc : Int) + off = (tgt : Int)) (kt1 : J p l e R s m args below meth c G nL qf cells slots h tgt lv st bt) (kf1 : J p l e R s m args below meth c G nL qf cells slots h (pc + 3) lv st bf) : J p l e R s m args below meth c G nL qf cells slots h pc lv (.int y :: .int x :: st) (if x < y then bt else bf) := fun z hz H locs ls hh hS hl => lv_icmp_lt C.1 C.2.1 hd ht (fun q => kt1 z (by rw [if_pos q] at hz; exact hz) H locs ls hh hS hl) (fun q => kf1 z (by rw [if_neg q] at hz; exact hz) H locs ls hh hS hl)
theorem J_lcmp_lt (C : Cx p s m args meth c G cc nL own) {x y : Int64} {off : Int} {tgt : Nat} {bt bf : Option (α × PH)} (hd : decode cc pc = .ok (.lcmp, 1)) (hd2 : decode cc (pc + 1) = .ok (.ifCond .lt off, 3)) (ht : ((pc + 1 : Nat) : Int) + off = (tgt : Int)) (kt1 : J p l e R s m args below meth c G nL qf cells slots h tgt lv st bt) (kf1 : J p l e R s m args below meth c G nL qf cells slots h (pc + 4) lv st bf) : J p l e R s m args below meth c G nL qf cells slots h pc lv (.long y :: .long x :: st) (if x < y then bt else bf) := fun z hz H locs ls hh hS hl => W.lcmp C.1 C.2.1 hd (lv_if_lt C.1 C.2.1 hd2 ht (fun q => kt1 z (by rw [if_pos ((lg_cmp_lt x y).mp q)] at hz; exact hz) H locs ls hh hS hl) (fun q => kf1 z (by rw [if_neg (fun w => q ((lg_cmp_lt x y).mpr w))] at hz; exact hz) H locs ls hh hS hl))
theorem J_if_ge (C : Cx p s m args meth c G cc nL own) {x : Int32} {off : Int} {tgt : Nat} {bt bf : Option (α × PH)} (hd : decode cc pc = .ok (.ifCond .ge off, 3)) (ht : (pc : Int) + off = (tgt : Int)) (kt1 : J p l e R s m args below meth c G nL qf cells slots h tgt lv st bt) (kf1 : J p l e R s m args below meth c G nL qf cells slots h (pc + 3) lv st bf) : J p l e R s m args below meth c G nL qf cells slots h pc lv (.int x :: st) (if 0 ≤ x then bt else bf) := fun z hz H locs ls hh hS hl => lv_if_ge C.1 C.2.1 hd ht (fun q => kt1 z (by rw [if_pos q] at hz; exact hz) H locs ls hh hS hl) (fun q => kf1 z (by rw [if_neg q] at hz; exact hz) H locs ls hh hS hl)
theorem J_icmp_ge (C : Cx p s m args meth c G cc nL own) {x y : Int32} {off : Int} {tgt : Nat} {bt bf : Option (α × PH)} (hd : decode cc pc = .ok (.if_icmp .ge off, 3)) (ht : (pc : Int) + off = (tgt : Int)) (kt1 : J p l e R s m args below meth c G nL qf cells slots h tgt lv st bt) (kf1 : J p l e R s m args below meth c G nL qf cells slots h (pc + 3) lv st bf) : J p l e R s m args below meth c G nL qf cells slots h pc lv (.int y :: .int x :: st) (if y ≤ x then bt else bf) := fun z hz H locs ls hh hS hl => lv_icmp_ge C.1 C.2.1 hd ht (fun q => kt1 z (by rw [if_pos q] at hz; exact hz) H locs ls hh hS hl) (fun q => kf1 z (by rw [if_neg q] at hz; exact hz) H locs ls hh hS hl)
theorem J_lcmp_ge (C : Cx p s m args meth c G cc nL own) {x y : Int64} {off : Int} {tgt : Nat} {bt bf : Option (α × PH)} (hd : decode cc pc = .ok (.lcmp, 1)) (hd2 : decode cc (pc + 1) = .ok (.ifCond .ge off, 3)) (ht : ((pc + 1 : Nat) : Int) + off = (tgt : Int)) (kt1 : J p l e R s m args below meth c G nL qf cells slots h tgt lv st bt) (kf1 : J p l e R s m args below meth c G nL qf cells slots h (pc + 4) lv st bf) : J p l e R s m args below meth c G nL qf cells slots h pc lv (.long y :: .long x :: st) (if y ≤ x then bt else bf) := fun z hz H locs ls hh hS hl => W.lcmp C.1 C.2.1 hd (lv_if_ge C.1 C.2.1 hd2 ht (fun q => kt1 z (by rw [if_pos ((lg_cmp_ge x y).mp q)] at hz; exact hz) H locs ls hh hS hl) (fun q => kf1 z (by rw [if_neg (fun w => q ((lg_cmp_ge x y).mpr w))] at hz; exact hz) H locs ls hh hS hl))
theorem J_if_gt (C : Cx p s m args meth c G cc nL own) {x : Int32} {off : Int} {tgt : Nat} {bt bf : Option (α × PH)} (hd : decode cc pc = .ok (.ifCond .gt off, 3)) (ht : (pc : Int) + off = (tgt : Int)) (kt1 : J p l e R s m args below meth c G nL qf cells slots h tgt lv st bt) (kf1 : J p l e R s m args below meth c G nL qf cells slots h (pc + 3) lv st bf) : J p l e R s m args below meth c G nL qf cells slots h pc lv (.int x :: st) (if 0 < x then bt else bf) := fun z hz H locs ls hh hS hl => lv_if_gt C.1 C.2.1 hd ht (fun q => kt1 z (by rw [if_pos q] at hz; exact hz) H locs ls hh hS hl) (fun q => kf1 z (by rw [if_neg q] at hz; exact hz) H locs ls hh hS hl)
theorem J_icmp_gt (C : Cx p s m args meth c G cc nL own) {x y : Int32} {off : Int} {tgt : Nat} {bt bf : Option (α × PH)} (hd : decode cc pc = .ok (.if_icmp .gt off, 3)) (ht : (pc : Int) + off = (tgt : Int)) (kt1 : J p l e R s m args below meth c G nL qf cells slots h tgt lv st bt) (kf1 : J p l e R s m args below meth c G nL qf cells slots h (pc + 3) lv st bf) : J p l e R s m args below meth c G nL qf cells slots h pc lv (.int y :: .int x :: st) (if y < x then bt else bf) := fun z hz H locs ls hh hS hl => lv_icmp_gt C.1 C.2.1 hd ht (fun q => kt1 z (by rw [if_pos q] at hz; exact hz) H locs ls hh hS hl) (fun q => kf1 z (by rw [if_neg q] at hz; exact hz) H locs ls hh hS hl)
theorem J_lcmp_gt (C : Cx p s m args meth c G cc nL own) {x y : Int64} {off : Int} {tgt : Nat} {bt bf : Option (α × PH)} (hd : decode cc pc = .ok (.lcmp, 1)) (hd2 : decode cc (pc + 1) = .ok (.ifCond .gt off, 3)) (ht : ((pc + 1 : Nat) : Int) + off = (tgt : Int)) (kt1 : J p l e R s m args below meth c G nL qf cells slots h tgt lv st bt) (kf1 : J p l e R s m args below meth c G nL qf cells slots h (pc + 4) lv st bf) : J p l e R s m args below meth c G nL qf cells slots h pc lv (.long y :: .long x :: st) (if y < x then bt else bf) := fun z hz H locs ls hh hS hl => W.lcmp C.1 C.2.1 hd (lv_if_gt C.1 C.2.1 hd2 ht (fun q => kt1 z (by rw [if_pos ((lg_cmp_gt x y).mp q)] at hz; exact hz) H locs ls hh hS hl) (fun q => kf1 z (by rw [if_neg (fun w => q ((lg_cmp_gt x y).mpr w))] at hz; exact hz) H locs ls hh hS hl))
theorem J_if_le (C : Cx p s m args meth c G cc nL own) {x : Int32} {off : Int} {tgt : Nat} {bt bf : Option (α × PH)} (hd : decode cc pc = .ok (.ifCond .le off, 3)) (ht : (pc : Int) + off = (tgt : Int)) (kt1 : J p l e R s m args below meth c G nL qf cells slots h tgt lv st bt) (kf1 : J p l e R s m args below meth c G nL qf cells slots h (pc + 3) lv st bf) : J p l e R s m args below meth c G nL qf cells slots h pc lv (.int x :: st) (if x ≤ 0 then bt else bf) := fun z hz H locs ls hh hS hl => lv_if_le C.1 C.2.1 hd ht (fun q => kt1 z (by rw [if_pos q] at hz; exact hz) H locs ls hh hS hl) (fun q => kf1 z (by rw [if_neg q] at hz; exact hz) H locs ls hh hS hl)
theorem J_icmp_le (C : Cx p s m args meth c G cc nL own) {x y : Int32} {off : Int} {tgt : Nat} {bt bf : Option (α × PH)} (hd : decode cc pc = .ok (.if_icmp .le off, 3)) (ht : (pc : Int) + off = (tgt : Int)) (kt1 : J p l e R s m args below meth c G nL qf cells slots h tgt lv st bt) (kf1 : J p l e R s m args below meth c G nL qf cells slots h (pc + 3) lv st bf) : J p l e R s m args below meth c G nL qf cells slots h pc lv (.int y :: .int x :: st) (if x ≤ y then bt else bf) := fun z hz H locs ls hh hS hl => lv_icmp_le C.1 C.2.1 hd ht (fun q => kt1 z (by rw [if_pos q] at hz; exact hz) H locs ls hh hS hl) (fun q => kf1 z (by rw [if_neg q] at hz; exact hz) H locs ls hh hS hl)
theorem J_lcmp_le (C : Cx p s m args meth c G cc nL own) {x y : Int64} {off : Int} {tgt : Nat} {bt bf : Option (α × PH)} (hd : decode cc pc = .ok (.lcmp, 1)) (hd2 : decode cc (pc + 1) = .ok (.ifCond .le off, 3)) (ht : ((pc + 1 : Nat) : Int) + off = (tgt : Int)) (kt1 : J p l e R s m args below meth c G nL qf cells slots h tgt lv st bt) (kf1 : J p l e R s m args below meth c G nL qf cells slots h (pc + 4) lv st bf) : J p l e R s m args below meth c G nL qf cells slots h pc lv (.long y :: .long x :: st) (if x ≤ y then bt else bf) := fun z hz H locs ls hh hS hl => W.lcmp C.1 C.2.1 hd (lv_if_le C.1 C.2.1 hd2 ht (fun q => kt1 z (by rw [if_pos ((lg_cmp_le x y).mp q)] at hz; exact hz) H locs ls hh hS hl) (fun q => kf1 z (by rw [if_neg (fun w => q ((lg_cmp_le x y).mpr w))] at hz; exact hz) H locs ls hh hS hl))
theorem J_ifnull (C : Cx p s m args meth c G cc nL own) {x : Nat} {off : Int} (hd : decode cc pc = .ok (.ifnull off, 3)) (k : J p l e R s m args below meth c G nL qf cells slots h (pc + 3) lv st b) : J p l e R s m args below meth c G nL qf cells slots h pc lv (.ref x :: st) b := fun z hz H locs ls hh hS hl => lv_ifnull C.1 C.2.1 hd (k z hz H locs ls hh hS hl)
theorem J_ifnullN (C : Cx p s m args meth c G cc nL own) {off : Int} {tgt : Nat} (hd : decode cc pc = .ok (.ifnull off, 3)) (ht : (pc : Int) + off = (tgt : Int)) (k : J p l e R s m args below meth c G nL qf cells slots h tgt lv st b) : J p l e R s m args below meth c G nL qf cells slots h pc lv (.null :: st) b := fun z hz H locs ls hh hS hl => lv_ifnullN C.1 C.2.1 hd ht (k z hz H locs ls hh hS hl)
theorem J_ifnonnull (C : Cx p s m args meth c G cc nL own) {x : Nat} {off : Int} {tgt : Nat} (hd : decode cc pc = .ok (.ifnonnull off, 3)) (ht : (pc : Int) + off = (tgt : Int)) (k : J p l e R s m args below meth c G nL qf cells slots h tgt lv st b) : J p l e R s m args below meth c G nL qf cells slots h pc lv (.ref x :: st) b := fun z hz H locs ls hh hS hl => lv_ifnonnull C.1 C.2.1 hd ht (k z hz H locs ls hh hS hl)
theorem J_ifnonnullN (C : Cx p s m args meth c G cc nL own) {off : Int} (hd : decode cc pc = .ok (.ifnonnull off, 3)) (k : J p l e R s m args below meth c G nL qf cells slots h (pc + 3) lv st b) : J p l e R s m args below meth c G nL qf cells slots h pc lv (.null :: st) b := fun z hz H locs ls hh hS hl => lv_ifnonnullN C.1 C.2.1 hd (k z hz H locs ls hh hS hl)
theorem J_nm {β : Type} {v : β} {fv : β → Value} {f : β → Option (α × PH)} (k : ∀ x : β, J p l e R s m args below meth c G nL qf cells slots h pc lv (fv x :: st) (f x)) : J p l e R s m args below meth c G nL qf cells slots h pc lv (fv v :: st) (nm v f) := k v
theorem J_onul {x : Option Nat} {t : Option (α × PH)} {f : Nat → Option (α × PH)} (hn : x = none → J p l e R s m args below meth c G nL qf cells slots h pc lv st t) (hs : ∀ a : Nat, x = some a → J p l e R s m args below meth c G nL qf cells slots h pc lv st (f a)) : J p l e R s m args below meth c G nL qf cells slots h pc lv st (onul x t f) := by
  cases x with
  | none => exact hn rfl
  | some a => exact hs a rfl
theorem J_nn {x : Option Nat} {f : Nat → Option (α × PH)} (hs : ∀ a : Nat, x = some a → J p l e R s m args below meth c G nL qf cells slots h pc lv st (f a)) : J p l e R s m args below meth c G nL qf cells slots h pc lv st (bn x f) := by
  cases x with
  | none => intro z hz; cases hz
  | some a => exact hs a rfl
theorem J_sub {lv1 : List (Nat × Value)} (ks : List Nat) (hq : lv_pick lv ks = lv1) (k : J p l e R s m args below meth c G nL qf cells slots h pc lv1 st b) : J p l e R s m args below meth c G nL qf cells slots h pc lv st b := fun z hz H locs ls hh hS hl => k z hz H locs ls hh hS (lv_sub hl ks hq)
theorem J_widen {k n : Nat} (h1 : cells ≤ k) (h2 : slots ≤ n) (kk : J p l e R s m args below meth c G nL qf k n h pc lv st b) : J p l e R s m args below meth c G nL qf cells slots h pc lv st b := fun z hz H locs ls hh hS hl => W.widen h1 h2 (kk z hz H locs ls hh hS hl)
theorem J_none (C : Cx p s m args meth c G cc nL own) : J p l e R s m args below meth c G nL qf cells slots h pc lv st none := fun z hz => by cases hz
theorem J_tableIn (C : Cx p s m args meth c G cc nL own) {dflt lo hi : Int} {offs : Array Int} {len : Nat} {x : Int32} {off : Int} {tgt : Nat} {bt bf : Option (α × PH)} (v : Int32) (hd : decode cc pc = .ok (.tableswitch dflt lo hi offs, len)) (h1 : ¬ v.toInt < lo) (h2 : ¬ hi < v.toInt) (ho : offs[(v.toInt - lo).toNat]? = some off) (ht : (pc : Int) + off = (tgt : Int)) (k : J p l e R s m args below meth c G nL qf cells slots h tgt lv st bt) (kf : J p l e R s m args below meth c G nL qf cells slots h pc lv (.int x :: st) bf) : J p l e R s m args below meth c G nL qf cells slots h pc lv (.int x :: st) (if x = v then bt else bf) := fun z hz H locs ls hh hS hl => by
  by_cases q : x = v
  · rw [if_pos q] at hz
    subst q
    exact lv_tableIn C.1 C.2.1 hd h1 h2 ho ht (k z hz H locs ls hh hS hl)
  · rw [if_neg q] at hz
    exact kf z hz H locs ls hh hS hl
theorem J_tableOut (C : Cx p s m args meth c G cc nL own) {dflt lo hi : Int} {offs : Array Int} {len : Nat} {x : Int32} {tgt : Nat} (hd : decode cc pc = .ok (.tableswitch dflt lo hi offs, len)) (ht : (pc : Int) + dflt = (tgt : Int)) (k : J p l e R s m args below meth c G nL qf cells slots h tgt lv st b) : J p l e R s m args below meth c G nL qf cells slots h pc lv (.int x :: st) (if x.toInt < lo ∨ hi < x.toInt then b else none) := fun z hz H locs ls hh hS hl => by
  by_cases q : x.toInt < lo ∨ hi < x.toInt
  · rw [if_pos q] at hz
    exact lv_tableOut C.1 C.2.1 hd q ht (k z hz H locs ls hh hS hl)
  · rw [if_neg q] at hz
    cases hz
end
end
section
/-- a field's link: class number ci, field k, read at own's pool place idx -/
def FL (own : String) (idx ci k : Nat) : Prop := ∃ (C : String) (T : u_T) (N : Nat), vwCl[ci]? = some (C, T, N) ∧ k < N ∧ (∀ w ∈ u_ws C T N, w ∈ GW) ∧ Cond.fieldLink own idx (T k).1 (T k).2.1 (T k).2.2.1 ∈ GW
/-- what a store needs of a class -/
def CLo (ci : Nat) : Prop := ∃ (C : String) (T : u_T) (N : Nat) (ty : Nat → FieldType), vwCl[ci]? = some (C, T, N) ∧ (∀ w ∈ u_ws C T N, w ∈ GW) ∧ (∀ k, k < N → parseFieldDescriptor (T k).2.2.1 = some (ty k)) ∧ (∀ a, a < N → ∀ b, b < N → a ≠ b → (T a).2.1 ≠ (T b).2.1)
def FT (ci k : Nat) (fin : Bool) (ty : FieldType) : Prop := ∃ (C : String) (T : u_T) (N : Nat), vwCl[ci]? = some (C, T, N) ∧ (T k).2.2.2 = fin ∧ (T k).1 = C ∧ parseFieldDescriptor (T k).2.2.1 = some ty
def rdV (ci k a : Nat) (h : PH) : Option Value := match h.2 a with
  | some (.inr o) => if o.1 = ci then o.2[k]? else none
  | _ => none
def vI (v : Option Value) : Option Int32 := match v with
  | some (.int x) => some x
  | _ => none
def vJ (v : Option Value) : Option Int64 := match v with
  | some (.long x) => some x
  | _ => none
def vR (v : Option Value) : Option Nat := match v with
  | some (.ref x) => some x
  | _ => none
def rdI (ci k a : Nat) (h : PH) : Option Int32 := vI (rdV ci k a h)
def rdJ (ci k a : Nat) (h : PH) : Option Int64 := vJ (rdV ci k a h)
def rdR (ci k a : Nat) (h : PH) : Option Nat := vR (rdV ci k a h)
def wr (ci k : Nat) (v : Value) (a : Nat) (h : PH) : Option PH := match h.2 a with
  | some (.inr o) => if o.1 = ci ∧ k < o.2.length then some (h.1, hup h.2 a (.inr (o.1, o.2.set k v))) else none
  | _ => none
def chk (ci a : Nat) (h : PH) : Option Unit := match h.2 a with
  | some (.inr o) => if o.1 = ci then some () else none
  | _ => none
theorem rdV_spec {ci k a : Nat} {h : PH} {v : Value} (q : rdV ci k a h = some v) : ∃ fs, h.2 a = some (.inr (ci, fs)) ∧ fs[k]? = some v := by
  unfold rdV at q
  split at q
  · next o ho =>
    split at q
    · next e => subst e; exact ⟨o.2, ho, q⟩
    · cases q
  · cases q
theorem vI_spec {v : Option Value} {x : Int32} (q : vI v = some x) : v = some (.int x) := by
  unfold vI at q
  split at q
  · cases q; rfl
  · cases q
theorem vJ_spec {v : Option Value} {x : Int64} (q : vJ v = some x) : v = some (.long x) := by
  unfold vJ at q
  split at q
  · cases q; rfl
  · cases q
theorem vR_spec {v : Option Value} {x : Nat} (q : vR v = some x) : v = some (.ref x) := by
  unfold vR at q
  split at q
  · cases q; rfl
  · cases q
theorem wr_spec {ci k a : Nat} {v : Value} {h h1 : PH} (q : wr ci k v a h = some h1) : ∃ fs, h.2 a = some (.inr (ci, fs)) ∧ k < fs.length ∧ h1 = (h.1, hup h.2 a (.inr (ci, fs.set k v))) := by
  unfold wr at q
  split at q
  · next o ho =>
    split at q
    · next e => obtain ⟨e1, e2⟩ := e; subst e1; cases q; exact ⟨o.2, ho, e2, rfl⟩
    · cases q
  · cases q
theorem chk_spec {ci a : Nat} {h : PH} {u : Unit} (q : chk ci a h = some u) : ∃ fs, h.2 a = some (.inr (ci, fs)) := by
  unfold chk at q
  split at q
  · next o ho =>
    split at q
    · next e => subst e; exact ⟨o.2, ho⟩
    · cases q
  · cases q
/-- the rows: kind t, an index within -/
def aldI (t a : Nat) (i : Int32) (h : PH) : Option Int32 := match h.2 a with
  | some (.inl (t1, n, .inl f)) => if t1 = t ∧ ¬ (i < 0 ∨ n ≤ i.toNatClampNeg) then some (f i.toNatClampNeg) else none
  | _ => none
def aldJ (a : Nat) (i : Int32) (h : PH) : Option Int64 := match h.2 a with
  | some (.inl (t1, n, .inr (.inl f))) => if t1 = 2 ∧ ¬ (i < 0 ∨ n ≤ i.toNatClampNeg) then some (f i.toNatClampNeg) else none
  | _ => none
def aldR (t a : Nat) (i : Int32) (h : PH) : Option (Option Nat) := match h.2 a with
  | some (.inl (t1, n, .inr (.inr (.inr (.inr f))))) => if t1 = t ∧ ¬ (i < 0 ∨ n ≤ i.toNatClampNeg) then some (f i.toNatClampNeg) else none
  | _ => none
def astI (a : Nat) (i x : Int32) (h : PH) : Option PH := match h.2 a with
  | some (.inl (t1, n, .inl f)) => if t1 = 0 ∧ ¬ (i < 0 ∨ n ≤ i.toNatClampNeg) then some (h.1, hup h.2 a (.inl (0, n, .inl (upd f i.toNatClampNeg x)))) else none
  | _ => none
def astZ (a : Nat) (i x : Int32) (h : PH) : Option PH := match h.2 a with
  | some (.inl (t1, n, .inl f)) => if t1 = 1 ∧ (x = 0 ∨ x = 1) ∧ ¬ (i < 0 ∨ n ≤ i.toNatClampNeg) then some (h.1, hup h.2 a (.inl (1, n, .inl (upd f i.toNatClampNeg x)))) else none
  | _ => none
def astJ (a : Nat) (i : Int32) (x : Int64) (h : PH) : Option PH := match h.2 a with
  | some (.inl (t1, n, .inr (.inl f))) => if t1 = 2 ∧ ¬ (i < 0 ∨ n ≤ i.toNatClampNeg) then some (h.1, hup h.2 a (.inl (2, n, .inr (.inl (vp_updL f i.toNatClampNeg x))))) else none
  | _ => none
/-- an object of class ci into a row of kind t -/
def astR (t ci a : Nat) (i : Int32) (v : Nat) (h : PH) : Option PH := match h.2 a, chk ci v h with
  | some (.inl (t1, n, .inr (.inr (.inr (.inr f))))), some _ => if t1 = t ∧ ¬ (i < 0 ∨ n ≤ i.toNatClampNeg) then some (h.1, hup h.2 a (.inl (t, n, .inr (.inr (.inr (.inr (va_up f i.toNatClampNeg (some v)))))))) else none
  | _, _ => none
theorem aldI_spec {t a : Nat} {i x : Int32} {h : PH} (q : aldI t a i h = some x) : ∃ n f, h.2 a = some (.inl (t, n, .inl f)) ∧ vp_in i n ∧ x = f i.toNatClampNeg := by
  unfold aldI at q
  split at q
  · next t1 n f ho =>
    split at q
    · next e => obtain ⟨e1, e2⟩ := e; subst e1; cases q; exact ⟨n, f, ho, e2, rfl⟩
    · cases q
  · cases q
theorem aldJ_spec {a : Nat} {i : Int32} {x : Int64} {h : PH} (q : aldJ a i h = some x) : ∃ n f, h.2 a = some (.inl (2, n, .inr (.inl f))) ∧ vp_in i n ∧ x = f i.toNatClampNeg := by
  unfold aldJ at q
  split at q
  · next t1 n f ho =>
    split at q
    · next e => obtain ⟨e1, e2⟩ := e; subst e1; cases q; exact ⟨n, f, ho, e2, rfl⟩
    · cases q
  · cases q
theorem aldR_spec {t a : Nat} {i : Int32} {x : Option Nat} {h : PH} (q : aldR t a i h = some x) : ∃ n f, h.2 a = some (.inl (t, n, .inr (.inr (.inr (.inr f))))) ∧ vp_in i n ∧ x = f i.toNatClampNeg := by
  unfold aldR at q
  split at q
  · next t1 n f ho =>
    split at q
    · next e => obtain ⟨e1, e2⟩ := e; subst e1; cases q; exact ⟨n, f, ho, e2, rfl⟩
    · cases q
  · cases q
theorem astI_spec {a : Nat} {i x : Int32} {h h1 : PH} (q : astI a i x h = some h1) : ∃ n f, h.2 a = some (.inl (0, n, .inl f)) ∧ vp_in i n ∧ h1 = (h.1, hup h.2 a (.inl (0, n, .inl (upd f i.toNatClampNeg x)))) := by
  unfold astI at q
  split at q
  · next t1 n f ho =>
    split at q
    · next e => obtain ⟨e1, e2⟩ := e; subst e1; cases q; exact ⟨n, f, ho, e2, rfl⟩
    · cases q
  · cases q
theorem astZ_spec {a : Nat} {i x : Int32} {h h1 : PH} (q : astZ a i x h = some h1) : ∃ n f, h.2 a = some (.inl (1, n, .inl f)) ∧ vp_in i n ∧ (x = 0 ∨ x = 1) ∧ h1 = (h.1, hup h.2 a (.inl (1, n, .inl (upd f i.toNatClampNeg x)))) := by
  unfold astZ at q
  split at q
  · next t1 n f ho =>
    split at q
    · next e => obtain ⟨e1, e2, e3⟩ := e; subst e1; cases q; exact ⟨n, f, ho, e3, e2, rfl⟩
    · cases q
  · cases q
theorem astJ_spec {a : Nat} {i : Int32} {x : Int64} {h h1 : PH} (q : astJ a i x h = some h1) : ∃ n f, h.2 a = some (.inl (2, n, .inr (.inl f))) ∧ vp_in i n ∧ h1 = (h.1, hup h.2 a (.inl (2, n, .inr (.inl (vp_updL f i.toNatClampNeg x))))) := by
  unfold astJ at q
  split at q
  · next t1 n f ho =>
    split at q
    · next e => obtain ⟨e1, e2⟩ := e; subst e1; cases q; exact ⟨n, f, ho, e2, rfl⟩
    · cases q
  · cases q
theorem astR_spec {t ci a v : Nat} {i : Int32} {h h1 : PH} (q : astR t ci a i v h = some h1) : ∃ n f fs, h.2 a = some (.inl (t, n, .inr (.inr (.inr (.inr f))))) ∧ vp_in i n ∧ h.2 v = some (.inr (ci, fs)) ∧ h1 = (h.1, hup h.2 a (.inl (t, n, .inr (.inr (.inr (.inr (va_up f i.toNatClampNeg (some v)))))))) := by
  unfold astR at q
  split at q
  · next t1 n f u ho hc =>
    split at q
    · next e =>
      obtain ⟨e1, e2⟩ := e
      subst e1
      cases q
      obtain ⟨fs, hfs⟩ := chk_spec hc
      exact ⟨n, f, fs, ho, e2, hfs, rfl⟩
    · cases q
  · cases q

section
variable {p : Program} {l : Launch} {e : Env} {R : Room} {s : State} {m : MethodId} {args : Array Value} {below : List Frame} {meth : Method} {c : Code} {G : GX} {cc : ByteArray} {nL : Nat} {own : String} {α : Type} {qf : α × PH → State → Prop} {cells slots : Nat} {h : PH} {pc : Nat} {lv : List (Nat × Value)} {st : List Value} {b : Option (α × PH)}
theorem J_getI (C : Cx p s m args meth c G cc nL own) {idx ci k a : Nat} {f : Int32 → Option (α × PH)} (F : FL own idx ci k) (hd : decode cc pc = .ok (.getfield idx, 3)) (kk : ∀ x : Int32, J p l e R s m args below meth c G nL qf cells slots h (pc + 3) lv (.int x :: st) (f x)) : J p l e R s m args below meth c G nL qf cells slots h pc lv (.ref a :: st) (bn (rdI ci k a h) f) := by
  intro z hz H locs ls hh hS hl
  obtain ⟨x, hx, hz⟩ := bn_some hz
  obtain ⟨fs, ha, hk⟩ := rdV_spec (vI_spec hx)
  obtain ⟨Cn, T, N, hc, hkN, hin, hlk⟩ := F
  exact va_get C.1 C.2.1 C.2.2.2.2.1 hin C.2.2.2.1 C.2.2.2.2.2.2.1 (hp_one hh ha) 0 rfl hc k hkN (C.2.2.2.2.1 _ hlk) (fun _ h9 => h9) hk hd (kk x z hz H locs ls hh hS hl)
theorem J_getJ (C : Cx p s m args meth c G cc nL own) {idx ci k a : Nat} {f : Int64 → Option (α × PH)} (F : FL own idx ci k) (hd : decode cc pc = .ok (.getfield idx, 3)) (kk : ∀ x : Int64, J p l e R s m args below meth c G nL qf cells slots h (pc + 3) lv (.long x :: st) (f x)) : J p l e R s m args below meth c G nL qf cells slots h pc lv (.ref a :: st) (bn (rdJ ci k a h) f) := by
  intro z hz H locs ls hh hS hl
  obtain ⟨x, hx, hz⟩ := bn_some hz
  obtain ⟨fs, ha, hk⟩ := rdV_spec (vJ_spec hx)
  obtain ⟨Cn, T, N, hc, hkN, hin, hlk⟩ := F
  exact va_get C.1 C.2.1 C.2.2.2.2.1 hin C.2.2.2.1 C.2.2.2.2.2.2.1 (hp_one hh ha) 0 rfl hc k hkN (C.2.2.2.2.1 _ hlk) (fun _ h9 => h9) hk hd (kk x z hz H locs ls hh hS hl)
theorem J_getR (C : Cx p s m args meth c G cc nL own) {idx ci k a : Nat} {f : Nat → Option (α × PH)} (F : FL own idx ci k) (hd : decode cc pc = .ok (.getfield idx, 3)) (kk : ∀ x : Nat, J p l e R s m args below meth c G nL qf cells slots h (pc + 3) lv (.ref x :: st) (f x)) : J p l e R s m args below meth c G nL qf cells slots h pc lv (.ref a :: st) (bn (rdR ci k a h) f) := by
  intro z hz H locs ls hh hS hl
  obtain ⟨x, hx, hz⟩ := bn_some hz
  obtain ⟨fs, ha, hk⟩ := rdV_spec (vR_spec hx)
  obtain ⟨Cn, T, N, hc, hkN, hin, hlk⟩ := F
  exact va_get C.1 C.2.1 C.2.2.2.2.1 hin C.2.2.2.1 C.2.2.2.2.2.2.1 (hp_one hh ha) 0 rfl hc k hkN (C.2.2.2.2.1 _ hlk) (fun _ h9 => h9) hk hd (kk x z hz H locs ls hh hS hl)
theorem J_put (C : Cx p s m args meth c G cc nL own) {idx ci k a : Nat} {v : Value} {ty : FieldType} {f : PH → Option (α × PH)} (F : FL own idx ci k) (K : CLo ci) (Y : FT ci k false ty) (hn : narrow ty v = v) (hf : fits ty v = true) (hd : decode cc pc = .ok (.putfield idx, 3)) (kk : ∀ h1 : PH, J p l e R s m args below meth c G nL qf cells slots h1 (pc + 3) lv st (f h1)) : J p l e R s m args below meth c G nL qf cells slots h pc lv (v :: .ref a :: st) (bn (wr ci k v a h) f) := by
  intro z hz H locs ls hh hS hl
  obtain ⟨h1, hx, hz⟩ := bn_some hz
  obtain ⟨fs, ha, hl9, rfl⟩ := wr_spec hx
  obtain ⟨Cn, T, N, hc, hkN, hin, hlk⟩ := F
  obtain ⟨C2, T2, N2, ty2, hc2, -, htyA, hnm⟩ := K
  cases hc.symm.trans hc2
  obtain ⟨C3, T3, N3, hc3, hfin, hdecl, hty⟩ := Y
  cases hc.symm.trans hc3
  have hK := C.2.2.2.2.2.2.1
  have hts := C.2.2.2.2.1
  have hap := va_apart (own := own) hts hin ty2 htyA hnm hK hc
  obtain ⟨hba, r, h1, cell, q1, q2, q3, q4⟩ := hh.2.2 a _ ha
  have hr : r = (Cn, T, N) := Option.some.inj (h1.symm.trans hc)
  subst hr
  obtain ⟨hSl, hfc, kC, hkC, hkind⟩ := hK.1 ci _ hc
  obtain ⟨cf, kf, fi, f2, hi, hsl⟩ := hSl k hkN
  have hlay := hts _ (hin _ (u_in_lay hkN))
  have hst := (u_facts hfc hkC (u_lays hts hin hkN) hi).1
  unfold u_lay at hlay
  rw [if_neg (by rw [hfin]; decide)] at hlay
  have h6 := u_store hfc hkC hkind hlay hi hty hn hf
  refine W.putK C.1 C.2.1 (f := f2) ⟨C.2.2.2.1, C.2.2.2.2.1 _ hlk, ⟨_, _, _, hi⟩, hst⟩ (by rw [q2]; exact h6) q1 q3 (by rw [hsl]; exact k2_hasslot (q4 k hkN)) rfl rfl hd fun H1 e1 e2 e3 => ?_
  rw [hsl] at e1
  exact kk _ z hz H1 _ ls (hp_set hh hba ⟨_, hc, t_OB.to (V := updV (vp_V fs) k v) ⟨_, e1, q2, q3, t_set q4 hap hkN v⟩ (fun j _ => vp_updV_set hl9 v j)⟩ e2 e3) (hS.put e2 e3 hba) hl
theorem J_putF (C : Cx p s m args meth c G cc nL own) {idx ci k a : Nat} {v : Value} {ty : FieldType} {f : PH → Option (α × PH)} (F : FL own idx ci k) (K : CLo ci) (Y : FT ci k true ty) (hn : narrow ty v = v) (hf : fits ty v = true) (hinit : meth.name = "<init>") (hown : ∃ C T N, vwCl[ci]? = some (C, T, N) ∧ C = own) (hd : decode cc pc = .ok (.putfield idx, 3)) (kk : ∀ h1 : PH, J p l e R s m args below meth c G nL qf cells slots h1 (pc + 3) lv st (f h1)) : J p l e R s m args below meth c G nL qf cells slots h pc lv (v :: .ref a :: st) (bn (wr ci k v a h) f) := by
  intro z hz H locs ls hh hS hl
  obtain ⟨h1, hx, hz⟩ := bn_some hz
  obtain ⟨fs, ha, hl9, rfl⟩ := wr_spec hx
  obtain ⟨Cn, T, N, hc, hkN, hin, hlk⟩ := F
  obtain ⟨C2, T2, N2, ty2, hc2, -, htyA, hnm⟩ := K
  cases hc.symm.trans hc2
  obtain ⟨C3, T3, N3, hc3, hfin, hdecl, hty⟩ := Y
  cases hc.symm.trans hc3
  have hK := C.2.2.2.2.2.2.1
  have hts := C.2.2.2.2.1
  have hap := va_apart (own := own) hts hin ty2 htyA hnm hK hc
  obtain ⟨hba, r, h1, cell, q1, q2, q3, q4⟩ := hh.2.2 a _ ha
  have hr : r = (Cn, T, N) := Option.some.inj (h1.symm.trans hc)
  subst hr
  obtain ⟨hSl, hfc, kC, hkC, hkind⟩ := hK.1 ci _ hc
  obtain ⟨cf, kf, fi, f2, hi, hsl⟩ := hSl k hkN
  have hlay := hts _ (hin _ (u_in_lay hkN))
  have hst := (u_facts hfc hkC (u_lays hts hin hkN) hi).1
  unfold u_lay at hlay
  rw [if_pos hfin] at hlay
  have hcf : m.cls = cf := by
    obtain ⟨_, _, c', _, _, _, -, -, hf', -, -, -, hown2, -⟩ := Cond.laysFinal_spec hlay
    have e1 : c' = cf := by have := hi.symm.trans hf'; simp at this; exact this.1.symm
    obtain ⟨C9, T9, N9, hc9, ho9⟩ := hown
    cases hc9.symm.trans hc
    rw [hdecl, ho9] at hown2
    rw [← e1]; exact Option.some.inj (C.2.2.2.1.symm.trans hown2)
  have h6 := u_fits hfc hkC hkind (Or.inr hlay) hi hty hn hf
  refine W.putFinK C.1 C.2.1 C.2.2.2.1 (C.2.2.2.2.1 _ hlk) hi hst hcf hinit (by rw [q2]; exact h6) q1 q3 (by rw [hsl]; exact k2_hasslot (q4 k hkN)) rfl rfl hd fun H1 e1 e2 e3 => ?_
  rw [hsl] at e1
  exact kk _ z hz H1 _ ls (hp_set hh hba ⟨_, hc, t_OB.to (V := updV (vp_V fs) k v) ⟨_, e1, q2, q3, t_set q4 hap hkN v⟩ (fun j _ => vp_updV_set hl9 v j)⟩ e2 e3) (hS.put e2 e3 hba) hl
theorem J_iald (C : Cx p s m args meth c G cc nL own) {a : Nat} {i : Int32} {f : Int32 → Option (α × PH)} (hd : decode cc pc = .ok (.iaload, 1)) (kk : ∀ x : Int32, J p l e R s m args below meth c G nL qf cells slots h (pc + 1) lv (.int x :: st) (f x)) : J p l e R s m args below meth c G nL qf cells slots h pc lv (.int i :: .ref a :: st) (bn (aldI 0 a i h) f) := by
  intro z hz H locs ls hh hS hl
  obtain ⟨x, hx, hz⟩ := bn_some hz
  obtain ⟨n, g, ha, hin, rfl⟩ := aldI_spec hx
  exact va_iald C.1 C.2.1 C.2.2.2.2.2.2.1 (hp_one hh ha) 0 0 rfl rfl hin hd (kk _ z hz H locs ls hh hS hl)
theorem J_zald (C : Cx p s m args meth c G cc nL own) {a : Nat} {i : Int32} {f : Int32 → Option (α × PH)} (hd : decode cc pc = .ok (.baload, 1)) (kk : ∀ x : Int32, J p l e R s m args below meth c G nL qf cells slots h (pc + 1) lv (.int x :: st) (f x)) : J p l e R s m args below meth c G nL qf cells slots h pc lv (.int i :: .ref a :: st) (bn (aldI 1 a i h) f) := by
  intro z hz H locs ls hh hS hl
  obtain ⟨x, hx, hz⟩ := bn_some hz
  obtain ⟨n, g, ha, hin, rfl⟩ := aldI_spec hx
  exact va_zald C.1 C.2.1 C.2.2.2.2.2.2.1 (hp_one hh ha) 0 1 rfl rfl hin hd (kk _ z hz H locs ls hh hS hl)
theorem J_lald (C : Cx p s m args meth c G cc nL own) {a : Nat} {i : Int32} {f : Int64 → Option (α × PH)} (hd : decode cc pc = .ok (.laload, 1)) (kk : ∀ x : Int64, J p l e R s m args below meth c G nL qf cells slots h (pc + 1) lv (.long x :: st) (f x)) : J p l e R s m args below meth c G nL qf cells slots h pc lv (.int i :: .ref a :: st) (bn (aldJ a i h) f) := by
  intro z hz H locs ls hh hS hl
  obtain ⟨x, hx, hz⟩ := bn_some hz
  obtain ⟨n, g, ha, hin, rfl⟩ := aldJ_spec hx
  exact va_lald C.1 C.2.1 C.2.2.2.2.2.2.1 (hp_one hh ha) 0 2 rfl rfl hin hd (kk _ z hz H locs ls hh hS hl)
theorem J_aald (C : Cx p s m args meth c G cc nL own) (t : Nat) (ty : FieldType) (ht : ∀ G : GX, (tysL G)[t]? = some (G.2.1 t, ty)) (hrf : ty.isReference = true) {a : Nat} {i : Int32} {f : Option Nat → Option (α × PH)} (hd : decode cc pc = .ok (.aaload, 1)) (kk : ∀ x : Option Nat, J p l e R s m args below meth c G nL qf cells slots h (pc + 1) lv (va_rf x :: st) (f x)) : J p l e R s m args below meth c G nL qf cells slots h pc lv (.int i :: .ref a :: st) (bn (aldR t a i h) f) := by
  intro z hz H locs ls hh hS hl
  obtain ⟨x, hx, hz⟩ := bn_some hz
  obtain ⟨n, g, ha, hin, rfl⟩ := aldR_spec hx
  have hlt : i.toNatClampNeg < n := Nat.not_le.mp fun q => hin (Or.inr q)
  exact W.aald (v := va_rf (g i.toNatClampNeg)) (ty := ty) C.1 C.2.1 (hh.2.2 a _ ha).2 ((C.2.2.2.2.2.2.1.2 t _ (ht G)).1 n (fun j => va_rf (g j))) hrf (fun q => by cases q) (by show ¬ (i < 0 ∨ (arrV _ _ _).slots.size ≤ _); rw [arrV_size]; exact hin) (by show (arrV _ _ _).slots[_]? = _; rw [arrV_read _ _ hlt]) rfl rfl hd (kk _ z hz H locs ls hh hS hl)
theorem J_iast (C : Cx p s m args meth c G cc nL own) {a : Nat} {i : Int32} {x : Int32} {f : PH → Option (α × PH)} (hd : decode cc pc = .ok (.iastore, 1)) (kk : ∀ h1 : PH, J p l e R s m args below meth c G nL qf cells slots h1 (pc + 1) lv st (f h1)) : J p l e R s m args below meth c G nL qf cells slots h pc lv (.int x :: .int i :: .ref a :: st) (bn (astI a i x h) f) := by
  intro z hz H locs ls hh hS hl
  obtain ⟨h1, hx, hz⟩ := bn_some hz
  obtain ⟨n, g, ha, hin, rfl⟩ := astI_spec hx
  refine W.iast C.1 C.2.1 (hh.2.2 a _ ha).2 ((C.2.2.2.2.2.2.1.2 0 _ rfl).1 n (fun j => .int (g j))) (fun q => by cases q) (by show ¬ (i < 0 ∨ (arrV _ _ _).slots.size ≤ _); rw [arrV_size]; exact hin) rfl rfl hd fun H1 e1 e2 e3 => ?_
  refine kk _ z hz H1 _ ls (hp_set hh (hh.2.2 a _ ha).1 ?_ e2 e3) (hS.put e2 e3 (hh.2.2 a _ ha).1) hl
  show H1[a]? = some (vp_cell _ _)
  rw [e1]
  show some ((vp_cell _ _).setSlot _ _) = _
  rw [vp_cell_i, vp_cell_i, arrV_store]
  congr 2
  funext q
  by_cases hq : q = i.toNatClampNeg
  · subst hq
    simp [updV, upd]
  · simp [updV, upd, hq]
theorem J_zast (C : Cx p s m args meth c G cc nL own) {a : Nat} {i : Int32} {x : Int32} {f : PH → Option (α × PH)} (hd : decode cc pc = .ok (.bastore, 1)) (kk : ∀ h1 : PH, J p l e R s m args below meth c G nL qf cells slots h1 (pc + 1) lv st (f h1)) : J p l e R s m args below meth c G nL qf cells slots h pc lv (.int x :: .int i :: .ref a :: st) (bn (astZ a i x h) f) := by
  intro z hz H locs ls hh hS hl
  obtain ⟨h1, hx, hz⟩ := bn_some hz
  obtain ⟨n, g, ha, hin, hx01, rfl⟩ := astZ_spec hx
  refine W.zast C.1 C.2.1 (hh.2.2 a _ ha).2 ((C.2.2.2.2.2.2.1.2 1 _ rfl).1 n (fun j => .int (g j))) (fun q => by cases q) (by show ¬ (i < 0 ∨ (arrV _ _ _).slots.size ≤ _); rw [arrV_size]; exact hin) rfl rfl hd fun H1 e1 e2 e3 => ?_
  refine kk _ z hz H1 _ ls (hp_set hh (hh.2.2 a _ ha).1 ?_ e2 e3) (hS.put e2 e3 (hh.2.2 a _ ha).1) hl
  show H1[a]? = some (vp_cell _ _)
  rw [e1]
  show some ((vp_cell _ _).setSlot _ _) = _
  rw [vp_cell_i, vp_cell_i, arrV_store]
  congr 2
  funext q
  by_cases hq : q = i.toNatClampNeg
  · subst hq
    rcases hx01 with rfl | rfl <;> simp [updV, upd, narrow]
  · simp [updV, upd, hq]
theorem J_last (C : Cx p s m args meth c G cc nL own) {a : Nat} {i : Int32} {x : Int64} {f : PH → Option (α × PH)} (hd : decode cc pc = .ok (.lastore, 1)) (kk : ∀ h1 : PH, J p l e R s m args below meth c G nL qf cells slots h1 (pc + 1) lv st (f h1)) : J p l e R s m args below meth c G nL qf cells slots h pc lv (.long x :: .int i :: .ref a :: st) (bn (astJ a i x h) f) := by
  intro z hz H locs ls hh hS hl
  obtain ⟨h1, hx, hz⟩ := bn_some hz
  obtain ⟨n, g, ha, hin, rfl⟩ := astJ_spec hx
  refine W.last C.1 C.2.1 (hh.2.2 a _ ha).2 ((C.2.2.2.2.2.2.1.2 2 _ rfl).1 n (fun j => .long (g j))) (fun q => by cases q) (by show ¬ (i < 0 ∨ (arrV _ _ _).slots.size ≤ _); rw [arrV_size]; exact hin) rfl rfl hd fun H1 e1 e2 e3 => ?_
  refine kk _ z hz H1 _ ls (hp_set hh (hh.2.2 a _ ha).1 ?_ e2 e3) (hS.put e2 e3 (hh.2.2 a _ ha).1) hl
  show H1[a]? = some (vp_cell _ _)
  rw [e1]
  show some ((vp_cell _ _).setSlot _ _) = _
  rw [vp_cell_l, vp_cell_l, arrV_store]
  congr 2
  funext q
  by_cases hq : q = i.toNatClampNeg
  · subst hq
    simp [updV, vp_updL]
  · simp [updV, vp_updL, hq]
theorem J_aast (C : Cx p s m args meth c G cc nL own) (t ci : Nat) (Cn : String) (ht : ∀ G : GX, (tysL G)[t]? = some (G.2.1 t, .object Cn)) (hci : ∃ T N, vwCl[ci]? = some (Cn, T, N)) {a v : Nat} {i : Int32} {f : PH → Option (α × PH)} (hd : decode cc pc = .ok (.aastore, 1)) (kk : ∀ h1 : PH, J p l e R s m args below meth c G nL qf cells slots h1 (pc + 1) lv st (f h1)) : J p l e R s m args below meth c G nL qf cells slots h pc lv (.ref v :: .int i :: .ref a :: st) (bn (astR t ci a i v h) f) := by
  intro z hz H locs ls hh hS hl
  obtain ⟨h1, hx, hz⟩ := bn_some hz
  obtain ⟨n, g, fs, ha, hin, hv, rfl⟩ := astR_spec hx
  obtain ⟨T, N, hci⟩ := hci
  have hK := C.2.2.2.2.2.2.1
  have hlt : i.toNatClampNeg < n := Nat.not_le.mp fun q => hin (Or.inr q)
  have h0 : ¬ i < 0 := fun q => hin (Or.inl q)
  obtain ⟨-, r', hr', cellV, g1, g2, g3, -⟩ := hh.2.2 v _ hv
  have hcls := (hK.1 ci _ hci).2
  obtain ⟨kA, comp, k1, k2, k3, -⟩ := (hK.2 t _ (ht G)).2
  have hcomp : comp = G.1.1 ci := Option.some.inj (k3.symm.trans hcls.1)
  subst hcomp
  obtain ⟨kC, hkC, -⟩ := hcls.2
  refine W.aast C.1 C.2.1 (hh.2.2 a _ ha).2 (fun q h => by cases h) (fun h => by cases h) k1 k2 rfl hkC ⟨h0, by show _ < (arrV _ _ _).slots.size; rw [arrV_size]; exact hlt⟩ g1 (fun q h => by rw [g3] at h; cases h) (by rw [g2]; exact hkC) (by rw [g2]; exact va_assign hcls) rfl rfl hd fun H1 e1 e2 e3 => ?_
  refine kk _ z hz H1 _ ls (hp_set hh (hh.2.2 a _ ha).1 ?_ e2 e3) (hS.put e2 e3 (hh.2.2 a _ ha).1) hl
  show H1[a]? = some (vp_cell _ _)
  rw [e1]
  show some ((vp_cell _ _).setSlot _ _) = _
  rw [vp_cell_q, vp_cell_q, arrV_store]
  congr 2
  funext q
  by_cases hq : q = i.toNatClampNeg
  · subst hq
    simp [updV, va_up, va_rf]
  · simp [updV, va_up, hq]
end
end
section
theorem wArrI : Cond.arrayClass .int ∈ GW := gw1 (List.mem_of_getElem? (i := 55) (by decide +kernel)) rfl
theorem wArrZ : Cond.arrayClass .boolean ∈ GW := gw1 (List.mem_of_getElem? (i := 179) (by decide +kernel)) rfl
theorem wArrJ : Cond.arrayClass .long ∈ GW := gw1 (List.mem_of_getElem? (i := 56) (by decide +kernel)) rfl

def mnB {β : Type} (N K : Nat) (h : PH) (f : Nat → PH → Option β) : Option β :=
  f h.1 (h.1 + 1 + N, fun a => if a = h.1 then some (.inl (5, N, .inr (.inr (.inr (.inr (fun i => if i < N then some (h.1 + 1 + i) else none)))))) else if h.1 < a ∧ a < h.1 + 1 + N then some (.inl (0, K, .inl (fun _ => 0))) else h.2 a)
/-- how a method ends: its answer, the heap behind it, nothing else changed -/
def QQ (G : GX) (r : Option Value) (h1 : PH) : Array Value → State → Outcome → State → Prop := fun _ st o t => o = .returned r ∧ hp G h1 t.heap ∧ va_F (gA G) st t
def qM (below : List Frame) (args : Array Value) (s : State) {α : Type} (rv : α → Option Value) (G : GX) (mc ms : Nat) : α × PH → State → Prop := fun z => MQ below (QQ G (rv z.1) z.2) args s mc ms (gA G)
def rvI (x : Int32) : Option Value := some (.int x)
def rvJ (x : Int64) : Option Value := some (.long x)
def rvU (_ : Unit) : Option Value := none
def rvR (x : Option Nat) : Option Value := some (va_rf x)
/-- a method's contract -/
def MC (l : Launch) (G : GX) (y : MethodName) (cc : ByteArray) (nL : Nat) (ret : Option FieldType) (rm : Room) (av : List Value) (h : PH) (r : Option Value) (h1 : PH) : Prop :=
  Met l y (.code y cc nL ret :: GW) rm (va_Pc av (fun U => kt G U ∧ hp G h U.heap)) (QQ G r h1) rm.cells rm.slots (gA G)
def NL (own : String) (idx ci N : Nat) (fs : List Value) : Prop := ∃ (C : String) (T : u_T) (ty : Nat → FieldType), vwCl[ci]? = some (C, T, N) ∧ (∀ w ∈ u_ws C T N, w ∈ GW) ∧ (∀ k, k < N → parseFieldDescriptor (T k).2.2.1 = some (ty k)) ∧ (∀ j, j < N → defaultValue (ty j) = vp_V fs j) ∧ Cond.classLink own idx C ∈ GW ∧ Cond.instantiable C N ∈ GW ∧ Cond.initialized C ∈ GW
/-- what a call of a method asks of the tables, whatever its kind -/
def MW (y : MethodName) (cc : ByteArray) (nL : Nat) (ret : Option FieldType) (n : Nat) : Prop := Cond.code y cc nL ret ∈ GW ∧ Cond.initialized y.cls ∈ GW ∧ (y.cls ≠ "java/lang/invoke/MethodHandle" ∧ y.cls ≠ "java/lang/invoke/VarHandle" ∧ (parseMethodDescriptor y.desc).map (fun d => d.parameters.length) = some n)
theorem MW_good {y : MethodName} {cc : ByteArray} {nL n : Nat} {ret : Option FieldType} (h : MW y cc nL ret n) : GoodIn GW (.code y cc nL ret :: GW) := by
  intro w hw
  rcases List.mem_cons.mp hw with rfl | hw
  · exact ⟨h.1, good_of_word (GW_good _ h.1)⟩
  · exact ⟨hw, good_of_word (GW_good _ hw)⟩
theorem Met_J {l : Launch} {G : GX} {h : PH} {y : MethodName} {cc : ByteArray} {nL : Nat} {ret : Option FieldType} {own : String} {rm : Room} {av : List Value} {α : Type} {rv : α → Option Value} {b : Option (α × PH)} (hy : plainName y.cls = true) (ho : y.cls = own) (hlen : (lg_sl av).length ≤ nL)
    (k : ∀ (p : Program) (e : Env) (s : State) (m : MethodId) (args : Array Value) (below : List Frame) (meth : Method) (c : Code), Cx p s m args meth c G cc nL own → meth.sig.returnType = ret → meth.name = y.name → J p l e rm s m args below meth c G nL (qM below args s rv G rm.cells rm.slots) 0 0 h 0 (lv_args 0 av) [] b) :
    ∀ z, b = some z → MC l G y cc nL ret rm av h (rv z.1) z.2 := by
  intro z hz
  refine Met.ofW (cc := cc) (maxL := nL) (ret := ret) hy rfl ?_
  intro p e s m args below meth c s₁ B hml hv
  obtain ⟨rfl, hK, hh⟩ := hv
  have hts := atoms_spec (ws := .code y cc nL ret :: GW) B.pre
  rw [lg_entry_eq]
  exact k p e s m _ below meth c ⟨B.exec, B.bytes, hml, by rw [← ho]; exact findClass_of_methodNamed B.named, fun w hw => hts w (List.mem_cons_of_mem _ hw), B.notSynchronized, hK⟩ B.returns (name_of_methodNamed B.named B.method).1 z hz s.heap [] _ hh va_S.rf (lv_entry av hlen)
theorem Met_JF {l : Launch} {G : GX} {h : PH} {y : MethodName} {cc : ByteArray} {nL : Nat} {ret : Option FieldType} {own : String} {rm : Room} {av : List Value} {α : Type} {rv : α → Option Value} {b : Option (α × PH)} (hy : plainFor y = true) (ho : y.cls = own) (hlen : (lg_sl av).length ≤ nL)
    (k : ∀ (p : Program) (e : Env) (s : State) (m : MethodId) (args : Array Value) (below : List Frame) (meth : Method) (c : Code), Cx p s m args meth c G cc nL own → meth.sig.returnType = ret → meth.name = y.name → J p l e rm s m args below meth c G nL (qM below args s rv G rm.cells rm.slots) 0 0 h 0 (lv_args 0 av) [] b) :
    ∀ z, b = some z → MC l G y cc nL ret rm av h (rv z.1) z.2 := by
  intro z hz
  refine va_MetF (cc := cc) (maxL := nL) (ret := ret) hy rfl ?_
  intro p e s m args below meth c s₁ B hml hv
  obtain ⟨rfl, hK, hh⟩ := hv
  have hts := atoms_spec (ws := .code y cc nL ret :: GW) B.pre
  rw [lg_entry_eq]
  exact k p e s m _ below meth c ⟨B.exec, B.bytes, hml, by rw [← ho]; exact findClass_of_methodNamed B.named, fun w hw => hts w (List.mem_cons_of_mem _ hw), B.notSynchronized, hK⟩ B.returns (name_of_methodNamed B.named B.method).1 z hz s.heap [] _ hh va_S.rf (lv_entry av hlen)

section
variable {p : Program} {l : Launch} {e : Env} {R : Room} {s : State} {m : MethodId} {args : Array Value} {below : List Frame} {meth : Method} {c : Code} {G : GX} {cc : ByteArray} {nL : Nat} {own : String} {α : Type} {qf : α × PH → State → Prop} {cells slots : Nat} {h : PH} {pc : Nat} {lv : List (Nat × Value)} {st : List Value} {b : Option (α × PH)}
theorem J_newI (C : Cx p s m args meth c G cc nL own) {n : Int32} {N : Nat} {f : Nat → PH → Option (α × PH)} (hN : n.toNatClampNeg = N) (hn : ¬ n < 0) (hb : N * componentBytes .int ≤ 536870912) (hcl : cells + 1 ≤ R.cells) (hsl : slots + N ≤ R.slots) (hd : decode cc pc = .ok (.newarray .int, 2)) (kk : ∀ (q : Nat) (h1 : PH), J p l e R s m args below meth c G nL qf (cells + 1) (slots + N) h1 (pc + 2) lv (.ref q :: st) (f q h1)) : J p l e R s m args below meth c G nL qf cells slots h pc lv (.int n :: st) (nwB (.inl (0, N, .inl (fun _ => 0))) h f) := by
  intro z hz H locs ls hh hS hl
  refine va_newaK (atype := .int) C.1 C.2.1 (C.2.2.2.2.1 _ wArrI) rfl hd rfl hn hN hb hcl hsl hh.1 fun H1 cA e1 z1 o1 hAr hNm => ?_
  have hcA : G.2.1 0 = cA := Option.some.inj ((C.2.2.2.2.2.2.1.2 0 _ rfl).2.symm.trans hNm)
  subst hcA
  exact kk h.1 _ z hz H1 locs ls (hp_new hh e1 z1 o1) (hS_new hS hh.1 z1 o1) hl
theorem J_newZ (C : Cx p s m args meth c G cc nL own) {n : Int32} {N : Nat} {f : Nat → PH → Option (α × PH)} (hN : n.toNatClampNeg = N) (hn : ¬ n < 0) (hb : N * componentBytes .boolean ≤ 536870912) (hcl : cells + 1 ≤ R.cells) (hsl : slots + N ≤ R.slots) (hd : decode cc pc = .ok (.newarray .boolean, 2)) (kk : ∀ (q : Nat) (h1 : PH), J p l e R s m args below meth c G nL qf (cells + 1) (slots + N) h1 (pc + 2) lv (.ref q :: st) (f q h1)) : J p l e R s m args below meth c G nL qf cells slots h pc lv (.int n :: st) (nwB (.inl (1, N, .inl (fun _ => 0))) h f) := by
  intro z hz H locs ls hh hS hl
  refine va_newaK (atype := .boolean) C.1 C.2.1 (C.2.2.2.2.1 _ wArrZ) rfl hd rfl hn hN hb hcl hsl hh.1 fun H1 cA e1 z1 o1 hAr hNm => ?_
  have hcA : G.2.1 1 = cA := Option.some.inj ((C.2.2.2.2.2.2.1.2 1 _ rfl).2.symm.trans hNm)
  subst hcA
  exact kk h.1 _ z hz H1 locs ls (hp_new hh e1 z1 o1) (hS_new hS hh.1 z1 o1) hl
theorem J_newJ (C : Cx p s m args meth c G cc nL own) {n : Int32} {N : Nat} {f : Nat → PH → Option (α × PH)} (hN : n.toNatClampNeg = N) (hn : ¬ n < 0) (hb : N * componentBytes .long ≤ 536870912) (hcl : cells + 1 ≤ R.cells) (hsl : slots + N ≤ R.slots) (hd : decode cc pc = .ok (.newarray .long, 2)) (kk : ∀ (q : Nat) (h1 : PH), J p l e R s m args below meth c G nL qf (cells + 1) (slots + N) h1 (pc + 2) lv (.ref q :: st) (f q h1)) : J p l e R s m args below meth c G nL qf cells slots h pc lv (.int n :: st) (nwB (.inl (2, N, .inr (.inl (fun _ => 0)))) h f) := by
  intro z hz H locs ls hh hS hl
  refine va_newaK (atype := .long) C.1 C.2.1 (C.2.2.2.2.1 _ wArrJ) rfl hd rfl hn hN hb hcl hsl hh.1 fun H1 cA e1 z1 o1 hAr hNm => ?_
  have hcA : G.2.1 2 = cA := Option.some.inj ((C.2.2.2.2.2.2.1.2 2 _ rfl).2.symm.trans hNm)
  subst hcA
  exact kk h.1 _ z hz H1 locs ls (hp_new hh e1 z1 o1) (hS_new hS hh.1 z1 o1) hl
theorem J_newQ (C : Cx p s m args meth c G cc nL own) (t : Nat) (Cn : String) (ht : ∀ G : GX, (tysL G)[t]? = some (G.2.1 t, .object Cn)) {n : Int32} {N idx : Nat} {f : Nat → PH → Option (α × PH)} (hcw : Cond.classLink own idx Cn ∈ GW) (ho : ∀ G U, kt G U → va_AO Cn U) (hN : n.toNatClampNeg = N) (hn : ¬ n < 0) (hb : N * 4 ≤ 536870912) (hcl : cells + 1 ≤ R.cells) (hsl : slots + N ≤ R.slots) (hd : decode cc pc = .ok (.anewarray idx, 3)) (kk : ∀ (q : Nat) (h1 : PH), J p l e R s m args below meth c G nL qf (cells + 1) (slots + N) h1 (pc + 3) lv (.ref q :: st) (f q h1)) : J p l e R s m args below meth c G nL qf cells slots h pc lv (.int n :: st) (nwB (.inl (t, N, .inr (.inr (.inr (.inr (fun _ => none)))))) h f) := by
  intro z hz H locs ls hh hS hl
  subst hN
  refine W.anew C.1 C.2.1 C.2.2.2.1 (C.2.2.2.2.1 _ hcw) (va_AO.use (ho G s C.2.2.2.2.2.2)) rfl hd rfl hn hb hcl hsl fun cA kA comp f1 f2 f3 f4 => ?_
  obtain ⟨-, -, -, -, -, k4⟩ := (C.2.2.2.2.2.2.1.2 t _ (ht G)).2
  have hcA : G.2.1 t = cA := Option.some.inj (k4.symm.trans f1)
  subst hcA
  have z1 : (H.push ({ cls := G.2.1 t, slots := Array.replicate n.toNatClampNeg .null, vm := .none } : Cell)).size = h.1 + 1 := by rw [Array.size_push, hh.1]
  have e1 : (H.push ({ cls := G.2.1 t, slots := Array.replicate n.toNatClampNeg .null, vm := .none } : Cell))[h.1]? = some (arrV (G.2.1 t) n.toNatClampNeg (fun _ => .null)) := by rw [← hh.1, Array.getElem?_push_size, ← arrV_new]
  have o1 : ∀ q : Nat, q < h.1 → (H.push ({ cls := G.2.1 t, slots := Array.replicate n.toNatClampNeg .null, vm := .none } : Cell))[q]? = H[q]? := fun q hq => by rw [Array.getElem?_push, if_neg (Nat.ne_of_lt (by rw [hh.1]; exact hq))]
  have hw := kk h.1 _ z hz _ locs ls (hp_new (e := .inl (t, n.toNatClampNeg, .inr (.inr (.inr (.inr (fun _ => none)))))) hh e1 z1 o1) (hS_new hS hh.1 z1 o1) hl
  show W p l e R s m args below meth c _ locs _ _ _ (F0 m (pc + 3) ls (.ref H.size :: st))
  rw [hh.1]
  exact hw
theorem J_new (C : Cx p s m args meth c G cc nL own) {idx ci N : Nat} {fs : List Value} {f : Nat → PH → Option (α × PH)} (F : NL own idx ci N fs) (hcl : cells + 1 ≤ R.cells) (hsl : slots + N ≤ R.slots) (hd : decode cc pc = .ok (.new idx, 3)) (kk : ∀ (q : Nat) (h1 : PH), J p l e R s m args below meth c G nL qf (cells + 1) (slots + N) h1 (pc + 3) lv (.ref q :: st) (f q h1)) : J p l e R s m args below meth c G nL qf cells slots h pc lv st (nwB (.inr (ci, fs)) h f) := by
  intro z hz H locs ls hh hS hl
  obtain ⟨Cn, T, ty, hc, hin, hty, hfs, w1, w2, w3⟩ := F
  have hts := C.2.2.2.2.1
  have hKn := C.2.2.2.2.2.2.1.1 ci _ hc
  refine W.newcK C.1 C.2.1 C.2.2.2.1 (hts _ w1) (hts _ w2) (hts _ w3) rfl hd hcl hsl hKn.2.1 hh.1 fun H1 kC hkC e1 z1 o1 => ?_
  exact kk h.1 _ z hz H1 locs ls (hp_new hh ⟨_, hc, (u_born ty hts hin hKn hkC e1 hty).to hfs⟩ z1 o1) (hS_new hS hh.1 z1 o1) hl
theorem J_mna (C : Cx p s m args meth c G cc nL own) {n k : Int32} {N K idx : Nat} {f : Nat → PH → Option (α × PH)} (hcw : Cond.classLink own idx ("[" ++ (FieldType.array .int).toString) ∈ GW) (hN : n.toNatClampNeg = N) (hn : ¬ n < 0) (hK : k.toNatClampNeg = K) (hk : ¬ k < 0) (hb1 : N * 4 ≤ 536870912) (hb2 : K * componentBytes .int ≤ 536870912) (hb3 : K ≤ 536870912) (hcl : cells + (1 + N) ≤ R.cells) (hsl : slots + (N + N * K) ≤ R.slots) (hd : decode cc pc = .ok (.multianewarray idx 2, 4)) (kk : ∀ (q : Nat) (h1 : PH), J p l e R s m args below meth c G nL qf (cells + 1 + N) (slots + N + N * K) h1 (pc + 4) lv (.ref q :: st) (f q h1)) : J p l e R s m args below meth c G nL qf cells slots h pc lv (.int k :: .int n :: st) (mnB N K h f) := by
  intro z hz H locs ls hh hS hl
  subst hN
  subst hK
  intro T hT Xs
  obtain ⟨vm₁, cA, comp, -, fA, fC, hO, -, X', step⟩ := Xs.multianewarray2F C.1 C.2.2.2.1 (C.2.2.2.2.1 _ hcw) (show (Cond.arrayOver (.array .int)).before args s = true from C.2.2.2.2.2.2.2.2.2.2.1) (C.2.2.2.2.1 _ wArrI) (g := F0 m pc ls (.int k :: .int n :: st)) rfl (by rw [C.2.1]; exact hd) rfl hn hk hb1 hb2 hb3 rfl rfl hcl hsl
  have e5 : G.2.1 5 = cA := Option.some.inj ((C.2.2.2.2.2.2.1.2 5 _ rfl).2.symm.trans fA)
  have e0 : G.2.1 0 = comp := Option.some.inj ((C.2.2.2.2.2.2.1.2 0 _ rfl).2.symm.trans fC)
  subst e5
  subst e0
  generalize hF : Jvm.Free.Multi.fill (T.setVm vm₁) (G.2.1 5) (G.2.1 0) n.toNatClampNeg k.toNatClampNeg (defaultValue .int) n.toNatClampNeg = F at X' step
  have hTh : (T.setVm vm₁).heap = H := hT
  obtain ⟨f1, f2, -, -⟩ := Jvm.Free.Multi.fill_facts (T.setVm vm₁) (G.2.1 5) (G.2.1 0) n.toNatClampNeg k.toNatClampNeg (defaultValue .int) n.toNatClampNeg
  rw [hF, hTh] at f1 f2
  have hold : ∀ x : Nat, x < H.size → F.heap[x]? = H[x]? := fun x hx => by
    have := Jvm.Free.Multi.fill_old (T.setVm vm₁) (G.2.1 5) (G.2.1 0) n.toNatClampNeg k.toNatClampNeg (defaultValue .int) (a := x) (by rw [hTh]; exact hx) n.toNatClampNeg
    rw [hF, hTh] at this
    exact this
  have hrow : ∀ j : Nat, j < n.toNatClampNeg → F.heap[H.size + 1 + j]? = some (vp_cell (G.2.1 0) (k.toNatClampNeg, .inl (fun _ => 0))) := fun j hj => by
    have := Jvm.Free.Multi.fill_inner (T.setVm vm₁) (G.2.1 5) (G.2.1 0) n.toNatClampNeg k.toNatClampNeg (defaultValue .int) n.toNatClampNeg j hj
    rw [hF, hTh] at this
    rw [this, vp_cell_i, ← arrV_new]
    rfl
  rw [vr_outer] at f2
  have h0 : H.size = h.1 := hh.1
  have hB := hh.2.1
  have hw := kk h.1 _ z hz F.heap locs ls ⟨by rw [f1, h0], by omega, fun a e9 ha => ?_⟩ ⟨Nat.le_trans hS.1 (by rw [f1]; omega), fun x h1 h2 => (hold x (Nat.lt_of_lt_of_le h1 hS.1)).trans (hS.2.1 x h1 h2), hS.2.2⟩ hl
  · obtain ⟨t, a1, b1⟩ := hw F rfl X'
    refine ⟨t, step t ?_, b1⟩
    rw [show T.heap.size = h.1 by rw [hT]; exact h0]
    exact a1
  · dsimp only at ha
    by_cases c1 : a = h.1
    · rw [if_pos c1] at ha
      cases ha
      subst c1
      refine ⟨hB, ?_⟩
      show F.heap[h.1]? = some (vp_cell _ _)
      rw [← h0, f2, vp_cell_q, h0]
    · rw [if_neg c1] at ha
      by_cases c2 : h.1 < a ∧ a < h.1 + 1 + n.toNatClampNeg
      · rw [if_pos c2] at ha
        cases ha
        refine ⟨by omega, ?_⟩
        show F.heap[a]? = some (vp_cell _ _)
        have := hrow (a - (H.size + 1)) (by omega)
        rw [show H.size + 1 + (a - (H.size + 1)) = a by omega] at this
        exact this
      · rw [if_neg c2] at ha
        have h3 := hh.2.2 a e9 ha
        exact ⟨h3.1, h3.2.kept (hold a h3.2.lt)⟩
theorem run_J {rest : List Value} {r : Option Value} {h1 : PH} {a9 : Array Value} {mc ms : Nat} {ls : Array Slot} {H : Heap} {locs : List Loc} {Q : State → Prop} (hr : va_Run p l e R s m args below meth c H locs cells slots mc ms (F0 m pc ls st) rest (QQ G r h1 a9) (gA G)) (hS : va_S (gA G) s.heap H locs)
    (kk : ∀ (H1 : Heap) (locs1 : List Loc), hp G h1 H1 → va_S (gA G) s.heap H1 locs1 → W p l e R s m args below meth c H1 locs1 (cells + mc) (slots + ms) Q (F0 m (pc + 3) ls (r.toList ++ rest))) : W p l e R s m args below meth c H locs cells slots Q (F0 m pc ls st) := by
  intro T hT X
  obtain ⟨v, st₀, t, T', L, h0, X', hL, e1, e2, ⟨hv, hb, hz, hk⟩, stp⟩ := hr T hT X
  cases hv
  rw [h0] at hz hk
  obtain ⟨t2, a1, b1⟩ := kk T'.heap (locs ++ L) (by rw [e1]; exact hb)
    ⟨Nat.le_trans hS.1 (by rw [e1]; exact hz), fun q h1 h2 => by rw [e1, hk q (Nat.lt_of_lt_of_le h1 hS.1) h2]; exact hS.2.1 q h1 h2, fun q hq => by
      rcases List.mem_append.mp hq with h | h
      · exact hS.2.2 q h
      · exact hL q h⟩ T' rfl X'
  exact ⟨t2, stp t2 a1, b1⟩
theorem blind_J {av : List Value} : FrameBlind (va_Pc av (fun U => kt G U ∧ hp G h U.heap)) := fun a U g mk q => ⟨q.1, kt_blind q.2.1, q.2.2⟩
theorem J_callV (C : Cx p s m args meth c G cc nL own) {β : Type} {rv : β → Option Value} {y : MethodName} {cy : ByteArray} {nY n idx : Nat} {ret : Option FieldType} {rm : Room} {As rest : List Value} {g : Option (β × PH)} {f : β → PH → Option (α × PH)} {a : Nat} (hM : ∀ z, g = some z → MC l G y cy nY ret rm (.ref a :: As) h (rv z.1) z.2) (M : MW y cy nY ret n) {ci : Nat} (hci : ∃ T N, vwCl[ci]? = some (y.cls, T, N) ∧ Cond.selects y.cls y y ∈ GW) (hl1 : Cond.methodLink own idx y ∈ GW) (hi1 : Cond.instanceMethod y ∈ GW) (hq : st = As.reverse ++ .ref a :: rest) (hd : decode cc pc = .ok (.invokevirtual idx, 3)) (hR : rm.frames + 1 ≤ R.frames ∧ 8 + (nY + 11) + rm.locals ≤ R.locals) (hn : As.length = n) (hst : (rest.map fun v => v.category).sum ≤ 8) (hf : cells + rm.cells ≤ R.cells ∧ slots + rm.slots ≤ R.slots) (kk : ∀ (r : β) (h1 : PH), J p l e R s m args below meth c G nL qf (cells + rm.cells) (slots + rm.slots) h1 (pc + 3) lv ((rv r).toList ++ rest) (f r h1)) : J p l e R s m args below meth c G nL qf cells slots h pc lv st (bn (chk ci a h) fun _ => bn2 g f) := by
  intro z hz H locs ls hh hS hl
  obtain ⟨u, hc, hz⟩ := bn_some hz
  obtain ⟨fs, hfs⟩ := chk_spec hc
  obtain ⟨x, h1, hg, hz⟩ := bn2_some hz
  have hM := hM _ hg
  obtain ⟨T, N, hcl, hcls⟩ := hci
  refine run_J (r := rv x) (h1 := h1) (va_runV (C := y.cls) (b := a) (As := As) (rest := rest) ⟨C.1, C.2.1, C.2.2.1, C.2.2.2.1, C.2.2.2.2.1⟩ hM ⟨callB_of n C.2.2.2.2.1 (MW_good M) rfl rfl rfl (C.2.2.2.2.1 _ M.2.1) (C.2.2.2.2.1 _ hl1) M.2.2 hR, C.2.2.2.2.1 _ hi1, C.2.2.2.2.1 _ hcls⟩ ⟨blind_J, va_recv C.2.2.2.2.2.2.1 (hp_one hh hfs) hcl (q0 := 0) rfl, fun U hU hW => ⟨rfl, kt_step C.2.2.2.2.2.2 hS hU hW, by rw [hU]; exact hh⟩⟩ rfl hn hl.1 hq (lv_room hst) hd hf) hS fun H1 locs1 hh1 hS1 => ?_
  exact kk x h1 z hz H1 locs1 ls hh1 hS1 hl
theorem J_callS (C : Cx p s m args meth c G cc nL own) {β : Type} {rv : β → Option Value} {y : MethodName} {cy : ByteArray} {nY n idx : Nat} {ret : Option FieldType} {rm : Room} {As rest : List Value} {g : Option (β × PH)} {f : β → PH → Option (α × PH)} (hM : ∀ z, g = some z → MC l G y cy nY ret rm As h (rv z.1) z.2) (M : MW y cy nY ret n) (hl1 : Cond.methodLink own idx y ∈ GW) (hi1 : Cond.static y ∈ GW) (hq : st = As.reverse ++ rest) (hd : decode cc pc = .ok (.invokestatic idx, 3)) (hR : rm.frames + 1 ≤ R.frames ∧ 8 + (nY + 11) + rm.locals ≤ R.locals) (hn : As.length = n) (hst : (rest.map fun v => v.category).sum ≤ 8) (hf : cells + rm.cells ≤ R.cells ∧ slots + rm.slots ≤ R.slots) (kk : ∀ (r : β) (h1 : PH), J p l e R s m args below meth c G nL qf (cells + rm.cells) (slots + rm.slots) h1 (pc + 3) lv ((rv r).toList ++ rest) (f r h1)) : J p l e R s m args below meth c G nL qf cells slots h pc lv st (bn2 g f) := by
  intro z hz H locs ls hh hS hl
  obtain ⟨x, h1, hg, hz⟩ := bn2_some hz
  have hM := hM _ hg
  refine run_J (r := rv x) (h1 := h1) (va_runS (As := As) (rest := rest) ⟨C.1, C.2.1, C.2.2.1, C.2.2.2.1, C.2.2.2.2.1⟩ hM ⟨callB_of n C.2.2.2.2.1 (MW_good M) rfl rfl rfl (C.2.2.2.2.1 _ M.2.1) (C.2.2.2.2.1 _ hl1) M.2.2 hR, C.2.2.2.2.1 _ hi1⟩ ⟨blind_J, fun U hU hW => ⟨rfl, kt_step C.2.2.2.2.2.2 hS hU hW, by rw [hU]; exact hh⟩⟩ rfl hn hl.1 hq (lv_room hst) hd hf) hS fun H1 locs1 hh1 hS1 => ?_
  exact kk x h1 z hz H1 locs1 ls hh1 hS1 hl
theorem J_callSN (C : Cx p s m args meth c G cc nL own) {β : Type} {rv : β → Option Value} {y : MethodName} {cy : ByteArray} {nY n idx : Nat} {ret : Option FieldType} {rm : Room} {As rest : List Value} {g : Option (β × PH)} {f : β → PH → Option (α × PH)} (hM : ∀ z, g = some z → MC l G y cy nY ret rm As h (rv z.1) z.2) (M : MW y cy nY ret n) (host : String) (hl1 : (own, idx, y, host) ∈ NW) (hi1 : Cond.static y ∈ GW) (hq : st = As.reverse ++ rest) (hd : decode cc pc = .ok (.invokestatic idx, 3)) (hR : rm.frames + 1 ≤ R.frames ∧ 8 + (nY + 11) + rm.locals ≤ R.locals) (hn : As.length = n) (hst : (rest.map fun v => v.category).sum ≤ 8) (hf : cells + rm.cells ≤ R.cells ∧ slots + rm.slots ≤ R.slots) (kk : ∀ (r : β) (h1 : PH), J p l e R s m args below meth c G nL qf (cells + rm.cells) (slots + rm.slots) h1 (pc + 3) lv ((rv r).toList ++ rest) (f r h1)) : J p l e R s m args below meth c G nL qf cells slots h pc lv st (bn2 g f) := by
  intro z hz H locs ls hh hS hl
  obtain ⟨x, h1, hg, hz⟩ := bn2_some hz
  have hM := hM _ hg
  refine run_J (r := rv x) (h1 := h1) (va_runSN (As := As) (rest := rest) ⟨C.1, C.2.1, C.2.2.1, C.2.2.2.1, C.2.2.2.2.1⟩ hM ⟨va_cnB n C.2.2.2.2.1 (MW_good M) rfl rfl rfl (C.2.2.2.2.2.2.2.1 _ hl1) (C.2.2.2.2.1 _ M.2.1) M.2.2 hR, C.2.2.2.2.1 _ hi1, trivial⟩ ⟨blind_J, fun U hU hW => ⟨rfl, kt_step C.2.2.2.2.2.2 hS hU hW, by rw [hU]; exact hh⟩⟩ rfl hn hl.1 hq (lv_room hst) hd hf) hS fun H1 locs1 hh1 hS1 => ?_
  exact kk x h1 z hz H1 locs1 ls hh1 hS1 hl
theorem J_callI (C : Cx p s m args meth c G cc nL own) {β : Type} {rv : β → Option Value} {y : MethodName} {cy : ByteArray} {nY n idx : Nat} {ret : Option FieldType} {rm : Room} {As rest : List Value} {g : Option (β × PH)} {f : β → PH → Option (α × PH)} {a : Nat} (hM : ∀ z, g = some z → MC l G y cy nY ret rm (.ref a :: As) h (rv z.1) z.2) (M : MW y cy nY ret n) (hnr : ret = none) (hy1 : y.name = "<init>") (hl1 : Cond.methodLink own idx y ∈ GW) (hi1 : Cond.instanceMethod y ∈ GW) (hq : st = As.reverse ++ .ref a :: rest) (hd : decode cc pc = .ok (.invokespecial idx, 3)) (hR : rm.frames + 1 ≤ R.frames ∧ 8 + (nY + 11) + rm.locals ≤ R.locals) (hn : As.length = n) (hst : (rest.map fun v => v.category).sum ≤ 8) (hf : cells + rm.cells ≤ R.cells ∧ slots + rm.slots ≤ R.slots) (kk : ∀ (r : β) (h1 : PH), J p l e R s m args below meth c G nL qf (cells + rm.cells) (slots + rm.slots) h1 (pc + 3) lv ((rv r).toList ++ rest) (f r h1)) : J p l e R s m args below meth c G nL qf cells slots h pc lv st (bn2 g f) := by
  intro z hz H locs ls hh hS hl
  subst hnr
  obtain ⟨x, h1, hg, hz⟩ := bn2_some hz
  have hM := hM _ hg
  refine run_J (r := rv x) (h1 := h1) (va_runI (b := a) (As := As) (rest := rest) ⟨C.1, C.2.1, C.2.2.1, C.2.2.2.1, C.2.2.2.2.1⟩ hM ⟨callB_of n C.2.2.2.2.1 (MW_good M) rfl rfl rfl (C.2.2.2.2.1 _ M.2.1) (C.2.2.2.2.1 _ hl1) M.2.2 hR, hy1, C.2.2.2.2.1 _ hi1⟩ ⟨blind_J, fun U hU hW => ⟨rfl, kt_step C.2.2.2.2.2.2 hS hU hW, by rw [hU]; exact hh⟩⟩ rfl hn hl.1 hq (lv_room hst) hd hf) hS fun H1 locs1 hh1 hS1 => ?_
  exact kk x h1 z hz H1 locs1 ls hh1 hS1 hl
theorem J_callIN (C : Cx p s m args meth c G cc nL own) {β : Type} {rv : β → Option Value} {y : MethodName} {cy : ByteArray} {nY n idx : Nat} {ret : Option FieldType} {rm : Room} {As rest : List Value} {g : Option (β × PH)} {f : β → PH → Option (α × PH)} {a : Nat} (hM : ∀ z, g = some z → MC l G y cy nY ret rm (.ref a :: As) h (rv z.1) z.2) (M : MW y cy nY ret n) (hnr : ret = none) (host : String) (hy1 : y.name = "<init>") (hl1 : (own, idx, y, host) ∈ NW) (hi1 : Cond.instanceMethod y ∈ GW) (hq : st = As.reverse ++ .ref a :: rest) (hd : decode cc pc = .ok (.invokespecial idx, 3)) (hR : rm.frames + 1 ≤ R.frames ∧ 8 + (nY + 11) + rm.locals ≤ R.locals) (hn : As.length = n) (hst : (rest.map fun v => v.category).sum ≤ 8) (hf : cells + rm.cells ≤ R.cells ∧ slots + rm.slots ≤ R.slots) (kk : ∀ (r : β) (h1 : PH), J p l e R s m args below meth c G nL qf (cells + rm.cells) (slots + rm.slots) h1 (pc + 3) lv ((rv r).toList ++ rest) (f r h1)) : J p l e R s m args below meth c G nL qf cells slots h pc lv st (bn2 g f) := by
  intro z hz H locs ls hh hS hl
  subst hnr
  obtain ⟨x, h1, hg, hz⟩ := bn2_some hz
  have hM := hM _ hg
  refine run_J (r := rv x) (h1 := h1) (va_runIN (b := a) (As := As) (rest := rest) ⟨C.1, C.2.1, C.2.2.1, C.2.2.2.1, C.2.2.2.2.1⟩ hM ⟨va_cnB n C.2.2.2.2.1 (MW_good M) rfl rfl rfl (C.2.2.2.2.2.2.2.1 _ hl1) (C.2.2.2.2.1 _ M.2.1) M.2.2 hR, hy1, C.2.2.2.2.1 _ hi1⟩ ⟨blind_J, fun U hU hW => ⟨rfl, kt_step C.2.2.2.2.2.2 hS hU hW, by rw [hU]; exact hh⟩⟩ rfl hn hl.1 hq (lv_room hst) hd hf) hS fun H1 locs1 hh1 hS1 => ?_
  exact kk x h1 z hz H1 locs1 ls hh1 hS1 hl
theorem J_callVI (C : Cx p s m args meth c G cc nL own) {y : MethodName} {cy : ByteArray} {nY n idx : Nat} {ret : Option FieldType} {rm : Room} {As rest : List Value} {g : Option (Int32 × PH)} {f : Int32 → PH → Option (α × PH)} {a : Nat} (hM : ∀ z, g = some z → MC l G y cy nY ret rm (.ref a :: As) h (rvI z.1) z.2) (M : MW y cy nY ret n) {ci : Nat} (hci : ∃ T N, vwCl[ci]? = some (y.cls, T, N) ∧ Cond.selects y.cls y y ∈ GW) (hl1 : Cond.methodLink own idx y ∈ GW) (hi1 : Cond.instanceMethod y ∈ GW) (hq : st = As.reverse ++ .ref a :: rest) (hd : decode cc pc = .ok (.invokevirtual idx, 3)) (hR : rm.frames + 1 ≤ R.frames ∧ 8 + (nY + 11) + rm.locals ≤ R.locals) (hn : As.length = n) (hst : (rest.map fun v => v.category).sum ≤ 8) (hf : cells + rm.cells ≤ R.cells ∧ slots + rm.slots ≤ R.slots) (kk : ∀ (r : Int32) (h1 : PH), J p l e R s m args below meth c G nL qf (cells + rm.cells) (slots + rm.slots) h1 (pc + 3) lv (.int r :: rest) (f r h1)) : J p l e R s m args below meth c G nL qf cells slots h pc lv st (bn (chk ci a h) fun _ => bn2 g f) := J_callV (rv := rvI) C hM M hci hl1 hi1 hq hd hR hn hst hf kk
theorem J_callVJ (C : Cx p s m args meth c G cc nL own) {y : MethodName} {cy : ByteArray} {nY n idx : Nat} {ret : Option FieldType} {rm : Room} {As rest : List Value} {g : Option (Int64 × PH)} {f : Int64 → PH → Option (α × PH)} {a : Nat} (hM : ∀ z, g = some z → MC l G y cy nY ret rm (.ref a :: As) h (rvJ z.1) z.2) (M : MW y cy nY ret n) {ci : Nat} (hci : ∃ T N, vwCl[ci]? = some (y.cls, T, N) ∧ Cond.selects y.cls y y ∈ GW) (hl1 : Cond.methodLink own idx y ∈ GW) (hi1 : Cond.instanceMethod y ∈ GW) (hq : st = As.reverse ++ .ref a :: rest) (hd : decode cc pc = .ok (.invokevirtual idx, 3)) (hR : rm.frames + 1 ≤ R.frames ∧ 8 + (nY + 11) + rm.locals ≤ R.locals) (hn : As.length = n) (hst : (rest.map fun v => v.category).sum ≤ 8) (hf : cells + rm.cells ≤ R.cells ∧ slots + rm.slots ≤ R.slots) (kk : ∀ (r : Int64) (h1 : PH), J p l e R s m args below meth c G nL qf (cells + rm.cells) (slots + rm.slots) h1 (pc + 3) lv (.long r :: rest) (f r h1)) : J p l e R s m args below meth c G nL qf cells slots h pc lv st (bn (chk ci a h) fun _ => bn2 g f) := J_callV (rv := rvJ) C hM M hci hl1 hi1 hq hd hR hn hst hf kk
theorem J_callVU (C : Cx p s m args meth c G cc nL own) {y : MethodName} {cy : ByteArray} {nY n idx : Nat} {ret : Option FieldType} {rm : Room} {As rest : List Value} {g : Option (Unit × PH)} {f : Unit → PH → Option (α × PH)} {a : Nat} (hM : ∀ z, g = some z → MC l G y cy nY ret rm (.ref a :: As) h (rvU z.1) z.2) (M : MW y cy nY ret n) {ci : Nat} (hci : ∃ T N, vwCl[ci]? = some (y.cls, T, N) ∧ Cond.selects y.cls y y ∈ GW) (hl1 : Cond.methodLink own idx y ∈ GW) (hi1 : Cond.instanceMethod y ∈ GW) (hq : st = As.reverse ++ .ref a :: rest) (hd : decode cc pc = .ok (.invokevirtual idx, 3)) (hR : rm.frames + 1 ≤ R.frames ∧ 8 + (nY + 11) + rm.locals ≤ R.locals) (hn : As.length = n) (hst : (rest.map fun v => v.category).sum ≤ 8) (hf : cells + rm.cells ≤ R.cells ∧ slots + rm.slots ≤ R.slots) (kk : ∀ (r : Unit) (h1 : PH), J p l e R s m args below meth c G nL qf (cells + rm.cells) (slots + rm.slots) h1 (pc + 3) lv rest (f r h1)) : J p l e R s m args below meth c G nL qf cells slots h pc lv st (bn (chk ci a h) fun _ => bn2 g f) := J_callV (rv := rvU) C hM M hci hl1 hi1 hq hd hR hn hst hf kk
theorem J_callVR (C : Cx p s m args meth c G cc nL own) {y : MethodName} {cy : ByteArray} {nY n idx : Nat} {ret : Option FieldType} {rm : Room} {As rest : List Value} {g : Option (Option Nat × PH)} {f : Option Nat → PH → Option (α × PH)} {a : Nat} (hM : ∀ z, g = some z → MC l G y cy nY ret rm (.ref a :: As) h (rvR z.1) z.2) (M : MW y cy nY ret n) {ci : Nat} (hci : ∃ T N, vwCl[ci]? = some (y.cls, T, N) ∧ Cond.selects y.cls y y ∈ GW) (hl1 : Cond.methodLink own idx y ∈ GW) (hi1 : Cond.instanceMethod y ∈ GW) (hq : st = As.reverse ++ .ref a :: rest) (hd : decode cc pc = .ok (.invokevirtual idx, 3)) (hR : rm.frames + 1 ≤ R.frames ∧ 8 + (nY + 11) + rm.locals ≤ R.locals) (hn : As.length = n) (hst : (rest.map fun v => v.category).sum ≤ 8) (hf : cells + rm.cells ≤ R.cells ∧ slots + rm.slots ≤ R.slots) (kk : ∀ (r : Option Nat) (h1 : PH), J p l e R s m args below meth c G nL qf (cells + rm.cells) (slots + rm.slots) h1 (pc + 3) lv (va_rf r :: rest) (f r h1)) : J p l e R s m args below meth c G nL qf cells slots h pc lv st (bn (chk ci a h) fun _ => bn2 g f) := J_callV (rv := rvR) C hM M hci hl1 hi1 hq hd hR hn hst hf kk
theorem J_callSI (C : Cx p s m args meth c G cc nL own) {y : MethodName} {cy : ByteArray} {nY n idx : Nat} {ret : Option FieldType} {rm : Room} {As rest : List Value} {g : Option (Int32 × PH)} {f : Int32 → PH → Option (α × PH)} (hM : ∀ z, g = some z → MC l G y cy nY ret rm As h (rvI z.1) z.2) (M : MW y cy nY ret n) (hl1 : Cond.methodLink own idx y ∈ GW) (hi1 : Cond.static y ∈ GW) (hq : st = As.reverse ++ rest) (hd : decode cc pc = .ok (.invokestatic idx, 3)) (hR : rm.frames + 1 ≤ R.frames ∧ 8 + (nY + 11) + rm.locals ≤ R.locals) (hn : As.length = n) (hst : (rest.map fun v => v.category).sum ≤ 8) (hf : cells + rm.cells ≤ R.cells ∧ slots + rm.slots ≤ R.slots) (kk : ∀ (r : Int32) (h1 : PH), J p l e R s m args below meth c G nL qf (cells + rm.cells) (slots + rm.slots) h1 (pc + 3) lv (.int r :: rest) (f r h1)) : J p l e R s m args below meth c G nL qf cells slots h pc lv st (bn2 g f) := J_callS (rv := rvI) C hM M hl1 hi1 hq hd hR hn hst hf kk
theorem J_callSJ (C : Cx p s m args meth c G cc nL own) {y : MethodName} {cy : ByteArray} {nY n idx : Nat} {ret : Option FieldType} {rm : Room} {As rest : List Value} {g : Option (Int64 × PH)} {f : Int64 → PH → Option (α × PH)} (hM : ∀ z, g = some z → MC l G y cy nY ret rm As h (rvJ z.1) z.2) (M : MW y cy nY ret n) (hl1 : Cond.methodLink own idx y ∈ GW) (hi1 : Cond.static y ∈ GW) (hq : st = As.reverse ++ rest) (hd : decode cc pc = .ok (.invokestatic idx, 3)) (hR : rm.frames + 1 ≤ R.frames ∧ 8 + (nY + 11) + rm.locals ≤ R.locals) (hn : As.length = n) (hst : (rest.map fun v => v.category).sum ≤ 8) (hf : cells + rm.cells ≤ R.cells ∧ slots + rm.slots ≤ R.slots) (kk : ∀ (r : Int64) (h1 : PH), J p l e R s m args below meth c G nL qf (cells + rm.cells) (slots + rm.slots) h1 (pc + 3) lv (.long r :: rest) (f r h1)) : J p l e R s m args below meth c G nL qf cells slots h pc lv st (bn2 g f) := J_callS (rv := rvJ) C hM M hl1 hi1 hq hd hR hn hst hf kk
theorem J_callSU (C : Cx p s m args meth c G cc nL own) {y : MethodName} {cy : ByteArray} {nY n idx : Nat} {ret : Option FieldType} {rm : Room} {As rest : List Value} {g : Option (Unit × PH)} {f : Unit → PH → Option (α × PH)} (hM : ∀ z, g = some z → MC l G y cy nY ret rm As h (rvU z.1) z.2) (M : MW y cy nY ret n) (hl1 : Cond.methodLink own idx y ∈ GW) (hi1 : Cond.static y ∈ GW) (hq : st = As.reverse ++ rest) (hd : decode cc pc = .ok (.invokestatic idx, 3)) (hR : rm.frames + 1 ≤ R.frames ∧ 8 + (nY + 11) + rm.locals ≤ R.locals) (hn : As.length = n) (hst : (rest.map fun v => v.category).sum ≤ 8) (hf : cells + rm.cells ≤ R.cells ∧ slots + rm.slots ≤ R.slots) (kk : ∀ (r : Unit) (h1 : PH), J p l e R s m args below meth c G nL qf (cells + rm.cells) (slots + rm.slots) h1 (pc + 3) lv rest (f r h1)) : J p l e R s m args below meth c G nL qf cells slots h pc lv st (bn2 g f) := J_callS (rv := rvU) C hM M hl1 hi1 hq hd hR hn hst hf kk
theorem J_callSR (C : Cx p s m args meth c G cc nL own) {y : MethodName} {cy : ByteArray} {nY n idx : Nat} {ret : Option FieldType} {rm : Room} {As rest : List Value} {g : Option (Option Nat × PH)} {f : Option Nat → PH → Option (α × PH)} (hM : ∀ z, g = some z → MC l G y cy nY ret rm As h (rvR z.1) z.2) (M : MW y cy nY ret n) (hl1 : Cond.methodLink own idx y ∈ GW) (hi1 : Cond.static y ∈ GW) (hq : st = As.reverse ++ rest) (hd : decode cc pc = .ok (.invokestatic idx, 3)) (hR : rm.frames + 1 ≤ R.frames ∧ 8 + (nY + 11) + rm.locals ≤ R.locals) (hn : As.length = n) (hst : (rest.map fun v => v.category).sum ≤ 8) (hf : cells + rm.cells ≤ R.cells ∧ slots + rm.slots ≤ R.slots) (kk : ∀ (r : Option Nat) (h1 : PH), J p l e R s m args below meth c G nL qf (cells + rm.cells) (slots + rm.slots) h1 (pc + 3) lv (va_rf r :: rest) (f r h1)) : J p l e R s m args below meth c G nL qf cells slots h pc lv st (bn2 g f) := J_callS (rv := rvR) C hM M hl1 hi1 hq hd hR hn hst hf kk
theorem J_callSNI (C : Cx p s m args meth c G cc nL own) {y : MethodName} {cy : ByteArray} {nY n idx : Nat} {ret : Option FieldType} {rm : Room} {As rest : List Value} {g : Option (Int32 × PH)} {f : Int32 → PH → Option (α × PH)} (hM : ∀ z, g = some z → MC l G y cy nY ret rm As h (rvI z.1) z.2) (M : MW y cy nY ret n) (host : String) (hl1 : (own, idx, y, host) ∈ NW) (hi1 : Cond.static y ∈ GW) (hq : st = As.reverse ++ rest) (hd : decode cc pc = .ok (.invokestatic idx, 3)) (hR : rm.frames + 1 ≤ R.frames ∧ 8 + (nY + 11) + rm.locals ≤ R.locals) (hn : As.length = n) (hst : (rest.map fun v => v.category).sum ≤ 8) (hf : cells + rm.cells ≤ R.cells ∧ slots + rm.slots ≤ R.slots) (kk : ∀ (r : Int32) (h1 : PH), J p l e R s m args below meth c G nL qf (cells + rm.cells) (slots + rm.slots) h1 (pc + 3) lv (.int r :: rest) (f r h1)) : J p l e R s m args below meth c G nL qf cells slots h pc lv st (bn2 g f) := J_callSN (rv := rvI) C hM M host hl1 hi1 hq hd hR hn hst hf kk
theorem J_callSNJ (C : Cx p s m args meth c G cc nL own) {y : MethodName} {cy : ByteArray} {nY n idx : Nat} {ret : Option FieldType} {rm : Room} {As rest : List Value} {g : Option (Int64 × PH)} {f : Int64 → PH → Option (α × PH)} (hM : ∀ z, g = some z → MC l G y cy nY ret rm As h (rvJ z.1) z.2) (M : MW y cy nY ret n) (host : String) (hl1 : (own, idx, y, host) ∈ NW) (hi1 : Cond.static y ∈ GW) (hq : st = As.reverse ++ rest) (hd : decode cc pc = .ok (.invokestatic idx, 3)) (hR : rm.frames + 1 ≤ R.frames ∧ 8 + (nY + 11) + rm.locals ≤ R.locals) (hn : As.length = n) (hst : (rest.map fun v => v.category).sum ≤ 8) (hf : cells + rm.cells ≤ R.cells ∧ slots + rm.slots ≤ R.slots) (kk : ∀ (r : Int64) (h1 : PH), J p l e R s m args below meth c G nL qf (cells + rm.cells) (slots + rm.slots) h1 (pc + 3) lv (.long r :: rest) (f r h1)) : J p l e R s m args below meth c G nL qf cells slots h pc lv st (bn2 g f) := J_callSN (rv := rvJ) C hM M host hl1 hi1 hq hd hR hn hst hf kk
theorem J_callSNU (C : Cx p s m args meth c G cc nL own) {y : MethodName} {cy : ByteArray} {nY n idx : Nat} {ret : Option FieldType} {rm : Room} {As rest : List Value} {g : Option (Unit × PH)} {f : Unit → PH → Option (α × PH)} (hM : ∀ z, g = some z → MC l G y cy nY ret rm As h (rvU z.1) z.2) (M : MW y cy nY ret n) (host : String) (hl1 : (own, idx, y, host) ∈ NW) (hi1 : Cond.static y ∈ GW) (hq : st = As.reverse ++ rest) (hd : decode cc pc = .ok (.invokestatic idx, 3)) (hR : rm.frames + 1 ≤ R.frames ∧ 8 + (nY + 11) + rm.locals ≤ R.locals) (hn : As.length = n) (hst : (rest.map fun v => v.category).sum ≤ 8) (hf : cells + rm.cells ≤ R.cells ∧ slots + rm.slots ≤ R.slots) (kk : ∀ (r : Unit) (h1 : PH), J p l e R s m args below meth c G nL qf (cells + rm.cells) (slots + rm.slots) h1 (pc + 3) lv rest (f r h1)) : J p l e R s m args below meth c G nL qf cells slots h pc lv st (bn2 g f) := J_callSN (rv := rvU) C hM M host hl1 hi1 hq hd hR hn hst hf kk
theorem J_callSNR (C : Cx p s m args meth c G cc nL own) {y : MethodName} {cy : ByteArray} {nY n idx : Nat} {ret : Option FieldType} {rm : Room} {As rest : List Value} {g : Option (Option Nat × PH)} {f : Option Nat → PH → Option (α × PH)} (hM : ∀ z, g = some z → MC l G y cy nY ret rm As h (rvR z.1) z.2) (M : MW y cy nY ret n) (host : String) (hl1 : (own, idx, y, host) ∈ NW) (hi1 : Cond.static y ∈ GW) (hq : st = As.reverse ++ rest) (hd : decode cc pc = .ok (.invokestatic idx, 3)) (hR : rm.frames + 1 ≤ R.frames ∧ 8 + (nY + 11) + rm.locals ≤ R.locals) (hn : As.length = n) (hst : (rest.map fun v => v.category).sum ≤ 8) (hf : cells + rm.cells ≤ R.cells ∧ slots + rm.slots ≤ R.slots) (kk : ∀ (r : Option Nat) (h1 : PH), J p l e R s m args below meth c G nL qf (cells + rm.cells) (slots + rm.slots) h1 (pc + 3) lv (va_rf r :: rest) (f r h1)) : J p l e R s m args below meth c G nL qf cells slots h pc lv st (bn2 g f) := J_callSN (rv := rvR) C hM M host hl1 hi1 hq hd hR hn hst hf kk
theorem J_callIU (C : Cx p s m args meth c G cc nL own) {y : MethodName} {cy : ByteArray} {nY n idx : Nat} {ret : Option FieldType} {rm : Room} {As rest : List Value} {g : Option (Unit × PH)} {f : Unit → PH → Option (α × PH)} {a : Nat} (hM : ∀ z, g = some z → MC l G y cy nY ret rm (.ref a :: As) h (rvU z.1) z.2) (M : MW y cy nY ret n) (hnr : ret = none) (hy1 : y.name = "<init>") (hl1 : Cond.methodLink own idx y ∈ GW) (hi1 : Cond.instanceMethod y ∈ GW) (hq : st = As.reverse ++ .ref a :: rest) (hd : decode cc pc = .ok (.invokespecial idx, 3)) (hR : rm.frames + 1 ≤ R.frames ∧ 8 + (nY + 11) + rm.locals ≤ R.locals) (hn : As.length = n) (hst : (rest.map fun v => v.category).sum ≤ 8) (hf : cells + rm.cells ≤ R.cells ∧ slots + rm.slots ≤ R.slots) (kk : ∀ (r : Unit) (h1 : PH), J p l e R s m args below meth c G nL qf (cells + rm.cells) (slots + rm.slots) h1 (pc + 3) lv rest (f r h1)) : J p l e R s m args below meth c G nL qf cells slots h pc lv st (bn2 g f) := J_callI (rv := rvU) C hM M hnr hy1 hl1 hi1 hq hd hR hn hst hf kk
theorem J_callINU (C : Cx p s m args meth c G cc nL own) {y : MethodName} {cy : ByteArray} {nY n idx : Nat} {ret : Option FieldType} {rm : Room} {As rest : List Value} {g : Option (Unit × PH)} {f : Unit → PH → Option (α × PH)} {a : Nat} (hM : ∀ z, g = some z → MC l G y cy nY ret rm (.ref a :: As) h (rvU z.1) z.2) (M : MW y cy nY ret n) (hnr : ret = none) (host : String) (hy1 : y.name = "<init>") (hl1 : (own, idx, y, host) ∈ NW) (hi1 : Cond.instanceMethod y ∈ GW) (hq : st = As.reverse ++ .ref a :: rest) (hd : decode cc pc = .ok (.invokespecial idx, 3)) (hR : rm.frames + 1 ≤ R.frames ∧ 8 + (nY + 11) + rm.locals ≤ R.locals) (hn : As.length = n) (hst : (rest.map fun v => v.category).sum ≤ 8) (hf : cells + rm.cells ≤ R.cells ∧ slots + rm.slots ≤ R.slots) (kk : ∀ (r : Unit) (h1 : PH), J p l e R s m args below meth c G nL qf (cells + rm.cells) (slots + rm.slots) h1 (pc + 3) lv rest (f r h1)) : J p l e R s m args below meth c G nL qf cells slots h pc lv st (bn2 g f) := J_callIN (rv := rvU) C hM M hnr host hy1 hl1 hi1 hq hd hR hn hst hf kk
theorem J_obj (C : Cx p s m args meth c G cc nL own) {idx a : Nat} (hl1 : Cond.methodLink own idx objectInit ∈ GW) (hi1 : Cond.instanceMethod objectInit ∈ GW) (hc1 : Cond.code objectInit ⟨#[0xb1]⟩ 1 none ∈ GW) (hd : decode cc pc = .ok (.invokespecial idx, 3)) (hfr : 1 ≤ R.frames) (hlo : (st.map fun v => v.category).sum + 12 ≤ R.locals) (k : J p l e R s m args below meth c G nL qf cells slots h (pc + 3) lv st b) : J p l e R s m args below meth c G nL qf cells slots h pc lv (.ref a :: st) b := by
  intro z hz H locs ls hh hS hl
  refine W.objInit C.1 C.2.1 C.2.2.2.1 (C.2.2.2.2.1 _ hl1) (C.2.2.2.2.1 _ hi1) (C.2.2.2.2.1 _ hc1) rfl (by rw [C.2.2.1]; exact hl.1) rfl hd hfr (by show 2 * 0 + _ + 12 ≤ _; omega) ?_
  exact k z hz H locs ls hh hS hl
theorem J_iret (C : Cx p s m args meth c G cc nL own) {v : Int32} (hr : meth.sig.returnType = some .int) (hd : decode cc pc = .ok (.ireturn, 1)) : J p l e R s m args below meth c G nL (qM below args s rvI G cells slots) cells slots h pc lv [.int v] (some (v, h)) := by
  intro z hz H locs ls hh hS hl
  cases hz
  exact W.iret C.1 C.2.1 hr (fun t ht hW => ⟨rfl, by rw [ht]; exact hh, hS.F ht⟩) hS.2.2 hd C.2.2.2.2.2.1
theorem J_zret (C : Cx p s m args meth c G cc nL own) {v : Int32} {ty : FieldType} (hr : meth.sig.returnType = some ty) (hn : narrow ty (.int v) = .int v) (hd : decode cc pc = .ok (.ireturn, 1)) : J p l e R s m args below meth c G nL (qM below args s rvI G cells slots) cells slots h pc lv [.int v] (some (v, h)) := by
  intro z hz H locs ls hh hS hl
  cases hz
  exact W.zret C.1 C.2.1 hr hn (fun t ht hW => ⟨rfl, by rw [ht]; exact hh, hS.F ht⟩) hS.2.2 hd C.2.2.2.2.2.1
theorem J_zretC (C : Cx p s m args meth c G cc nL own) {v : Int32} (hr : meth.sig.returnType = some .boolean) (hd : decode cc pc = .ok (.ireturn, 1)) : J p l e R s m args below meth c G nL (qM below args s rvI G cells slots) cells slots h pc lv [.int v] (if v = 0 ∨ v = 1 then some (v, h) else none) := by
  intro z hz H locs ls hh hS hl
  by_cases q : v = 0 ∨ v = 1
  · rw [if_pos q] at hz
    exact J_zret C hr (by rcases q with rfl | rfl <;> rfl) hd z hz H locs ls hh hS hl
  · rw [if_neg q] at hz
    cases hz
theorem J_lret (C : Cx p s m args meth c G cc nL own) {v : Int64} (hr : meth.sig.returnType = some .long) (hd : decode cc pc = .ok (.lreturn, 1)) : J p l e R s m args below meth c G nL (qM below args s rvJ G cells slots) cells slots h pc lv [.long v] (some (v, h)) := by
  intro z hz H locs ls hh hS hl
  cases hz
  exact W.lret C.1 C.2.1 hr (fun t ht hW => ⟨rfl, by rw [ht]; exact hh, hS.F ht⟩) hS.2.2 hd C.2.2.2.2.2.1
theorem J_vret (C : Cx p s m args meth c G cc nL own) (hr : meth.sig.returnType = none) (hd : decode cc pc = .ok (.return_, 1)) : J p l e R s m args below meth c G nL (qM below args s rvU G cells slots) cells slots h pc lv [] (some ((), h)) := by
  intro z hz H locs ls hh hS hl
  cases hz
  exact W.vret C.1 C.2.1 hr (fun t ht hW => ⟨rfl, by rw [ht]; exact hh, hS.F ht⟩) hS.2.2 hd C.2.2.2.2.2.1
theorem J_aret (C : Cx p s m args meth c G cc nL own) {v : Option Nat} {Cn : String} (hr : meth.sig.returnType = some (.object Cn)) (hd : decode cc pc = .ok (.areturn, 1)) : J p l e R s m args below meth c G nL (qM below args s rvR G cells slots) cells slots h pc lv [va_rf v] (some (v, h)) := by
  intro z hz H locs ls hh hS hl
  cases hz
  exact W.aret C.1 C.2.1 hr (Or.inl ⟨_, rfl⟩) (by cases v with | none => exact Or.inl rfl | some a => exact Or.inr ⟨a, rfl⟩) (fun t ht hW => ⟨rfl, by rw [ht]; exact hh, hS.F ht⟩) hS.2.2 hd C.2.2.2.2.2.1
end
end
section
def schk (w : Nat) : Option Unit := if w < 4 then some () else none
def slenI (w : Nat) : Int32 := Int32.ofNat (slens.getD w 0)
def sbyt (w : Nat) (i : Int32) : Option Int32 := if w < 4 ∧ ¬ (i < 0 ∨ slens.getD w 0 ≤ i.toNatClampNeg) then some ((sbyts.getD w []).getD i.toNatClampNeg 0) else none
theorem schk_spec {w : Nat} {u : Unit} (h : schk w = some u) : w < 4 := by
  unfold schk at h
  split at h
  · assumption
  · cases h
theorem sbyt_spec {w : Nat} {i x : Int32} (h : sbyt w i = some x) : w < 4 ∧ vp_in i (slens.getD w 0) ∧ x = (sbyts.getD w []).getD i.toNatClampNeg 0 := by
  unfold sbyt at h
  split at h
  · next e => cases h; exact ⟨e.1, e.2, rfl⟩
  · cases h

theorem wSval : Cond.fieldLink RJ0 9 "java/lang/String" "value" "[B" ∈ GW := gw5 (List.mem_of_getElem? (i := 84) (by decide +kernel)) rfl
theorem wScod : Cond.fieldLink RJ0 15 "java/lang/String" "coder" "B" ∈ GW := gw5 (List.mem_of_getElem? (i := 85) (by decide +kernel)) rfl
theorem wScmp : Cond.fieldLink RJ0 38 "java/lang/String" "COMPACT_STRINGS" "Z" ∈ GW := gw2 (List.mem_of_getElem? (i := 219) (by decide +kernel)) rfl
theorem wSfor : Cond.fieldLink RJ0 1053 "jdk/internal/util/Preconditions" "SIOOBE_FORMATTER" "Ljava/util/function/BiFunction;" ∈ GW := gw2 (List.mem_of_getElem? (i := 235) (by decide +kernel)) rfl
section
variable {p : Program} {l : Launch} {e : Env} {R : Room} {s : State} {m : MethodId} {args : Array Value} {below : List Frame} {meth : Method} {c : Code} {G : GX} {cc : ByteArray} {nL : Nat} {own : String} {α : Type} {qf : α × PH → State → Prop} {cells slots : Nat} {h : PH} {pc : Nat} {lv : List (Nat × Value)} {st : List Value} {b : Option (α × PH)}
theorem J_ldcS0 (C : Cx p s m args meth c G cc nL "GoldLeaves$ColourReader") (hd : decode cc pc = .ok (.ldc 91, 2)) (k : J p l e R s m args below meth c G nL qf cells slots h (pc + 2) lv (.ref (G.2.2.2.1 0) :: st) b) : J p l e R s m args below meth c G nL qf cells slots h pc lv st b := fun z hz H locs ls hh hS hl => va_ldcS C.1 C.2.1 C.2.2.2.1 C.2.2.2.2.2.2.2.2.2.2.2.1.1 hd (k z hz H locs ls hh hS hl)
theorem J_ldcS1 (C : Cx p s m args meth c G cc nL "GoldLeaves$ColourReader") (hd : decode cc pc = .ok (.ldc 93, 2)) (k : J p l e R s m args below meth c G nL qf cells slots h (pc + 2) lv (.ref (G.2.2.2.1 1) :: st) b) : J p l e R s m args below meth c G nL qf cells slots h pc lv st b := fun z hz H locs ls hh hS hl => va_ldcS C.1 C.2.1 C.2.2.2.1 C.2.2.2.2.2.2.2.2.2.2.2.1.2.1 hd (k z hz H locs ls hh hS hl)
theorem J_ldcS2 (C : Cx p s m args meth c G cc nL "GoldLeaves$ColourReader") (hd : decode cc pc = .ok (.ldc 95, 2)) (k : J p l e R s m args below meth c G nL qf cells slots h (pc + 2) lv (.ref (G.2.2.2.1 2) :: st) b) : J p l e R s m args below meth c G nL qf cells slots h pc lv st b := fun z hz H locs ls hh hS hl => va_ldcS C.1 C.2.1 C.2.2.2.1 C.2.2.2.2.2.2.2.2.2.2.2.1.2.2.1 hd (k z hz H locs ls hh hS hl)
theorem J_ldcS3 (C : Cx p s m args meth c G cc nL "GoldLeaves$ColourReader") (hd : decode cc pc = .ok (.ldc 81, 2)) (k : J p l e R s m args below meth c G nL qf cells slots h (pc + 2) lv (.ref (G.2.2.2.1 3) :: st) b) : J p l e R s m args below meth c G nL qf cells slots h pc lv st b := fun z hz H locs ls hh hS hl => va_ldcS C.1 C.2.1 C.2.2.2.1 C.2.2.2.2.2.2.2.2.2.2.2.1.2.2.2 hd (k z hz H locs ls hh hS hl)
theorem J_gsC (C : Cx p s m args meth c G cc nL RJ0) (hd : decode cc pc = .ok (.getstatic 38, 3)) (k : J p l e R s m args below meth c G nL qf cells slots h (pc + 3) lv (.int 1 :: st) b) : J p l e R s m args below meth c G nL qf cells slots h pc lv st b := by
  intro z hz H locs ls hh hS hl
  exact va_gets C.1 C.2.1 C.2.2.2.2.2.2.2.2.2.2.2.2.2.1 hS C.2.2.2.1 (C.2.2.2.2.1 _ wScmp) (fun _ h9 => h9) hd (k z hz H locs ls hh hS hl)
theorem J_gsQ (C : Cx p s m args meth c G cc nL RJ0) (hd : decode cc pc = .ok (.getstatic 1053, 3)) (k : ∀ o : Option Nat, J p l e R s m args below meth c G nL qf cells slots h (pc + 3) lv (va_rf o :: st) b) : J p l e R s m args below meth c G nL qf cells slots h pc lv st b := by
  intro z hz H locs ls hh hS hl
  rcases C.2.2.2.2.2.2.2.2.2.2.2.2.2.2 with h9 | ⟨t, h9⟩
  · exact va_gets C.1 C.2.1 h9 hS C.2.2.2.1 (C.2.2.2.2.1 _ wSfor) (fun _ h9 => h9) hd (k none z hz H locs ls hh hS hl)
  · exact va_gets C.1 C.2.1 h9 hS C.2.2.2.1 (C.2.2.2.2.1 _ wSfor) (fun _ h9 => h9) hd (k (some t) z hz H locs ls hh hS hl)
theorem J_sgetV (C : Cx p s m args meth c G cc nL RJ0) {w : Nat} (hd : decode cc pc = .ok (.getfield 9, 3)) (k : J p l e R s m args below meth c G nL qf cells slots h (pc + 3) lv (.ref (G.2.2.2.2 w) :: st) b) : J p l e R s m args below meth c G nL qf cells slots h pc lv (.ref (G.2.2.2.1 w) :: st) (bn (schk w) fun _ => b) := by
  intro z hz H locs ls hh hS hl
  obtain ⟨u, hw, hz⟩ := bn_some hz
  exact vk_getf C.1 C.2.1 (C.2.2.2.2.2.2.2.2.2.2.2.2.1.1 w (schk_spec hw)).2.2.1 hS C.2.2.2.1 (C.2.2.2.2.1 _ wSval) (fun _ h9 => h9) hd (k z hz H locs ls hh hS hl)
theorem J_sgetC (C : Cx p s m args meth c G cc nL RJ0) {w : Nat} (hd : decode cc pc = .ok (.getfield 15, 3)) (k : J p l e R s m args below meth c G nL qf cells slots h (pc + 3) lv (.int 0 :: st) b) : J p l e R s m args below meth c G nL qf cells slots h pc lv (.ref (G.2.2.2.1 w) :: st) (bn (schk w) fun _ => b) := by
  intro z hz H locs ls hh hS hl
  obtain ⟨u, hw, hz⟩ := bn_some hz
  exact vk_getf C.1 C.2.1 (C.2.2.2.2.2.2.2.2.2.2.2.2.1.1 w (schk_spec hw)).2.1 hS C.2.2.2.1 (C.2.2.2.2.1 _ wScod) (fun _ h9 => h9) hd (k z hz H locs ls hh hS hl)
theorem J_salen (C : Cx p s m args meth c G cc nL own) {w : Nat} (hd : decode cc pc = .ok (.arraylength, 1)) (k : J p l e R s m args below meth c G nL qf cells slots h (pc + 1) lv (.int (slenI w) :: st) b) : J p l e R s m args below meth c G nL qf cells slots h pc lv (.ref (G.2.2.2.2 w) :: st) (bn (schk w) fun _ => b) := by
  intro z hz H locs ls hh hS hl
  obtain ⟨u, hw, hz⟩ := bn_some hz
  exact va_tlen C.1 C.2.1 (C.2.2.2.2.2.2.2.2.2.2.2.2.1.1 w (schk_spec hw)).2.2.2 hS rfl hd (k z hz H locs ls hh hS hl)
theorem J_sbald (C : Cx p s m args meth c G cc nL own) {w : Nat} {i : Int32} {f : Int32 → Option (α × PH)} (hd : decode cc pc = .ok (.baload, 1)) (k : ∀ x : Int32, J p l e R s m args below meth c G nL qf cells slots h (pc + 1) lv (.int x :: st) (f x)) : J p l e R s m args below meth c G nL qf cells slots h pc lv (.int i :: .ref (G.2.2.2.2 w) :: st) (bn (sbyt w i) f) := by
  intro z hz H locs ls hh hS hl
  obtain ⟨x, hw, hz⟩ := bn_some hz
  obtain ⟨h1, h2, rfl⟩ := sbyt_spec hw
  exact va_tb C.1 C.2.1 (C.2.2.2.2.2.2.2.2.2.2.2.2.1.1 w h1).2.2.2 hS h2 rfl hd (k _ z hz H locs ls hh hS hl)
theorem J_i2c (C : Cx p s m args meth c G cc nL own) {x : Int32} (hd : decode cc pc = .ok (.i2c, 1)) (k : J p l e R s m args below meth c G nL qf cells slots h (pc + 1) lv (.int (x.toUInt32 % 65536).toInt32 :: st) b) : J p l e R s m args below meth c G nL qf cells slots h pc lv (.int x :: st) b := fun z hz H locs ls hh hS hl => lv_i2c C.1 C.2.1 hd rfl (k z hz H locs ls hh hS hl)
theorem J_pop (C : Cx p s m args meth c G cc nL own) {va : Value} (hd : decode cc pc = .ok (.pop, 1)) (hva : va.category = 1) (k : J p l e R s m args below meth c G nL qf cells slots h (pc + 1) lv st b) : J p l e R s m args below meth c G nL qf cells slots h pc lv (va :: st) b := fun z hz H locs ls hh hS hl => lv_pop C.1 C.2.1 hd hva (k z hz H locs ls hh hS hl)
theorem J_cretC (C : Cx p s m args meth c G cc nL own) {v : Int32} (hr : meth.sig.returnType = some .char) (hd : decode cc pc = .ok (.ireturn, 1)) : J p l e R s m args below meth c G nL (qM below args s rvI G cells slots) cells slots h pc lv [.int v] (if (v.toUInt32 % 65536).toInt32 = v then some (v, h) else none) := by
  intro z hz H locs ls hh hS hl
  by_cases q : (v.toUInt32 % 65536).toInt32 = v
  · rw [if_pos q] at hz
    exact J_zret C hr (by rw [← q]; exact pk_nc _) hd z hz H locs ls hh hS hl
  · rw [if_neg q] at hz
    cases hz
theorem J_callVS (C : Cx p s m args meth c G cc nL own) {y : MethodName} {cy : ByteArray} {nY n idx : Nat} {ret : Option FieldType} {rm : Room} {As rest : List Value} {g : Option (Int32 × PH)} {f : Int32 → PH → Option (α × PH)} {w : Nat} (hM : ∀ z, g = some z → MC l G y cy nY ret rm (.ref (G.2.2.2.1 w) :: As) h (rvI z.1) z.2) (M : MW y cy nY ret n) (hcy : y.cls = "java/lang/String") (hse : Cond.selects "java/lang/String" y y ∈ GW) (hl1 : Cond.methodLink own idx y ∈ GW) (hi1 : Cond.instanceMethod y ∈ GW) (hq : st = As.reverse ++ .ref (G.2.2.2.1 w) :: rest) (hd : decode cc pc = .ok (.invokevirtual idx, 3)) (hR : rm.frames + 1 ≤ R.frames ∧ 8 + (nY + 11) + rm.locals ≤ R.locals) (hn : As.length = n) (hst : (rest.map fun v => v.category).sum ≤ 8) (hf : cells + rm.cells ≤ R.cells ∧ slots + rm.slots ≤ R.slots) (kk : ∀ (r : Int32) (h1 : PH), J p l e R s m args below meth c G nL qf (cells + rm.cells) (slots + rm.slots) h1 (pc + 3) lv (.int r :: rest) (f r h1)) : J p l e R s m args below meth c G nL qf cells slots h pc lv st (bn (schk w) fun _ => bn2 g f) := by
  intro z hz H locs ls hh hS hl
  obtain ⟨u, hw, hz⟩ := bn_some hz
  obtain ⟨x, h1, hg, hz⟩ := bn2_some hz
  have hM := hM _ hg
  refine run_J (r := rvI x) (h1 := h1) (va_runV (C := "java/lang/String") (b := G.2.2.2.1 w) (As := As) (rest := rest) ⟨C.1, C.2.1, C.2.2.1, C.2.2.2.1, C.2.2.2.2.1⟩ hM ⟨callB_of n C.2.2.2.2.1 (MW_good M) rfl rfl rfl (C.2.2.2.2.1 _ M.2.1) (C.2.2.2.2.1 _ hl1) M.2.2 hR, C.2.2.2.2.1 _ hi1, C.2.2.2.2.1 _ hse⟩ ⟨blind_J, vk_recv C.2.2.2.2.2.2.2.2.2.2.2.2.1 (schk_spec hw) hS, fun U hU hW => ⟨rfl, kt_step C.2.2.2.2.2.2 hS hU hW, by rw [hU]; exact hh⟩⟩ rfl hn hl.1 hq (lv_room hst) hd hf) hS fun H1 locs1 hh1 hS1 => ?_
  exact kk x h1 z hz H1 locs1 ls hh1 hS1 hl
end
end
