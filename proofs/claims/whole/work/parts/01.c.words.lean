/-- the words that every method's head asks for: those of the tables that a callee may keep -/
def GW : List Cond := lw_tbl.filter goodWord
theorem GW_in : ∀ w ∈ GW, w ∈ lw_tbl := fun w h => (List.mem_filter.mp h).1
theorem GW_good : ∀ w ∈ GW, goodWord w = true := fun w h => (List.mem_filter.mp h).2
theorem gw0 {w : Cond} (h : w ∈ k2_sels lw_privs) (g : goodWord w = true) : w ∈ GW := List.mem_filter.mpr ⟨List.mem_append_left _ h, g⟩
theorem gw1 {w : Cond} (h : w ∈ tables_1_1) (g : goodWord w = true) : w ∈ GW := List.mem_filter.mpr ⟨List.mem_append_right _ (show w ∈ tables_1_1 ++ (tables_1_2 ++ (tables_1_3 ++ (tables_1_4 ++ tables_1_5))) from List.mem_append_left _ h), g⟩
theorem gw2 {w : Cond} (h : w ∈ tables_1_2) (g : goodWord w = true) : w ∈ GW := List.mem_filter.mpr ⟨List.mem_append_right _ (show w ∈ tables_1_1 ++ (tables_1_2 ++ (tables_1_3 ++ (tables_1_4 ++ tables_1_5))) from List.mem_append_right _ (List.mem_append_left _ h)), g⟩
theorem gw3 {w : Cond} (h : w ∈ tables_1_3) (g : goodWord w = true) : w ∈ GW := List.mem_filter.mpr ⟨List.mem_append_right _ (show w ∈ tables_1_1 ++ (tables_1_2 ++ (tables_1_3 ++ (tables_1_4 ++ tables_1_5))) from List.mem_append_right _ (List.mem_append_right _ (List.mem_append_left _ h))), g⟩
theorem gw4 {w : Cond} (h : w ∈ tables_1_4) (g : goodWord w = true) : w ∈ GW := List.mem_filter.mpr ⟨List.mem_append_right _ (show w ∈ tables_1_1 ++ (tables_1_2 ++ (tables_1_3 ++ (tables_1_4 ++ tables_1_5))) from List.mem_append_right _ (List.mem_append_right _ (List.mem_append_right _ (List.mem_append_left _ h)))), g⟩
theorem gw5 {w : Cond} (h : w ∈ tables_1_5) (g : goodWord w = true) : w ∈ GW := List.mem_filter.mpr ⟨List.mem_append_right _ (show w ∈ tables_1_1 ++ (tables_1_2 ++ (tables_1_3 ++ (tables_1_4 ++ tables_1_5))) from List.mem_append_right _ (List.mem_append_right _ (List.mem_append_right _ (List.mem_append_right _ (h))))), g⟩
