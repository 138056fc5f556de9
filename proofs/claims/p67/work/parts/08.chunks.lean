theorem tq_0 {w : Cond} (h : w ∈ k2_sels lw_privs) : w ∈ lw_tbl := List.mem_append_left _ h
theorem tq_1 {w : Cond} (h : w ∈ tables_1_1) : w ∈ lw_tbl := List.mem_append_right _ (show w ∈ tables_1 from (List.mem_append_left _ h))
theorem tq_2 {w : Cond} (h : w ∈ tables_1_2) : w ∈ lw_tbl := List.mem_append_right _ (show w ∈ tables_1 from (List.mem_append_right _ (List.mem_append_left _ h)))
theorem tq_3 {w : Cond} (h : w ∈ tables_1_3) : w ∈ lw_tbl := List.mem_append_right _ (show w ∈ tables_1 from (List.mem_append_right _ (List.mem_append_right _ (List.mem_append_left _ h))))
theorem tq_4 {w : Cond} (h : w ∈ tables_1_4) : w ∈ lw_tbl := List.mem_append_right _ (show w ∈ tables_1 from (List.mem_append_right _ (List.mem_append_right _ (List.mem_append_right _ (List.mem_append_left _ h)))))
theorem tq_5 {w : Cond} (h : w ∈ tables_1_5) : w ∈ lw_tbl := List.mem_append_right _ (show w ∈ tables_1 from (List.mem_append_right _ (List.mem_append_right _ (List.mem_append_right _ (List.mem_append_right _ (List.mem_append_left _ h))))))
theorem tq_6 {w : Cond} (h : w ∈ tables_1_6) : w ∈ lw_tbl := List.mem_append_right _ (show w ∈ tables_1 from (List.mem_append_right _ (List.mem_append_right _ (List.mem_append_right _ (List.mem_append_right _ (List.mem_append_right _ h))))))
theorem tg_0 {w : Cond} (i : Nat) (h : (k2_sels lw_privs)[i]? = some w) (g : goodWord w = true) : w ∈ tG := tG_mem (tq_0 (List.mem_of_getElem? h)) g
theorem tn_0 {w : Cond} (i : Nat) (h : (k2_sels lw_privs)[i]? = some w) (g : nWord w = true) : w ∈ tN := List.mem_filter.mpr ⟨tq_0 (List.mem_of_getElem? h), g⟩
theorem tg_1 {w : Cond} (i : Nat) (h : tables_1_1[i]? = some w) (g : goodWord w = true) : w ∈ tG := tG_mem (tq_1 (List.mem_of_getElem? h)) g
theorem tn_1 {w : Cond} (i : Nat) (h : tables_1_1[i]? = some w) (g : nWord w = true) : w ∈ tN := List.mem_filter.mpr ⟨tq_1 (List.mem_of_getElem? h), g⟩
theorem tg_2 {w : Cond} (i : Nat) (h : tables_1_2[i]? = some w) (g : goodWord w = true) : w ∈ tG := tG_mem (tq_2 (List.mem_of_getElem? h)) g
theorem tn_2 {w : Cond} (i : Nat) (h : tables_1_2[i]? = some w) (g : nWord w = true) : w ∈ tN := List.mem_filter.mpr ⟨tq_2 (List.mem_of_getElem? h), g⟩
theorem tg_3 {w : Cond} (i : Nat) (h : tables_1_3[i]? = some w) (g : goodWord w = true) : w ∈ tG := tG_mem (tq_3 (List.mem_of_getElem? h)) g
theorem tn_3 {w : Cond} (i : Nat) (h : tables_1_3[i]? = some w) (g : nWord w = true) : w ∈ tN := List.mem_filter.mpr ⟨tq_3 (List.mem_of_getElem? h), g⟩
theorem tg_4 {w : Cond} (i : Nat) (h : tables_1_4[i]? = some w) (g : goodWord w = true) : w ∈ tG := tG_mem (tq_4 (List.mem_of_getElem? h)) g
theorem tn_4 {w : Cond} (i : Nat) (h : tables_1_4[i]? = some w) (g : nWord w = true) : w ∈ tN := List.mem_filter.mpr ⟨tq_4 (List.mem_of_getElem? h), g⟩
theorem tg_5 {w : Cond} (i : Nat) (h : tables_1_5[i]? = some w) (g : goodWord w = true) : w ∈ tG := tG_mem (tq_5 (List.mem_of_getElem? h)) g
theorem tn_5 {w : Cond} (i : Nat) (h : tables_1_5[i]? = some w) (g : nWord w = true) : w ∈ tN := List.mem_filter.mpr ⟨tq_5 (List.mem_of_getElem? h), g⟩
theorem tg_6 {w : Cond} (i : Nat) (h : tables_1_6[i]? = some w) (g : goodWord w = true) : w ∈ tG := tG_mem (tq_6 (List.mem_of_getElem? h)) g
theorem tn_6 {w : Cond} (i : Nat) (h : tables_1_6[i]? = some w) (g : nWord w = true) : w ∈ tN := List.mem_filter.mpr ⟨tq_6 (List.mem_of_getElem? h), g⟩
