set_option maxRecDepth 100000 in
theorem wsL_law_in0_11 : ∀ w ∈ wsL_law0_r11, w ∈ lw_tbl := fun w h => (goodIn_p wsL_law0_r11 [603, 607, 611, 516, 615, 619] (by decide +kernel) (by decide +kernel) w h).1
set_option maxRecDepth 100000 in
theorem wsL_law_in0_12 : ∀ w ∈ wsL_law0_r12, w ∈ lw_tbl := (List.forall_mem_cons.mpr ⟨(List.mem_of_getElem? (i := 623) (by rfl)), (List.forall_mem_cons.mpr ⟨(by decide +kernel), (List.forall_mem_cons.mpr ⟨(by decide +kernel), (List.forall_mem_cons.mpr ⟨(List.mem_of_getElem? (i := 626) (by rfl)), (List.forall_mem_cons.mpr ⟨(by decide +kernel), (List.forall_mem_cons.mpr ⟨(by decide +kernel), (List.forall_mem_cons.mpr ⟨(List.mem_of_getElem? (i := 629) (by rfl)), (List.forall_mem_cons.mpr ⟨(by decide +kernel), (List.forall_mem_cons.mpr ⟨(by decide +kernel), (List.forall_mem_cons.mpr ⟨(List.mem_of_getElem? (i := 632) (by rfl)), (List.forall_mem_cons.mpr ⟨(by decide +kernel), (List.forall_mem_cons.mpr ⟨(by decide +kernel), (List.forall_mem_cons.mpr ⟨(List.mem_of_getElem? (i := 635) (by rfl)), (List.forall_mem_cons.mpr ⟨(by decide +kernel), (List.forall_mem_cons.mpr ⟨(by decide +kernel), (List.forall_mem_cons.mpr ⟨(List.mem_of_getElem? (i := 638) (by rfl)), (List.forall_mem_cons.mpr ⟨(by decide +kernel), (List.forall_mem_cons.mpr ⟨(by decide +kernel), (List.forall_mem_cons.mpr ⟨(List.mem_of_getElem? (i := 162) (by rfl)), (List.forall_mem_cons.mpr ⟨(by decide +kernel), (List.forall_mem_cons.mpr ⟨(by decide +kernel), (List.forall_mem_cons.mpr ⟨(by decide +kernel), (List.forall_mem_cons.mpr ⟨(by decide +kernel), (List.forall_mem_cons.mpr ⟨(by decide +kernel), (fun _ h => absurd h List.not_mem_nil)⟩)⟩)⟩)⟩)⟩)⟩)⟩)⟩)⟩)⟩)⟩)⟩)⟩)⟩)⟩)⟩)⟩)⟩)⟩)⟩)⟩)⟩)⟩)⟩)
set_option maxRecDepth 100000 in
theorem wsL_law_in0_13 : ∀ w ∈ wsL_law0_r13, w ∈ lw_tbl := fun w h => (goodIn_p wsL_law0_r13 [172, 176, 251, 255, 279, 299] (by decide +kernel) (by decide +kernel) w h).1
set_option maxRecDepth 100000 in
theorem wsL_law_in0_14 : ∀ w ∈ wsL_law0_r14, w ∈ lw_tbl := fun w h => (goodIn_p wsL_law0_r14 [336, 340, 350, 355, 360] (by decide +kernel) (by decide +kernel) w h).1
set_option maxRecDepth 100000 in
theorem wsL_law_in0_15 : ∀ w ∈ wsL_law0_r15, w ∈ lw_tbl := fun w h => (goodIn_p wsL_law0_r15 [385, 389, 460, 484, 488, 501] (by decide +kernel) (by decide +kernel) w h).1
set_option maxRecDepth 100000 in
theorem wsL_law_in0_16 : ∀ w ∈ wsL_law0_r16, w ∈ lw_tbl := fun w h => (goodIn_p wsL_law0_r16 [507, 512, 520, 524, 641, 644, 647] (by decide +kernel) (by decide +kernel) w h).1
set_option maxRecDepth 100000 in
theorem wsL_law_in0_17 : ∀ w ∈ wsL_law0_r17, w ∈ lw_tbl := fun w h => (goodIn_p wsL_law0_r17 [650, 653] (by decide +kernel) (by decide +kernel) w h).1
