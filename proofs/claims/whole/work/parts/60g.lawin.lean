set_option maxRecDepth 100000 in
theorem zl_wsX50 : ∀ w ∈ wsX50, w ∈ lw_tbl := by
  intro w h
  obtain ⟨k, hk, rfl⟩ := List.mem_map.mp h
  have hk := List.mem_range.mp hk
  rcases (show k = 0 ∨ k = 1 by omega) with rfl | rfl
  · exact List.mem_append_right _ (List.mem_of_getElem? (i := 33) (by decide +kernel))
  · exact List.mem_append_right _ (List.mem_of_getElem? (i := 35) (by decide +kernel))
set_option maxRecDepth 100000 in
theorem zl_wsX90 : ∀ w ∈ wsX90, w ∈ lw_tbl := by
  intro w h
  obtain ⟨k, hk, rfl⟩ := List.mem_map.mp h
  have hk := List.mem_range.mp hk
  rcases (show k = 0 ∨ k = 1 ∨ k = 2 ∨ k = 3 by omega) with rfl | rfl | rfl | rfl
  · exact List.mem_append_right _ (List.mem_of_getElem? (i := 55) (by decide +kernel))
  · exact List.mem_append_right _ (List.mem_of_getElem? (i := 57) (by decide +kernel))
  · exact List.mem_append_right _ (List.mem_of_getElem? (i := 59) (by decide +kernel))
  · exact List.mem_append_right _ (List.mem_of_getElem? (i := 61) (by decide +kernel))
set_option maxRecDepth 100000 in
theorem zl_wsX80 : ∀ w ∈ wsX80, w ∈ lw_tbl := by
  intro w h
  obtain ⟨k, hk, rfl⟩ := List.mem_map.mp h
  have hk := List.mem_range.mp hk
  rcases (show k = 0 ∨ k = 1 ∨ k = 2 ∨ k = 3 ∨ k = 4 ∨ k = 5 ∨ k = 6 ∨ k = 7 ∨ k = 8 by omega) with rfl | rfl | rfl | rfl | rfl | rfl | rfl | rfl | rfl
  · exact List.mem_append_right _ (List.mem_of_getElem? (i := 86) (by decide +kernel))
  · exact List.mem_append_right _ (List.mem_of_getElem? (i := 88) (by decide +kernel))
  · exact List.mem_append_right _ (List.mem_of_getElem? (i := 90) (by decide +kernel))
  · exact List.mem_append_right _ (List.mem_of_getElem? (i := 92) (by decide +kernel))
  · exact List.mem_append_right _ (List.mem_of_getElem? (i := 94) (by decide +kernel))
  · exact List.mem_append_right _ (List.mem_of_getElem? (i := 96) (by decide +kernel))
  · exact List.mem_append_right _ (List.mem_of_getElem? (i := 98) (by decide +kernel))
  · exact List.mem_append_right _ (List.mem_of_getElem? (i := 100) (by decide +kernel))
  · exact List.mem_append_right _ (List.mem_of_getElem? (i := 102) (by decide +kernel))
set_option maxRecDepth 100000 in
theorem zl_wsX40 : ∀ w ∈ wsX40, w ∈ lw_tbl := by
  intro w h
  obtain ⟨k, hk, rfl⟩ := List.mem_map.mp h
  have hk := List.mem_range.mp hk
  rcases (show k = 0 ∨ k = 1 ∨ k = 2 ∨ k = 3 ∨ k = 4 by omega) with rfl | rfl | rfl | rfl | rfl
  · exact List.mem_append_right _ (List.mem_of_getElem? (i := 118) (by decide +kernel))
  · exact List.mem_append_right _ (List.mem_of_getElem? (i := 120) (by decide +kernel))
  · exact List.mem_append_right _ (List.mem_of_getElem? (i := 122) (by decide +kernel))
  · exact List.mem_append_right _ (List.mem_of_getElem? (i := 124) (by decide +kernel))
  · exact List.mem_append_right _ (List.mem_of_getElem? (i := 126) (by decide +kernel))
set_option maxRecDepth 100000 in
theorem zl_wsX00 : ∀ w ∈ wsX00, w ∈ lw_tbl := by
  intro w h
  obtain ⟨k, hk, rfl⟩ := List.mem_map.mp h
  have hk := List.mem_range.mp hk
  rcases (show k = 0 ∨ k = 1 ∨ k = 2 ∨ k = 3 by omega) with rfl | rfl | rfl | rfl
  · exact List.mem_append_right _ (List.mem_of_getElem? (i := 141) (by decide +kernel))
  · exact List.mem_append_right _ (List.mem_of_getElem? (i := 143) (by decide +kernel))
  · exact List.mem_append_right _ (List.mem_of_getElem? (i := 145) (by decide +kernel))
  · exact List.mem_append_right _ (List.mem_of_getElem? (i := 147) (by decide +kernel))
set_option maxRecDepth 100000 in
theorem zl_wsX70 : ∀ w ∈ wsX70, w ∈ lw_tbl := by
  intro w h
  obtain ⟨k, hk, rfl⟩ := List.mem_map.mp h
  have hk := List.mem_range.mp hk
  rcases (show k = 0 by omega) with rfl
  · exact List.mem_append_right _ (List.mem_of_getElem? (i := 318) (by decide +kernel))
set_option maxRecDepth 100000 in
theorem zl_wsX10 : ∀ w ∈ wsX10, w ∈ lw_tbl := by
  intro w h
  obtain ⟨k, hk, rfl⟩ := List.mem_map.mp h
  have hk := List.mem_range.mp hk
  rcases (show k = 0 by omega) with rfl
  · exact List.mem_append_right _ (List.mem_of_getElem? (i := 327) (by decide +kernel))
set_option maxRecDepth 100000 in
theorem zl_wsX30 : ∀ w ∈ wsX30, w ∈ lw_tbl := by
  intro w h
  obtain ⟨k, hk, rfl⟩ := List.mem_map.mp h
  have hk := List.mem_range.mp hk
  rcases (show k = 0 by omega) with rfl
  · exact List.mem_append_right _ (List.mem_of_getElem? (i := 335) (by decide +kernel))
set_option maxRecDepth 100000 in
theorem zl_wsX20 : ∀ w ∈ wsX20, w ∈ lw_tbl := by
  intro w h
  obtain ⟨k, hk, rfl⟩ := List.mem_map.mp h
  have hk := List.mem_range.mp hk
  rcases (show k = 0 by omega) with rfl
  · exact List.mem_append_right _ (List.mem_of_getElem? (i := 343) (by decide +kernel))
set_option maxRecDepth 100000 in
theorem zl_wsX60 : ∀ w ∈ wsX60, w ∈ lw_tbl := by
  intro w h
  obtain ⟨k, hk, rfl⟩ := List.mem_map.mp h
  have hk := List.mem_range.mp hk
  rcases (show k = 0 by omega) with rfl
  · exact List.mem_append_right _ (List.mem_of_getElem? (i := 347) (by decide +kernel))
theorem wsL_law_in : ∀ w ∈ wsL_law, w ∈ lw_tbl := List.forall_mem_append.mpr ⟨List.forall_mem_append.mpr ⟨List.forall_mem_append.mpr ⟨List.forall_mem_append.mpr ⟨List.forall_mem_append.mpr ⟨List.forall_mem_append.mpr ⟨List.forall_mem_append.mpr ⟨List.forall_mem_append.mpr ⟨List.forall_mem_append.mpr ⟨List.forall_mem_append.mpr ⟨List.forall_mem_append.mpr ⟨List.forall_mem_append.mpr ⟨List.forall_mem_append.mpr ⟨List.forall_mem_append.mpr ⟨zl_wsL_law_r1, List.forall_mem_append.mpr ⟨zl_wsL_law_r2, List.forall_mem_append.mpr ⟨zl_wsL_law_r3, List.forall_mem_append.mpr ⟨zl_wsL_law_r4, List.forall_mem_append.mpr ⟨zl_wsL_law_r5, List.forall_mem_append.mpr ⟨zl_wsL_law_r6, List.forall_mem_append.mpr ⟨zl_wsL_law_r7, List.forall_mem_append.mpr ⟨zl_wsL_law_r8, List.forall_mem_append.mpr ⟨zl_wsL_law_r9, List.forall_mem_append.mpr ⟨zl_wsL_law_r10, List.forall_mem_append.mpr ⟨zl_wsL_law_r11, List.forall_mem_append.mpr ⟨zl_wsL_law_r12, List.forall_mem_append.mpr ⟨zl_wsL_law_r13, List.forall_mem_append.mpr ⟨zl_wsL_law_r14, List.forall_mem_append.mpr ⟨zl_wsL_law_r15, List.forall_mem_append.mpr ⟨zl_wsL_law_r16, List.forall_mem_append.mpr ⟨zl_wsL_law_r17, List.forall_mem_append.mpr ⟨zl_wsL_law_r18, List.forall_mem_append.mpr ⟨zl_wsL_law_r19, List.forall_mem_append.mpr ⟨zl_wsL_law_r20, List.forall_mem_append.mpr ⟨zl_wsL_law_r21, List.forall_mem_append.mpr ⟨zl_wsL_law_r22, List.forall_mem_append.mpr ⟨zl_wsL_law_r23, List.forall_mem_append.mpr ⟨zl_wsL_law_r24, List.forall_mem_append.mpr ⟨zl_wsL_law_r25, List.forall_mem_append.mpr ⟨zl_wsL_law_r26, List.forall_mem_append.mpr ⟨zl_wsL_law_r27, List.forall_mem_append.mpr ⟨zl_wsL_law_r28, List.forall_mem_append.mpr ⟨zl_wsL_law_r29, List.forall_mem_append.mpr ⟨zl_wsL_law_r30, List.forall_mem_append.mpr ⟨zl_wsL_law_r31, List.forall_mem_append.mpr ⟨zl_wsL_law_r32, List.forall_mem_append.mpr ⟨zl_wsL_law_r33, List.forall_mem_append.mpr ⟨zl_wsL_law_r34, zl_wsL_law_r35⟩⟩⟩⟩⟩⟩⟩⟩⟩⟩⟩⟩⟩⟩⟩⟩⟩⟩⟩⟩⟩⟩⟩⟩⟩⟩⟩⟩⟩⟩⟩⟩⟩⟩, zl_wsX100⟩, zl_wsX110⟩, zl_wsX50⟩, zl_wsX90⟩, zl_wsX80⟩, zl_wsX40⟩, zl_wsX00⟩, zl_wsX70⟩, zl_wsX10⟩, zl_wsX30⟩, zl_wsX20⟩, zl_wsX60⟩, fun _ h => absurd h List.not_mem_nil⟩
