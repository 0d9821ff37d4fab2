/-! EACH METHOD KNOWN, by program -/
set_option maxRecDepth 100000 in
theorem zv_221_15 : ∀ en ∈ zl_221_15, zNok zTs zNw zPg vwCl zft zfn zsf zm_221 en := zNok_of zl_221_15 [967, 1413, 1162, 977] (by decide +kernel) (by decide +kernel) (by decide +kernel) (by decide +kernel)
set_option maxRecDepth 100000 in
theorem zv_221_16 : ∀ en ∈ zl_221_16, zNok zTs zNw zPg vwCl zft zfn zsf zm_221 en := zNok_of zl_221_16 [1417, 1162, 984, 1421, 1162] (by decide +kernel) (by decide +kernel) (by decide +kernel) (by decide +kernel)
set_option maxRecDepth 100000 in
theorem zv_221_17 : ∀ en ∈ zl_221_17, zNok zTs zNw zPg vwCl zft zfn zsf zm_221 en := zNok_of zl_221_17 [996, 1433, 1162] (by decide +kernel) (by decide +kernel) (by decide +kernel) (by decide +kernel)
set_option maxRecDepth 100000 in
theorem zv_221_18 : ∀ en ∈ zl_221_18, zNok zTs zNw zPg vwCl zft zfn zsf zm_221 en := zNok_of zl_221_18 [1009, 1437, 1162] (by decide +kernel) (by decide +kernel) (by decide +kernel) (by decide +kernel)
theorem zv_221 : ∀ en ∈ zIns zm_221, zNok zTs zNw zPg vwCl zft zfn zsf zm_221 en := List.forall_mem_append.mpr ⟨zv_221_0, List.forall_mem_append.mpr ⟨zv_221_1, List.forall_mem_append.mpr ⟨zv_221_2, List.forall_mem_append.mpr ⟨zv_221_3, List.forall_mem_append.mpr ⟨zv_221_4, List.forall_mem_append.mpr ⟨zv_221_5, List.forall_mem_append.mpr ⟨zv_221_6, List.forall_mem_append.mpr ⟨zv_221_7, List.forall_mem_append.mpr ⟨zv_221_8, List.forall_mem_append.mpr ⟨zv_221_9, List.forall_mem_append.mpr ⟨zv_221_10, List.forall_mem_append.mpr ⟨zv_221_11, List.forall_mem_append.mpr ⟨zv_221_12, List.forall_mem_append.mpr ⟨zv_221_13, List.forall_mem_append.mpr ⟨zv_221_14, List.forall_mem_append.mpr ⟨zv_221_15, List.forall_mem_append.mpr ⟨zv_221_16, List.forall_mem_append.mpr ⟨zv_221_17, zv_221_18⟩⟩⟩⟩⟩⟩⟩⟩⟩⟩⟩⟩⟩⟩⟩⟩⟩⟩
