/-! EACH METHOD KNOWN, by program -/
set_option maxRecDepth 100000 in
theorem zv_221_1 : ∀ en ∈ zl_221_1, zNok zTs zNw zPg vwCl zft zfn zsf zm_221 en := zNok_of zl_221_1 [487, 1181, 1162, 554, 1204, 1162] (by decide +kernel) (by decide +kernel) (by decide +kernel) (by decide +kernel)
set_option maxRecDepth 100000 in
theorem zv_221_2 : ∀ en ∈ zl_221_2, zNok zTs zNw zPg vwCl zft zfn zsf zm_221 en := zNok_of zl_221_2 [573, 1212, 1162] (by decide +kernel) (by decide +kernel) (by decide +kernel) (by decide +kernel)
set_option maxRecDepth 100000 in
theorem zv_221_3 : ∀ en ∈ zl_221_3, zNok zTs zNw zPg vwCl zft zfn zsf zm_221 en := zNok_of zl_221_3 [589, 1220, 1162, 596] (by decide +kernel) (by decide +kernel) (by decide +kernel) (by decide +kernel)
set_option maxRecDepth 100000 in
theorem zv_221_4 : ∀ en ∈ zl_221_4, zNok zTs zNw zPg vwCl zft zfn zsf zm_221 en := zNok_of zl_221_4 [1224, 1162, 778] (by decide +kernel) (by decide +kernel) (by decide +kernel) (by decide +kernel)
set_option maxRecDepth 100000 in
theorem zv_221_5 : ∀ en ∈ zl_221_5, zNok zTs zNw zPg vwCl zft zfn zsf zm_221 en := zNok_of zl_221_5 [1329, 1162, 858, 1358, 1162] (by decide +kernel) (by decide +kernel) (by decide +kernel) (by decide +kernel)
set_option maxRecDepth 100000 in
theorem zv_221_6 : ∀ en ∈ zl_221_6, zNok zTs zNw zPg vwCl zft zfn zsf zm_221 en := zNok_of zl_221_6 [865, 1362, 1162] (by decide +kernel) (by decide +kernel) (by decide +kernel) (by decide +kernel)
set_option maxRecDepth 100000 in
theorem zv_221_7 : ∀ en ∈ zl_221_7, zNok zTs zNw zPg vwCl zft zfn zsf zm_221 en := zNok_of zl_221_7 [873, 1366, 1162] (by decide +kernel) (by decide +kernel) (by decide +kernel) (by decide +kernel)
