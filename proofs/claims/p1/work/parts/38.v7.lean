/-! EACH METHOD KNOWN, by program -/
set_option maxRecDepth 100000 in
theorem zv_221_8 : ∀ en ∈ zl_221_8, zNok zTs zNw zPg vwCl zft zfn zsf zm_221 en := zNok_of zl_221_8 [884, 1370, 1162] (by decide +kernel) (by decide +kernel) (by decide +kernel) (by decide +kernel)
set_option maxRecDepth 100000 in
theorem zv_221_9 : ∀ en ∈ zl_221_9, zNok zTs zNw zPg vwCl zft zfn zsf zm_221 en := zNok_of zl_221_9 [898, 1378, 1162, 913] (by decide +kernel) (by decide +kernel) (by decide +kernel) (by decide +kernel)
set_option maxRecDepth 100000 in
theorem zv_221_10 : ∀ en ∈ zl_221_10, zNok zTs zNw zPg vwCl zft zfn zsf zm_221 en := zNok_of zl_221_10 [1382, 1162, 924, 1386, 1162] (by decide +kernel) (by decide +kernel) (by decide +kernel) (by decide +kernel)
set_option maxRecDepth 100000 in
theorem zv_221_11 : ∀ en ∈ zl_221_11, zNok zTs zNw zPg vwCl zft zfn zsf zm_221 en := zNok_of zl_221_11 [931, 1390, 1162, 391] (by decide +kernel) (by decide +kernel) (by decide +kernel) (by decide +kernel)
set_option maxRecDepth 100000 in
theorem zv_221_12 : ∀ en ∈ zl_221_12, zNok zTs zNw zPg vwCl zft zfn zsf zm_221 en := zNok_of zl_221_12 [1394, 938, 1398, 1162] (by decide +kernel) (by decide +kernel) (by decide +kernel) (by decide +kernel)
set_option maxRecDepth 100000 in
theorem zv_221_13 : ∀ en ∈ zl_221_13, zNok zTs zNw zPg vwCl zft zfn zsf zm_221 en := zNok_of zl_221_13 [945, 1402, 1162] (by decide +kernel) (by decide +kernel) (by decide +kernel) (by decide +kernel)
set_option maxRecDepth 100000 in
theorem zv_221_14 : ∀ en ∈ zl_221_14, zNok zTs zNw zPg vwCl zft zfn zsf zm_221 en := zNok_of zl_221_14 [956, 1409, 1162] (by decide +kernel) (by decide +kernel) (by decide +kernel) (by decide +kernel)
