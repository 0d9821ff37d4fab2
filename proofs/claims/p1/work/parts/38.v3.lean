/-! EACH METHOD KNOWN, by program -/
set_option maxRecDepth 100000 in
theorem zv_127 : ∀ en ∈ zIns zm_127, zNok zTs zNw zPg vwCl zft zfn zsf zm_127 en := zNok_of (zIns zm_127) [1051, 1052, 1051, 1051, 1053, 1054, 1325, 1043, 1060, 1059, 1060, 1060, 1061, 1200, 1232] (by decide +kernel) (by decide +kernel) (by decide +kernel) (by decide +kernel)
set_option maxRecDepth 100000 in
theorem zv_128 : ∀ en ∈ zIns zm_128, zNok zTs zNw zPg vwCl zft zfn zsf zm_128 en := zNok_of (zIns zm_128) [1200, 1200, 1241, 1253, 1072, 1261, 1296, 1316, 1072, 1321, 1264, 1296, 1300, 1036, 1072, 1036] (by decide +kernel) (by decide +kernel) (by decide +kernel) (by decide +kernel)
set_option maxRecDepth 100000 in
theorem zv_129 : ∀ en ∈ zIns zm_129, zNok zTs zNw zPg vwCl zft zfn zsf zm_129 en := zNok_of (zIns zm_129) [1170, 1170, 1170, 1219, 1170, 1061, 1173, 1200, 1228, 1237, 1072, 1073] (by decide +kernel) (by decide +kernel) (by decide +kernel) (by decide +kernel)
set_option maxRecDepth 100000 in
theorem zv_130 : ∀ en ∈ zIns zm_130, zNok zTs zNw zPg vwCl zft zfn zsf zm_130 en := zNok_of (zIns zm_130) [285, 796] (by decide +kernel) (by decide +kernel) (by decide +kernel) (by decide +kernel)
set_option maxRecDepth 100000 in
theorem zv_131 : ∀ en ∈ zIns zm_131, zNok zTs zNw zPg vwCl zft zfn zsf zm_131 en := zNok_of (zIns zm_131) [] (by decide +kernel) (by decide +kernel) (by decide +kernel) (by decide +kernel)
set_option maxRecDepth 100000 in
theorem zv_132 : ∀ en ∈ zIns zm_132, zNok zTs zNw zPg vwCl zft zfn zsf zm_132 en := zNok_of (zIns zm_132) [] (by decide +kernel) (by decide +kernel) (by decide +kernel) (by decide +kernel)
set_option maxRecDepth 100000 in
theorem zv_133 : ∀ en ∈ zIns zm_133, zNok zTs zNw zPg vwCl zft zfn zsf zm_133 en := zNok_of (zIns zm_133) [] (by decide +kernel) (by decide +kernel) (by decide +kernel) (by decide +kernel)
set_option maxRecDepth 100000 in
theorem zv_134 : ∀ en ∈ zIns zm_134, zNok zTs zNw zPg vwCl zft zfn zsf zm_134 en := zNok_of (zIns zm_134) [263, 261, 642] (by decide +kernel) (by decide +kernel) (by decide +kernel) (by decide +kernel)
set_option maxRecDepth 100000 in
theorem zv_135 : ∀ en ∈ zIns zm_135, zNok zTs zNw zPg vwCl zft zfn zsf zm_135 en := zNok_of (zIns zm_135) [257, 820, 257] (by decide +kernel) (by decide +kernel) (by decide +kernel) (by decide +kernel)
set_option maxRecDepth 100000 in
theorem zv_136 : ∀ en ∈ zIns zm_136, zNok zTs zNw zPg vwCl zft zfn zsf zm_136 en := zNok_of (zIns zm_136) [285, 813, 292, 816, 292, 816, 292, 816, 292, 816] (by decide +kernel) (by decide +kernel) (by decide +kernel) (by decide +kernel)
set_option maxRecDepth 100000 in
theorem zv_137 : ∀ en ∈ zIns zm_137, zNok zTs zNw zPg vwCl zft zfn zsf zm_137 en := zNok_of (zIns zm_137) [188, 311, 191, 833, 834, 311, 191, 683, 311, 191, 180, 311, 684, 701, 835, 311, 836, 311, 94] (by decide +kernel) (by decide +kernel) (by decide +kernel) (by decide +kernel)
set_option maxRecDepth 100000 in
theorem zv_138 : ∀ en ∈ zIns zm_138, zNok zTs zNw zPg vwCl zft zfn zsf zm_138 en := zNok_of (zIns zm_138) [188, 311, 191, 683, 311, 94, 834, 311, 94] (by decide +kernel) (by decide +kernel) (by decide +kernel) (by decide +kernel)
set_option maxRecDepth 100000 in
theorem zv_139 : ∀ en ∈ zIns zm_139, zNok zTs zNw zPg vwCl zft zfn zsf zm_139 en := zNok_of (zIns zm_139) [325, 618] (by decide +kernel) (by decide +kernel) (by decide +kernel) (by decide +kernel)
set_option maxRecDepth 100000 in
theorem zv_140 : ∀ en ∈ zIns zm_140, zNok zTs zNw zPg vwCl zft zfn zsf zm_140 en := zNok_of (zIns zm_140) [354, 326, 845, 354, 326, 292, 816, 354, 846] (by decide +kernel) (by decide +kernel) (by decide +kernel) (by decide +kernel)
set_option maxRecDepth 100000 in
theorem zv_141 : ∀ en ∈ zIns zm_141, zNok zTs zNw zPg vwCl zft zfn zsf zm_141 en := zNok_of (zIns zm_141) [354, 326, 845, 824, 354, 326, 854] (by decide +kernel) (by decide +kernel) (by decide +kernel) (by decide +kernel)
set_option maxRecDepth 100000 in
theorem zv_142 : ∀ en ∈ zIns zm_142, zNok zTs zNw zPg vwCl zft zfn zsf zm_142 en := zNok_of (zIns zm_142) [285, 285] (by decide +kernel) (by decide +kernel) (by decide +kernel) (by decide +kernel)
set_option maxRecDepth 100000 in
theorem zv_143 : ∀ en ∈ zIns zm_143, zNok zTs zNw zPg vwCl zft zfn zsf zm_143 en := zNok_of (zIns zm_143) [354, 789, 285, 353, 829, 353, 837, 193, 182, 841, 182, 850, 855, 824] (by decide +kernel) (by decide +kernel) (by decide +kernel) (by decide +kernel)
set_option maxRecDepth 100000 in
theorem zv_144 : ∀ en ∈ zIns zm_144, zNok zTs zNw zPg vwCl zft zfn zsf zm_144 en := zNok_of (zIns zm_144) [285, 809, 824, 824, 824, 825] (by decide +kernel) (by decide +kernel) (by decide +kernel) (by decide +kernel)
set_option maxRecDepth 100000 in
theorem zv_145 : ∀ en ∈ zIns zm_145, zNok zTs zNw zPg vwCl zft zfn zsf zm_145 en := zNok_of (zIns zm_145) [354, 354, 789, 790, 285, 355, 791, 792, 797, 798, 801, 792, 802, 285, 355, 285, 791, 792, 285, 805] (by decide +kernel) (by decide +kernel) (by decide +kernel) (by decide +kernel)
set_option maxRecDepth 100000 in
theorem zv_146 : ∀ en ∈ zIns zm_146, zNok zTs zNw zPg vwCl zft zfn zsf zm_146 en := zNok_of (zIns zm_146) [580, 395, 406, 585, 287, 287, 287, 287, 371, 785, 287] (by decide +kernel) (by decide +kernel) (by decide +kernel) (by decide +kernel)
set_option maxRecDepth 100000 in
theorem zv_147 : ∀ en ∈ zIns zm_147, zNok zTs zNw zPg vwCl zft zfn zsf zm_147 en := zNok_of (zIns zm_147) [781] (by decide +kernel) (by decide +kernel) (by decide +kernel) (by decide +kernel)
set_option maxRecDepth 100000 in
theorem zv_148 : ∀ en ∈ zIns zm_148, zNok zTs zNw zPg vwCl zft zfn zsf zm_148 en := zNok_of (zIns zm_148) [1069, 1200, 1068, 1245, 1065, 1065] (by decide +kernel) (by decide +kernel) (by decide +kernel) (by decide +kernel)
set_option maxRecDepth 100000 in
theorem zv_149 : ∀ en ∈ zIns zm_149, zNok zTs zNw zPg vwCl zft zfn zsf zm_149 en := zNok_of (zIns zm_149) [1200, 1200, 1308, 1208, 1076, 1200, 1075, 1200, 1208, 1208, 1341, 1341, 1341, 1208, 1341, 1208, 1208, 1208, 1208, 1208, 1200, 1208, 1200, 1208, 1200, 1208, 1208, 1200, 1208, 1208] (by decide +kernel) (by decide +kernel) (by decide +kernel) (by decide +kernel)
set_option maxRecDepth 100000 in
theorem zv_150 : ∀ en ∈ zIns zm_150, zNok zTs zNw zPg vwCl zft zfn zsf zm_150 en := zNok_of (zIns zm_150) [1268, 1185, 1193, 1219, 1272, 1353, 1185, 1193, 1196, 1193, 1041, 1288] (by decide +kernel) (by decide +kernel) (by decide +kernel) (by decide +kernel)
set_option maxRecDepth 100000 in
theorem zv_151 : ∀ en ∈ zIns zm_151, zNok zTs zNw zPg vwCl zft zfn zsf zm_151 en := zNok_of (zIns zm_151) [1200, 1200, 1219, 1349, 1268, 1185, 1193, 1185, 1288, 1046, 1061, 1200, 1341, 1061, 1200, 1232, 1200, 1208, 1208] (by decide +kernel) (by decide +kernel) (by decide +kernel) (by decide +kernel)
