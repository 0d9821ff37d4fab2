/-! EACH METHOD KNOWN, by program -/
set_option maxRecDepth 100000 in
theorem zv_101 : ∀ en ∈ zIns zm_101, zNok zTs zNw zPg vwCl zft zfn zsf zm_101 en := zNok_of (zIns zm_101) [630, 634, 661, 341, 669, 733, 341, 734, 733, 341, 749, 340, 670, 673, 676, 711, 340, 312, 93, 340, 312, 93] (by decide +kernel) (by decide +kernel) (by decide +kernel) (by decide +kernel)
set_option maxRecDepth 100000 in
theorem zv_102 : ∀ en ∈ zIns zm_102, zNok zTs zNw zPg vwCl zft zfn zsf zm_102 en := zNok_of (zIns zm_102) [580, 395, 603, 606, 406, 585, 369, 369, 610, 614, 370, 626] (by decide +kernel) (by decide +kernel) (by decide +kernel) (by decide +kernel)
set_option maxRecDepth 100000 in
theorem zv_103 : ∀ en ∈ zIns zm_103, zNok zTs zNw zPg vwCl zft zfn zsf zm_103 en := zNok_of (zIns zm_103) [599] (by decide +kernel) (by decide +kernel) (by decide +kernel) (by decide +kernel)
set_option maxRecDepth 100000 in
theorem zv_104 : ∀ en ∈ zIns zm_104, zNok zTs zNw zPg vwCl zft zfn zsf zm_104 en := zNok_of (zIns zm_104) [1200, 1236, 1208] (by decide +kernel) (by decide +kernel) (by decide +kernel) (by decide +kernel)
set_option maxRecDepth 100000 in
theorem zv_105 : ∀ en ∈ zIns zm_105, zNok zTs zNw zPg vwCl zft zfn zsf zm_105 en := zNok_of (zIns zm_105) [1050, 1053, 1053, 1053, 1061, 1054, 1054, 1200, 1054, 1232] (by decide +kernel) (by decide +kernel) (by decide +kernel) (by decide +kernel)
set_option maxRecDepth 100000 in
theorem zv_106 : ∀ en ∈ zIns zm_106, zNok zTs zNw zPg vwCl zft zfn zsf zm_106 en := zNok_of (zIns zm_106) [1065, 1069, 1200, 1068, 1068, 1066, 1066] (by decide +kernel) (by decide +kernel) (by decide +kernel) (by decide +kernel)
set_option maxRecDepth 100000 in
theorem zv_107 : ∀ en ∈ zIns zm_107, zNok zTs zNw zPg vwCl zft zfn zsf zm_107 en := zNok_of (zIns zm_107) [1200, 1200, 1200] (by decide +kernel) (by decide +kernel) (by decide +kernel) (by decide +kernel)
set_option maxRecDepth 100000 in
theorem zv_108 : ∀ en ∈ zIns zm_108, zNok zTs zNw zPg vwCl zft zfn zsf zm_108 en := zNok_of (zIns zm_108) [1245, 1068, 1249, 1067, 1067, 1065] (by decide +kernel) (by decide +kernel) (by decide +kernel) (by decide +kernel)
set_option maxRecDepth 100000 in
theorem zv_109 : ∀ en ∈ zIns zm_109, zNok zTs zNw zPg vwCl zft zfn zsf zm_109 en := zNok_of (zIns zm_109) [1170] (by decide +kernel) (by decide +kernel) (by decide +kernel) (by decide +kernel)
set_option maxRecDepth 100000 in
theorem zv_110 : ∀ en ∈ zIns zm_110, zNok zTs zNw zPg vwCl zft zfn zsf zm_110 en := zNok_of (zIns zm_110) [1044] (by decide +kernel) (by decide +kernel) (by decide +kernel) (by decide +kernel)
set_option maxRecDepth 100000 in
theorem zv_111 : ∀ en ∈ zIns zm_111, zNok zTs zNw zPg vwCl zft zfn zsf zm_111 en := zNok_of (zIns zm_111) [1041] (by decide +kernel) (by decide +kernel) (by decide +kernel) (by decide +kernel)
set_option maxRecDepth 100000 in
theorem zv_112 : ∀ en ∈ zIns zm_112, zNok zTs zNw zPg vwCl zft zfn zsf zm_112 en := zNok_of (zIns zm_112) [1036, 1189] (by decide +kernel) (by decide +kernel) (by decide +kernel) (by decide +kernel)
set_option maxRecDepth 100000 in
theorem zv_113 : ∀ en ∈ zIns zm_113, zNok zTs zNw zPg vwCl zft zfn zsf zm_113 en := zNok_of (zIns zm_113) [1038, 1039, 1041, 1040, 1036, 1185, 1288, 1196] (by decide +kernel) (by decide +kernel) (by decide +kernel) (by decide +kernel)
set_option maxRecDepth 100000 in
theorem zv_114 : ∀ en ∈ zIns zm_114, zNok zTs zNw zPg vwCl zft zfn zsf zm_114 en := zNok_of (zIns zm_114) [1284, 1042, 1037, 1038, 1039, 1185, 1039, 1288, 1049, 1292, 1042] (by decide +kernel) (by decide +kernel) (by decide +kernel) (by decide +kernel)
set_option maxRecDepth 100000 in
theorem zv_115 : ∀ en ∈ zIns zm_115, zNok zTs zNw zPg vwCl zft zfn zsf zm_115 en := zNok_of (zIns zm_115) [1177, 1280, 1037, 1038, 1039] (by decide +kernel) (by decide +kernel) (by decide +kernel) (by decide +kernel)
set_option maxRecDepth 100000 in
theorem zv_116 : ∀ en ∈ zIns zm_116, zNok zTs zNw zPg vwCl zft zfn zsf zm_116 en := zNok_of (zIns zm_116) [1189, 1276, 1036, 1045] (by decide +kernel) (by decide +kernel) (by decide +kernel) (by decide +kernel)
set_option maxRecDepth 100000 in
theorem zv_117 : ∀ en ∈ zIns zm_117, zNok zTs zNw zPg vwCl zft zfn zsf zm_117 en := zNok_of (zIns zm_117) [1268, 1185, 1193, 1193, 1272, 1276, 1193, 1036, 1040, 1041, 1048, 1047, 1288] (by decide +kernel) (by decide +kernel) (by decide +kernel) (by decide +kernel)
set_option maxRecDepth 100000 in
theorem zv_118 : ∀ en ∈ zIns zm_118, zNok zTs zNw zPg vwCl zft zfn zsf zm_118 en := zNok_of (zIns zm_118) [1073, 1063, 1063, 1063, 1063, 1063] (by decide +kernel) (by decide +kernel) (by decide +kernel) (by decide +kernel)
set_option maxRecDepth 100000 in
theorem zv_119 : ∀ en ∈ zIns zm_119, zNok zTs zNw zPg vwCl zft zfn zsf zm_119 en := zNok_of (zIns zm_119) [1261, 1200, 1264, 1296] (by decide +kernel) (by decide +kernel) (by decide +kernel) (by decide +kernel)
set_option maxRecDepth 100000 in
theorem zv_120 : ∀ en ∈ zIns zm_120, zNok zTs zNw zPg vwCl zft zfn zsf zm_120 en := zNok_of (zIns zm_120) [1185] (by decide +kernel) (by decide +kernel) (by decide +kernel) (by decide +kernel)
set_option maxRecDepth 100000 in
theorem zv_121 : ∀ en ∈ zIns zm_121, zNok zTs zNw zPg vwCl zft zfn zsf zm_121 en := zNok_of (zIns zm_121) [1200] (by decide +kernel) (by decide +kernel) (by decide +kernel) (by decide +kernel)
set_option maxRecDepth 100000 in
theorem zv_122 : ∀ en ∈ zIns zm_122, zNok zTs zNw zPg vwCl zft zfn zsf zm_122 en := zNok_of (zIns zm_122) [1073, 1074, 1208, 1208] (by decide +kernel) (by decide +kernel) (by decide +kernel) (by decide +kernel)
set_option maxRecDepth 100000 in
theorem zv_123 : ∀ en ∈ zIns zm_123, zNok zTs zNw zPg vwCl zft zfn zsf zm_123 en := zNok_of (zIns zm_123) [1257, 1036, 1200, 1300] (by decide +kernel) (by decide +kernel) (by decide +kernel) (by decide +kernel)
set_option maxRecDepth 100000 in
theorem zv_124_0 : ∀ en ∈ zl_124_0, zNok zTs zNw zPg vwCl zft zfn zsf zm_124 en := zNok_of zl_124_0 [1200, 1200, 1257, 1036, 1300, 1304, 1308] (by decide +kernel) (by decide +kernel) (by decide +kernel) (by decide +kernel)
set_option maxRecDepth 100000 in
theorem zv_124_1 : ∀ en ∈ zl_124_1, zNok zTs zNw zPg vwCl zft zfn zsf zm_124 en := zNok_of zl_124_1 [1304, 1308, 1257, 1036, 1300] (by decide +kernel) (by decide +kernel) (by decide +kernel) (by decide +kernel)
set_option maxRecDepth 100000 in
theorem zv_124_2 : ∀ en ∈ zl_124_2, zNok zTs zNw zPg vwCl zft zfn zsf zm_124 en := zNok_of zl_124_2 [1304, 1308, 1249, 1304] (by decide +kernel) (by decide +kernel) (by decide +kernel) (by decide +kernel)
set_option maxRecDepth 100000 in
theorem zv_124_3 : ∀ en ∈ zl_124_3, zNok zTs zNw zPg vwCl zft zfn zsf zm_124 en := zNok_of zl_124_3 [1308, 1312, 1312, 1064, 1064, 1064, 1065] (by decide +kernel) (by decide +kernel) (by decide +kernel) (by decide +kernel)
set_option maxRecDepth 100000 in
theorem zv_124_4 : ∀ en ∈ zl_124_4, zNok zTs zNw zPg vwCl zft zfn zsf zm_124 en := zNok_of zl_124_4 [1066, 1067, 1069, 1200, 1068] (by decide +kernel) (by decide +kernel) (by decide +kernel) (by decide +kernel)
set_option maxRecDepth 100000 in
theorem zv_124_5 : ∀ en ∈ zl_124_5, zNok zTs zNw zPg vwCl zft zfn zsf zm_124 en := zNok_of zl_124_5 [1072] (by decide +kernel) (by decide +kernel) (by decide +kernel) (by decide +kernel)
theorem zv_124 : ∀ en ∈ zIns zm_124, zNok zTs zNw zPg vwCl zft zfn zsf zm_124 en := List.forall_mem_append.mpr ⟨zv_124_0, List.forall_mem_append.mpr ⟨zv_124_1, List.forall_mem_append.mpr ⟨zv_124_2, List.forall_mem_append.mpr ⟨zv_124_3, List.forall_mem_append.mpr ⟨zv_124_4, zv_124_5⟩⟩⟩⟩⟩
set_option maxRecDepth 100000 in
theorem zv_125 : ∀ en ∈ zIns zm_125, zNok zTs zNw zPg vwCl zft zfn zsf zm_125 en := zNok_of (zIns zm_125) [1219, 1051, 1236, 1050, 1320, 1053, 1056, 1057, 1058, 1060, 1059, 1060, 1060, 1059, 1059, 1060] (by decide +kernel) (by decide +kernel) (by decide +kernel) (by decide +kernel)
set_option maxRecDepth 100000 in
theorem zv_126 : ∀ en ∈ zIns zm_126, zNok zTs zNw zPg vwCl zft zfn zsf zm_126 en := zNok_of (zIns zm_126) [1056, 1057, 1057, 1058, 1261, 1264, 1058, 1300, 1056, 1036, 1055, 1055, 1036] (by decide +kernel) (by decide +kernel) (by decide +kernel) (by decide +kernel)
