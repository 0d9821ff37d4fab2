/-! EACH METHOD KNOWN, by program -/
set_option maxRecDepth 100000 in
theorem zv_152_0 : ∀ en ∈ zl_152_0, zNok zTs zNw zPg vwCl zft zfn zsf zm_152 en := zNok_of zl_152_0 [1200, 1237, 1072, 1200, 1075, 1076, 1337, 1237] (by decide +kernel) (by decide +kernel) (by decide +kernel) (by decide +kernel)
set_option maxRecDepth 100000 in
theorem zv_152_1 : ∀ en ∈ zl_152_1, zNok zTs zNw zPg vwCl zft zfn zsf zm_152 en := zNok_of zl_152_1 [1072, 1072, 1219, 1072, 1219, 1072, 1208, 1237, 1075, 1075, 1075] (by decide +kernel) (by decide +kernel) (by decide +kernel) (by decide +kernel)
set_option maxRecDepth 100000 in
theorem zv_152_2 : ∀ en ∈ zl_152_2, zNok zTs zNw zPg vwCl zft zfn zsf zm_152 en := zNok_of zl_152_2 [1075, 1075, 1219, 1208, 1237, 1072, 1208, 1200, 1237] (by decide +kernel) (by decide +kernel) (by decide +kernel) (by decide +kernel)
set_option maxRecDepth 100000 in
theorem zv_152_3 : ∀ en ∈ zl_152_3, zNok zTs zNw zPg vwCl zft zfn zsf zm_152 en := zNok_of zl_152_3 [1072, 1208, 1200, 1237, 1308, 1200, 1308, 1345, 1308] (by decide +kernel) (by decide +kernel) (by decide +kernel) (by decide +kernel)
theorem zv_152 : ∀ en ∈ zIns zm_152, zNok zTs zNw zPg vwCl zft zfn zsf zm_152 en := List.forall_mem_append.mpr ⟨zv_152_0, List.forall_mem_append.mpr ⟨zv_152_1, List.forall_mem_append.mpr ⟨zv_152_2, zv_152_3⟩⟩⟩
set_option maxRecDepth 100000 in
theorem zv_153 : ∀ en ∈ zIns zm_153, zNok zTs zNw zPg vwCl zft zfn zsf zm_153 en := zNok_of (zIns zm_153) [1200, 1074, 1208, 1200, 1208, 1074, 1208, 1200, 1208, 1208, 1200, 1208, 1208] (by decide +kernel) (by decide +kernel) (by decide +kernel) (by decide +kernel)
set_option maxRecDepth 100000 in
theorem zv_154 : ∀ en ∈ zIns zm_154, zNok zTs zNw zPg vwCl zft zfn zsf zm_154 en := zNok_of (zIns zm_154) [1170, 1170, 1061, 1173, 1200, 1200, 1208, 1200, 1228, 1333, 1075, 1208, 1200, 1208, 1076, 1073, 1200, 1200, 1354, 1200, 1208, 1073, 1200, 1296, 1208] (by decide +kernel) (by decide +kernel) (by decide +kernel) (by decide +kernel)
set_option maxRecDepth 100000 in
theorem zv_155 : ∀ en ∈ zIns zm_155, zNok zTs zNw zPg vwCl zft zfn zsf zm_155 en := zNok_of (zIns zm_155) [580, 395, 406, 585, 289] (by decide +kernel) (by decide +kernel) (by decide +kernel) (by decide +kernel)
set_option maxRecDepth 100000 in
theorem zv_156 : ∀ en ∈ zIns zm_156, zNok zTs zNw zPg vwCl zft zfn zsf zm_156 en := zNok_of (zIns zm_156) [861] (by decide +kernel) (by decide +kernel) (by decide +kernel) (by decide +kernel)
set_option maxRecDepth 100000 in
theorem zv_157 : ∀ en ∈ zIns zm_157, zNok zTs zNw zPg vwCl zft zfn zsf zm_157 en := zNok_of (zIns zm_157) [1170, 1170, 1061, 1173, 1063] (by decide +kernel) (by decide +kernel) (by decide +kernel) (by decide +kernel)
set_option maxRecDepth 100000 in
theorem zv_158 : ∀ en ∈ zIns zm_158, zNok zTs zNw zPg vwCl zft zfn zsf zm_158 en := zNok_of (zIns zm_158) [580, 395, 603, 406, 585, 293, 287, 872] (by decide +kernel) (by decide +kernel) (by decide +kernel) (by decide +kernel)
set_option maxRecDepth 100000 in
theorem zv_159 : ∀ en ∈ zIns zm_159, zNok zTs zNw zPg vwCl zft zfn zsf zm_159 en := zNok_of (zIns zm_159) [868] (by decide +kernel) (by decide +kernel) (by decide +kernel) (by decide +kernel)
set_option maxRecDepth 100000 in
theorem zv_160 : ∀ en ∈ zIns zm_160, zNok zTs zNw zPg vwCl zft zfn zsf zm_160 en := zNok_of (zIns zm_160) [1170, 1170, 1170, 1061, 1173, 1341] (by decide +kernel) (by decide +kernel) (by decide +kernel) (by decide +kernel)
set_option maxRecDepth 100000 in
theorem zv_161 : ∀ en ∈ zIns zm_161, zNok zTs zNw zPg vwCl zft zfn zsf zm_161 en := zNok_of (zIns zm_161) [257, 657, 259, 259, 260, 261, 263] (by decide +kernel) (by decide +kernel) (by decide +kernel) (by decide +kernel)
set_option maxRecDepth 100000 in
theorem zv_162 : ∀ en ∈ zIns zm_162, zNok zTs zNw zPg vwCl zft zfn zsf zm_162 en := zNok_of (zIns zm_162) [580, 395, 395, 406, 585, 293, 880] (by decide +kernel) (by decide +kernel) (by decide +kernel) (by decide +kernel)
set_option maxRecDepth 100000 in
theorem zv_163 : ∀ en ∈ zIns zm_163, zNok zTs zNw zPg vwCl zft zfn zsf zm_163 en := zNok_of (zIns zm_163) [876] (by decide +kernel) (by decide +kernel) (by decide +kernel) (by decide +kernel)
set_option maxRecDepth 100000 in
theorem zv_164 : ∀ en ∈ zIns zm_164, zNok zTs zNw zPg vwCl zft zfn zsf zm_164 en := zNok_of (zIns zm_164) [1170, 1170, 1170, 1061, 1173, 1065, 1068, 1066, 1066, 1067, 1068, 1069] (by decide +kernel) (by decide +kernel) (by decide +kernel) (by decide +kernel)
set_option maxRecDepth 100000 in
theorem zv_165 : ∀ en ∈ zIns zm_165, zNok zTs zNw zPg vwCl zft zfn zsf zm_165 en := zNok_of (zIns zm_165) [395] (by decide +kernel) (by decide +kernel) (by decide +kernel) (by decide +kernel)
set_option maxRecDepth 100000 in
theorem zv_166 : ∀ en ∈ zIns zm_166, zNok zTs zNw zPg vwCl zft zfn zsf zm_166 en := zNok_of (zIns zm_166) [495, 891, 395, 406, 498, 187, 502, 363, 190, 894, 363, 190, 895, 363, 190, 363, 896, 897, 363, 96] (by decide +kernel) (by decide +kernel) (by decide +kernel) (by decide +kernel)
set_option maxRecDepth 100000 in
theorem zv_167 : ∀ en ∈ zIns zm_167, zNok zTs zNw zPg vwCl zft zfn zsf zm_167 en := zNok_of (zIns zm_167) [887] (by decide +kernel) (by decide +kernel) (by decide +kernel) (by decide +kernel)
set_option maxRecDepth 100000 in
theorem zv_168 : ∀ en ∈ zIns zm_168, zNok zTs zNw zPg vwCl zft zfn zsf zm_168 en := zNok_of (zIns zm_168) [1170, 1170, 1043, 1044, 1185, 1193] (by decide +kernel) (by decide +kernel) (by decide +kernel) (by decide +kernel)
set_option maxRecDepth 100000 in
theorem zv_169 : ∀ en ∈ zIns zm_169, zNok zTs zNw zPg vwCl zft zfn zsf zm_169 en := zNok_of (zIns zm_169) [1170, 1374, 1173, 1185, 1272, 1189, 1185, 1288] (by decide +kernel) (by decide +kernel) (by decide +kernel) (by decide +kernel)
set_option maxRecDepth 100000 in
theorem zv_170 : ∀ en ∈ zIns zm_170, zNok zTs zNw zPg vwCl zft zfn zsf zm_170 en := zNok_of (zIns zm_170) [363, 190, 894, 502, 909] (by decide +kernel) (by decide +kernel) (by decide +kernel) (by decide +kernel)
set_option maxRecDepth 100000 in
theorem zv_171 : ∀ en ∈ zIns zm_171, zNok zTs zNw zPg vwCl zft zfn zsf zm_171 en := zNok_of (zIns zm_171) [495, 891, 406, 498, 905, 363, 910, 363, 911, 363, 912] (by decide +kernel) (by decide +kernel) (by decide +kernel) (by decide +kernel)
set_option maxRecDepth 100000 in
theorem zv_172 : ∀ en ∈ zIns zm_172, zNok zTs zNw zPg vwCl zft zfn zsf zm_172 en := zNok_of (zIns zm_172) [901] (by decide +kernel) (by decide +kernel) (by decide +kernel) (by decide +kernel)
set_option maxRecDepth 100000 in
theorem zv_173 : ∀ en ∈ zIns zm_173, zNok zTs zNw zPg vwCl zft zfn zsf zm_173 en := zNok_of (zIns zm_173) [1374, 1173, 1284, 1185, 1292] (by decide +kernel) (by decide +kernel) (by decide +kernel) (by decide +kernel)
set_option maxRecDepth 100000 in
theorem zv_174 : ∀ en ∈ zIns zm_174, zNok zTs zNw zPg vwCl zft zfn zsf zm_174 en := zNok_of (zIns zm_174) [92, 92, 103, 99, 101, 705, 103, 92, 92, 547] (by decide +kernel) (by decide +kernel) (by decide +kernel) (by decide +kernel)
set_option maxRecDepth 100000 in
theorem zv_175 : ∀ en ∈ zIns zm_175, zNok zTs zNw zPg vwCl zft zfn zsf zm_175 en := zNok_of (zIns zm_175) [495, 891, 406, 498, 905, 363, 471, 363, 920] (by decide +kernel) (by decide +kernel) (by decide +kernel) (by decide +kernel)
set_option maxRecDepth 100000 in
theorem zv_176 : ∀ en ∈ zIns zm_176, zNok zTs zNw zPg vwCl zft zfn zsf zm_176 en := zNok_of (zIns zm_176) [916] (by decide +kernel) (by decide +kernel) (by decide +kernel) (by decide +kernel)
set_option maxRecDepth 100000 in
theorem zv_177 : ∀ en ∈ zIns zm_177, zNok zTs zNw zPg vwCl zft zfn zsf zm_177 en := zNok_of (zIns zm_177) [1374, 1173, 1177, 1185, 1037, 1038, 1039, 1036, 1036, 1196, 1288] (by decide +kernel) (by decide +kernel) (by decide +kernel) (by decide +kernel)
set_option maxRecDepth 100000 in
theorem zv_178 : ∀ en ∈ zIns zm_178, zNok zTs zNw zPg vwCl zft zfn zsf zm_178 en := zNok_of (zIns zm_178) [495, 395, 406, 498, 194, 194] (by decide +kernel) (by decide +kernel) (by decide +kernel) (by decide +kernel)
set_option maxRecDepth 100000 in
theorem zv_179 : ∀ en ∈ zIns zm_179, zNok zTs zNw zPg vwCl zft zfn zsf zm_179 en := zNok_of (zIns zm_179) [927] (by decide +kernel) (by decide +kernel) (by decide +kernel) (by decide +kernel)
set_option maxRecDepth 100000 in
theorem zv_180 : ∀ en ∈ zIns zm_180, zNok zTs zNw zPg vwCl zft zfn zsf zm_180 en := zNok_of (zIns zm_180) [1170, 1170, 1043, 1173, 1046, 1046] (by decide +kernel) (by decide +kernel) (by decide +kernel) (by decide +kernel)
set_option maxRecDepth 100000 in
theorem zv_181 : ∀ en ∈ zIns zm_181, zNok zTs zNw zPg vwCl zft zfn zsf zm_181 en := zNok_of (zIns zm_181) [495, 406, 498, 367, 187, 363, 190, 895, 363, 96, 363, 96, 366, 367, 367, 367, 367] (by decide +kernel) (by decide +kernel) (by decide +kernel) (by decide +kernel)
set_option maxRecDepth 100000 in
theorem zv_182 : ∀ en ∈ zIns zm_182, zNok zTs zNw zPg vwCl zft zfn zsf zm_182 en := zNok_of (zIns zm_182) [934] (by decide +kernel) (by decide +kernel) (by decide +kernel) (by decide +kernel)
set_option maxRecDepth 100000 in
theorem zv_183 : ∀ en ∈ zIns zm_183, zNok zTs zNw zPg vwCl zft zfn zsf zm_183 en := zNok_of (zIns zm_183) [1170, 1043, 1173, 1070, 1044, 1185, 1288, 1071, 1070, 1070, 1070, 1070] (by decide +kernel) (by decide +kernel) (by decide +kernel) (by decide +kernel)
set_option maxRecDepth 100000 in
theorem zv_184 : ∀ en ∈ zIns zm_184, zNok zTs zNw zPg vwCl zft zfn zsf zm_184 en := zNok_of (zIns zm_184) [367, 395, 366] (by decide +kernel) (by decide +kernel) (by decide +kernel) (by decide +kernel)
set_option maxRecDepth 100000 in
theorem zv_185 : ∀ en ∈ zIns zm_185, zNok zTs zNw zPg vwCl zft zfn zsf zm_185 en := zNok_of (zIns zm_185) [1035, 1070, 1170, 1071] (by decide +kernel) (by decide +kernel) (by decide +kernel) (by decide +kernel)
set_option maxRecDepth 100000 in
theorem zv_186 : ∀ en ∈ zIns zm_186, zNok zTs zNw zPg vwCl zft zfn zsf zm_186 en := zNok_of (zIns zm_186) [495, 891, 406, 363, 498, 190, 894] (by decide +kernel) (by decide +kernel) (by decide +kernel) (by decide +kernel)
