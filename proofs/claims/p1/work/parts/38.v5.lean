/-! EACH METHOD KNOWN, by program -/
set_option maxRecDepth 100000 in
theorem zv_187 : ∀ en ∈ zIns zm_187, zNok zTs zNw zPg vwCl zft zfn zsf zm_187 en := zNok_of (zIns zm_187) [941] (by decide +kernel) (by decide +kernel) (by decide +kernel) (by decide +kernel)
set_option maxRecDepth 100000 in
theorem zv_188 : ∀ en ∈ zIns zm_188, zNok zTs zNw zPg vwCl zft zfn zsf zm_188 en := zNok_of (zIns zm_188) [1170, 1170, 1043, 1173, 1185] (by decide +kernel) (by decide +kernel) (by decide +kernel) (by decide +kernel)
set_option maxRecDepth 100000 in
theorem zv_189 : ∀ en ∈ zIns zm_189, zNok zTs zNw zPg vwCl zft zfn zsf zm_189 en := zNok_of (zIns zm_189) [395] (by decide +kernel) (by decide +kernel) (by decide +kernel) (by decide +kernel)
set_option maxRecDepth 100000 in
theorem zv_190 : ∀ en ∈ zIns zm_190, zNok zTs zNw zPg vwCl zft zfn zsf zm_190 en := zNok_of (zIns zm_190) [495, 952, 406, 606, 606, 606, 606, 406, 368, 498, 955, 363, 96, 363, 96, 363, 96, 363, 96] (by decide +kernel) (by decide +kernel) (by decide +kernel) (by decide +kernel)
set_option maxRecDepth 100000 in
theorem zv_191 : ∀ en ∈ zIns zm_191, zNok zTs zNw zPg vwCl zft zfn zsf zm_191 en := zNok_of (zIns zm_191) [948] (by decide +kernel) (by decide +kernel) (by decide +kernel) (by decide +kernel)
set_option maxRecDepth 100000 in
theorem zv_192 : ∀ en ∈ zIns zm_192, zNok zTs zNw zPg vwCl zft zfn zsf zm_192 en := zNok_of (zIns zm_192) [1219, 1170] (by decide +kernel) (by decide +kernel) (by decide +kernel) (by decide +kernel)
set_option maxRecDepth 100000 in
theorem zv_193 : ∀ en ∈ zIns zm_193, zNok zTs zNw zPg vwCl zft zfn zsf zm_193 en := zNok_of (zIns zm_193) [1170, 1170, 1406, 1406, 1406, 1406, 1043, 1173, 1264, 1300, 1036, 1036, 1036, 1036] (by decide +kernel) (by decide +kernel) (by decide +kernel) (by decide +kernel)
set_option maxRecDepth 100000 in
theorem zv_194 : ∀ en ∈ zIns zm_194, zNok zTs zNw zPg vwCl zft zfn zsf zm_194 en := zNok_of (zIns zm_194) [92, 540, 104, 551] (by decide +kernel) (by decide +kernel) (by decide +kernel) (by decide +kernel)
set_option maxRecDepth 100000 in
theorem zv_195 : ∀ en ∈ zIns zm_195, zNok zTs zNw zPg vwCl zft zfn zsf zm_195 en := zNok_of (zIns zm_195) [495, 952, 406, 363, 498, 190, 894, 363, 963] (by decide +kernel) (by decide +kernel) (by decide +kernel) (by decide +kernel)
set_option maxRecDepth 100000 in
theorem zv_196 : ∀ en ∈ zIns zm_196, zNok zTs zNw zPg vwCl zft zfn zsf zm_196 en := zNok_of (zIns zm_196) [959] (by decide +kernel) (by decide +kernel) (by decide +kernel) (by decide +kernel)
set_option maxRecDepth 100000 in
theorem zv_197 : ∀ en ∈ zIns zm_197, zNok zTs zNw zPg vwCl zft zfn zsf zm_197 en := zNok_of (zIns zm_197) [1170, 1170, 1043, 1173, 1185, 1193, 1036, 1193, 1040] (by decide +kernel) (by decide +kernel) (by decide +kernel) (by decide +kernel)
set_option maxRecDepth 100000 in
theorem zv_198 : ∀ en ∈ zIns zm_198, zNok zTs zNw zPg vwCl zft zfn zsf zm_198 en := zNok_of (zIns zm_198) [395] (by decide +kernel) (by decide +kernel) (by decide +kernel) (by decide +kernel)
set_option maxRecDepth 100000 in
theorem zv_199 : ∀ en ∈ zIns zm_199, zNok zTs zNw zPg vwCl zft zfn zsf zm_199 en := zNok_of (zIns zm_199) [974, 395, 406, 363, 96] (by decide +kernel) (by decide +kernel) (by decide +kernel) (by decide +kernel)
set_option maxRecDepth 100000 in
theorem zv_200 : ∀ en ∈ zIns zm_200, zNok zTs zNw zPg vwCl zft zfn zsf zm_200 en := zNok_of (zIns zm_200) [970] (by decide +kernel) (by decide +kernel) (by decide +kernel) (by decide +kernel)
set_option maxRecDepth 100000 in
theorem zv_201 : ∀ en ∈ zIns zm_201, zNok zTs zNw zPg vwCl zft zfn zsf zm_201 en := zNok_of (zIns zm_201) [1170, 1170, 1173, 1036] (by decide +kernel) (by decide +kernel) (by decide +kernel) (by decide +kernel)
set_option maxRecDepth 100000 in
theorem zv_202 : ∀ en ∈ zIns zm_202, zNok zTs zNw zPg vwCl zft zfn zsf zm_202 en := zNok_of (zIns zm_202) [974, 395, 406, 363, 98, 363, 100, 363, 102] (by decide +kernel) (by decide +kernel) (by decide +kernel) (by decide +kernel)
set_option maxRecDepth 100000 in
theorem zv_203 : ∀ en ∈ zIns zm_203, zNok zTs zNw zPg vwCl zft zfn zsf zm_203 en := zNok_of (zIns zm_203) [980] (by decide +kernel) (by decide +kernel) (by decide +kernel) (by decide +kernel)
set_option maxRecDepth 100000 in
theorem zv_204 : ∀ en ∈ zIns zm_204, zNok zTs zNw zPg vwCl zft zfn zsf zm_204 en := zNok_of (zIns zm_204) [1170, 1170, 1173, 1037, 1037, 1038, 1039] (by decide +kernel) (by decide +kernel) (by decide +kernel) (by decide +kernel)
set_option maxRecDepth 100000 in
theorem zv_205 : ∀ en ∈ zIns zm_205, zNok zTs zNw zPg vwCl zft zfn zsf zm_205 en := zNok_of (zIns zm_205) [532] (by decide +kernel) (by decide +kernel) (by decide +kernel) (by decide +kernel)
set_option maxRecDepth 100000 in
theorem zv_206 : ∀ en ∈ zIns zm_206, zNok zTs zNw zPg vwCl zft zfn zsf zm_206 en := zNok_of (zIns zm_206) [495, 395, 406, 498, 187, 194, 363, 190, 187, 991, 363, 190, 187, 991, 363, 190, 187, 991, 197, 200, 363, 107, 203, 210, 216, 173, 369, 995] (by decide +kernel) (by decide +kernel) (by decide +kernel) (by decide +kernel)
set_option maxRecDepth 100000 in
theorem zv_207 : ∀ en ∈ zIns zm_207, zNok zTs zNw zPg vwCl zft zfn zsf zm_207 en := zNok_of (zIns zm_207) [987] (by decide +kernel) (by decide +kernel) (by decide +kernel) (by decide +kernel)
set_option maxRecDepth 100000 in
theorem zv_208 : ∀ en ∈ zIns zm_208, zNok zTs zNw zPg vwCl zft zfn zsf zm_208 en := zNok_of (zIns zm_208) [1044, 1185, 1193] (by decide +kernel) (by decide +kernel) (by decide +kernel) (by decide +kernel)
set_option maxRecDepth 100000 in
theorem zv_209 : ∀ en ∈ zIns zm_209, zNok zTs zNw zPg vwCl zft zfn zsf zm_209 en := zNok_of (zIns zm_209) [1061, 1200] (by decide +kernel) (by decide +kernel) (by decide +kernel) (by decide +kernel)
set_option maxRecDepth 100000 in
theorem zv_210 : ∀ en ∈ zIns zm_210, zNok zTs zNw zPg vwCl zft zfn zsf zm_210 en := zNok_of (zIns zm_210) [1170, 1170, 1043, 1173, 1044, 1046, 1425, 1047, 1048, 1049, 1050, 1051, 1060, 1429] (by decide +kernel) (by decide +kernel) (by decide +kernel) (by decide +kernel)
set_option maxRecDepth 100000 in
theorem zv_211 : ∀ en ∈ zIns zm_211, zNok zTs zNw zPg vwCl zft zfn zsf zm_211 en := zNok_of (zIns zm_211) [208, 1007, 1008, 211] (by decide +kernel) (by decide +kernel) (by decide +kernel) (by decide +kernel)
set_option maxRecDepth 100000 in
theorem zv_212 : ∀ en ∈ zIns zm_212, zNok zTs zNw zPg vwCl zft zfn zsf zm_212 en := zNok_of (zIns zm_212) [495, 406, 498, 1003] (by decide +kernel) (by decide +kernel) (by decide +kernel) (by decide +kernel)
set_option maxRecDepth 100000 in
theorem zv_213 : ∀ en ∈ zIns zm_213, zNok zTs zNw zPg vwCl zft zfn zsf zm_213 en := zNok_of (zIns zm_213) [999] (by decide +kernel) (by decide +kernel) (by decide +kernel) (by decide +kernel)
set_option maxRecDepth 100000 in
theorem zv_214 : ∀ en ∈ zIns zm_214, zNok zTs zNw zPg vwCl zft zfn zsf zm_214 en := zNok_of (zIns zm_214) [1170, 1043, 1173, 1051, 1236, 1170, 1052] (by decide +kernel) (by decide +kernel) (by decide +kernel) (by decide +kernel)
set_option maxRecDepth 100000 in
theorem zv_215 : ∀ en ∈ zIns zm_215, zNok zTs zNw zPg vwCl zft zfn zsf zm_215 en := zNok_of (zIns zm_215) [105] (by decide +kernel) (by decide +kernel) (by decide +kernel) (by decide +kernel)
set_option maxRecDepth 100000 in
theorem zv_216 : ∀ en ∈ zIns zm_216, zNok zTs zNw zPg vwCl zft zfn zsf zm_216 en := zNok_of (zIns zm_216) [324, 185] (by decide +kernel) (by decide +kernel) (by decide +kernel) (by decide +kernel)
set_option maxRecDepth 100000 in
theorem zv_217 : ∀ en ∈ zIns zm_217, zNok zTs zNw zPg vwCl zft zfn zsf zm_217 en := zNok_of (zIns zm_217) [325, 282] (by decide +kernel) (by decide +kernel) (by decide +kernel) (by decide +kernel)
set_option maxRecDepth 100000 in
theorem zv_218 : ∀ en ∈ zIns zm_218, zNok zTs zNw zPg vwCl zft zfn zsf zm_218 en := zNok_of (zIns zm_218) [395, 406, 363, 1016, 363, 1017, 363, 109, 369, 1021, 369, 1025] (by decide +kernel) (by decide +kernel) (by decide +kernel) (by decide +kernel)
set_option maxRecDepth 100000 in
theorem zv_219 : ∀ en ∈ zIns zm_219, zNok zTs zNw zPg vwCl zft zfn zsf zm_219 en := zNok_of (zIns zm_219) [1012] (by decide +kernel) (by decide +kernel) (by decide +kernel) (by decide +kernel)
set_option maxRecDepth 100000 in
theorem zv_220 : ∀ en ∈ zIns zm_220, zNok zTs zNw zPg vwCl zft zfn zsf zm_220 en := zNok_of (zIns zm_220) [1170, 1173, 1037, 1041, 1042, 1043, 1429] (by decide +kernel) (by decide +kernel) (by decide +kernel) (by decide +kernel)
set_option maxRecDepth 100000 in
theorem zv_221_0 : ∀ en ∈ zl_221_0, zNok zTs zNw zPg vwCl zft zfn zsf zm_221 en := zNok_of zl_221_0 [78, 80, 1029, 1031, 398, 1166, 1162] (by decide +kernel) (by decide +kernel) (by decide +kernel) (by decide +kernel)
