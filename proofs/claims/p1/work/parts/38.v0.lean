/-! EACH METHOD KNOWN, by program -/
set_option maxRecDepth 100000 in
theorem zv_0 : ∀ en ∈ zIns zm_0, zNok zTs zNw zPg vwCl zft zfn zsf zm_0 en := zNok_of (zIns zm_0) [91, 92, 97, 99, 101, 103, 104, 105, 106, 108, 99, 101] (by decide +kernel) (by decide +kernel) (by decide +kernel) (by decide +kernel)
set_option maxRecDepth 100000 in
theorem zv_1 : ∀ en ∈ zIns zm_1, zNok zTs zNw zPg vwCl zft zfn zsf zm_1 en := zNok_of (zIns zm_1) [145, 146, 148, 150, 152] (by decide +kernel) (by decide +kernel) (by decide +kernel) (by decide +kernel)
set_option maxRecDepth 100000 in
theorem zv_2 : ∀ en ∈ zIns zm_2, zNok zTs zNw zPg vwCl zft zfn zsf zm_2 en := zNok_of (zIns zm_2) [168, 169, 170] (by decide +kernel) (by decide +kernel) (by decide +kernel) (by decide +kernel)
set_option maxRecDepth 100000 in
theorem zv_3 : ∀ en ∈ zIns zm_3, zNok zTs zNw zPg vwCl zft zfn zsf zm_3 en := zNok_of (zIns zm_3) [139, 183, 211, 140, 142, 212, 163, 165, 214, 179] (by decide +kernel) (by decide +kernel) (by decide +kernel) (by decide +kernel)
set_option maxRecDepth 100000 in
theorem zv_4 : ∀ en ∈ zIns zm_4, zNok zTs zNw zPg vwCl zft zfn zsf zm_4 en := zNok_of (zIns zm_4) [256, 257, 259, 260, 261, 263, 264] (by decide +kernel) (by decide +kernel) (by decide +kernel) (by decide +kernel)
set_option maxRecDepth 100000 in
theorem zv_5 : ∀ en ∈ zIns zm_5, zNok zTs zNw zPg vwCl zft zfn zsf zm_5 en := zNok_of (zIns zm_5) [250, 280, 283, 288, 251, 253, 290, 278] (by decide +kernel) (by decide +kernel) (by decide +kernel) (by decide +kernel)
set_option maxRecDepth 100000 in
theorem zv_6 : ∀ en ∈ zIns zm_6, zNok zTs zNw zPg vwCl zft zfn zsf zm_6 en := zNok_of (zIns zm_6) [310, 311] (by decide +kernel) (by decide +kernel) (by decide +kernel) (by decide +kernel)
set_option maxRecDepth 100000 in
theorem zv_7 : ∀ en ∈ zIns zm_7, zNok zTs zNw zPg vwCl zft zfn zsf zm_7 en := zNok_of (zIns zm_7) [322, 323, 324, 325] (by decide +kernel) (by decide +kernel) (by decide +kernel) (by decide +kernel)
set_option maxRecDepth 100000 in
theorem zv_8 : ∀ en ∈ zIns zm_8, zNok zTs zNw zPg vwCl zft zfn zsf zm_8 en := zNok_of (zIns zm_8) [339, 340, 341] (by decide +kernel) (by decide +kernel) (by decide +kernel) (by decide +kernel)
set_option maxRecDepth 100000 in
theorem zv_9 : ∀ en ∈ zIns zm_9, zNok zTs zNw zPg vwCl zft zfn zsf zm_9 en := zNok_of (zIns zm_9) [352, 353, 354, 355] (by decide +kernel) (by decide +kernel) (by decide +kernel) (by decide +kernel)
set_option maxRecDepth 100000 in
theorem zv_10 : ∀ en ∈ zIns zm_10, zNok zTs zNw zPg vwCl zft zfn zsf zm_10 en := zNok_of (zIns zm_10) [83, 86, 88, 363, 131, 364, 133, 365, 366, 367, 364, 131, 136, 365, 133, 247, 305, 363, 307, 368, 317, 368, 364, 365, 319, 369, 334, 368, 369, 336, 370, 347, 368, 369, 370, 349, 371] (by decide +kernel) (by decide +kernel) (by decide +kernel) (by decide +kernel)
set_option maxRecDepth 100000 in
theorem zv_11 : ∀ en ∈ zIns zm_11, zNok zTs zNw zPg vwCl zft zfn zsf zm_11 en := zNok_of (zIns zm_11) [1034, 1036, 1037, 1038, 1039, 1040, 1041, 1043, 1044, 1045, 1046, 1047, 1048, 1049, 1050, 1051, 1052, 1053, 1054, 1055, 1056, 1057, 1058, 1059, 1060, 1061, 1062, 1063, 1064, 1065, 1066, 1067, 1068, 1069, 1071, 1042] (by decide +kernel) (by decide +kernel) (by decide +kernel) (by decide +kernel)
set_option maxRecDepth 100000 in
theorem zv_12 : ∀ en ∈ zIns zm_12, zNok zTs zNw zPg vwCl zft zfn zsf zm_12 en := zNok_of (zIns zm_12) [] (by decide +kernel) (by decide +kernel) (by decide +kernel) (by decide +kernel)
set_option maxRecDepth 100000 in
theorem zv_13 : ∀ en ∈ zIns zm_13, zNok zTs zNw zPg vwCl zft zfn zsf zm_13 en := zNok_of (zIns zm_13) [] (by decide +kernel) (by decide +kernel) (by decide +kernel) (by decide +kernel)
set_option maxRecDepth 100000 in
theorem zv_14 : ∀ en ∈ zIns zm_14, zNok zTs zNw zPg vwCl zft zfn zsf zm_14 en := zNok_of (zIns zm_14) [97] (by decide +kernel) (by decide +kernel) (by decide +kernel) (by decide +kernel)
set_option maxRecDepth 100000 in
theorem zv_15 : ∀ en ∈ zIns zm_15, zNok zTs zNw zPg vwCl zft zfn zsf zm_15 en := zNok_of (zIns zm_15) [97, 99, 101] (by decide +kernel) (by decide +kernel) (by decide +kernel) (by decide +kernel)
set_option maxRecDepth 100000 in
theorem zv_16 : ∀ en ∈ zIns zm_16, zNok zTs zNw zPg vwCl zft zfn zsf zm_16 en := zNok_of (zIns zm_16) [146, 148, 150, 152] (by decide +kernel) (by decide +kernel) (by decide +kernel) (by decide +kernel)
set_option maxRecDepth 100000 in
theorem zv_17 : ∀ en ∈ zIns zm_17, zNok zTs zNw zPg vwCl zft zfn zsf zm_17 en := zNok_of (zIns zm_17) [183, 186, 189, 192, 195, 198, 201, 204, 206, 208, 212, 483, 214, 171] (by decide +kernel) (by decide +kernel) (by decide +kernel) (by decide +kernel)
set_option maxRecDepth 100000 in
theorem zv_18 : ∀ en ∈ zIns zm_18, zNok zTs zNw zPg vwCl zft zfn zsf zm_18 en := zNok_of (zIns zm_18) [395, 406, 363, 471, 364, 184, 363, 475, 363, 107, 364, 479] (by decide +kernel) (by decide +kernel) (by decide +kernel) (by decide +kernel)
set_option maxRecDepth 100000 in
theorem zv_19 : ∀ en ∈ zIns zm_19, zNok zTs zNw zPg vwCl zft zfn zsf zm_19 en := zNok_of (zIns zm_19) [402] (by decide +kernel) (by decide +kernel) (by decide +kernel) (by decide +kernel)
set_option maxRecDepth 100000 in
theorem zv_20 : ∀ en ∈ zIns zm_20, zNok zTs zNw zPg vwCl zft zfn zsf zm_20 en := zNok_of (zIns zm_20) [] (by decide +kernel) (by decide +kernel) (by decide +kernel) (by decide +kernel)
set_option maxRecDepth 100000 in
theorem zv_21 : ∀ en ∈ zIns zm_21, zNok zTs zNw zPg vwCl zft zfn zsf zm_21 en := zNok_of (zIns zm_21) [1035] (by decide +kernel) (by decide +kernel) (by decide +kernel) (by decide +kernel)
set_option maxRecDepth 100000 in
theorem zv_22 : ∀ en ∈ zIns zm_22, zNok zTs zNw zPg vwCl zft zfn zsf zm_22 en := zNok_of (zIns zm_22) [1037] (by decide +kernel) (by decide +kernel) (by decide +kernel) (by decide +kernel)
set_option maxRecDepth 100000 in
theorem zv_23 : ∀ en ∈ zIns zm_23, zNok zTs zNw zPg vwCl zft zfn zsf zm_23 en := zNok_of (zIns zm_23) [1170, 1173, 1043, 1177, 1043, 1044, 1037, 1038, 1039, 1045, 1046, 1047, 1048, 1049, 1050, 1051, 1053, 1056, 1057, 1058, 1060, 1055] (by decide +kernel) (by decide +kernel) (by decide +kernel) (by decide +kernel)
set_option maxRecDepth 100000 in
theorem zv_24 : ∀ en ∈ zIns zm_24, zNok zTs zNw zPg vwCl zft zfn zsf zm_24 en := zNok_of (zIns zm_24) [1035] (by decide +kernel) (by decide +kernel) (by decide +kernel) (by decide +kernel)
set_option maxRecDepth 100000 in
theorem zv_25 : ∀ en ∈ zIns zm_25, zNok zTs zNw zPg vwCl zft zfn zsf zm_25 en := zNok_of (zIns zm_25) [395] (by decide +kernel) (by decide +kernel) (by decide +kernel) (by decide +kernel)
set_option maxRecDepth 100000 in
theorem zv_26 : ∀ en ∈ zIns zm_26, zNok zTs zNw zPg vwCl zft zfn zsf zm_26 en := zNok_of (zIns zm_26) [] (by decide +kernel) (by decide +kernel) (by decide +kernel) (by decide +kernel)
set_option maxRecDepth 100000 in
theorem zv_27 : ∀ en ∈ zIns zm_27, zNok zTs zNw zPg vwCl zft zfn zsf zm_27 en := zNok_of (zIns zm_27) [364, 184, 502, 364] (by decide +kernel) (by decide +kernel) (by decide +kernel) (by decide +kernel)
set_option maxRecDepth 100000 in
theorem zv_28 : ∀ en ∈ zIns zm_28, zNok zTs zNw zPg vwCl zft zfn zsf zm_28 en := zNok_of (zIns zm_28) [280, 283] (by decide +kernel) (by decide +kernel) (by decide +kernel) (by decide +kernel)
set_option maxRecDepth 100000 in
theorem zv_29 : ∀ en ∈ zIns zm_29, zNok zTs zNw zPg vwCl zft zfn zsf zm_29 en := zNok_of (zIns zm_29) [97] (by decide +kernel) (by decide +kernel) (by decide +kernel) (by decide +kernel)
set_option maxRecDepth 100000 in
theorem zv_30 : ∀ en ∈ zIns zm_30, zNok zTs zNw zPg vwCl zft zfn zsf zm_30 en := zNok_of (zIns zm_30) [] (by decide +kernel) (by decide +kernel) (by decide +kernel) (by decide +kernel)
set_option maxRecDepth 100000 in
theorem zv_31 : ∀ en ∈ zIns zm_31, zNok zTs zNw zPg vwCl zft zfn zsf zm_31 en := zNok_of (zIns zm_31) [92, 540] (by decide +kernel) (by decide +kernel) (by decide +kernel) (by decide +kernel)
set_option maxRecDepth 100000 in
theorem zv_32 : ∀ en ∈ zIns zm_32, zNok zTs zNw zPg vwCl zft zfn zsf zm_32 en := zNok_of (zIns zm_32) [536, 92] (by decide +kernel) (by decide +kernel) (by decide +kernel) (by decide +kernel)
set_option maxRecDepth 100000 in
theorem zv_33 : ∀ en ∈ zIns zm_33, zNok zTs zNw zPg vwCl zft zfn zsf zm_33 en := zNok_of (zIns zm_33) [92, 97, 99, 101] (by decide +kernel) (by decide +kernel) (by decide +kernel) (by decide +kernel)
set_option maxRecDepth 100000 in
theorem zv_34 : ∀ en ∈ zIns zm_34, zNok zTs zNw zPg vwCl zft zfn zsf zm_34 en := zNok_of (zIns zm_34) [] (by decide +kernel) (by decide +kernel) (by decide +kernel) (by decide +kernel)
set_option maxRecDepth 100000 in
theorem zv_35 : ∀ en ∈ zIns zm_35, zNok zTs zNw zPg vwCl zft zfn zsf zm_35 en := zNok_of (zIns zm_35) [540, 547, 105, 551] (by decide +kernel) (by decide +kernel) (by decide +kernel) (by decide +kernel)
set_option maxRecDepth 100000 in
theorem zv_36 : ∀ en ∈ zIns zm_36, zNok zTs zNw zPg vwCl zft zfn zsf zm_36 en := zNok_of (zIns zm_36) [528, 532, 543, 99, 547, 528] (by decide +kernel) (by decide +kernel) (by decide +kernel) (by decide +kernel)
set_option maxRecDepth 100000 in
theorem zv_37 : ∀ en ∈ zIns zm_37, zNok zTs zNw zPg vwCl zft zfn zsf zm_37 en := zNok_of (zIns zm_37) [495, 406, 498, 365, 520, 365, 281, 184, 363, 190, 187, 524] (by decide +kernel) (by decide +kernel) (by decide +kernel) (by decide +kernel)
set_option maxRecDepth 100000 in
theorem zv_38 : ∀ en ∈ zIns zm_38, zNok zTs zNw zPg vwCl zft zfn zsf zm_38 en := zNok_of (zIns zm_38) [491] (by decide +kernel) (by decide +kernel) (by decide +kernel) (by decide +kernel)
set_option maxRecDepth 100000 in
theorem zv_39 : ∀ en ∈ zIns zm_39, zNok zTs zNw zPg vwCl zft zfn zsf zm_39 en := zNok_of (zIns zm_39) [1036, 1045] (by decide +kernel) (by decide +kernel) (by decide +kernel) (by decide +kernel)
set_option maxRecDepth 100000 in
theorem zv_40 : ∀ en ∈ zIns zm_40, zNok zTs zNw zPg vwCl zft zfn zsf zm_40 en := zNok_of (zIns zm_40) [1044, 1189, 1036] (by decide +kernel) (by decide +kernel) (by decide +kernel) (by decide +kernel)
set_option maxRecDepth 100000 in
theorem zv_41 : ∀ en ∈ zIns zm_41, zNok zTs zNw zPg vwCl zft zfn zsf zm_41 en := zNok_of (zIns zm_41) [] (by decide +kernel) (by decide +kernel) (by decide +kernel) (by decide +kernel)
set_option maxRecDepth 100000 in
theorem zv_42 : ∀ en ∈ zIns zm_42, zNok zTs zNw zPg vwCl zft zfn zsf zm_42 en := zNok_of (zIns zm_42) [1037, 1036] (by decide +kernel) (by decide +kernel) (by decide +kernel) (by decide +kernel)
set_option maxRecDepth 100000 in
theorem zv_43 : ∀ en ∈ zIns zm_43, zNok zTs zNw zPg vwCl zft zfn zsf zm_43 en := zNok_of (zIns zm_43) [1062] (by decide +kernel) (by decide +kernel) (by decide +kernel) (by decide +kernel)
set_option maxRecDepth 100000 in
theorem zv_44 : ∀ en ∈ zIns zm_44, zNok zTs zNw zPg vwCl zft zfn zsf zm_44 en := zNok_of (zIns zm_44) [1170, 1043, 1173, 1044, 1185, 1193, 1041, 1037, 1038, 1196, 1061, 1061, 1200, 1043] (by decide +kernel) (by decide +kernel) (by decide +kernel) (by decide +kernel)
set_option maxRecDepth 100000 in
theorem zv_45 : ∀ en ∈ zIns zm_45, zNok zTs zNw zPg vwCl zft zfn zsf zm_45 en := zNok_of (zIns zm_45) [288, 288, 288, 288, 288] (by decide +kernel) (by decide +kernel) (by decide +kernel) (by decide +kernel)
set_option maxRecDepth 100000 in
theorem zv_46 : ∀ en ∈ zIns zm_46, zNok zTs zNw zPg vwCl zft zfn zsf zm_46 en := zNok_of (zIns zm_46) [257, 264] (by decide +kernel) (by decide +kernel) (by decide +kernel) (by decide +kernel)
set_option maxRecDepth 100000 in
theorem zv_47 : ∀ en ∈ zIns zm_47, zNok zTs zNw zPg vwCl zft zfn zsf zm_47 en := zNok_of (zIns zm_47) [280, 283, 283, 283, 565, 290, 569] (by decide +kernel) (by decide +kernel) (by decide +kernel) (by decide +kernel)
set_option maxRecDepth 100000 in
theorem zv_48 : ∀ en ∈ zIns zm_48, zNok zTs zNw zPg vwCl zft zfn zsf zm_48 en := zNok_of (zIns zm_48) [495, 406, 498, 365, 281, 365, 561] (by decide +kernel) (by decide +kernel) (by decide +kernel) (by decide +kernel)
set_option maxRecDepth 100000 in
theorem zv_49 : ∀ en ∈ zIns zm_49, zNok zTs zNw zPg vwCl zft zfn zsf zm_49 en := zNok_of (zIns zm_49) [557] (by decide +kernel) (by decide +kernel) (by decide +kernel) (by decide +kernel)
set_option maxRecDepth 100000 in
theorem zv_50 : ∀ en ∈ zIns zm_50, zNok zTs zNw zPg vwCl zft zfn zsf zm_50 en := zNok_of (zIns zm_50) [1062] (by decide +kernel) (by decide +kernel) (by decide +kernel) (by decide +kernel)
set_option maxRecDepth 100000 in
theorem zv_51 : ∀ en ∈ zIns zm_51, zNok zTs zNw zPg vwCl zft zfn zsf zm_51 en := zNok_of (zIns zm_51) [1170, 1043, 1173, 1061, 1061, 1208, 1208, 1208, 1063, 1064, 1065] (by decide +kernel) (by decide +kernel) (by decide +kernel) (by decide +kernel)
set_option maxRecDepth 100000 in
theorem zv_52 : ∀ en ∈ zIns zm_52, zNok zTs zNw zPg vwCl zft zfn zsf zm_52 en := zNok_of (zIns zm_52) [395] (by decide +kernel) (by decide +kernel) (by decide +kernel) (by decide +kernel)
set_option maxRecDepth 100000 in
theorem zv_53 : ∀ en ∈ zIns zm_53, zNok zTs zNw zPg vwCl zft zfn zsf zm_53 en := zNok_of (zIns zm_53) [365, 281, 502, 365] (by decide +kernel) (by decide +kernel) (by decide +kernel) (by decide +kernel)
set_option maxRecDepth 100000 in
theorem zv_54 : ∀ en ∈ zIns zm_54, zNok zTs zNw zPg vwCl zft zfn zsf zm_54 en := zNok_of (zIns zm_54) [580, 395, 406, 583, 395, 406, 585, 287] (by decide +kernel) (by decide +kernel) (by decide +kernel) (by decide +kernel)
