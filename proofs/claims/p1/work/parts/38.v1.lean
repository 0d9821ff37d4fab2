/-! EACH METHOD KNOWN, by program -/
set_option maxRecDepth 100000 in
theorem zv_55 : ∀ en ∈ zIns zm_55, zNok zTs zNw zPg vwCl zft zfn zsf zm_55 en := zNok_of (zIns zm_55) [576] (by decide +kernel) (by decide +kernel) (by decide +kernel) (by decide +kernel)
set_option maxRecDepth 100000 in
theorem zv_56 : ∀ en ∈ zIns zm_56, zNok zTs zNw zPg vwCl zft zfn zsf zm_56 en := zNok_of (zIns zm_56) [1219, 1170, 1170, 1170, 1170, 1170, 1170] (by decide +kernel) (by decide +kernel) (by decide +kernel) (by decide +kernel)
set_option maxRecDepth 100000 in
theorem zv_57 : ∀ en ∈ zIns zm_57, zNok zTs zNw zPg vwCl zft zfn zsf zm_57 en := zNok_of (zIns zm_57) [1170, 1216, 1061, 1173, 1208] (by decide +kernel) (by decide +kernel) (by decide +kernel) (by decide +kernel)
set_option maxRecDepth 100000 in
theorem zv_58 : ∀ en ∈ zIns zm_58, zNok zTs zNw zPg vwCl zft zfn zsf zm_58 en := zNok_of (zIns zm_58) [580, 395, 406, 585, 287] (by decide +kernel) (by decide +kernel) (by decide +kernel) (by decide +kernel)
set_option maxRecDepth 100000 in
theorem zv_59 : ∀ en ∈ zIns zm_59, zNok zTs zNw zPg vwCl zft zfn zsf zm_59 en := zNok_of (zIns zm_59) [592] (by decide +kernel) (by decide +kernel) (by decide +kernel) (by decide +kernel)
set_option maxRecDepth 100000 in
theorem zv_60 : ∀ en ∈ zIns zm_60, zNok zTs zNw zPg vwCl zft zfn zsf zm_60 en := zNok_of (zIns zm_60) [1170, 1170, 1061, 1173, 1200] (by decide +kernel) (by decide +kernel) (by decide +kernel) (by decide +kernel)
set_option maxRecDepth 100000 in
theorem zv_61 : ∀ en ∈ zIns zm_61, zNok zTs zNw zPg vwCl zft zfn zsf zm_61 en := zNok_of (zIns zm_61) [395] (by decide +kernel) (by decide +kernel) (by decide +kernel) (by decide +kernel)
set_option maxRecDepth 100000 in
theorem zv_62 : ∀ en ∈ zIns zm_62, zNok zTs zNw zPg vwCl zft zfn zsf zm_62 en := zNok_of (zIns zm_62) [609, 395] (by decide +kernel) (by decide +kernel) (by decide +kernel) (by decide +kernel)
set_option maxRecDepth 100000 in
theorem zv_63 : ∀ en ∈ zIns zm_63, zNok zTs zNw zPg vwCl zft zfn zsf zm_63 en := zNok_of (zIns zm_63) [324, 284] (by decide +kernel) (by decide +kernel) (by decide +kernel) (by decide +kernel)
set_option maxRecDepth 100000 in
theorem zv_64 : ∀ en ∈ zIns zm_64, zNok zTs zNw zPg vwCl zft zfn zsf zm_64 en := zNok_of (zIns zm_64) [283, 283, 623] (by decide +kernel) (by decide +kernel) (by decide +kernel) (by decide +kernel)
set_option maxRecDepth 100000 in
theorem zv_65 : ∀ en ∈ zIns zm_65, zNok zTs zNw zPg vwCl zft zfn zsf zm_65 en := zNok_of (zIns zm_65) [202, 202, 205, 205, 205, 205, 325, 207, 181, 618, 325, 207, 619] (by decide +kernel) (by decide +kernel) (by decide +kernel) (by decide +kernel)
set_option maxRecDepth 100000 in
theorem zv_66 : ∀ en ∈ zIns zm_66, zNok zTs zNw zPg vwCl zft zfn zsf zm_66 en := zNok_of (zIns zm_66) [283] (by decide +kernel) (by decide +kernel) (by decide +kernel) (by decide +kernel)
set_option maxRecDepth 100000 in
theorem zv_67 : ∀ en ∈ zIns zm_67, zNok zTs zNw zPg vwCl zft zfn zsf zm_67 en := zNok_of (zIns zm_67) [263, 261, 261, 257, 259] (by decide +kernel) (by decide +kernel) (by decide +kernel) (by decide +kernel)
set_option maxRecDepth 100000 in
theorem zv_68 : ∀ en ∈ zIns zm_68, zNok zTs zNw zPg vwCl zft zfn zsf zm_68 en := zNok_of (zIns zm_68) [642] (by decide +kernel) (by decide +kernel) (by decide +kernel) (by decide +kernel)
set_option maxRecDepth 100000 in
theorem zv_69 : ∀ en ∈ zIns zm_69, zNok zTs zNw zPg vwCl zft zfn zsf zm_69 en := zNok_of (zIns zm_69) [283] (by decide +kernel) (by decide +kernel) (by decide +kernel) (by decide +kernel)
set_option maxRecDepth 100000 in
theorem zv_70 : ∀ en ∈ zIns zm_70, zNok zTs zNw zPg vwCl zft zfn zsf zm_70 en := zNok_of (zIns zm_70) [649, 649, 630] (by decide +kernel) (by decide +kernel) (by decide +kernel) (by decide +kernel)
set_option maxRecDepth 100000 in
theorem zv_71 : ∀ en ∈ zIns zm_71, zNok zTs zNw zPg vwCl zft zfn zsf zm_71 en := zNok_of (zIns zm_71) [261] (by decide +kernel) (by decide +kernel) (by decide +kernel) (by decide +kernel)
set_option maxRecDepth 100000 in
theorem zv_72 : ∀ en ∈ zIns zm_72, zNok zTs zNw zPg vwCl zft zfn zsf zm_72 en := zNok_of (zIns zm_72) [657, 260, 260] (by decide +kernel) (by decide +kernel) (by decide +kernel) (by decide +kernel)
set_option maxRecDepth 100000 in
theorem zv_73 : ∀ en ∈ zIns zm_73, zNok zTs zNw zPg vwCl zft zfn zsf zm_73 en := zNok_of (zIns zm_73) [291, 286, 638, 291, 262, 646, 291, 258, 291, 653] (by decide +kernel) (by decide +kernel) (by decide +kernel) (by decide +kernel)
set_option maxRecDepth 100000 in
theorem zv_74 : ∀ en ∈ zIns zm_74, zNok zTs zNw zPg vwCl zft zfn zsf zm_74 en := zNok_of (zIns zm_74) [] (by decide +kernel) (by decide +kernel) (by decide +kernel) (by decide +kernel)
set_option maxRecDepth 100000 in
theorem zv_75 : ∀ en ∈ zIns zm_75, zNok zTs zNw zPg vwCl zft zfn zsf zm_75 en := zNok_of (zIns zm_75) [] (by decide +kernel) (by decide +kernel) (by decide +kernel) (by decide +kernel)
set_option maxRecDepth 100000 in
theorem zv_76 : ∀ en ∈ zIns zm_76, zNok zTs zNw zPg vwCl zft zfn zsf zm_76 en := zNok_of (zIns zm_76) [395] (by decide +kernel) (by decide +kernel) (by decide +kernel) (by decide +kernel)
set_option maxRecDepth 100000 in
theorem zv_77 : ∀ en ∈ zIns zm_77, zNok zTs zNw zPg vwCl zft zfn zsf zm_77 en := zNok_of (zIns zm_77) [105] (by decide +kernel) (by decide +kernel) (by decide +kernel) (by decide +kernel)
set_option maxRecDepth 100000 in
theorem zv_78 : ∀ en ∈ zIns zm_78, zNok zTs zNw zPg vwCl zft zfn zsf zm_78 en := zNok_of (zIns zm_78) [108, 108, 108, 97, 103, 92, 92] (by decide +kernel) (by decide +kernel) (by decide +kernel) (by decide +kernel)
set_option maxRecDepth 100000 in
theorem zv_79 : ∀ en ∈ zIns zm_79, zNok zTs zNw zPg vwCl zft zfn zsf zm_79 en := zNok_of (zIns zm_79) [104, 92, 105, 103, 92, 92] (by decide +kernel) (by decide +kernel) (by decide +kernel) (by decide +kernel)
set_option maxRecDepth 100000 in
theorem zv_80 : ∀ en ∈ zIns zm_80, zNok zTs zNw zPg vwCl zft zfn zsf zm_80 en := zNok_of (zIns zm_80) [688, 689, 693, 106, 99, 697, 547] (by decide +kernel) (by decide +kernel) (by decide +kernel) (by decide +kernel)
set_option maxRecDepth 100000 in
theorem zv_81 : ∀ en ∈ zIns zm_81, zNok zTs zNw zPg vwCl zft zfn zsf zm_81 en := zNok_of (zIns zm_81) [705, 92] (by decide +kernel) (by decide +kernel) (by decide +kernel) (by decide +kernel)
set_option maxRecDepth 100000 in
theorem zv_82 : ∀ en ∈ zIns zm_82, zNok zTs zNw zPg vwCl zft zfn zsf zm_82 en := zNok_of (zIns zm_82) [92, 551, 92, 104, 105, 705, 103, 92, 92] (by decide +kernel) (by decide +kernel) (by decide +kernel) (by decide +kernel)
set_option maxRecDepth 100000 in
theorem zv_83 : ∀ en ∈ zIns zm_83, zNok zTs zNw zPg vwCl zft zfn zsf zm_83 en := zNok_of (zIns zm_83) [188, 680, 311, 191, 683, 311, 94, 311, 191, 180, 311, 684, 701, 311, 684, 311, 180, 706, 196, 196, 199, 199, 311, 94, 710] (by decide +kernel) (by decide +kernel) (by decide +kernel) (by decide +kernel)
set_option maxRecDepth 100000 in
theorem zv_84 : ∀ en ∈ zIns zm_84, zNok zTs zNw zPg vwCl zft zfn zsf zm_84 en := zNok_of (zIns zm_84) [340, 341, 669, 670, 673, 676, 711, 340, 312, 93] (by decide +kernel) (by decide +kernel) (by decide +kernel) (by decide +kernel)
set_option maxRecDepth 100000 in
theorem zv_85 : ∀ en ∈ zIns zm_85, zNok zTs zNw zPg vwCl zft zfn zsf zm_85 en := zNok_of (zIns zm_85) [283, 283] (by decide +kernel) (by decide +kernel) (by decide +kernel) (by decide +kernel)
set_option maxRecDepth 100000 in
theorem zv_86 : ∀ en ∈ zIns zm_86, zNok zTs zNw zPg vwCl zft zfn zsf zm_86 en := zNok_of (zIns zm_86) [649, 715] (by decide +kernel) (by decide +kernel) (by decide +kernel) (by decide +kernel)
set_option maxRecDepth 100000 in
theorem zv_87 : ∀ en ∈ zIns zm_87, zNok zTs zNw zPg vwCl zft zfn zsf zm_87 en := zNok_of (zIns zm_87) [] (by decide +kernel) (by decide +kernel) (by decide +kernel) (by decide +kernel)
set_option maxRecDepth 100000 in
theorem zv_88 : ∀ en ∈ zIns zm_88, zNok zTs zNw zPg vwCl zft zfn zsf zm_88 en := zNok_of (zIns zm_88) [340, 341, 669, 670, 673, 676, 711, 340, 312, 93] (by decide +kernel) (by decide +kernel) (by decide +kernel) (by decide +kernel)
set_option maxRecDepth 100000 in
theorem zv_89 : ∀ en ∈ zIns zm_89, zNok zTs zNw zPg vwCl zft zfn zsf zm_89 en := zNok_of (zIns zm_89) [] (by decide +kernel) (by decide +kernel) (by decide +kernel) (by decide +kernel)
set_option maxRecDepth 100000 in
theorem zv_90 : ∀ en ∈ zIns zm_90, zNok zTs zNw zPg vwCl zft zfn zsf zm_90 en := zNok_of (zIns zm_90) [257, 264, 259, 264, 260, 264, 261, 264, 263, 264, 264, 264] (by decide +kernel) (by decide +kernel) (by decide +kernel) (by decide +kernel)
set_option maxRecDepth 100000 in
theorem zv_91 : ∀ en ∈ zIns zm_91, zNok zTs zNw zPg vwCl zft zfn zsf zm_91 en := zNok_of (zIns zm_91) [286, 665, 712, 712, 665, 712, 719, 646, 712, 722, 722, 726, 291, 286, 729] (by decide +kernel) (by decide +kernel) (by decide +kernel) (by decide +kernel)
set_option maxRecDepth 100000 in
theorem zv_92 : ∀ en ∈ zIns zm_92, zNok zTs zNw zPg vwCl zft zfn zsf zm_92 en := zNok_of (zIns zm_92) [148, 150, 152] (by decide +kernel) (by decide +kernel) (by decide +kernel) (by decide +kernel)
set_option maxRecDepth 100000 in
theorem zv_93 : ∀ en ∈ zIns zm_93, zNok zTs zNw zPg vwCl zft zfn zsf zm_93 en := zNok_of (zIns zm_93) [170, 169, 170, 170, 170, 169, 169] (by decide +kernel) (by decide +kernel) (by decide +kernel) (by decide +kernel)
set_option maxRecDepth 100000 in
theorem zv_94 : ∀ en ∈ zIns zm_94, zNok zTs zNw zPg vwCl zft zfn zsf zm_94 en := zNok_of (zIns zm_94) [209, 738, 739, 202, 740, 205, 213, 741, 215, 745, 215, 172] (by decide +kernel) (by decide +kernel) (by decide +kernel) (by decide +kernel)
set_option maxRecDepth 100000 in
theorem zv_95 : ∀ en ∈ zIns zm_95, zNok zTs zNw zPg vwCl zft zfn zsf zm_95 en := zNok_of (zIns zm_95) [208, 211, 208, 208, 208] (by decide +kernel) (by decide +kernel) (by decide +kernel) (by decide +kernel)
set_option maxRecDepth 100000 in
theorem zv_96 : ∀ en ∈ zIns zm_96, zNok zTs zNw zPg vwCl zft zfn zsf zm_96 en := zNok_of (zIns zm_96) [323, 313, 95, 147, 149, 147, 149] (by decide +kernel) (by decide +kernel) (by decide +kernel) (by decide +kernel)
set_option maxRecDepth 100000 in
theorem zv_97 : ∀ en ∈ zIns zm_97, zNok zTs zNw zPg vwCl zft zfn zsf zm_97 en := zNok_of (zIns zm_97) [213, 149, 151, 762, 323, 151, 763, 764, 765, 153, 766] (by decide +kernel) (by decide +kernel) (by decide +kernel) (by decide +kernel)
set_option maxRecDepth 100000 in
theorem zv_98 : ∀ en ∈ zIns zm_98, zNok zTs zNw zPg vwCl zft zfn zsf zm_98 en := zNok_of (zIns zm_98) [170, 169, 170, 170, 170] (by decide +kernel) (by decide +kernel) (by decide +kernel) (by decide +kernel)
set_option maxRecDepth 100000 in
theorem zv_99 : ∀ en ∈ zIns zm_99, zNok zTs zNw zPg vwCl zft zfn zsf zm_99 en := zNok_of (zIns zm_99) [324, 185, 324, 215, 774, 325, 618, 325, 619] (by decide +kernel) (by decide +kernel) (by decide +kernel) (by decide +kernel)
set_option maxRecDepth 100000 in
theorem zv_100 : ∀ en ∈ zIns zm_100, zNok zTs zNw zPg vwCl zft zfn zsf zm_100 en := zNok_of (zIns zm_100) [753, 754, 205, 279, 207, 758, 770] (by decide +kernel) (by decide +kernel) (by decide +kernel) (by decide +kernel)
