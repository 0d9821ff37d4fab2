/-! CLASSES AND FIELDS, by program out of claim/NAMES.whole.lean.txt -/
def RX0 : String := "NestedPager$Devices"
def TX0 : u_T := fun k => match k with
  | 0 => ("NestedPager$Devices", "pager", "LNestedPager$Pager;", true)
  | 1 => ("NestedPager$Devices", "guests", "[LNestedPager$Guest;", true)
  | _ => ("NestedPager$Devices", "vcpus", "[LNestedPager$Vcpu;", true)
def tyX0 : Nat → FieldType := fun k => match k with
  | 0 => .object "NestedPager$Pager"
  | 1 => .array (.object "NestedPager$Guest")
  | _ => .array (.object "NestedPager$Vcpu")
def RX1 : String := "NestedPager$Disk"
def TX1 : u_T := fun k => match k with
  | 0 => ("NestedPager$Disk", "words", "[I", true)
  | 1 => ("NestedPager$Disk", "sector", "I", false)
  | 2 => ("NestedPager$Disk", "page", "I", false)
  | _ => ("NestedPager$Disk", "outcome", "I", false)
def tyX1 : Nat → FieldType := fun k => match k with
  | 0 => .array .int
  | 1 => .int
  | 2 => .int
  | _ => .int
def RX2 : String := "NestedPager$Guest"
def TX2 : u_T := fun k => match k with
  | 0 => ("NestedPager$Guest", "number", "I", true)
  | 1 => ("NestedPager$Guest", "there", "Z", false)
  | 2 => ("NestedPager$Guest", "ram", "I", false)
  | 3 => ("NestedPager$Guest", "root", "I", false)
  | 4 => ("NestedPager$Guest", "target", "I", false)
  | 5 => ("NestedPager$Guest", "demands", "I", false)
  | 6 => ("NestedPager$Guest", "swapins", "I", false)
  | 7 => ("NestedPager$Guest", "ticks", "I", false)
  | 8 => ("NestedPager$Guest", "alarm", "I", false)
  | 9 => ("NestedPager$Guest", "alarmVcpu", "I", false)
  | 10 => ("NestedPager$Guest", "bytesPrinted", "I", false)
  | 11 => ("NestedPager$Guest", "bytes", "[I", true)
  | 12 => ("NestedPager$Guest", "disk", "LNestedPager$Disk;", true)
  | _ => ("NestedPager$Guest", "mails", "LNestedPager$Mails;", true)
def tyX2 : Nat → FieldType := fun k => match k with
  | 0 => .int
  | 1 => .boolean
  | 2 => .int
  | 3 => .int
  | 4 => .int
  | 5 => .int
  | 6 => .int
  | 7 => .int
  | 8 => .int
  | 9 => .int
  | 10 => .int
  | 11 => .array .int
  | 12 => .object "NestedPager$Disk"
  | _ => .object "NestedPager$Mails"
def RX3 : String := "NestedPager$LookAside"
def TX3 : u_T := fun k => match k with
  | 0 => ("NestedPager$LookAside", "full", "[Z", true)
  | 1 => ("NestedPager$LookAside", "page", "[I", true)
  | 2 => ("NestedPager$LookAside", "guestPage", "[I", true)
  | 3 => ("NestedPager$LookAside", "bits", "[I", true)
  | 4 => ("NestedPager$LookAside", "asid", "[I", true)
  | _ => ("NestedPager$LookAside", "next", "I", false)
def tyX3 : Nat → FieldType := fun k => match k with
  | 0 => .array .boolean
  | 1 => .array .int
  | 2 => .array .int
  | 3 => .array .int
  | 4 => .array .int
  | _ => .int
def RX4 : String := "NestedPager$Mails"
def TX4 : u_T := fun k => match k with
  | 0 => ("NestedPager$Mails", "words", "[I", true)
  | _ => ("NestedPager$Mails", "held", "I", false)
def tyX4 : Nat → FieldType := fun k => match k with
  | 0 => .array .int
  | _ => .int
def RX5 : String := "NestedPager$Memory"
def TX5 : u_T := fun k => match k with
  | 0 => ("NestedPager$Memory", "words", "[I", true)
  | 1 => ("NestedPager$Memory", "role", "[I", true)
  | 2 => ("NestedPager$Memory", "holder", "[I", true)
  | 3 => ("NestedPager$Memory", "firstPage", "[I", true)
  | 4 => ("NestedPager$Memory", "entrySpot", "[I", true)
  | 5 => ("NestedPager$Memory", "slotWords", "[I", true)
  | 6 => ("NestedPager$Memory", "slotUsed", "[Z", true)
  | 7 => ("NestedPager$Memory", "reclaims", "[I", true)
  | _ => ("NestedPager$Memory", "hand", "I", false)
def tyX5 : Nat → FieldType := fun k => match k with
  | 0 => .array .int
  | 1 => .array .int
  | 2 => .array .int
  | 3 => .array .int
  | 4 => .array .int
  | 5 => .array .int
  | 6 => .array .boolean
  | 7 => .array .int
  | _ => .int
def RX6 : String := "NestedPager$Pager"
def TX6 : u_T := fun k => match k with
  | _ => ("NestedPager$Pager", "memory", "LNestedPager$Memory;", true)
def tyX6 : Nat → FieldType := fun k => match k with
  | _ => .object "NestedPager$Memory"
def RX7 : String := "NestedPager$Processor"
def TX7 : u_T := fun k => match k with
  | 0 => ("NestedPager$Processor", "pager", "LNestedPager$Pager;", true)
  | 1 => ("NestedPager$Processor", "devices", "LNestedPager$Devices;", true)
  | _ => ("NestedPager$Processor", "translator", "LNestedPager$Translator;", true)
def tyX7 : Nat → FieldType := fun k => match k with
  | 0 => .object "NestedPager$Pager"
  | 1 => .object "NestedPager$Devices"
  | _ => .object "NestedPager$Translator"
def RX8 : String := "NestedPager$Translator"
def TX8 : u_T := fun k => match k with
  | 0 => ("NestedPager$Translator", "pager", "LNestedPager$Pager;", true)
  | _ => ("NestedPager$Translator", "devices", "LNestedPager$Devices;", true)
def tyX8 : Nat → FieldType := fun k => match k with
  | 0 => .object "NestedPager$Pager"
  | _ => .object "NestedPager$Devices"
def RX9 : String := "NestedPager$Vcpu"
def TX9 : u_T := fun k => match k with
  | 0 => ("NestedPager$Vcpu", "number", "I", true)
  | 1 => ("NestedPager$Vcpu", "there", "Z", false)
  | 2 => ("NestedPager$Vcpu", "reg", "[I", true)
  | 3 => ("NestedPager$Vcpu", "lastExit", "[I", true)
  | _ => ("NestedPager$Vcpu", "aside", "LNestedPager$LookAside;", true)
def tyX9 : Nat → FieldType := fun k => match k with
  | 0 => .int
  | 1 => .boolean
  | 2 => .array .int
  | 3 => .array .int
  | _ => .object "NestedPager$LookAside"
def RX10 : String := "NestedPager"
def TX10 : u_T := fun k => match k with
  | 0 => ("NestedPager", "memory", "LNestedPager$Memory;", true)
  | 1 => ("NestedPager", "guests", "[LNestedPager$Guest;", true)
  | 2 => ("NestedPager", "vcpus", "[LNestedPager$Vcpu;", true)
  | 3 => ("NestedPager", "harvested", "[I", true)
  | 4 => ("NestedPager", "harvestedPages", "I", false)
  | 5 => ("NestedPager", "pager", "LNestedPager$Pager;", true)
  | 6 => ("NestedPager", "devices", "LNestedPager$Devices;", true)
  | 7 => ("NestedPager", "translator", "LNestedPager$Translator;", true)
  | _ => ("NestedPager", "processor", "LNestedPager$Processor;", true)
def tyX10 : Nat → FieldType := fun k => match k with
  | 0 => .object "NestedPager$Memory"
  | 1 => .array (.object "NestedPager$Guest")
  | 2 => .array (.object "NestedPager$Vcpu")
  | 3 => .array .int
  | 4 => .int
  | 5 => .object "NestedPager$Pager"
  | 6 => .object "NestedPager$Devices"
  | 7 => .object "NestedPager$Translator"
  | _ => .object "NestedPager$Processor"
def RX11 : String := "NestedPagerModel"
def TX11 : u_T := fun k => match k with
  | 0 => ("NestedPagerModel", "thrown", "I", false)
  | 1 => ("NestedPagerModel", "words", "[I", true)
  | 2 => ("NestedPagerModel", "frameKind", "[I", true)
  | 3 => ("NestedPagerModel", "frameGuest", "[I", true)
  | 4 => ("NestedPagerModel", "framePage", "[I", true)
  | 5 => ("NestedPagerModel", "slotWords", "[I", true)
  | 6 => ("NestedPagerModel", "slotUsed", "[Z", true)
  | 7 => ("NestedPagerModel", "hand", "I", false)
  | 8 => ("NestedPagerModel", "guestIs", "[Z", true)
  | 9 => ("NestedPagerModel", "ram", "[I", true)
  | 10 => ("NestedPagerModel", "rootFrame", "[I", true)
  | 11 => ("NestedPagerModel", "targets", "[I", true)
  | 12 => ("NestedPagerModel", "demands", "[I", true)
  | 13 => ("NestedPagerModel", "swapins", "[I", true)
  | 14 => ("NestedPagerModel", "reclaimed", "[I", true)
  | 15 => ("NestedPagerModel", "ticks", "[I", true)
  | 16 => ("NestedPagerModel", "printedMany", "[I", true)
  | 17 => ("NestedPagerModel", "prints", "[I", true)
  | 18 => ("NestedPagerModel", "alarm", "[I", true)
  | 19 => ("NestedPagerModel", "alarmFor", "[I", true)
  | 20 => ("NestedPagerModel", "diskWords", "[I", true)
  | 21 => ("NestedPagerModel", "diskSector", "[I", true)
  | 22 => ("NestedPagerModel", "diskPage", "[I", true)
  | 23 => ("NestedPagerModel", "diskTold", "[I", true)
  | 24 => ("NestedPagerModel", "mails", "[I", true)
  | 25 => ("NestedPagerModel", "mailMany", "[I", true)
  | 26 => ("NestedPagerModel", "vcpuIs", "[Z", true)
  | 27 => ("NestedPagerModel", "own", "[I", true)
  | 28 => ("NestedPagerModel", "exits", "[I", true)
  | 29 => ("NestedPagerModel", "turn", "[I", true)
  | 30 => ("NestedPagerModel", "asideIs", "[Z", true)
  | 31 => ("NestedPagerModel", "asidePage", "[I", true)
  | 32 => ("NestedPagerModel", "asideTo", "[I", true)
  | 33 => ("NestedPagerModel", "asideBits", "[I", true)
  | 34 => ("NestedPagerModel", "asideAsid", "[I", true)
  | 35 => ("NestedPagerModel", "harvested", "I", false)
  | 36 => ("NestedPagerModel", "harvest", "[I", true)
  | 37 => ("NestedPagerModel", "value", "I", false)
  | 38 => ("NestedPagerModel", "stopped", "I", false)
  | 39 => ("NestedPagerModel", "code", "I", false)
  | 40 => ("NestedPagerModel", "next", "I", false)
  | _ => ("NestedPagerModel", "goesOn", "Z", false)
def tyX11 : Nat → FieldType := fun k => match k with
  | 0 => .int
  | 1 => .array .int
  | 2 => .array .int
  | 3 => .array .int
  | 4 => .array .int
  | 5 => .array .int
  | 6 => .array .boolean
  | 7 => .int
  | 8 => .array .boolean
  | 9 => .array .int
  | 10 => .array .int
  | 11 => .array .int
  | 12 => .array .int
  | 13 => .array .int
  | 14 => .array .int
  | 15 => .array .int
  | 16 => .array .int
  | 17 => .array .int
  | 18 => .array .int
  | 19 => .array .int
  | 20 => .array .int
  | 21 => .array .int
  | 22 => .array .int
  | 23 => .array .int
  | 24 => .array .int
  | 25 => .array .int
  | 26 => .array .boolean
  | 27 => .array .int
  | 28 => .array .int
  | 29 => .array .int
  | 30 => .array .boolean
  | 31 => .array .int
  | 32 => .array .int
  | 33 => .array .int
  | 34 => .array .int
  | 35 => .int
  | 36 => .array .int
  | 37 => .int
  | 38 => .int
  | 39 => .int
  | 40 => .int
  | _ => .boolean
abbrev vwCl : List vw_C := [(RX0, TX0, 3), (RX1, TX1, 4), (RX2, TX2, 14), (RX3, TX3, 6), (RX4, TX4, 2), (RX5, TX5, 9), (RX6, TX6, 1), (RX7, TX7, 3), (RX8, TX8, 2), (RX9, TX9, 5), (RX10, TX10, 9), (RX11, TX11, 42)]
def zft : zFT := fun c k => match c with
  | 0 => (tyX0 k, (TX0 k).2.2.2)
  | 1 => (tyX1 k, (TX1 k).2.2.2)
  | 2 => (tyX2 k, (TX2 k).2.2.2)
  | 3 => (tyX3 k, (TX3 k).2.2.2)
  | 4 => (tyX4 k, (TX4 k).2.2.2)
  | 5 => (tyX5 k, (TX5 k).2.2.2)
  | 6 => (tyX6 k, (TX6 k).2.2.2)
  | 7 => (tyX7 k, (TX7 k).2.2.2)
  | 8 => (tyX8 k, (TX8 k).2.2.2)
  | 9 => (tyX9 k, (TX9 k).2.2.2)
  | 10 => (tyX10 k, (TX10 k).2.2.2)
  | 11 => (tyX11 k, (TX11 k).2.2.2)
  | _ => (.int, false)
def zfn : Nat → Nat := fun c => match c with
  | 0 => 3
  | 1 => 4
  | 2 => 14
  | 3 => 6
  | 4 => 2
  | 5 => 9
  | 6 => 1
  | 7 => 3
  | 8 => 2
  | 9 => 5
  | 10 => 9
  | 11 => 42
  | _ => 0
def zsf : Nat → String × String × String := fun k => match k with
  | 1 => ("NestedPager", "HIGHEST", "[I")
  | _ => ("", "", "")
def zTs : List Cond := lw_tbl.filter goodWord
def zisN : Cond → Bool
  | .methodLinkNest .. => true
  | .castable .. => true
  | .declares _ => true
  | _ => false
def zNw : List Cond := lw_tbl.filter zisN
theorem zNw_ok : zNwOk zNw := by
  intro w hw
  have h := (List.mem_filter.mp hw).2
  unfold zisN at h
  split at h
  · exact Or.inl ⟨_, _, _, _, rfl⟩
  · exact Or.inr (Or.inl ⟨_, _, rfl⟩)
  · exact Or.inr (Or.inr ⟨_, rfl⟩)
  · cases h
theorem zTs_ok : GoodIn zTs zTs := fun w hw => ⟨hw, good_of_word (List.mem_filter.mp hw).2⟩
theorem zTs_at {w : Cond} (i : Nat) (h : lw_tbl[i]? = some w) (hg : goodWord w = true) : w ∈ zTs := List.mem_filter.mpr ⟨List.mem_of_getElem? h, hg⟩
theorem zNw_at {w : Cond} (i : Nat) (h : lw_tbl[i]? = some w) (hg : zisN w = true) : w ∈ zNw := List.mem_filter.mpr ⟨List.mem_of_getElem? h, hg⟩
theorem zTs_all (ws : List Cond) (ps : List Nat) (hp : ps.map (fun i => lw_tbl[i]?) = ws.map some) (hg : ws.all goodWord = true) : ∀ w ∈ ws, w ∈ zTs := by
  intro w hw
  have h1 : some w ∈ ws.map some := List.mem_map.mpr ⟨w, hw, rfl⟩
  rw [← hp] at h1
  obtain ⟨i, -, hi⟩ := List.mem_map.mp h1
  exact zTs_at i hi (List.all_eq_true.mp hg w hw)
set_option maxRecDepth 100000 in
theorem zc_0 : ∀ w ∈ u_ws RX0 TX0 3, w ∈ zTs := zTs_all _ [327, 329, 331] rfl (by decide +kernel)
set_option maxRecDepth 100000 in
theorem zc_1 : ∀ w ∈ u_ws RX1 TX1 4, w ∈ zTs := zTs_all _ [154, 156, 158, 160] rfl (by decide +kernel)
set_option maxRecDepth 100000 in
theorem zc_2 : ∀ w ∈ u_ws RX2 TX2 14, w ∈ zTs := zTs_all _ [217, 219, 221, 223, 225, 227, 229, 231, 233, 235, 237, 239, 241, 243] rfl (by decide +kernel)
set_option maxRecDepth 100000 in
theorem zc_3 : ∀ w ∈ u_ws RX3 TX3 6, w ∈ zTs := zTs_all _ [265, 267, 269, 271, 273, 275] rfl (by decide +kernel)
set_option maxRecDepth 100000 in
theorem zc_4 : ∀ w ∈ u_ws RX4 TX4 2, w ∈ zTs := zTs_all _ [174, 176] rfl (by decide +kernel)
set_option maxRecDepth 100000 in
theorem zc_5 : ∀ w ∈ u_ws RX5 TX5 9, w ∈ zTs := zTs_all _ [110, 112, 114, 116, 118, 120, 122, 124, 126] rfl (by decide +kernel)
set_option maxRecDepth 100000 in
theorem zc_6 : ∀ w ∈ u_ws RX6 TX6 1, w ∈ zTs := zTs_all _ [314] rfl (by decide +kernel)
set_option maxRecDepth 100000 in
theorem zc_7 : ∀ w ∈ u_ws RX7 TX7 3, w ∈ zTs := zTs_all _ [356, 358, 360] rfl (by decide +kernel)
set_option maxRecDepth 100000 in
theorem zc_8 : ∀ w ∈ u_ws RX8 TX8 2, w ∈ zTs := zTs_all _ [342, 344] rfl (by decide +kernel)
set_option maxRecDepth 100000 in
theorem zc_9 : ∀ w ∈ u_ws RX9 TX9 5, w ∈ zTs := zTs_all _ [294, 296, 298, 300, 302] rfl (by decide +kernel)
set_option maxRecDepth 100000 in
theorem zc_10 : ∀ w ∈ u_ws RX10 TX10 9, w ∈ zTs := zTs_all _ [372, 374, 376, 378, 380, 382, 384, 386, 388] rfl (by decide +kernel)
set_option maxRecDepth 100000 in
theorem zc_11 : ∀ w ∈ u_ws RX11 TX11 42, w ∈ zTs := zTs_all _ [1077, 1079, 1081, 1083, 1085, 1087, 1089, 1091, 1093, 1095, 1097, 1099, 1101, 1103, 1105, 1107, 1109, 1111, 1113, 1115, 1117, 1119, 1121, 1123, 1125, 1127, 1129, 1131, 1133, 1135, 1137, 1139, 1141, 1143, 1145, 1147, 1149, 1151, 1153, 1155, 1157, 1159] rfl (by decide +kernel)
theorem zcl_ok : zCl zTs vwCl zft := by
  intro ci q h
  match ci, h with
  | 0, h => cases h; exact ⟨zc_0, by decide +kernel, by decide +kernel, by decide +kernel⟩
  | 1, h => cases h; exact ⟨zc_1, by decide +kernel, by decide +kernel, by decide +kernel⟩
  | 2, h => cases h; exact ⟨zc_2, by decide +kernel, by decide +kernel, by decide +kernel⟩
  | 3, h => cases h; exact ⟨zc_3, by decide +kernel, by decide +kernel, by decide +kernel⟩
  | 4, h => cases h; exact ⟨zc_4, by decide +kernel, by decide +kernel, by decide +kernel⟩
  | 5, h => cases h; exact ⟨zc_5, by decide +kernel, by decide +kernel, by decide +kernel⟩
  | 6, h => cases h; exact ⟨zc_6, by decide +kernel, by decide +kernel, by decide +kernel⟩
  | 7, h => cases h; exact ⟨zc_7, by decide +kernel, by decide +kernel, by decide +kernel⟩
  | 8, h => cases h; exact ⟨zc_8, by decide +kernel, by decide +kernel, by decide +kernel⟩
  | 9, h => cases h; exact ⟨zc_9, by decide +kernel, by decide +kernel, by decide +kernel⟩
  | 10, h => cases h; exact ⟨zc_10, by decide +kernel, by decide +kernel, by decide +kernel⟩
  | 11, h => cases h; exact ⟨zc_11, by decide +kernel, by decide +kernel, by decide +kernel⟩
  | k + 12, h => simp [vwCl] at h
