/-! THE PROGRAM, and how its instructions are known -/
def zPg : List zM := [zm_0, zm_1, zm_2, zm_3, zm_4, zm_5, zm_6, zm_7, zm_8, zm_9, zm_10, zm_11, zm_12, zm_13, zm_14, zm_15, zm_16, zm_17, zm_18, zm_19, zm_20, zm_21, zm_22, zm_23, zm_24, zm_25, zm_26, zm_27, zm_28, zm_29, zm_30, zm_31, zm_32, zm_33, zm_34, zm_35, zm_36, zm_37, zm_38, zm_39, zm_40, zm_41, zm_42, zm_43, zm_44, zm_45, zm_46, zm_47, zm_48, zm_49, zm_50, zm_51, zm_52, zm_53, zm_54, zm_55, zm_56, zm_57, zm_58, zm_59, zm_60, zm_61, zm_62, zm_63, zm_64, zm_65, zm_66, zm_67, zm_68, zm_69, zm_70, zm_71, zm_72, zm_73, zm_74, zm_75, zm_76, zm_77, zm_78, zm_79, zm_80, zm_81, zm_82, zm_83, zm_84, zm_85, zm_86, zm_87, zm_88, zm_89, zm_90, zm_91, zm_92, zm_93, zm_94, zm_95, zm_96, zm_97, zm_98, zm_99, zm_100, zm_101, zm_102, zm_103, zm_104, zm_105, zm_106, zm_107, zm_108, zm_109, zm_110, zm_111, zm_112, zm_113, zm_114, zm_115, zm_116, zm_117, zm_118, zm_119, zm_120, zm_121, zm_122, zm_123, zm_124, zm_125, zm_126, zm_127, zm_128, zm_129, zm_130, zm_131, zm_132, zm_133, zm_134, zm_135, zm_136, zm_137, zm_138, zm_139, zm_140, zm_141, zm_142, zm_143, zm_144, zm_145, zm_146, zm_147, zm_148, zm_149, zm_150, zm_151, zm_152, zm_153, zm_154, zm_155, zm_156, zm_157, zm_158, zm_159, zm_160, zm_161, zm_162, zm_163, zm_164, zm_165, zm_166, zm_167, zm_168, zm_169, zm_170, zm_171, zm_172, zm_173, zm_174, zm_175, zm_176, zm_177, zm_178, zm_179, zm_180, zm_181, zm_182, zm_183, zm_184, zm_185, zm_186, zm_187, zm_188, zm_189, zm_190, zm_191, zm_192, zm_193, zm_194, zm_195, zm_196, zm_197, zm_198, zm_199, zm_200, zm_201, zm_202, zm_203, zm_204, zm_205, zm_206, zm_207, zm_208, zm_209, zm_210, zm_211, zm_212, zm_213, zm_214, zm_215, zm_216, zm_217, zm_218, zm_219, zm_220]
def zword (M : zM) (en : zN) : Option Cond := match en.2.1 with
  | .ldc k => some (.constant (zName M).cls k (Int32.ofNat en.2.2.2.1))
  | .ldc_w k => some (.constant (zName M).cls k (Int32.ofNat en.2.2.2.1))
  | .getfield k => (vwCl[en.2.2.2.1]?).map fun q => .fieldLink (zName M).cls k q.1 (q.2.1 en.2.2.2.2.1).2.1 (q.2.1 en.2.2.2.2.1).2.2.1
  | .putfield k => (vwCl[en.2.2.2.1]?).map fun q => .fieldLink (zName M).cls k q.1 (q.2.1 en.2.2.2.2.1).2.1 (q.2.1 en.2.2.2.2.1).2.2.1
  | .getstatic k => some (.fieldLink (zName M).cls k (zsf en.2.2.2.1).1 (zsf en.2.2.2.1).2.1 (zsf en.2.2.2.1).2.2)
  | .new k => (match en.2.2.2.2.1 with
    | 1 => none
    | _ => (vwCl[en.2.2.2.1]?).map fun q => .classLink (zName M).cls k q.1)
  | .anewarray k => some (.classLink (zName M).cls k (zAn en.2.2.2.1))
  | i => (match zcl i with
    | none => none
    | some _ => (match en.2.2.2.2.1 with
      | 0 => (zPg[en.2.2.2.1]?).map fun M' => .methodLink (zName M).cls (zIx i) (zName M')
      | 1 => (zPg[en.2.2.2.1]?).map fun M' => .methodLinkNest (zName M).cls (zIx i) (zName M') "NestedPager"
      | 2 => some (.methodLink (zName M).cls (zIx i) Lib.objectInit)
      | 3 => some (.methodLink (zName M).cls (zIx i) Lib.Math.min.name)
      | _ => none))
def zNp (M : zM) : Nat := (zKind M).2.2.1
def zck (en : zN) : Bool := Nat.beq en.2.2.1 (zlen en.2.1 en.2.2.1) && (match en.2.1 with
  | .getfield _ => (match vwCl[en.2.2.2.1]? with
    | some q => Nat.blt en.2.2.2.2.1 q.2.2
    | none => false)
  | .putfield _ => (match vwCl[en.2.2.2.1]? with
    | some q => Nat.blt en.2.2.2.2.1 q.2.2
    | none => false)
  | .getstatic _ => Nat.beq en.2.2.2.1 1
  | .new _ => Nat.beq en.2.2.2.2.1 1 || Nat.blt en.2.2.2.1 12
  | .newarray t => (match zkd t with
    | some _ => true
    | none => false)
  | i => (match zcl i with
    | none => true
    | some kd => (match en.2.2.2.2.1 with
      | 0 => (match zPg[en.2.2.2.1]? with
        | some M' => Nat.beq (zNp M') en.2.2.2.2.2
        | none => true)
      | 1 => (match zPg[en.2.2.2.1]? with
        | some M' => Nat.beq (zNp M') en.2.2.2.2.2 && (!(Nat.beq kd 0) && (zTab M').isEmpty)
        | none => true)
      | 2 => true
      | 3 => true
      | _ => (match zPg[en.2.2.2.1]? with
        | some _ => false
        | none => true))))
def zgN (w : Cond) : Bool := goodWord w || zisN w

set_option maxRecDepth 100000 in
theorem za_boolean : Cond.arrayClass .boolean ∈ zTs := zTs_at 130 rfl rfl
set_option maxRecDepth 100000 in
theorem za_int : Cond.arrayClass .int ∈ zTs := zTs_at 129 rfl rfl
set_option maxRecDepth 100000 in
theorem za_long : Cond.arrayClass .long ∈ zTs := zTs_at 1441 rfl rfl
set_option maxRecDepth 100000 in
theorem zmk_0 : Cond.instantiable RX0 3 ∈ zTs ∧ Cond.initialized RX0 ∈ zTs := ⟨zTs_at 318 rfl rfl, zTs_at 68 rfl rfl⟩
set_option maxRecDepth 100000 in
theorem zmk_1 : Cond.instantiable RX1 4 ∈ zTs ∧ Cond.initialized RX1 ∈ zTs := ⟨zTs_at 141 rfl rfl, zTs_at 63 rfl rfl⟩
set_option maxRecDepth 100000 in
theorem zmk_2 : Cond.instantiable RX2 14 ∈ zTs ∧ Cond.initialized RX2 ∈ zTs := ⟨zTs_at 135 rfl rfl, zTs_at 62 rfl rfl⟩
set_option maxRecDepth 100000 in
theorem zmk_3 : Cond.instantiable RX3 6 ∈ zTs ∧ Cond.initialized RX3 ∈ zTs := ⟨zTs_at 252 rfl rfl, zTs_at 66 rfl rfl⟩
set_option maxRecDepth 100000 in
theorem zmk_4 : Cond.instantiable RX4 2 ∈ zTs ∧ Cond.initialized RX4 ∈ zTs := ⟨zTs_at 164 rfl rfl, zTs_at 64 rfl rfl⟩
set_option maxRecDepth 100000 in
theorem zmk_5 : Cond.instantiable RX5 9 ∈ zTs ∧ Cond.initialized RX5 ∈ zTs := ⟨zTs_at 87 rfl rfl, zTs_at 61 rfl rfl⟩
set_option maxRecDepth 100000 in
theorem zmk_6 : Cond.instantiable RX6 1 ∈ zTs ∧ Cond.initialized RX6 ∈ zTs := ⟨zTs_at 306 rfl rfl, zTs_at 67 rfl rfl⟩
set_option maxRecDepth 100000 in
theorem zmk_7 : Cond.instantiable RX7 3 ∈ zTs ∧ Cond.initialized RX7 ∈ zTs := ⟨zTs_at 348 rfl rfl, zTs_at 70 rfl rfl⟩
set_option maxRecDepth 100000 in
theorem zmk_8 : Cond.instantiable RX8 2 ∈ zTs ∧ Cond.initialized RX8 ∈ zTs := ⟨zTs_at 335 rfl rfl, zTs_at 69 rfl rfl⟩
set_option maxRecDepth 100000 in
theorem zmk_9 : Cond.instantiable RX9 5 ∈ zTs ∧ Cond.initialized RX9 ∈ zTs := ⟨zTs_at 246 rfl rfl, zTs_at 65 rfl rfl⟩
set_option maxRecDepth 100000 in
theorem zmk_10 : Cond.instantiable RX10 9 ∈ zTs ∧ Cond.initialized RX10 ∈ zTs := ⟨zTs_at 79 rfl rfl, zTs_at 60 rfl rfl⟩
set_option maxRecDepth 100000 in
theorem zmk_11 : Cond.instantiable RX11 42 ∈ zTs ∧ Cond.initialized RX11 ∈ zTs := ⟨zTs_at 1030 rfl rfl, zTs_at 71 rfl rfl⟩
set_option maxRecDepth 100000 in
theorem zob : Cond.instanceMethod Lib.objectInit ∈ zTs ∧ Cond.code Lib.objectInit ⟨#[0xb1]⟩ 1 none ∈ zTs := ⟨zTs_at 84 rfl rfl, zTs_at 85 rfl rfl⟩
set_option maxRecDepth 100000 in
theorem zmi : Cond.static Lib.Math.min.name ∈ zTs ∧ Cond.initialized "java/lang/Math" ∈ zTs ∧ Cond.code Lib.Math.min.name Lib.Math.min.code 2 (some .int) ∈ zTs := ⟨zTs_at 624 rfl rfl, zTs_at 77 rfl rfl, zTs_at 625 rfl rfl⟩
theorem zdv_ok : ∀ ci, ci < 12 → ∀ j, j < zfn ci → defaultValue (zft ci j).1 = zdv (zft ci j).1 := by decide +kernel
theorem znw {ci : Nat} {q : vw_C} (h : vwCl[ci]? = some q) : q.2.2 = zfn ci ∧ Cond.instantiable q.1 (zfn ci) ∈ zTs ∧ Cond.initialized q.1 ∈ zTs ∧ ∀ j, j < zfn ci → defaultValue (zft ci j).1 = zdv (zft ci j).1 := by
  have hl : ci < 12 := (List.getElem?_eq_some_iff.mp h).1
  match ci, h, hl with
  | 0, h, hl => cases h; exact ⟨rfl, zmk_0.1, zmk_0.2, zdv_ok _ hl⟩
  | 1, h, hl => cases h; exact ⟨rfl, zmk_1.1, zmk_1.2, zdv_ok _ hl⟩
  | 2, h, hl => cases h; exact ⟨rfl, zmk_2.1, zmk_2.2, zdv_ok _ hl⟩
  | 3, h, hl => cases h; exact ⟨rfl, zmk_3.1, zmk_3.2, zdv_ok _ hl⟩
  | 4, h, hl => cases h; exact ⟨rfl, zmk_4.1, zmk_4.2, zdv_ok _ hl⟩
  | 5, h, hl => cases h; exact ⟨rfl, zmk_5.1, zmk_5.2, zdv_ok _ hl⟩
  | 6, h, hl => cases h; exact ⟨rfl, zmk_6.1, zmk_6.2, zdv_ok _ hl⟩
  | 7, h, hl => cases h; exact ⟨rfl, zmk_7.1, zmk_7.2, zdv_ok _ hl⟩
  | 8, h, hl => cases h; exact ⟨rfl, zmk_8.1, zmk_8.2, zdv_ok _ hl⟩
  | 9, h, hl => cases h; exact ⟨rfl, zmk_9.1, zmk_9.2, zdv_ok _ hl⟩
  | 10, h, hl => cases h; exact ⟨rfl, zmk_10.1, zmk_10.2, zdv_ok _ hl⟩
  | 11, h, hl => cases h; exact ⟨rfl, zmk_11.1, zmk_11.2, zdv_ok _ hl⟩
/-- the methods' own numbers: how many parameters -/
theorem zNp_ok : zPg.all (fun M => decide ((parseMethodDescriptor (zName M).desc).map (fun d => d.parameters.length) = some (zNp M))) = true := by decide +kernel
theorem zNp_at {z : Nat} {M' : zM} (h : zPg[z]? = some M') : (parseMethodDescriptor (zName M').desc).map (fun d => d.parameters.length) = some (zNp M') := of_decide_eq_true (List.all_eq_true.mp zNp_ok M' (List.mem_of_getElem? h))
def zIa (M : zM) (ins : Instr) (a b : Nat) : Prop := match b with
  | 0 => ∀ w, (zPg[a]?).map (fun M' => Cond.methodLink (zName M).cls (zIx ins) (zName M')) = some w → zisN w = false → w ∈ zTs
  | 1 => ∀ w, (zPg[a]?).map (fun M' => Cond.methodLinkNest (zName M).cls (zIx ins) (zName M') "NestedPager") = some w → zisN w = true → w ∈ zNw
  | 2 => Cond.methodLink (zName M).cls (zIx ins) Lib.objectInit ∈ zTs
  | 3 => Cond.methodLink (zName M).cls (zIx ins) Lib.Math.min.name ∈ zTs
  | _ => zPg[a]? = none
def zIb (kd a b w0 : Nat) : Prop := match b with
  | 0 => ∀ M', zPg[a]? = some M' → zNp M' = w0
  | 1 => ∀ M', zPg[a]? = some M' → zNp M' = w0 ∧ kd ≠ 0 ∧ zTab M' = []
  | _ => True
theorem zNok_of {M : zM} (L : List zN) (ps : List Nat) (hd : L.all (fun en => decide (decode (zCode M) en.1 = .ok (en.2.1, en.2.2.1))) = true) (hk : L.all zck = true) (hw : ps.map (fun i => lw_tbl[i]?) = (L.filterMap (zword M)).map some) (hg : (L.filterMap (zword M)).all zgN = true) : ∀ en ∈ L, zNok zTs zNw zPg vwCl zft zfn zsf M en := by
  intro en hen
  have h1 := of_decide_eq_true (List.all_eq_true.mp hd en hen)
  have h2 := List.all_eq_true.mp hk en hen
  have h3 : ∀ w, zword M en = some w → w ∈ lw_tbl ∧ zgN w = true := by
    intro w hww
    have hm : w ∈ L.filterMap (zword M) := List.mem_filterMap.mpr ⟨en, hen, hww⟩
    have h4 : some w ∈ (L.filterMap (zword M)).map some := List.mem_map.mpr ⟨w, hm, rfl⟩
    rw [← hw] at h4
    obtain ⟨i, -, hi⟩ := List.mem_map.mp h4
    exact ⟨List.mem_of_getElem? hi, List.all_eq_true.mp hg w hm⟩
  have hT : ∀ w, zword M en = some w → zisN w = false → w ∈ zTs := by
    intro w hww hn
    obtain ⟨a1, a2⟩ := h3 w hww
    unfold zgN at a2
    rw [hn, Bool.or_false] at a2
    exact List.mem_filter.mpr ⟨a1, a2⟩
  have hNN : ∀ w, zword M en = some w → zisN w = true → w ∈ zNw := fun w hww hn => List.mem_filter.mpr ⟨(h3 w hww).1, hn⟩
  clear h3 hd hk hw hg
  obtain ⟨pc, ins, len, a, b, w0⟩ := en
  unfold zck at h2
  rw [Bool.and_eq_true] at h2
  obtain ⟨h2a, h2b⟩ := h2
  have hln := Nat.eq_of_beq_eq_true h2a
  unfold zword at hT hNN
  unfold zNok zEok zIok zKok
  dsimp only at *
  refine ⟨⟨⟨h1, hln⟩, ?_⟩, ?_, ?_, ?_⟩
  · split
    · exact hT _ rfl rfl
    · exact hT _ rfl rfl
    · dsimp only at h2b hT
      cases hq : vwCl[a]? with
      | none => rw [hq] at h2b; cases h2b
      | some q => rw [hq] at h2b; exact ⟨q, rfl, Nat.le_of_ble_eq_true h2b, hT _ (by rw [hq]; rfl) rfl⟩
    · dsimp only at h2b hT
      cases hq : vwCl[a]? with
      | none => rw [hq] at h2b; cases h2b
      | some q => rw [hq] at h2b; exact ⟨q, rfl, Nat.le_of_ble_eq_true h2b, hT _ (by rw [hq]; rfl) rfl⟩
    · exact hT _ rfl rfl
    · trivial
  · intro kd hkd
    have hins : ∃ ix, ins = .invokevirtual ix ∨ ins = .invokestatic ix ∨ ins = .invokespecial ix := by
      unfold zcl at hkd
      split at hkd
      · exact ⟨_, Or.inl rfl⟩
      · exact ⟨_, Or.inr (Or.inl rfl)⟩
      · exact ⟨_, Or.inr (Or.inr rfl)⟩
      · cases hkd
    have hgen : zIa M ins a b ∧ zIb kd a b w0 := by
      obtain ⟨ix', rfl | rfl | rfl⟩ := hins <;> cases hkd <;>
      · dsimp only [zcl] at h2b hT hNN
        match b with
        | 0 => exact ⟨fun w hw hn => hT w hw hn, fun M' hM' => by rw [hM'] at h2b; exact Nat.eq_of_beq_eq_true h2b⟩
        | 1 => exact ⟨fun w hw hn => hNN w hw hn, fun M' hM' => by
            rw [hM'] at h2b
            simp only [Bool.and_eq_true] at h2b
            refine ⟨Nat.eq_of_beq_eq_true h2b.1, ?_, List.isEmpty_iff.mp h2b.2.2⟩
            first | decide | (exact absurd h2b.2.1 (by decide))⟩
        | 2 => exact ⟨hT _ rfl rfl, trivial⟩
        | 3 => exact ⟨hT _ rfl rfl, trivial⟩
        | k + 4 =>
          refine ⟨?_, trivial⟩
          have h2c : (match zPg[a]? with
            | some _ => false
            | none => true) = true := h2b
          show zPg[a]? = none
          cases hpp : zPg[a]? with
          | none => rfl
          | some M' => rw [hpp] at h2c; cases h2c
    obtain ⟨g1, g2⟩ := hgen
    match b, g1, g2 with
    | 0, g1, g2 => exact fun M' hM' => ⟨Or.inr (g1 _ (by rw [hM']; rfl) rfl), by rw [← g2 M' hM']; exact zNp_at hM'⟩
    | 1, g1, g2 => exact fun M' hM' => ⟨Or.inl ⟨(g2 M' hM').2.1, rfl, (g2 M' hM').2.2, _, g1 _ (by rw [hM']; rfl) rfl⟩, by rw [← (g2 M' hM').1]; exact zNp_at hM'⟩
    | 2, g1, g2 => exact ⟨g1, zob.1, zob.2⟩
    | 3, g1, g2 => exact ⟨g1, zmi.1, zmi.2.1, zmi.2.2⟩
    | k + 4, g1, g2 =>
      intro M' hM'
      have g3 : zPg[a]? = none := g1
      rw [g3] at hM'
      cases hM'
  · split
    · rename_i ix
      intro hb1
      dsimp only at h2b hT
      have hlt : a < 12 := by
        rw [Bool.or_eq_true] at h2b
        rcases h2b with h | h
        · exact absurd (Nat.eq_of_beq_eq_true h) hb1
        · exact Nat.le_of_ble_eq_true h
      obtain ⟨q, hq⟩ : ∃ q, vwCl[a]? = some q := ⟨_, List.getElem?_eq_getElem (show a < vwCl.length from hlt)⟩
      obtain ⟨k1, k2, k3, k4⟩ := znw hq
      refine ⟨q, hq, k1, ?_, k2, k3, k4⟩
      have h7 : (vwCl[a]?).map (fun q => Cond.classLink (zName M).cls ix q.1) = some (Cond.classLink (zName M).cls ix q.1) := by rw [hq]; rfl
      match b, hb1, hT with
      | 0, _, hT => exact hT _ h7 rfl
      | k + 2, _, hT => exact hT _ h7 rfl
    · rename_i t
      cases t <;> first | exact za_boolean | exact za_int | exact za_long | (cases h2b)
    · exact hT _ rfl rfl
    · trivial
  · intro k hk9
    subst hk9
    dsimp only at h2b
    rw [Nat.eq_of_beq_eq_true h2b]
    decide

