/-! CAUGHT in the law's helpers -/
set_option maxRecDepth 100000 in
theorem zk_A : Cond.classLink "NestedPagerLaw" 13 "java/lang/IllegalArgumentException" ∈ zTs := zTs_at 401 (by decide +kernel) (by decide +kernel)
set_option maxRecDepth 100000 in
theorem zk_S : Cond.classLink "NestedPagerLaw" 18 "java/lang/IllegalStateException" ∈ zTs := zTs_at 490 (by decide +kernel) (by decide +kernel)
set_option maxRecDepth 100000 in
theorem zk_AA : Cond.castable "java/lang/IllegalArgumentException" "java/lang/IllegalArgumentException" ∈ zNw := zNw_at 411 (by decide +kernel) rfl
set_option maxRecDepth 100000 in
theorem zk_SS : Cond.castable "java/lang/IllegalStateException" "java/lang/IllegalStateException" ∈ zNw := zNw_at 507 (by decide +kernel) rfl
def zTb (M : zM) : Bool := match zTab M with
  | [] => true
  | [(_, _, _, ct)] => decide ((zName M).cls = "NestedPagerLaw") && Nat.beq ct 13
  | [(_, _, _, ct), (_, _, _, ct2)] => decide ((zName M).cls = "NestedPagerLaw") && (Nat.beq ct 13 && Nat.beq ct2 18)
  | _ => false
theorem zTb_all : zPg.all zTb = true := by decide +kernel
theorem zcov {a b t ct pc : Nat} (h1 : Nat.ble a pc = true) (h2 : Nat.blt pc b = true) : covers (⟨a, b, t, ct⟩ : ExceptionTableEntry) pc = true := by
  show (decide (a ≤ pc) && decide (pc < b)) = true
  rw [decide_eq_true (Nat.le_of_ble_eq_true h1), decide_eq_true (show pc < b from Nat.le_of_ble_eq_true h2)]
  rfl
theorem zcat_all {l : Launch} {Nc : List (String × String)} {X : zX} {xa : List Nat} {n0 : Nat} (hNc : ("java/lang/IllegalStateException", "java/lang/IllegalArgumentException") ∈ Nc) : zCatAll l zTs zNw Nc X xa zsf n0 zPg := by
  intro z M hz ht p e R s m args below meth c Q C E htab
  have hb := List.all_eq_true.mp zTb_all M (List.mem_of_getElem? hz)
  intro k pc t ce q9 H locs nc ns ls sc _ hh h1 h2 h3 kk
  obtain ⟨-, -, -, hown, hw, -⟩ := C
  obtain ⟨-, -, -, -, -, hNw, hNcs, -⟩ := E
  unfold zTb at hb
  split at hb
  · rename_i e0; exact absurd e0 ht
  · rename_i a b t0 ct e0
    rw [e0] at hh htab
    rw [Bool.and_eq_true, decide_eq_true_eq] at hb
    obtain ⟨hn, hc1⟩ := hb
    rw [hn] at hown
    obtain rfl := Nat.eq_of_beq_eq_true hc1
    unfold zhand at hh
    dsimp only at hh
    cases hbb : (Nat.beq k 0 && (Nat.ble a pc && Nat.blt pc b)) with
    | false => rw [hbb] at hh; cases hh
    | true =>
    rw [hbb] at hh
    cases hh
    simp only [Bool.and_eq_true] at hbb
    obtain ⟨hk0, ha, hb2⟩ := hbb
    obtain rfl := Nat.eq_of_beq_eq_true hk0
    exact zc_first (name := "java/lang/IllegalArgumentException") hown ⟨a, b, t, 13⟩ [] htab (zcov ha hb2) (show (13 : Nat) ≠ 0 by decide) (hw _ zk_A) (hNw _ zk_AA) h1 h2 h3 kk
  · rename_i a b t0 ct a2 b2 t2 ct2 e0
    rw [e0] at hh htab
    rw [Bool.and_eq_true, Bool.and_eq_true, decide_eq_true_eq] at hb
    obtain ⟨hn, hc1, hc2⟩ := hb
    rw [hn] at hown
    obtain rfl := Nat.eq_of_beq_eq_true hc1
    obtain rfl := Nat.eq_of_beq_eq_true hc2
    unfold zhand at hh
    dsimp only at hh
    cases hbb : (Nat.ble a pc && (Nat.blt pc b && (Nat.ble a2 pc && Nat.blt pc b2))) with
    | false => rw [hbb] at hh; cases hh
    | true =>
    rw [hbb, cond_true] at hh
    simp only [Bool.and_eq_true] at hbb
    obtain ⟨ha, hb2, ha2, hb3⟩ := hbb
    cases hk : Nat.beq k 0 with
    | true =>
      rw [hk, cond_true] at hh
      cases hh
      obtain rfl := Nat.eq_of_beq_eq_true hk
      exact zc_first (name := "java/lang/IllegalArgumentException") hown ⟨a, b, t, 13⟩ [⟨a2, b2, t2, 18⟩] htab (zcov ha hb2) (show (13 : Nat) ≠ 0 by decide) (hw _ zk_A) (hNw _ zk_AA) h1 h2 h3 kk
    | false =>
      rw [hk, cond_false] at hh
      cases hk1 : Nat.beq k 1 with
      | false => rw [hk1, cond_false] at hh; cases hh
      | true =>
      rw [hk1, cond_true] at hh
      cases hh
      obtain rfl := Nat.eq_of_beq_eq_true hk1
      exact zc_second (name := "java/lang/IllegalStateException") (nm := "java/lang/IllegalArgumentException") hown ⟨a, b, t0, 13⟩ ⟨a2, b2, t, 18⟩ [] htab (zcov ha hb2) (show (13 : Nat) ≠ 0 by decide) (hw _ zk_A) (hNcs _ hNc) (zcov ha2 hb3) (show (18 : Nat) ≠ 0 by decide) (hw _ zk_S) (hNw _ zk_SS) h1 h2 h3 kk
  · cases hb
