/-! CAUGHT in the law's helpers -/
section ZCA
variable {p : Program} {l : Launch} {e : Env} {R : Room} {s : State} {m : MethodId} {args : Array Value} {below : List Frame} {meth : Method} {c : Code} {H : Heap} {locs : List Loc} {cells slots : Nat} {ls : Array Slot} {rest : List Value} {Q : State → Prop} {pc : Nat}
/-- caught by the row x of this method's table; the rows ahead don't take it -/
theorem vx_catch {own name : String} {E : String} {ce : Cell} {q : Addr} (hown : s.vm.findClass own = some m.cls) (pre : List ExceptionTableEntry) (x : ExceptionTableEntry) (suf : List ExceptionTableEntry) (hsplit : c.exceptionTable.toList = pre ++ x :: suf)
    (hpass : ∀ z ∈ pre, covers z pc = false ∨ (z.catchType ≠ 0 ∧ ∃ nm : String, (Cond.classLink own z.catchType nm).before args s = true ∧ va_Nc E nm s)) (hx : covers x pc = true) (h0 : x.catchType ≠ 0)
    (hlink : (Cond.classLink own x.catchType name).before args s = true) (hcast : (Cond.castable E name).before args s = true) (hcell : H[q]? = some ce) (hv : ce.vm = .none) (hcl : s.vm.findClass E = some ce.cls)
    (kk : W p l e R s m args below meth c H locs cells slots Q (F0 m x.handlerPc ls [.ref q])) : vx_W p l e R s m args below meth c H locs cells slots Q (F0 m pc ls rest) q := by
  intro T hT X
  have hpl : e.platform.magicAccessors = ({} : Platform).magicAccessors := by rw [X.admits.platform]
  obtain ⟨c3, c4, hc3, hc4, hasg⟩ := Cond.castable_spec hcast
  cases Option.some.inj (hc3.symm.trans hcl)
  obtain ⟨c5, hc5, hcl5⟩ := Cond.classLink_spec hown hlink e.platform hpl
  cases Option.some.inj (hc4.symm.trans hc5)
  obtain ⟨vm', X', st⟩ := Stand.thenCaughtThrough X q (g := F0 m pc ls rest) rfl (Steps.refl _) (by rw [hT]; exact hcell) (by rw [hv]; rfl) (by obtain ⟨k9, h9, -⟩ := Vm.findClass_spec hcl; exact ⟨k9, h9⟩) pre x suf hsplit
    (fun z hz => by
      rcases hpass z hz with h | ⟨hz0, nm, hl1, hn1⟩
      · exact Or.inl h
      · obtain ⟨c6, hc6, hcl6⟩ := Cond.classLink_spec hown hl1 e.platform hpl
        obtain ⟨a8, b8, h1, h2, h3⟩ := hn1
        cases Option.some.inj (h1.symm.trans hcl)
        cases Option.some.inj (h2.symm.trans hc6)
        exact Or.inr ⟨hz0, _, hcl6, h3⟩) hx (Or.inr ⟨h0, c4, hcl5, hasg⟩)
  obtain ⟨t, a1, b1⟩ := kk (T.setVm vm') hT X'
  exact ⟨t, st.trans a1, b1⟩
end ZCA
set_option maxRecDepth 100000 in
theorem zk_A : Cond.classLink "NestedPagerLaw" 13 "java/lang/IllegalArgumentException" ∈ zTs := zTs_at 401 (by decide +kernel) (by decide +kernel)
set_option maxRecDepth 100000 in
theorem zk_S : Cond.classLink "NestedPagerLaw" 18 "java/lang/IllegalStateException" ∈ zTs := zTs_at 490 (by decide +kernel) (by decide +kernel)
set_option maxRecDepth 100000 in
theorem zk_AA : Cond.castable "java/lang/IllegalArgumentException" "java/lang/IllegalArgumentException" ∈ zNw := zNw_at 411 (by decide +kernel) rfl
set_option maxRecDepth 100000 in
theorem zk_SS : Cond.castable "java/lang/IllegalStateException" "java/lang/IllegalStateException" ∈ zNw := zNw_at 507 (by decide +kernel) rfl
def zTb (M : zM) : Bool := match zTab M with
  | [] => true
  | [(_, _, _, ct)] => decide ((zName M).cls = "NestedPagerLaw") && Nat.beq ct 13
  | [(_, _, _, ct), (_, _, _, ct2)] => decide ((zName M).cls = "NestedPagerLaw") && (Nat.beq ct 13 && Nat.beq ct2 18)
  | _ => false
theorem zTb_all : zPg.all zTb = true := by decide +kernel
theorem zcov {a b t ct pc : Nat} (h1 : Nat.ble a pc = true) (h2 : Nat.blt pc b = true) : covers (⟨a, b, t, ct⟩ : ExceptionTableEntry) pc = true := by
  show (decide (a ≤ pc) && decide (pc < b)) = true
  rw [decide_eq_true (Nat.le_of_ble_eq_true h1), decide_eq_true (Nat.le_of_ble_eq_true h2)]
  rfl
theorem zcat_all {l : Launch} {Nc : List (String × String)} {X : zX} {xa : List Nat} {n0 : Nat} (hNc : ("java/lang/IllegalStateException", "java/lang/IllegalArgumentException") ∈ Nc) : zCatAll l zTs zNw Nc X xa zsf n0 zPg := by
  intro z M hz ht p e R s m args below meth c Q C E htab
  have hb := List.all_eq_true.mp zTb_all M (List.mem_of_getElem? hz)
  intro k pc t ce q9 H locs nc ns ls sc _ hh h1 h2 h3 kk
  obtain ⟨-, -, -, hown, hw, -⟩ := C
  obtain ⟨-, -, -, -, -, hNw, hNcs, -⟩ := E
  unfold zTb at hb
  split at hb
  · rename_i e0; exact absurd e0 ht
  · rename_i a b t0 ct e0
    rw [e0] at hh htab
    rw [Bool.and_eq_true, decide_eq_true_eq] at hb
    obtain ⟨hn, hc1⟩ := hb
    rw [hn] at hown
    obtain rfl := Nat.eq_of_beq_eq_true hc1
    unfold zhand at hh
    dsimp only at hh
    cases hbb : (Nat.beq k 0 && (Nat.ble a pc && Nat.blt pc b)) with
    | false => rw [hbb] at hh; cases hh
    | true =>
    rw [hbb] at hh
    cases hh
    simp only [Bool.and_eq_true] at hbb
    obtain ⟨hk0, ha, hb2⟩ := hbb
    obtain rfl := Nat.eq_of_beq_eq_true hk0
    exact vx_catch (name := "java/lang/IllegalArgumentException") hown [] ⟨a, b, t0, 13⟩ [] htab (fun z hz => nomatch hz) (zcov ha hb2) (by decide) (hw _ zk_A) (hNw _ zk_AA) h1 h2 h3 kk
  · rename_i a b t0 ct a2 b2 t2 ct2 e0
    rw [e0] at hh htab
    rw [Bool.and_eq_true, Bool.and_eq_true, decide_eq_true_eq] at hb
    obtain ⟨hn, hc1, hc2⟩ := hb
    rw [hn] at hown
    obtain rfl := Nat.eq_of_beq_eq_true hc1
    obtain rfl := Nat.eq_of_beq_eq_true hc2
    unfold zhand at hh
    dsimp only at hh
    cases hbb : (Nat.ble a pc && (Nat.blt pc b && (Nat.ble a2 pc && Nat.blt pc b2))) with
    | false => rw [hbb] at hh; cases hh
    | true =>
    rw [hbb, cond_true] at hh
    simp only [Bool.and_eq_true] at hbb
    obtain ⟨ha, hb2, ha2, hb3⟩ := hbb
    cases hk : Nat.beq k 0 with
    | true =>
      rw [hk, cond_true] at hh
      cases hh
      obtain rfl := Nat.eq_of_beq_eq_true hk
      exact vx_catch (name := "java/lang/IllegalArgumentException") hown [] ⟨a, b, t0, 13⟩ [⟨a2, b2, t2, 18⟩] htab (fun z hz => nomatch hz) (zcov ha hb2) (by decide) (hw _ zk_A) (hNw _ zk_AA) h1 h2 h3 kk
    | false =>
      rw [hk, cond_false] at hh
      cases hk1 : Nat.beq k 1 with
      | false => rw [hk1, cond_false] at hh; cases hh
      | true =>
      rw [hk1, cond_true] at hh
      cases hh
      obtain rfl := Nat.eq_of_beq_eq_true hk1
      refine vx_catch (name := "java/lang/IllegalStateException") hown [⟨a, b, t0, 13⟩] ⟨a2, b2, t2, 18⟩ [] htab (fun z hz => ?_) (zcov ha2 hb3) (by decide) (hw _ zk_S) (hNw _ zk_SS) h1 h2 h3 kk
      rcases List.mem_singleton.mp hz with rfl
      exact Or.inr ⟨by decide, "java/lang/IllegalArgumentException", hw _ zk_A, hNcs _ hNc⟩
  · cases hb
