/-! A CALL IS ALIKE ON BOTH SIDES; guest and host by the kernel -/
def zR11 (h : zH) : Prop := ∃ fs, h[113]? = some (.inr (11, fs))
def zr11 (h : zH) : Bool := match (h[113]? : Option zE) with
  | some (.inr (11, _)) => true
  | _ => false
theorem zr11_ok {h : zH} (e : zr11 h = true) : zR11 h := by
  unfold zr11 at e
  split at e
  · rename_i fs q; exact ⟨fs, q⟩
  · cases e
def zRs (z m : Nat) (al am : List Value) (H : zH) : Prop := ∃ (k b : Int32) (h1 h2 h3 : zH) (f : Nat → Int64), zCr 8 z al H (.inl (some (.int k))) h1 ∧ zCr 8 m am h1 (.inl (some (.int b))) h2 ∧ zCr 8 24 [.ref 113] h2 (.inl (some (.int k))) h3 ∧ h3[148]? = some (.inl (2, 1, .inr (.inl f))) ∧ (k = 0 → f 0 = b.toInt64) ∧ zR11 h1 ∧ zR11 h2
abbrev zcl0 (z : Nat) (a : List Value) (h : zH) : Option (zO × zH) := zcall zPg zft zfn zX0 8 z a h
def zEvR (z m : Nat) (al am : List Value) (H : zH) : Bool := match zcl0 z al H with
  | some (.inl (some (.int k)), h1) => (match zcl0 m am h1 with
    | some (.inl (some (.int b)), h2) => (match zcl0 24 [.ref 113] h2 with
      | some (.inl (some (.int k')), h3) => (match (h3[148]? : Option zE) with
        | some (.inl (2, 1, .inr (.inl f))) => decide (k' = k) && (decide (f 0 = b.toInt64) && (zr11 h1 && zr11 h2))
        | _ => false)
      | _ => false)
    | _ => false)
  | _ => false
theorem zEvR_ok {z m : Nat} {al am : List Value} {H : zH} (h : zEvR z m al am H = true) : zRs z m al am H := by
  unfold zEvR at h
  split at h
  · rename_i k h1 e1
    split at h
    · rename_i b h2 e2
      split at h
      · rename_i k' h3 e3
        split at h
        · rename_i f e4
          rw [Bool.and_eq_true, Bool.and_eq_true, Bool.and_eq_true, decide_eq_true_eq, decide_eq_true_eq] at h
          obtain ⟨rfl, h, q1, q2⟩ := h
          exact ⟨_, b, h1, h2, h3, f, zCR_of _ _ _ _ _ _ e1, zCR_of _ _ _ _ _ _ e2, zCR_of _ _ _ _ _ _ e3, e4, fun _ => h, zr11_ok q1, zr11_ok q2⟩
        · cases h
      · cases h
    · cases h
  · cases h
def zL0 : Nat → Int64 := fun _ => 0
def zH0 : zH := zHb ++ [.inl (2, 1, .inr (.inl zL0))]
abbrev zF0 : Nat → Nat → Int32 := zfi zHb
abbrev zG0 : Nat → Nat → Option Nat := zfr zHb
theorem zH0_eq : zH0 = zHx zF0 zG0 zL0 := by
  unfold zH0 zHx
  rw [show zrls zF0 zG0 0 zsh = zHb from (zsm_eq zHb [] zHb zsh (List.nil_append zHb).symm zHb_sm).symm]
theorem zG0_k : zGk zG0 := zHb_G
theorem zF0_k : zFk zF0 := by unfold zFk; decide +kernel
theorem zal0 {n : Nat} {f : Nat → Int32} {x : Int32} (h : (List.range n).all (fun j => decide (f j = x)) = true) : ∀ j, j < n → f j = x := by
  intro j hj
  exact of_decide_eq_true (List.all_eq_true.mp h j (List.mem_range.mpr hj))
theorem zF0_z : zFz zF0 := ⟨zal0 (by decide +kernel), zal0 (by decide +kernel), zal0 zHb_F4, zal0 zHb_F5, zal0 (by decide +kernel), zal0 (by decide +kernel)⟩
