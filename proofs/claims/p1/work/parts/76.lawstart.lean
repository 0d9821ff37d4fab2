/-! THE LAW FROM ITS START, for scripts of at most one call -/
theorem zls_31 (x : Int32) : ∃ c : Nat, c < 32 ∧ x &&& 31 = nI c := pk_andE x (m := 31) 5 (by decide)
section ZLS
variable {xs : Nat → Int32}
set_option maxRecDepth 100000 in
theorem law_sw (c : Nat) (hc : c < 32) : zLw 7 xs 40 zlo0 [.int (nI c)] (zHx zF0 zG0 zL0) zn0 zs0 := by
  match c, hc with
  | 0, _ => exact zl_of (fun _ q => zx_go 1 rfl q) law_guest
  | 1, _ => exact zl_of (fun _ q => zx_go 1 rfl q) law_destroy
  | 2, _ => exact zl_of (fun _ q => zx_go 1 rfl q) law_vcpu
  | 3, _ => exact zl_of (fun _ q => zx_go 1 rfl q) law_set
  | 4, _ => exact zl_of (fun _ q => zx_go 1 rfl q) law_get
  | 5, _ => exact zl_of (fun _ q => zx_go 1 rfl q) law_access
  | 6, _ => exact zl_of (fun _ q => zx_go 1 rfl q) law_run
  | 7, _ => exact zl_of (fun _ q => zx_go 1 rfl q) law_exit
  | 8, _ => exact zl_of (fun _ q => zx_go 1 rfl q) law_flush
  | 9, _ => exact zl_of (fun _ q => zx_go 1 rfl q) law_aside
  | 10, _ => exact zl_of (fun _ q => zx_go 1 rfl q) law_deny
  | 11, _ => exact zl_of (fun _ q => zx_go 1 rfl q) law_swap
  | 12, _ => exact zl_of (fun _ q => zx_go 1 rfl q) law_move
  | 13, _ => exact zl_of (fun _ q => zx_go 1 rfl q) law_target
  | 14, _ => exact zl_of (fun _ q => zx_go 1 rfl q) law_harvest
  | 15, _ => exact zl_of (fun _ q => zx_go 1 rfl q) law_dirty
  | 16, _ => exact zl_of (fun _ q => zx_go 1 rfl q) law_entry
  | 17, _ => exact zl_of (fun _ q => zx_go 1 rfl q) law_poke
  | 18, _ => exact zl_of (fun _ q => zx_go 1 rfl q) law_peek
  | 19, _ => exact zl_of (fun _ q => zx_go 1 rfl q) law_frame
  | 20, _ => exact zl_of (fun _ q => zx_go 1 rfl q) law_owner
  | 21, _ => exact zl_of (fun _ q => zx_go 1 rfl q) law_count
  | 22, _ => exact zl_of (fun _ q => zx_go 1 rfl q) law_printed
  | 23, _ => exact zl_of (fun _ q => zx_go 1 rfl q) law_host
  | 24, _ => exact zl_of (fun _ q => zx_go 1 rfl q) zl_end0
  | 25, _ => exact zl_of (fun _ q => zx_go 1 rfl q) zl_end0
  | 26, _ => exact zl_of (fun _ q => zx_go 1 rfl q) zl_end0
  | 27, _ => exact zl_of (fun _ q => zx_go 1 rfl q) zl_end0
  | 28, _ => exact zl_of (fun _ q => zx_go 1 rfl q) zl_end0
  | 29, _ => exact zl_of (fun _ q => zx_go 1 rfl q) zl_end0
  | 30, _ => exact zl_of (fun _ q => zx_go 1 rfl q) zl_end0
  | 31, _ => exact zl_of (fun _ q => zx_go 1 rfl q) zl_end0
  | n + 32, h => exact absurd h (by omega)
theorem zrls_len {F : Nat → Nat → Int32} {G : Nat → Nat → Option Nat} : ∀ (l : List zSh) (k : Nat), (zrls F G k l).length = l.length := by
  intro l
  induction l with
  | nil => intro k; rfl
  | cons a l ih => intro k; exact congrArg Nat.succ (ih (k + 1))
theorem zHb_len : zHb.length = 148 := by
  have e := zsm_eq zHb [] zHb zsh (List.nil_append zHb).symm zHb_sm
  rw [e, zrls_len, zsh_len]
theorem zisV_of {e : Option (zO × zH)} (h : zisV e = true) : ∃ h', e = some (.inl none, h') := by
  unfold zisV at h
  split at h
  · exact ⟨_, rfl⟩
  · cases h
theorem zc_init1 : zCr 8 10 [.ref 0] [.inr (10, zdef zft zfn 10)] (.inl none) zHa := by
  obtain ⟨h', e⟩ := zisV_of zEv1_v
  have e2 : zHa = h' := by unfold zHa; rw [e]
  rw [e2]
  exact zCR_le (by decide) (zCR_of 6 _ _ _ _ _ e)
theorem zc_init2 : zCr 8 11 [.ref 113] (zHa ++ [.inr (11, zdef zft zfn 11)]) (.inl none) zHb := by
  obtain ⟨h', e⟩ := zisV_of zEv2_v
  have e2 : zHb = h' := by unfold zHb; rw [e]
  rw [e2]
  exact zCR_le (by decide) (zCR_of 6 _ _ _ _ _ e)
theorem zinv_i {h : zH} {nc ns : Nat} : zrec 2 zm_11 [.ref 113] (zHa ++ [.inr (11, zdef zft zfn 11)]) = true := by
  refine zrec_of (b := 113) (ci := 11) (fs := zdef zft zfn 11) ?_ rfl
  rw [List.getElem?_append_right (by rw [zHa_len]; exact Nat.le_refl _), zHa_len]
  rfl
set_option maxRecDepth 100000 in
theorem law_loop (n : Nat) (hn : n ≤ 7) : zLw n xs 23 zlo0 [] (zHx zF0 zG0 zL0) zn0 zs0 := by
  match n, hn with
  | 0, _ =>
    refine zl_of (fun _ q => zx_go 5 rfl q) ?_
    refine zl_of (fun _ q => zx_ic (b := true) rfl rfl (show zc2 .gt 0 (Int32.ofNat 0 - (Int8.ofInt 7).toInt32) = true by decide) rfl q) ?_
    refine zl_of (fun _ q => zx_go 1 rfl q) ?_
    exact zl_r rfl rfl
  | 1, _ =>
    refine zl_of (fun _ q => zx_go 5 rfl q) ?_
    refine zl_of (fun _ q => zx_ic (b := true) rfl rfl (show zc2 .gt 0 (Int32.ofNat 1 - (Int8.ofInt 7).toInt32) = true by decide) rfl q) ?_
    refine zl_of (fun _ q => zx_go 1 rfl q) ?_
    exact zl_r rfl rfl
  | 2, _ =>
    refine zl_of (fun _ q => zx_go 5 rfl q) ?_
    refine zl_of (fun _ q => zx_ic (b := true) rfl rfl (show zc2 .gt 0 (Int32.ofNat 2 - (Int8.ofInt 7).toInt32) = true by decide) rfl q) ?_
    refine zl_of (fun _ q => zx_go 1 rfl q) ?_
    exact zl_r rfl rfl
  | 3, _ =>
    refine zl_of (fun _ q => zx_go 5 rfl q) ?_
    refine zl_of (fun _ q => zx_ic (b := true) rfl rfl (show zc2 .gt 0 (Int32.ofNat 3 - (Int8.ofInt 7).toInt32) = true by decide) rfl q) ?_
    refine zl_of (fun _ q => zx_go 1 rfl q) ?_
    exact zl_r rfl rfl
  | 4, _ =>
    refine zl_of (fun _ q => zx_go 5 rfl q) ?_
    refine zl_of (fun _ q => zx_ic (b := true) rfl rfl (show zc2 .gt 0 (Int32.ofNat 4 - (Int8.ofInt 7).toInt32) = true by decide) rfl q) ?_
    refine zl_of (fun _ q => zx_go 1 rfl q) ?_
    exact zl_r rfl rfl
  | 5, _ =>
    refine zl_of (fun _ q => zx_go 5 rfl q) ?_
    refine zl_of (fun _ q => zx_ic (b := true) rfl rfl (show zc2 .gt 0 (Int32.ofNat 5 - (Int8.ofInt 7).toInt32) = true by decide) rfl q) ?_
    refine zl_of (fun _ q => zx_go 1 rfl q) ?_
    exact zl_r rfl rfl
  | 6, _ =>
    refine zl_of (fun _ q => zx_go 5 rfl q) ?_
    refine zl_of (fun _ q => zx_ic (b := true) rfl rfl (show zc2 .gt 0 (Int32.ofNat 6 - (Int8.ofInt 7).toInt32) = true by decide) rfl q) ?_
    refine zl_of (fun _ q => zx_go 1 rfl q) ?_
    exact zl_r rfl rfl
  | 7, _ =>
    refine zl_of (fun _ q => zx_go 5 rfl q) ?_
    refine zl_of (fun _ q => zx_ic (b := false) rfl rfl (show zc2 .gt 0 (Int32.ofNat 7 - (Int8.ofInt 7).toInt32) = false by decide) rfl q) ?_
    refine zl_of (fun _ q => zx_go 5 rfl q) ?_
    obtain ⟨c, hc, e⟩ := zls_31 (xs 0)
    refine zl_of (fun _ q => zx_eq (y := nI c) e q) ?_
    exact law_sw c hc
set_option maxRecDepth 100000 in
theorem law_all (n : Nat) (hn : n ≤ 7) : zLw n xs 0 [(0, .retAddr 2)] [] [] 0 0 := by
  refine zl_of (fun _ q => zx_m rfl rfl rfl rfl q) ?_
  refine zl_of (fun _ q => zx_go 1 rfl q) ?_
  refine zl_of (fun _ q => zx_c rfl rfl rfl rfl zc_init1 q) ?_
  refine zl_of (fun _ q => zx_go 1 rfl q) ?_
  refine zl_of (fun _ q => zx_m rfl rfl rfl rfl q) ?_
  rw [zHa_len]
  refine zl_of (fun _ q => zx_go 1 rfl q) ?_
  refine zl_of (fun _ q => zx_c rfl rfl rfl (zinv_of (h2 := zHn) rfl (zinv_i (h := []) (nc := 0) (ns := 0))) zc_init2 q) ?_
  refine zl_of (fun _ q => zx_go 2 rfl q) ?_
  refine zl_of (fun _ q => zx_m rfl rfl rfl rfl q) ?_
  rw [zHb_len]
  refine zl_of (fun _ q => zx_go 3 rfl q) ?_
  have e := zH0_eq
  unfold zH0 at e
  have k := law_loop (xs := xs) n hn
  rw [← e] at k
  exact k
end ZLS
