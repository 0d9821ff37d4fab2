/-! THE CLASS ON THE FRESH OBJECT: the questions of its arguments, who is there -/
theorem w_isGuest {v r : Int32} (hr : zwi v 0 3 = r) (h : zH) (d : Nat) : zCr (d + 2) 25 [.int v] h (.inl (some (.int r))) h := by
  refine zx_in rfl rfl ?_
  refine zx_go 9 rfl ?_
  refine zx_c rfl rfl rfl rfl (w_within' (lo := 0) (hi := 3) hr _ _) ?_
  rcases zwi_01 v 0 3 with q | q <;> (rw [q] at hr; subst hr; exact zx_r rfl rfl)
theorem w_isVcpu {v r : Int32} (hr : zwi v 0 7 = r) (h : zH) (d : Nat) : zCr (d + 2) 52 [.int v] h (.inl (some (.int r))) h := by
  refine zx_in rfl rfl ?_
  refine zx_go 9 rfl ?_
  refine zx_c rfl rfl rfl rfl (w_within' (lo := 0) (hi := 7) hr _ _) ?_
  rcases zwi_01 v 0 7 with q | q <;> (rw [q] at hr; subst hr; exact zx_r rfl rfl)
theorem w_isMemoryPage {v r : Int32} (hr : zwi v 0 127 = r) (h : zH) (d : Nat) : zCr (d + 2) 165 [.int v] h (.inl (some (.int r))) h := by
  refine zx_in rfl rfl ?_
  refine zx_go 9 rfl ?_
  refine zx_c rfl rfl rfl rfl (w_within' (lo := 0) (hi := 127) hr _ _) ?_
  rcases zwi_01 v 0 127 with q | q <;> (rw [q] at hr; subst hr; exact zx_r rfl rfl)
theorem w_isAddress {v r : Int32} (hr : zwi v 0 4095 = r) (h : zH) (d : Nat) : zCr (d + 2) 61 [.int v] h (.inl (some (.int r))) h := by
  refine zx_in rfl rfl ?_
  refine zx_go 9 rfl ?_
  refine zx_c rfl rfl rfl rfl (w_within' (lo := 0) (hi := 4095) hr _ _) ?_
  rcases zwi_01 v 0 4095 with q | q <;> (rw [q] at hr; subst hr; exact zx_r rfl rfl)
theorem w_isHostAddress {v r : Int32} (hr : zwi v 0 2047 = r) (h : zH) (d : Nat) : zCr (d + 2) 189 [.int v] h (.inl (some (.int r))) h := by
  refine zx_in rfl rfl ?_
  refine zx_go 9 rfl ?_
  refine zx_c rfl rfl rfl rfl (w_within' (lo := 0) (hi := 2047) hr _ _) ?_
  rcases zwi_01 v 0 2047 with q | q <;> (rw [q] at hr; subst hr; exact zx_r rfl rfl)
theorem w_isWord {v r : Int32} (hr : zwi v 0 65535 = r) (h : zH) (d : Nat) : zCr (d + 2) 62 [.int v] h (.inl (some (.int r))) h := by
  refine zx_in rfl rfl ?_
  refine zx_go 9 rfl ?_
  refine zx_c rfl rfl rfl rfl (w_within' (lo := 0) (hi := 65535) hr _ _) ?_
  rcases zwi_01 v 0 65535 with q | q <;> (rw [q] at hr; subst hr; exact zx_r rfl rfl)
theorem w_isFrame {v r : Int32} (hr : zwi v 0 127 = r) (h : zH) (d : Nat) : zCr (d + 2) 198 [.int v] h (.inl (some (.int r))) h := by
  refine zx_in rfl rfl ?_
  refine zx_go 9 rfl ?_
  refine zx_c rfl rfl rfl rfl (w_within' (lo := 0) (hi := 127) hr _ _) ?_
  rcases zwi_01 v 0 127 with q | q <;> (rw [q] at hr; subst hr; exact zx_r rfl rfl)
section ZFR
variable {F : Nat → Nat → Int32} {G : Nat → Nat → Option Nat} {L : Nat → Int64}
theorem w_gt0 (hG : zGk G) (d : Nat) : zCr (d + 2) 27 [.ref 0, .int 0] (zHx F G L) (.inr 1) (zHx F G L) := by
  refine zx_in rfl rfl ?_
  refine zx_go 3 rfl ?_
  refine zx_aal3 rfl rfl rfl rfl hG.1 ?_
  refine zx_go 9 rfl ?_
  exact zx_x rfl rfl rfl rfl (w_st0 _ _) rfl rfl
theorem w_gt1 (hG : zGk G) (d : Nat) : zCr (d + 2) 27 [.ref 0, .int 1] (zHx F G L) (.inr 1) (zHx F G L) := by
  refine zx_in rfl rfl ?_
  refine zx_go 3 rfl ?_
  refine zx_aal3 rfl rfl rfl rfl hG.2.1 ?_
  refine zx_go 9 rfl ?_
  exact zx_x rfl rfl rfl rfl (w_st0 _ _) rfl rfl
theorem w_gt2 (hG : zGk G) (d : Nat) : zCr (d + 2) 27 [.ref 0, .int 2] (zHx F G L) (.inr 1) (zHx F G L) := by
  refine zx_in rfl rfl ?_
  refine zx_go 3 rfl ?_
  refine zx_aal3 rfl rfl rfl rfl hG.2.2.1 ?_
  refine zx_go 9 rfl ?_
  exact zx_x rfl rfl rfl rfl (w_st0 _ _) rfl rfl
theorem w_gt3 (hG : zGk G) (d : Nat) : zCr (d + 2) 27 [.ref 0, .int 3] (zHx F G L) (.inr 1) (zHx F G L) := by
  refine zx_in rfl rfl ?_
  refine zx_go 3 rfl ?_
  refine zx_aal3 rfl rfl rfl rfl hG.2.2.2.1 ?_
  refine zx_go 9 rfl ?_
  exact zx_x rfl rfl rfl rfl (w_st0 _ _) rfl rfl
theorem w_vt0 (hG : zGk G) (d : Nat) : zCr (d + 2) 53 [.ref 0, .int 0] (zHx F G L) (.inr 1) (zHx F G L) := by
  refine zx_in rfl rfl ?_
  refine zx_go 3 rfl ?_
  refine zx_aal4 rfl rfl rfl rfl hG.2.2.2.2.1 ?_
  refine zx_go 9 rfl ?_
  exact zx_x rfl rfl rfl rfl (w_st0 _ _) rfl rfl
theorem w_vt1 (hG : zGk G) (d : Nat) : zCr (d + 2) 53 [.ref 0, .int 1] (zHx F G L) (.inr 1) (zHx F G L) := by
  refine zx_in rfl rfl ?_
  refine zx_go 3 rfl ?_
  refine zx_aal4 rfl rfl rfl rfl hG.2.2.2.2.2.1 ?_
  refine zx_go 9 rfl ?_
  exact zx_x rfl rfl rfl rfl (w_st0 _ _) rfl rfl
theorem w_vt2 (hG : zGk G) (d : Nat) : zCr (d + 2) 53 [.ref 0, .int 2] (zHx F G L) (.inr 1) (zHx F G L) := by
  refine zx_in rfl rfl ?_
  refine zx_go 3 rfl ?_
  refine zx_aal4 rfl rfl rfl rfl hG.2.2.2.2.2.2.1 ?_
  refine zx_go 9 rfl ?_
  exact zx_x rfl rfl rfl rfl (w_st0 _ _) rfl rfl
theorem w_vt3 (hG : zGk G) (d : Nat) : zCr (d + 2) 53 [.ref 0, .int 3] (zHx F G L) (.inr 1) (zHx F G L) := by
  refine zx_in rfl rfl ?_
  refine zx_go 3 rfl ?_
  refine zx_aal4 rfl rfl rfl rfl hG.2.2.2.2.2.2.2.1 ?_
  refine zx_go 9 rfl ?_
  exact zx_x rfl rfl rfl rfl (w_st0 _ _) rfl rfl
theorem w_vt4 (hG : zGk G) (d : Nat) : zCr (d + 2) 53 [.ref 0, .int 4] (zHx F G L) (.inr 1) (zHx F G L) := by
  refine zx_in rfl rfl ?_
  refine zx_go 3 rfl ?_
  refine zx_aal4 rfl rfl rfl rfl hG.2.2.2.2.2.2.2.2.1 ?_
  refine zx_go 9 rfl ?_
  exact zx_x rfl rfl rfl rfl (w_st0 _ _) rfl rfl
theorem w_vt5 (hG : zGk G) (d : Nat) : zCr (d + 2) 53 [.ref 0, .int 5] (zHx F G L) (.inr 1) (zHx F G L) := by
  refine zx_in rfl rfl ?_
  refine zx_go 3 rfl ?_
  refine zx_aal4 rfl rfl rfl rfl hG.2.2.2.2.2.2.2.2.2.1 ?_
  refine zx_go 9 rfl ?_
  exact zx_x rfl rfl rfl rfl (w_st0 _ _) rfl rfl
theorem w_vt6 (hG : zGk G) (d : Nat) : zCr (d + 2) 53 [.ref 0, .int 6] (zHx F G L) (.inr 1) (zHx F G L) := by
  refine zx_in rfl rfl ?_
  refine zx_go 3 rfl ?_
  refine zx_aal4 rfl rfl rfl rfl hG.2.2.2.2.2.2.2.2.2.2.1 ?_
  refine zx_go 9 rfl ?_
  exact zx_x rfl rfl rfl rfl (w_st0 _ _) rfl rfl
theorem w_vt7 (hG : zGk G) (d : Nat) : zCr (d + 2) 53 [.ref 0, .int 7] (zHx F G L) (.inr 1) (zHx F G L) := by
  refine zx_in rfl rfl ?_
  refine zx_go 3 rfl ?_
  refine zx_aal4 rfl rfl rfl rfl hG.2.2.2.2.2.2.2.2.2.2.2 ?_
  refine zx_go 9 rfl ?_
  exact zx_x rfl rfl rfl rfl (w_st0 _ _) rfl rfl
end ZFR
