/-! THE CLASS ON THE FRESH OBJECT: methods that need a guest or a VCPU throw -/
section ZFP
variable {F : Nat → Nat → Int32} {G : Nat → Nat → Option Nat} {L : Nat → Int64}
theorem k_destroy_0 (p0 : Int32) (h0 : zwi p0 0 3 = 0) (h : zH) (d : Nat) : zCr (d + 3) 37 [.ref 0, .int p0] h (.inr 0) h := by
  refine zx_in rfl rfl ?_
  refine zx_go 19 rfl ?_
  refine zx_c rfl rfl rfl rfl (w_isGuest h0 _ _) ?_
  refine zx_go 19 rfl ?_
  exact zx_x rfl rfl rfl rfl (w_arg0 _ _) rfl rfl
theorem k_destroy_t0 (hG : zGk G)  (d : Nat) : zCr (d + 3) 37 [.ref 0, .int 0] (zHx F G L) (.inr 1) (zHx F G L) := by
  refine zx_in rfl rfl ?_
  refine zx_go 19 rfl ?_
  refine zx_c rfl rfl rfl rfl (w_isGuest (show zwi 0 0 3 = 1 by decide) _ _) ?_
  refine zx_go 19 rfl ?_
  refine zx_c rfl rfl rfl rfl (w_arg1 _ _) ?_
  refine zx_go 19 rfl ?_
  exact zx_x rfl rfl rfl rfl (w_gt0 hG _) rfl rfl
theorem k_destroy_t1 (hG : zGk G)  (d : Nat) : zCr (d + 3) 37 [.ref 0, .int 1] (zHx F G L) (.inr 1) (zHx F G L) := by
  refine zx_in rfl rfl ?_
  refine zx_go 19 rfl ?_
  refine zx_c rfl rfl rfl rfl (w_isGuest (show zwi 1 0 3 = 1 by decide) _ _) ?_
  refine zx_go 19 rfl ?_
  refine zx_c rfl rfl rfl rfl (w_arg1 _ _) ?_
  refine zx_go 19 rfl ?_
  exact zx_x rfl rfl rfl rfl (w_gt1 hG _) rfl rfl
theorem k_destroy_t2 (hG : zGk G)  (d : Nat) : zCr (d + 3) 37 [.ref 0, .int 2] (zHx F G L) (.inr 1) (zHx F G L) := by
  refine zx_in rfl rfl ?_
  refine zx_go 19 rfl ?_
  refine zx_c rfl rfl rfl rfl (w_isGuest (show zwi 2 0 3 = 1 by decide) _ _) ?_
  refine zx_go 19 rfl ?_
  refine zx_c rfl rfl rfl rfl (w_arg1 _ _) ?_
  refine zx_go 19 rfl ?_
  exact zx_x rfl rfl rfl rfl (w_gt2 hG _) rfl rfl
theorem k_destroy_t3 (hG : zGk G)  (d : Nat) : zCr (d + 3) 37 [.ref 0, .int 3] (zHx F G L) (.inr 1) (zHx F G L) := by
  refine zx_in rfl rfl ?_
  refine zx_go 19 rfl ?_
  refine zx_c rfl rfl rfl rfl (w_isGuest (show zwi 3 0 3 = 1 by decide) _ _) ?_
  refine zx_go 19 rfl ?_
  refine zx_c rfl rfl rfl rfl (w_arg1 _ _) ?_
  refine zx_go 19 rfl ?_
  exact zx_x rfl rfl rfl rfl (w_gt3 hG _) rfl rfl
theorem k_vcpu_0 (p0 : Int32) (h0 : zwi p0 0 3 = 0) (h : zH) (d : Nat) : zCr (d + 3) 48 [.ref 0, .int p0] h (.inr 0) h := by
  refine zx_in rfl rfl ?_
  refine zx_go 19 rfl ?_
  refine zx_c rfl rfl rfl rfl (w_isGuest h0 _ _) ?_
  refine zx_go 19 rfl ?_
  exact zx_x rfl rfl rfl rfl (w_arg0 _ _) rfl rfl
theorem k_vcpu_t0 (hG : zGk G)  (d : Nat) : zCr (d + 3) 48 [.ref 0, .int 0] (zHx F G L) (.inr 1) (zHx F G L) := by
  refine zx_in rfl rfl ?_
  refine zx_go 19 rfl ?_
  refine zx_c rfl rfl rfl rfl (w_isGuest (show zwi 0 0 3 = 1 by decide) _ _) ?_
  refine zx_go 19 rfl ?_
  refine zx_c rfl rfl rfl rfl (w_arg1 _ _) ?_
  refine zx_go 19 rfl ?_
  exact zx_x rfl rfl rfl rfl (w_gt0 hG _) rfl rfl
theorem k_vcpu_t1 (hG : zGk G)  (d : Nat) : zCr (d + 3) 48 [.ref 0, .int 1] (zHx F G L) (.inr 1) (zHx F G L) := by
  refine zx_in rfl rfl ?_
  refine zx_go 19 rfl ?_
  refine zx_c rfl rfl rfl rfl (w_isGuest (show zwi 1 0 3 = 1 by decide) _ _) ?_
  refine zx_go 19 rfl ?_
  refine zx_c rfl rfl rfl rfl (w_arg1 _ _) ?_
  refine zx_go 19 rfl ?_
  exact zx_x rfl rfl rfl rfl (w_gt1 hG _) rfl rfl
theorem k_vcpu_t2 (hG : zGk G)  (d : Nat) : zCr (d + 3) 48 [.ref 0, .int 2] (zHx F G L) (.inr 1) (zHx F G L) := by
  refine zx_in rfl rfl ?_
  refine zx_go 19 rfl ?_
  refine zx_c rfl rfl rfl rfl (w_isGuest (show zwi 2 0 3 = 1 by decide) _ _) ?_
  refine zx_go 19 rfl ?_
  refine zx_c rfl rfl rfl rfl (w_arg1 _ _) ?_
  refine zx_go 19 rfl ?_
  exact zx_x rfl rfl rfl rfl (w_gt2 hG _) rfl rfl
theorem k_vcpu_t3 (hG : zGk G)  (d : Nat) : zCr (d + 3) 48 [.ref 0, .int 3] (zHx F G L) (.inr 1) (zHx F G L) := by
  refine zx_in rfl rfl ?_
  refine zx_go 19 rfl ?_
  refine zx_c rfl rfl rfl rfl (w_isGuest (show zwi 3 0 3 = 1 by decide) _ _) ?_
  refine zx_go 19 rfl ?_
  refine zx_c rfl rfl rfl rfl (w_arg1 _ _) ?_
  refine zx_go 19 rfl ?_
  exact zx_x rfl rfl rfl rfl (w_gt3 hG _) rfl rfl
theorem k_get_0 (p0 p1 : Int32) (h0 : zwi p0 0 7 = 0) (h : zH) (d : Nat) : zCr (d + 3) 58 [.ref 0, .int p0, .int p1] h (.inr 0) h := by
  refine zx_in rfl rfl ?_
  refine zx_go 19 rfl ?_
  refine zx_c rfl rfl rfl rfl (w_isVcpu h0 _ _) ?_
  refine zx_go 19 rfl ?_
  exact zx_x rfl rfl rfl rfl (w_arg0 _ _) rfl rfl
theorem k_get_1 (p0 p1 : Int32) (h0 : zwi p0 0 7 = 1) (h1 : zwi p1 0 18 = 0) (h : zH) (d : Nat) : zCr (d + 3) 58 [.ref 0, .int p0, .int p1] h (.inr 0) h := by
  refine zx_in rfl rfl ?_
  refine zx_go 19 rfl ?_
  refine zx_c rfl rfl rfl rfl (w_isVcpu h0 _ _) ?_
  refine zx_go 19 rfl ?_
  refine zx_c rfl rfl rfl rfl (w_within' (lo := 0) (hi := 18) h1 _ _) ?_
  refine zx_go 19 rfl ?_
  exact zx_x rfl rfl rfl rfl (w_arg0 _ _) rfl rfl
theorem k_get_t0 (hG : zGk G) (p1 : Int32) (h1 : zwi p1 0 18 = 1) (d : Nat) : zCr (d + 3) 58 [.ref 0, .int 0, .int p1] (zHx F G L) (.inr 1) (zHx F G L) := by
  refine zx_in rfl rfl ?_
  refine zx_go 19 rfl ?_
  refine zx_c rfl rfl rfl rfl (w_isVcpu (show zwi 0 0 7 = 1 by decide) _ _) ?_
  refine zx_go 19 rfl ?_
  refine zx_c rfl rfl rfl rfl (w_within' (lo := 0) (hi := 18) h1 _ _) ?_
  refine zx_go 19 rfl ?_
  refine zx_c rfl rfl rfl rfl (w_arg1 _ _) ?_
  refine zx_go 19 rfl ?_
  exact zx_x rfl rfl rfl rfl (w_vt0 hG _) rfl rfl
theorem k_get_t1 (hG : zGk G) (p1 : Int32) (h1 : zwi p1 0 18 = 1) (d : Nat) : zCr (d + 3) 58 [.ref 0, .int 1, .int p1] (zHx F G L) (.inr 1) (zHx F G L) := by
  refine zx_in rfl rfl ?_
  refine zx_go 19 rfl ?_
  refine zx_c rfl rfl rfl rfl (w_isVcpu (show zwi 1 0 7 = 1 by decide) _ _) ?_
  refine zx_go 19 rfl ?_
  refine zx_c rfl rfl rfl rfl (w_within' (lo := 0) (hi := 18) h1 _ _) ?_
  refine zx_go 19 rfl ?_
  refine zx_c rfl rfl rfl rfl (w_arg1 _ _) ?_
  refine zx_go 19 rfl ?_
  exact zx_x rfl rfl rfl rfl (w_vt1 hG _) rfl rfl
theorem k_get_t2 (hG : zGk G) (p1 : Int32) (h1 : zwi p1 0 18 = 1) (d : Nat) : zCr (d + 3) 58 [.ref 0, .int 2, .int p1] (zHx F G L) (.inr 1) (zHx F G L) := by
  refine zx_in rfl rfl ?_
  refine zx_go 19 rfl ?_
  refine zx_c rfl rfl rfl rfl (w_isVcpu (show zwi 2 0 7 = 1 by decide) _ _) ?_
  refine zx_go 19 rfl ?_
  refine zx_c rfl rfl rfl rfl (w_within' (lo := 0) (hi := 18) h1 _ _) ?_
  refine zx_go 19 rfl ?_
  refine zx_c rfl rfl rfl rfl (w_arg1 _ _) ?_
  refine zx_go 19 rfl ?_
  exact zx_x rfl rfl rfl rfl (w_vt2 hG _) rfl rfl
theorem k_get_t3 (hG : zGk G) (p1 : Int32) (h1 : zwi p1 0 18 = 1) (d : Nat) : zCr (d + 3) 58 [.ref 0, .int 3, .int p1] (zHx F G L) (.inr 1) (zHx F G L) := by
  refine zx_in rfl rfl ?_
  refine zx_go 19 rfl ?_
  refine zx_c rfl rfl rfl rfl (w_isVcpu (show zwi 3 0 7 = 1 by decide) _ _) ?_
  refine zx_go 19 rfl ?_
  refine zx_c rfl rfl rfl rfl (w_within' (lo := 0) (hi := 18) h1 _ _) ?_
  refine zx_go 19 rfl ?_
  refine zx_c rfl rfl rfl rfl (w_arg1 _ _) ?_
  refine zx_go 19 rfl ?_
  exact zx_x rfl rfl rfl rfl (w_vt3 hG _) rfl rfl
theorem k_get_t4 (hG : zGk G) (p1 : Int32) (h1 : zwi p1 0 18 = 1) (d : Nat) : zCr (d + 3) 58 [.ref 0, .int 4, .int p1] (zHx F G L) (.inr 1) (zHx F G L) := by
  refine zx_in rfl rfl ?_
  refine zx_go 19 rfl ?_
  refine zx_c rfl rfl rfl rfl (w_isVcpu (show zwi 4 0 7 = 1 by decide) _ _) ?_
  refine zx_go 19 rfl ?_
  refine zx_c rfl rfl rfl rfl (w_within' (lo := 0) (hi := 18) h1 _ _) ?_
  refine zx_go 19 rfl ?_
  refine zx_c rfl rfl rfl rfl (w_arg1 _ _) ?_
  refine zx_go 19 rfl ?_
  exact zx_x rfl rfl rfl rfl (w_vt4 hG _) rfl rfl
theorem k_get_t5 (hG : zGk G) (p1 : Int32) (h1 : zwi p1 0 18 = 1) (d : Nat) : zCr (d + 3) 58 [.ref 0, .int 5, .int p1] (zHx F G L) (.inr 1) (zHx F G L) := by
  refine zx_in rfl rfl ?_
  refine zx_go 19 rfl ?_
  refine zx_c rfl rfl rfl rfl (w_isVcpu (show zwi 5 0 7 = 1 by decide) _ _) ?_
  refine zx_go 19 rfl ?_
  refine zx_c rfl rfl rfl rfl (w_within' (lo := 0) (hi := 18) h1 _ _) ?_
  refine zx_go 19 rfl ?_
  refine zx_c rfl rfl rfl rfl (w_arg1 _ _) ?_
  refine zx_go 19 rfl ?_
  exact zx_x rfl rfl rfl rfl (w_vt5 hG _) rfl rfl
theorem k_get_t6 (hG : zGk G) (p1 : Int32) (h1 : zwi p1 0 18 = 1) (d : Nat) : zCr (d + 3) 58 [.ref 0, .int 6, .int p1] (zHx F G L) (.inr 1) (zHx F G L) := by
  refine zx_in rfl rfl ?_
  refine zx_go 19 rfl ?_
  refine zx_c rfl rfl rfl rfl (w_isVcpu (show zwi 6 0 7 = 1 by decide) _ _) ?_
  refine zx_go 19 rfl ?_
  refine zx_c rfl rfl rfl rfl (w_within' (lo := 0) (hi := 18) h1 _ _) ?_
  refine zx_go 19 rfl ?_
  refine zx_c rfl rfl rfl rfl (w_arg1 _ _) ?_
  refine zx_go 19 rfl ?_
  exact zx_x rfl rfl rfl rfl (w_vt6 hG _) rfl rfl
theorem k_get_t7 (hG : zGk G) (p1 : Int32) (h1 : zwi p1 0 18 = 1) (d : Nat) : zCr (d + 3) 58 [.ref 0, .int 7, .int p1] (zHx F G L) (.inr 1) (zHx F G L) := by
  refine zx_in rfl rfl ?_
  refine zx_go 19 rfl ?_
  refine zx_c rfl rfl rfl rfl (w_isVcpu (show zwi 7 0 7 = 1 by decide) _ _) ?_
  refine zx_go 19 rfl ?_
  refine zx_c rfl rfl rfl rfl (w_within' (lo := 0) (hi := 18) h1 _ _) ?_
  refine zx_go 19 rfl ?_
  refine zx_c rfl rfl rfl rfl (w_arg1 _ _) ?_
  refine zx_go 19 rfl ?_
  exact zx_x rfl rfl rfl rfl (w_vt7 hG _) rfl rfl
theorem k_access_0 (p0 p1 p2 p3 : Int32) (h0 : zwi p0 0 7 = 0) (h : zH) (d : Nat) : zCr (d + 3) 102 [.ref 0, .int p0, .int p1, .int p2, .int p3] h (.inr 0) h := by
  refine zx_in rfl rfl ?_
  refine zx_go 19 rfl ?_
  refine zx_c rfl rfl rfl rfl (w_isVcpu h0 _ _) ?_
  refine zx_go 19 rfl ?_
  exact zx_x rfl rfl rfl rfl (w_arg0 _ _) rfl rfl
theorem k_access_1 (p0 p1 p2 p3 : Int32) (h0 : zwi p0 0 7 = 1) (h1 : zwi p1 0 2 = 0) (h : zH) (d : Nat) : zCr (d + 3) 102 [.ref 0, .int p0, .int p1, .int p2, .int p3] h (.inr 0) h := by
  refine zx_in rfl rfl ?_
  refine zx_go 19 rfl ?_
  refine zx_c rfl rfl rfl rfl (w_isVcpu h0 _ _) ?_
  refine zx_go 19 rfl ?_
  refine zx_c rfl rfl rfl rfl (w_within' (lo := 0) (hi := 2) h1 _ _) ?_
  refine zx_go 19 rfl ?_
  exact zx_x rfl rfl rfl rfl (w_arg0 _ _) rfl rfl
theorem k_access_2 (p0 p1 p2 p3 : Int32) (h0 : zwi p0 0 7 = 1) (h1 : zwi p1 0 2 = 1) (h2 : zwi p2 0 4095 = 0) (h : zH) (d : Nat) : zCr (d + 3) 102 [.ref 0, .int p0, .int p1, .int p2, .int p3] h (.inr 0) h := by
  refine zx_in rfl rfl ?_
  refine zx_go 19 rfl ?_
  refine zx_c rfl rfl rfl rfl (w_isVcpu h0 _ _) ?_
  refine zx_go 19 rfl ?_
  refine zx_c rfl rfl rfl rfl (w_within' (lo := 0) (hi := 2) h1 _ _) ?_
  refine zx_go 19 rfl ?_
  refine zx_c rfl rfl rfl rfl (w_isAddress h2 _ _) ?_
  refine zx_go 19 rfl ?_
  exact zx_x rfl rfl rfl rfl (w_arg0 _ _) rfl rfl
theorem k_access_3 (p0 p1 p2 p3 : Int32) (h0 : zwi p0 0 7 = 1) (h1 : zwi p1 0 2 = 1) (h2 : zwi p2 0 4095 = 1) (h3 : zwi p3 0 65535 = 0) (h : zH) (d : Nat) : zCr (d + 3) 102 [.ref 0, .int p0, .int p1, .int p2, .int p3] h (.inr 0) h := by
  refine zx_in rfl rfl ?_
  refine zx_go 19 rfl ?_
  refine zx_c rfl rfl rfl rfl (w_isVcpu h0 _ _) ?_
  refine zx_go 19 rfl ?_
  refine zx_c rfl rfl rfl rfl (w_within' (lo := 0) (hi := 2) h1 _ _) ?_
  refine zx_go 19 rfl ?_
  refine zx_c rfl rfl rfl rfl (w_isAddress h2 _ _) ?_
  refine zx_go 19 rfl ?_
  refine zx_c rfl rfl rfl rfl (w_isWord h3 _ _) ?_
  refine zx_go 19 rfl ?_
  exact zx_x rfl rfl rfl rfl (w_arg0 _ _) rfl rfl
theorem k_access_t0 (hG : zGk G) (p1 p2 p3 : Int32) (h1 : zwi p1 0 2 = 1) (h2 : zwi p2 0 4095 = 1) (h3 : zwi p3 0 65535 = 1) (d : Nat) : zCr (d + 3) 102 [.ref 0, .int 0, .int p1, .int p2, .int p3] (zHx F G L) (.inr 1) (zHx F G L) := by
  refine zx_in rfl rfl ?_
  refine zx_go 19 rfl ?_
  refine zx_c rfl rfl rfl rfl (w_isVcpu (show zwi 0 0 7 = 1 by decide) _ _) ?_
  refine zx_go 19 rfl ?_
  refine zx_c rfl rfl rfl rfl (w_within' (lo := 0) (hi := 2) h1 _ _) ?_
  refine zx_go 19 rfl ?_
  refine zx_c rfl rfl rfl rfl (w_isAddress h2 _ _) ?_
  refine zx_go 19 rfl ?_
  refine zx_c rfl rfl rfl rfl (w_isWord h3 _ _) ?_
  refine zx_go 19 rfl ?_
  refine zx_c rfl rfl rfl rfl (w_arg1 _ _) ?_
  refine zx_go 19 rfl ?_
  exact zx_x rfl rfl rfl rfl (w_vt0 hG _) rfl rfl
theorem k_access_t1 (hG : zGk G) (p1 p2 p3 : Int32) (h1 : zwi p1 0 2 = 1) (h2 : zwi p2 0 4095 = 1) (h3 : zwi p3 0 65535 = 1) (d : Nat) : zCr (d + 3) 102 [.ref 0, .int 1, .int p1, .int p2, .int p3] (zHx F G L) (.inr 1) (zHx F G L) := by
  refine zx_in rfl rfl ?_
  refine zx_go 19 rfl ?_
  refine zx_c rfl rfl rfl rfl (w_isVcpu (show zwi 1 0 7 = 1 by decide) _ _) ?_
  refine zx_go 19 rfl ?_
  refine zx_c rfl rfl rfl rfl (w_within' (lo := 0) (hi := 2) h1 _ _) ?_
  refine zx_go 19 rfl ?_
  refine zx_c rfl rfl rfl rfl (w_isAddress h2 _ _) ?_
  refine zx_go 19 rfl ?_
  refine zx_c rfl rfl rfl rfl (w_isWord h3 _ _) ?_
  refine zx_go 19 rfl ?_
  refine zx_c rfl rfl rfl rfl (w_arg1 _ _) ?_
  refine zx_go 19 rfl ?_
  exact zx_x rfl rfl rfl rfl (w_vt1 hG _) rfl rfl
theorem k_access_t2 (hG : zGk G) (p1 p2 p3 : Int32) (h1 : zwi p1 0 2 = 1) (h2 : zwi p2 0 4095 = 1) (h3 : zwi p3 0 65535 = 1) (d : Nat) : zCr (d + 3) 102 [.ref 0, .int 2, .int p1, .int p2, .int p3] (zHx F G L) (.inr 1) (zHx F G L) := by
  refine zx_in rfl rfl ?_
  refine zx_go 19 rfl ?_
  refine zx_c rfl rfl rfl rfl (w_isVcpu (show zwi 2 0 7 = 1 by decide) _ _) ?_
  refine zx_go 19 rfl ?_
  refine zx_c rfl rfl rfl rfl (w_within' (lo := 0) (hi := 2) h1 _ _) ?_
  refine zx_go 19 rfl ?_
  refine zx_c rfl rfl rfl rfl (w_isAddress h2 _ _) ?_
  refine zx_go 19 rfl ?_
  refine zx_c rfl rfl rfl rfl (w_isWord h3 _ _) ?_
  refine zx_go 19 rfl ?_
  refine zx_c rfl rfl rfl rfl (w_arg1 _ _) ?_
  refine zx_go 19 rfl ?_
  exact zx_x rfl rfl rfl rfl (w_vt2 hG _) rfl rfl
theorem k_access_t3 (hG : zGk G) (p1 p2 p3 : Int32) (h1 : zwi p1 0 2 = 1) (h2 : zwi p2 0 4095 = 1) (h3 : zwi p3 0 65535 = 1) (d : Nat) : zCr (d + 3) 102 [.ref 0, .int 3, .int p1, .int p2, .int p3] (zHx F G L) (.inr 1) (zHx F G L) := by
  refine zx_in rfl rfl ?_
  refine zx_go 19 rfl ?_
  refine zx_c rfl rfl rfl rfl (w_isVcpu (show zwi 3 0 7 = 1 by decide) _ _) ?_
  refine zx_go 19 rfl ?_
  refine zx_c rfl rfl rfl rfl (w_within' (lo := 0) (hi := 2) h1 _ _) ?_
  refine zx_go 19 rfl ?_
  refine zx_c rfl rfl rfl rfl (w_isAddress h2 _ _) ?_
  refine zx_go 19 rfl ?_
  refine zx_c rfl rfl rfl rfl (w_isWord h3 _ _) ?_
  refine zx_go 19 rfl ?_
  refine zx_c rfl rfl rfl rfl (w_arg1 _ _) ?_
  refine zx_go 19 rfl ?_
  exact zx_x rfl rfl rfl rfl (w_vt3 hG _) rfl rfl
theorem k_access_t4 (hG : zGk G) (p1 p2 p3 : Int32) (h1 : zwi p1 0 2 = 1) (h2 : zwi p2 0 4095 = 1) (h3 : zwi p3 0 65535 = 1) (d : Nat) : zCr (d + 3) 102 [.ref 0, .int 4, .int p1, .int p2, .int p3] (zHx F G L) (.inr 1) (zHx F G L) := by
  refine zx_in rfl rfl ?_
  refine zx_go 19 rfl ?_
  refine zx_c rfl rfl rfl rfl (w_isVcpu (show zwi 4 0 7 = 1 by decide) _ _) ?_
  refine zx_go 19 rfl ?_
  refine zx_c rfl rfl rfl rfl (w_within' (lo := 0) (hi := 2) h1 _ _) ?_
  refine zx_go 19 rfl ?_
  refine zx_c rfl rfl rfl rfl (w_isAddress h2 _ _) ?_
  refine zx_go 19 rfl ?_
  refine zx_c rfl rfl rfl rfl (w_isWord h3 _ _) ?_
  refine zx_go 19 rfl ?_
  refine zx_c rfl rfl rfl rfl (w_arg1 _ _) ?_
  refine zx_go 19 rfl ?_
  exact zx_x rfl rfl rfl rfl (w_vt4 hG _) rfl rfl
theorem k_access_t5 (hG : zGk G) (p1 p2 p3 : Int32) (h1 : zwi p1 0 2 = 1) (h2 : zwi p2 0 4095 = 1) (h3 : zwi p3 0 65535 = 1) (d : Nat) : zCr (d + 3) 102 [.ref 0, .int 5, .int p1, .int p2, .int p3] (zHx F G L) (.inr 1) (zHx F G L) := by
  refine zx_in rfl rfl ?_
  refine zx_go 19 rfl ?_
  refine zx_c rfl rfl rfl rfl (w_isVcpu (show zwi 5 0 7 = 1 by decide) _ _) ?_
  refine zx_go 19 rfl ?_
  refine zx_c rfl rfl rfl rfl (w_within' (lo := 0) (hi := 2) h1 _ _) ?_
  refine zx_go 19 rfl ?_
  refine zx_c rfl rfl rfl rfl (w_isAddress h2 _ _) ?_
  refine zx_go 19 rfl ?_
  refine zx_c rfl rfl rfl rfl (w_isWord h3 _ _) ?_
  refine zx_go 19 rfl ?_
  refine zx_c rfl rfl rfl rfl (w_arg1 _ _) ?_
  refine zx_go 19 rfl ?_
  exact zx_x rfl rfl rfl rfl (w_vt5 hG _) rfl rfl
theorem k_access_t6 (hG : zGk G) (p1 p2 p3 : Int32) (h1 : zwi p1 0 2 = 1) (h2 : zwi p2 0 4095 = 1) (h3 : zwi p3 0 65535 = 1) (d : Nat) : zCr (d + 3) 102 [.ref 0, .int 6, .int p1, .int p2, .int p3] (zHx F G L) (.inr 1) (zHx F G L) := by
  refine zx_in rfl rfl ?_
  refine zx_go 19 rfl ?_
  refine zx_c rfl rfl rfl rfl (w_isVcpu (show zwi 6 0 7 = 1 by decide) _ _) ?_
  refine zx_go 19 rfl ?_
  refine zx_c rfl rfl rfl rfl (w_within' (lo := 0) (hi := 2) h1 _ _) ?_
  refine zx_go 19 rfl ?_
  refine zx_c rfl rfl rfl rfl (w_isAddress h2 _ _) ?_
  refine zx_go 19 rfl ?_
  refine zx_c rfl rfl rfl rfl (w_isWord h3 _ _) ?_
  refine zx_go 19 rfl ?_
  refine zx_c rfl rfl rfl rfl (w_arg1 _ _) ?_
  refine zx_go 19 rfl ?_
  exact zx_x rfl rfl rfl rfl (w_vt6 hG _) rfl rfl
theorem k_access_t7 (hG : zGk G) (p1 p2 p3 : Int32) (h1 : zwi p1 0 2 = 1) (h2 : zwi p2 0 4095 = 1) (h3 : zwi p3 0 65535 = 1) (d : Nat) : zCr (d + 3) 102 [.ref 0, .int 7, .int p1, .int p2, .int p3] (zHx F G L) (.inr 1) (zHx F G L) := by
  refine zx_in rfl rfl ?_
  refine zx_go 19 rfl ?_
  refine zx_c rfl rfl rfl rfl (w_isVcpu (show zwi 7 0 7 = 1 by decide) _ _) ?_
  refine zx_go 19 rfl ?_
  refine zx_c rfl rfl rfl rfl (w_within' (lo := 0) (hi := 2) h1 _ _) ?_
  refine zx_go 19 rfl ?_
  refine zx_c rfl rfl rfl rfl (w_isAddress h2 _ _) ?_
  refine zx_go 19 rfl ?_
  refine zx_c rfl rfl rfl rfl (w_isWord h3 _ _) ?_
  refine zx_go 19 rfl ?_
  refine zx_c rfl rfl rfl rfl (w_arg1 _ _) ?_
  refine zx_go 19 rfl ?_
  exact zx_x rfl rfl rfl rfl (w_vt7 hG _) rfl rfl
theorem k_run_0 (p0 p1 : Int32) (h0 : zwi p0 0 7 = 0) (h : zH) (d : Nat) : zCr (d + 3) 146 [.ref 0, .int p0, .int p1] h (.inr 0) h := by
  refine zx_in rfl rfl ?_
  refine zx_go 19 rfl ?_
  refine zx_c rfl rfl rfl rfl (w_isVcpu h0 _ _) ?_
  refine zx_go 19 rfl ?_
  exact zx_x rfl rfl rfl rfl (w_arg0 _ _) rfl rfl
theorem k_run_1 (p0 p1 : Int32) (h0 : zwi p0 0 7 = 1) (h1 : zwi p1 1 1000 = 0) (h : zH) (d : Nat) : zCr (d + 3) 146 [.ref 0, .int p0, .int p1] h (.inr 0) h := by
  refine zx_in rfl rfl ?_
  refine zx_go 19 rfl ?_
  refine zx_c rfl rfl rfl rfl (w_isVcpu h0 _ _) ?_
  refine zx_go 19 rfl ?_
  refine zx_c rfl rfl rfl rfl (w_within' (lo := 1) (hi := 1000) h1 _ _) ?_
  refine zx_go 19 rfl ?_
  exact zx_x rfl rfl rfl rfl (w_arg0 _ _) rfl rfl
theorem k_run_t0 (hG : zGk G) (p1 : Int32) (h1 : zwi p1 1 1000 = 1) (d : Nat) : zCr (d + 3) 146 [.ref 0, .int 0, .int p1] (zHx F G L) (.inr 1) (zHx F G L) := by
  refine zx_in rfl rfl ?_
  refine zx_go 19 rfl ?_
  refine zx_c rfl rfl rfl rfl (w_isVcpu (show zwi 0 0 7 = 1 by decide) _ _) ?_
  refine zx_go 19 rfl ?_
  refine zx_c rfl rfl rfl rfl (w_within' (lo := 1) (hi := 1000) h1 _ _) ?_
  refine zx_go 19 rfl ?_
  refine zx_c rfl rfl rfl rfl (w_arg1 _ _) ?_
  refine zx_go 19 rfl ?_
  exact zx_x rfl rfl rfl rfl (w_vt0 hG _) rfl rfl
theorem k_run_t1 (hG : zGk G) (p1 : Int32) (h1 : zwi p1 1 1000 = 1) (d : Nat) : zCr (d + 3) 146 [.ref 0, .int 1, .int p1] (zHx F G L) (.inr 1) (zHx F G L) := by
  refine zx_in rfl rfl ?_
  refine zx_go 19 rfl ?_
  refine zx_c rfl rfl rfl rfl (w_isVcpu (show zwi 1 0 7 = 1 by decide) _ _) ?_
  refine zx_go 19 rfl ?_
  refine zx_c rfl rfl rfl rfl (w_within' (lo := 1) (hi := 1000) h1 _ _) ?_
  refine zx_go 19 rfl ?_
  refine zx_c rfl rfl rfl rfl (w_arg1 _ _) ?_
  refine zx_go 19 rfl ?_
  exact zx_x rfl rfl rfl rfl (w_vt1 hG _) rfl rfl
theorem k_run_t2 (hG : zGk G) (p1 : Int32) (h1 : zwi p1 1 1000 = 1) (d : Nat) : zCr (d + 3) 146 [.ref 0, .int 2, .int p1] (zHx F G L) (.inr 1) (zHx F G L) := by
  refine zx_in rfl rfl ?_
  refine zx_go 19 rfl ?_
  refine zx_c rfl rfl rfl rfl (w_isVcpu (show zwi 2 0 7 = 1 by decide) _ _) ?_
  refine zx_go 19 rfl ?_
  refine zx_c rfl rfl rfl rfl (w_within' (lo := 1) (hi := 1000) h1 _ _) ?_
  refine zx_go 19 rfl ?_
  refine zx_c rfl rfl rfl rfl (w_arg1 _ _) ?_
  refine zx_go 19 rfl ?_
  exact zx_x rfl rfl rfl rfl (w_vt2 hG _) rfl rfl
theorem k_run_t3 (hG : zGk G) (p1 : Int32) (h1 : zwi p1 1 1000 = 1) (d : Nat) : zCr (d + 3) 146 [.ref 0, .int 3, .int p1] (zHx F G L) (.inr 1) (zHx F G L) := by
  refine zx_in rfl rfl ?_
  refine zx_go 19 rfl ?_
  refine zx_c rfl rfl rfl rfl (w_isVcpu (show zwi 3 0 7 = 1 by decide) _ _) ?_
  refine zx_go 19 rfl ?_
  refine zx_c rfl rfl rfl rfl (w_within' (lo := 1) (hi := 1000) h1 _ _) ?_
  refine zx_go 19 rfl ?_
  refine zx_c rfl rfl rfl rfl (w_arg1 _ _) ?_
  refine zx_go 19 rfl ?_
  exact zx_x rfl rfl rfl rfl (w_vt3 hG _) rfl rfl
theorem k_run_t4 (hG : zGk G) (p1 : Int32) (h1 : zwi p1 1 1000 = 1) (d : Nat) : zCr (d + 3) 146 [.ref 0, .int 4, .int p1] (zHx F G L) (.inr 1) (zHx F G L) := by
  refine zx_in rfl rfl ?_
  refine zx_go 19 rfl ?_
  refine zx_c rfl rfl rfl rfl (w_isVcpu (show zwi 4 0 7 = 1 by decide) _ _) ?_
  refine zx_go 19 rfl ?_
  refine zx_c rfl rfl rfl rfl (w_within' (lo := 1) (hi := 1000) h1 _ _) ?_
  refine zx_go 19 rfl ?_
  refine zx_c rfl rfl rfl rfl (w_arg1 _ _) ?_
  refine zx_go 19 rfl ?_
  exact zx_x rfl rfl rfl rfl (w_vt4 hG _) rfl rfl
theorem k_run_t5 (hG : zGk G) (p1 : Int32) (h1 : zwi p1 1 1000 = 1) (d : Nat) : zCr (d + 3) 146 [.ref 0, .int 5, .int p1] (zHx F G L) (.inr 1) (zHx F G L) := by
  refine zx_in rfl rfl ?_
  refine zx_go 19 rfl ?_
  refine zx_c rfl rfl rfl rfl (w_isVcpu (show zwi 5 0 7 = 1 by decide) _ _) ?_
  refine zx_go 19 rfl ?_
  refine zx_c rfl rfl rfl rfl (w_within' (lo := 1) (hi := 1000) h1 _ _) ?_
  refine zx_go 19 rfl ?_
  refine zx_c rfl rfl rfl rfl (w_arg1 _ _) ?_
  refine zx_go 19 rfl ?_
  exact zx_x rfl rfl rfl rfl (w_vt5 hG _) rfl rfl
theorem k_run_t6 (hG : zGk G) (p1 : Int32) (h1 : zwi p1 1 1000 = 1) (d : Nat) : zCr (d + 3) 146 [.ref 0, .int 6, .int p1] (zHx F G L) (.inr 1) (zHx F G L) := by
  refine zx_in rfl rfl ?_
  refine zx_go 19 rfl ?_
  refine zx_c rfl rfl rfl rfl (w_isVcpu (show zwi 6 0 7 = 1 by decide) _ _) ?_
  refine zx_go 19 rfl ?_
  refine zx_c rfl rfl rfl rfl (w_within' (lo := 1) (hi := 1000) h1 _ _) ?_
  refine zx_go 19 rfl ?_
  refine zx_c rfl rfl rfl rfl (w_arg1 _ _) ?_
  refine zx_go 19 rfl ?_
  exact zx_x rfl rfl rfl rfl (w_vt6 hG _) rfl rfl
theorem k_run_t7 (hG : zGk G) (p1 : Int32) (h1 : zwi p1 1 1000 = 1) (d : Nat) : zCr (d + 3) 146 [.ref 0, .int 7, .int p1] (zHx F G L) (.inr 1) (zHx F G L) := by
  refine zx_in rfl rfl ?_
  refine zx_go 19 rfl ?_
  refine zx_c rfl rfl rfl rfl (w_isVcpu (show zwi 7 0 7 = 1 by decide) _ _) ?_
  refine zx_go 19 rfl ?_
  refine zx_c rfl rfl rfl rfl (w_within' (lo := 1) (hi := 1000) h1 _ _) ?_
  refine zx_go 19 rfl ?_
  refine zx_c rfl rfl rfl rfl (w_arg1 _ _) ?_
  refine zx_go 19 rfl ?_
  exact zx_x rfl rfl rfl rfl (w_vt7 hG _) rfl rfl
theorem k_exit_0 (p0 p1 : Int32) (h0 : zwi p0 0 7 = 0) (h : zH) (d : Nat) : zCr (d + 3) 155 [.ref 0, .int p0, .int p1] h (.inr 0) h := by
  refine zx_in rfl rfl ?_
  refine zx_go 19 rfl ?_
  refine zx_c rfl rfl rfl rfl (w_isVcpu h0 _ _) ?_
  refine zx_go 19 rfl ?_
  exact zx_x rfl rfl rfl rfl (w_arg0 _ _) rfl rfl
theorem k_exit_1 (p0 p1 : Int32) (h0 : zwi p0 0 7 = 1) (h1 : zwi p1 0 4 = 0) (h : zH) (d : Nat) : zCr (d + 3) 155 [.ref 0, .int p0, .int p1] h (.inr 0) h := by
  refine zx_in rfl rfl ?_
  refine zx_go 19 rfl ?_
  refine zx_c rfl rfl rfl rfl (w_isVcpu h0 _ _) ?_
  refine zx_go 19 rfl ?_
  refine zx_c rfl rfl rfl rfl (w_within' (lo := 0) (hi := 4) h1 _ _) ?_
  refine zx_go 19 rfl ?_
  exact zx_x rfl rfl rfl rfl (w_arg0 _ _) rfl rfl
theorem k_exit_t0 (hG : zGk G) (p1 : Int32) (h1 : zwi p1 0 4 = 1) (d : Nat) : zCr (d + 3) 155 [.ref 0, .int 0, .int p1] (zHx F G L) (.inr 1) (zHx F G L) := by
  refine zx_in rfl rfl ?_
  refine zx_go 19 rfl ?_
  refine zx_c rfl rfl rfl rfl (w_isVcpu (show zwi 0 0 7 = 1 by decide) _ _) ?_
  refine zx_go 19 rfl ?_
  refine zx_c rfl rfl rfl rfl (w_within' (lo := 0) (hi := 4) h1 _ _) ?_
  refine zx_go 19 rfl ?_
  refine zx_c rfl rfl rfl rfl (w_arg1 _ _) ?_
  refine zx_go 19 rfl ?_
  exact zx_x rfl rfl rfl rfl (w_vt0 hG _) rfl rfl
theorem k_exit_t1 (hG : zGk G) (p1 : Int32) (h1 : zwi p1 0 4 = 1) (d : Nat) : zCr (d + 3) 155 [.ref 0, .int 1, .int p1] (zHx F G L) (.inr 1) (zHx F G L) := by
  refine zx_in rfl rfl ?_
  refine zx_go 19 rfl ?_
  refine zx_c rfl rfl rfl rfl (w_isVcpu (show zwi 1 0 7 = 1 by decide) _ _) ?_
  refine zx_go 19 rfl ?_
  refine zx_c rfl rfl rfl rfl (w_within' (lo := 0) (hi := 4) h1 _ _) ?_
  refine zx_go 19 rfl ?_
  refine zx_c rfl rfl rfl rfl (w_arg1 _ _) ?_
  refine zx_go 19 rfl ?_
  exact zx_x rfl rfl rfl rfl (w_vt1 hG _) rfl rfl
theorem k_exit_t2 (hG : zGk G) (p1 : Int32) (h1 : zwi p1 0 4 = 1) (d : Nat) : zCr (d + 3) 155 [.ref 0, .int 2, .int p1] (zHx F G L) (.inr 1) (zHx F G L) := by
  refine zx_in rfl rfl ?_
  refine zx_go 19 rfl ?_
  refine zx_c rfl rfl rfl rfl (w_isVcpu (show zwi 2 0 7 = 1 by decide) _ _) ?_
  refine zx_go 19 rfl ?_
  refine zx_c rfl rfl rfl rfl (w_within' (lo := 0) (hi := 4) h1 _ _) ?_
  refine zx_go 19 rfl ?_
  refine zx_c rfl rfl rfl rfl (w_arg1 _ _) ?_
  refine zx_go 19 rfl ?_
  exact zx_x rfl rfl rfl rfl (w_vt2 hG _) rfl rfl
theorem k_exit_t3 (hG : zGk G) (p1 : Int32) (h1 : zwi p1 0 4 = 1) (d : Nat) : zCr (d + 3) 155 [.ref 0, .int 3, .int p1] (zHx F G L) (.inr 1) (zHx F G L) := by
  refine zx_in rfl rfl ?_
  refine zx_go 19 rfl ?_
  refine zx_c rfl rfl rfl rfl (w_isVcpu (show zwi 3 0 7 = 1 by decide) _ _) ?_
  refine zx_go 19 rfl ?_
  refine zx_c rfl rfl rfl rfl (w_within' (lo := 0) (hi := 4) h1 _ _) ?_
  refine zx_go 19 rfl ?_
  refine zx_c rfl rfl rfl rfl (w_arg1 _ _) ?_
  refine zx_go 19 rfl ?_
  exact zx_x rfl rfl rfl rfl (w_vt3 hG _) rfl rfl
theorem k_exit_t4 (hG : zGk G) (p1 : Int32) (h1 : zwi p1 0 4 = 1) (d : Nat) : zCr (d + 3) 155 [.ref 0, .int 4, .int p1] (zHx F G L) (.inr 1) (zHx F G L) := by
  refine zx_in rfl rfl ?_
  refine zx_go 19 rfl ?_
  refine zx_c rfl rfl rfl rfl (w_isVcpu (show zwi 4 0 7 = 1 by decide) _ _) ?_
  refine zx_go 19 rfl ?_
  refine zx_c rfl rfl rfl rfl (w_within' (lo := 0) (hi := 4) h1 _ _) ?_
  refine zx_go 19 rfl ?_
  refine zx_c rfl rfl rfl rfl (w_arg1 _ _) ?_
  refine zx_go 19 rfl ?_
  exact zx_x rfl rfl rfl rfl (w_vt4 hG _) rfl rfl
theorem k_exit_t5 (hG : zGk G) (p1 : Int32) (h1 : zwi p1 0 4 = 1) (d : Nat) : zCr (d + 3) 155 [.ref 0, .int 5, .int p1] (zHx F G L) (.inr 1) (zHx F G L) := by
  refine zx_in rfl rfl ?_
  refine zx_go 19 rfl ?_
  refine zx_c rfl rfl rfl rfl (w_isVcpu (show zwi 5 0 7 = 1 by decide) _ _) ?_
  refine zx_go 19 rfl ?_
  refine zx_c rfl rfl rfl rfl (w_within' (lo := 0) (hi := 4) h1 _ _) ?_
  refine zx_go 19 rfl ?_
  refine zx_c rfl rfl rfl rfl (w_arg1 _ _) ?_
  refine zx_go 19 rfl ?_
  exact zx_x rfl rfl rfl rfl (w_vt5 hG _) rfl rfl
theorem k_exit_t6 (hG : zGk G) (p1 : Int32) (h1 : zwi p1 0 4 = 1) (d : Nat) : zCr (d + 3) 155 [.ref 0, .int 6, .int p1] (zHx F G L) (.inr 1) (zHx F G L) := by
  refine zx_in rfl rfl ?_
  refine zx_go 19 rfl ?_
  refine zx_c rfl rfl rfl rfl (w_isVcpu (show zwi 6 0 7 = 1 by decide) _ _) ?_
  refine zx_go 19 rfl ?_
  refine zx_c rfl rfl rfl rfl (w_within' (lo := 0) (hi := 4) h1 _ _) ?_
  refine zx_go 19 rfl ?_
  refine zx_c rfl rfl rfl rfl (w_arg1 _ _) ?_
  refine zx_go 19 rfl ?_
  exact zx_x rfl rfl rfl rfl (w_vt6 hG _) rfl rfl
theorem k_exit_t7 (hG : zGk G) (p1 : Int32) (h1 : zwi p1 0 4 = 1) (d : Nat) : zCr (d + 3) 155 [.ref 0, .int 7, .int p1] (zHx F G L) (.inr 1) (zHx F G L) := by
  refine zx_in rfl rfl ?_
  refine zx_go 19 rfl ?_
  refine zx_c rfl rfl rfl rfl (w_isVcpu (show zwi 7 0 7 = 1 by decide) _ _) ?_
  refine zx_go 19 rfl ?_
  refine zx_c rfl rfl rfl rfl (w_within' (lo := 0) (hi := 4) h1 _ _) ?_
  refine zx_go 19 rfl ?_
  refine zx_c rfl rfl rfl rfl (w_arg1 _ _) ?_
  refine zx_go 19 rfl ?_
  exact zx_x rfl rfl rfl rfl (w_vt7 hG _) rfl rfl
theorem k_flush_0 (p0 p1 p2 : Int32) (h0 : zwi p0 0 7 = 0) (h : zH) (d : Nat) : zCr (d + 3) 158 [.ref 0, .int p0, .int p1, .int p2] h (.inr 0) h := by
  refine zx_in rfl rfl ?_
  refine zx_go 19 rfl ?_
  refine zx_c rfl rfl rfl rfl (w_isVcpu h0 _ _) ?_
  refine zx_go 19 rfl ?_
  exact zx_x rfl rfl rfl rfl (w_arg0 _ _) rfl rfl
theorem k_flush_1 (p0 p1 p2 : Int32) (h0 : zwi p0 0 7 = 1) (h1 : zwi p1 0 2 = 0) (h : zH) (d : Nat) : zCr (d + 3) 158 [.ref 0, .int p0, .int p1, .int p2] h (.inr 0) h := by
  refine zx_in rfl rfl ?_
  refine zx_go 19 rfl ?_
  refine zx_c rfl rfl rfl rfl (w_isVcpu h0 _ _) ?_
  refine zx_go 19 rfl ?_
  refine zx_c rfl rfl rfl rfl (w_within' (lo := 0) (hi := 2) h1 _ _) ?_
  refine zx_go 19 rfl ?_
  exact zx_x rfl rfl rfl rfl (w_arg0 _ _) rfl rfl
theorem k_flush_2 (p0 p1 p2 : Int32) (h0 : zwi p0 0 7 = 1) (h1 : zwi p1 0 2 = 1) (h2 : zwi p2 0 4095 = 0) (h : zH) (d : Nat) : zCr (d + 3) 158 [.ref 0, .int p0, .int p1, .int p2] h (.inr 0) h := by
  refine zx_in rfl rfl ?_
  refine zx_go 19 rfl ?_
  refine zx_c rfl rfl rfl rfl (w_isVcpu h0 _ _) ?_
  refine zx_go 19 rfl ?_
  refine zx_c rfl rfl rfl rfl (w_within' (lo := 0) (hi := 2) h1 _ _) ?_
  refine zx_go 19 rfl ?_
  refine zx_c rfl rfl rfl rfl (w_isAddress h2 _ _) ?_
  refine zx_go 19 rfl ?_
  exact zx_x rfl rfl rfl rfl (w_arg0 _ _) rfl rfl
theorem k_flush_t0 (hG : zGk G) (p1 p2 : Int32) (h1 : zwi p1 0 2 = 1) (h2 : zwi p2 0 4095 = 1) (d : Nat) : zCr (d + 3) 158 [.ref 0, .int 0, .int p1, .int p2] (zHx F G L) (.inr 1) (zHx F G L) := by
  refine zx_in rfl rfl ?_
  refine zx_go 19 rfl ?_
  refine zx_c rfl rfl rfl rfl (w_isVcpu (show zwi 0 0 7 = 1 by decide) _ _) ?_
  refine zx_go 19 rfl ?_
  refine zx_c rfl rfl rfl rfl (w_within' (lo := 0) (hi := 2) h1 _ _) ?_
  refine zx_go 19 rfl ?_
  refine zx_c rfl rfl rfl rfl (w_isAddress h2 _ _) ?_
  refine zx_go 19 rfl ?_
  refine zx_c rfl rfl rfl rfl (w_arg1 _ _) ?_
  refine zx_go 19 rfl ?_
  exact zx_x rfl rfl rfl rfl (w_vt0 hG _) rfl rfl
theorem k_flush_t1 (hG : zGk G) (p1 p2 : Int32) (h1 : zwi p1 0 2 = 1) (h2 : zwi p2 0 4095 = 1) (d : Nat) : zCr (d + 3) 158 [.ref 0, .int 1, .int p1, .int p2] (zHx F G L) (.inr 1) (zHx F G L) := by
  refine zx_in rfl rfl ?_
  refine zx_go 19 rfl ?_
  refine zx_c rfl rfl rfl rfl (w_isVcpu (show zwi 1 0 7 = 1 by decide) _ _) ?_
  refine zx_go 19 rfl ?_
  refine zx_c rfl rfl rfl rfl (w_within' (lo := 0) (hi := 2) h1 _ _) ?_
  refine zx_go 19 rfl ?_
  refine zx_c rfl rfl rfl rfl (w_isAddress h2 _ _) ?_
  refine zx_go 19 rfl ?_
  refine zx_c rfl rfl rfl rfl (w_arg1 _ _) ?_
  refine zx_go 19 rfl ?_
  exact zx_x rfl rfl rfl rfl (w_vt1 hG _) rfl rfl
theorem k_flush_t2 (hG : zGk G) (p1 p2 : Int32) (h1 : zwi p1 0 2 = 1) (h2 : zwi p2 0 4095 = 1) (d : Nat) : zCr (d + 3) 158 [.ref 0, .int 2, .int p1, .int p2] (zHx F G L) (.inr 1) (zHx F G L) := by
  refine zx_in rfl rfl ?_
  refine zx_go 19 rfl ?_
  refine zx_c rfl rfl rfl rfl (w_isVcpu (show zwi 2 0 7 = 1 by decide) _ _) ?_
  refine zx_go 19 rfl ?_
  refine zx_c rfl rfl rfl rfl (w_within' (lo := 0) (hi := 2) h1 _ _) ?_
  refine zx_go 19 rfl ?_
  refine zx_c rfl rfl rfl rfl (w_isAddress h2 _ _) ?_
  refine zx_go 19 rfl ?_
  refine zx_c rfl rfl rfl rfl (w_arg1 _ _) ?_
  refine zx_go 19 rfl ?_
  exact zx_x rfl rfl rfl rfl (w_vt2 hG _) rfl rfl
theorem k_flush_t3 (hG : zGk G) (p1 p2 : Int32) (h1 : zwi p1 0 2 = 1) (h2 : zwi p2 0 4095 = 1) (d : Nat) : zCr (d + 3) 158 [.ref 0, .int 3, .int p1, .int p2] (zHx F G L) (.inr 1) (zHx F G L) := by
  refine zx_in rfl rfl ?_
  refine zx_go 19 rfl ?_
  refine zx_c rfl rfl rfl rfl (w_isVcpu (show zwi 3 0 7 = 1 by decide) _ _) ?_
  refine zx_go 19 rfl ?_
  refine zx_c rfl rfl rfl rfl (w_within' (lo := 0) (hi := 2) h1 _ _) ?_
  refine zx_go 19 rfl ?_
  refine zx_c rfl rfl rfl rfl (w_isAddress h2 _ _) ?_
  refine zx_go 19 rfl ?_
  refine zx_c rfl rfl rfl rfl (w_arg1 _ _) ?_
  refine zx_go 19 rfl ?_
  exact zx_x rfl rfl rfl rfl (w_vt3 hG _) rfl rfl
theorem k_flush_t4 (hG : zGk G) (p1 p2 : Int32) (h1 : zwi p1 0 2 = 1) (h2 : zwi p2 0 4095 = 1) (d : Nat) : zCr (d + 3) 158 [.ref 0, .int 4, .int p1, .int p2] (zHx F G L) (.inr 1) (zHx F G L) := by
  refine zx_in rfl rfl ?_
  refine zx_go 19 rfl ?_
  refine zx_c rfl rfl rfl rfl (w_isVcpu (show zwi 4 0 7 = 1 by decide) _ _) ?_
  refine zx_go 19 rfl ?_
  refine zx_c rfl rfl rfl rfl (w_within' (lo := 0) (hi := 2) h1 _ _) ?_
  refine zx_go 19 rfl ?_
  refine zx_c rfl rfl rfl rfl (w_isAddress h2 _ _) ?_
  refine zx_go 19 rfl ?_
  refine zx_c rfl rfl rfl rfl (w_arg1 _ _) ?_
  refine zx_go 19 rfl ?_
  exact zx_x rfl rfl rfl rfl (w_vt4 hG _) rfl rfl
theorem k_flush_t5 (hG : zGk G) (p1 p2 : Int32) (h1 : zwi p1 0 2 = 1) (h2 : zwi p2 0 4095 = 1) (d : Nat) : zCr (d + 3) 158 [.ref 0, .int 5, .int p1, .int p2] (zHx F G L) (.inr 1) (zHx F G L) := by
  refine zx_in rfl rfl ?_
  refine zx_go 19 rfl ?_
  refine zx_c rfl rfl rfl rfl (w_isVcpu (show zwi 5 0 7 = 1 by decide) _ _) ?_
  refine zx_go 19 rfl ?_
  refine zx_c rfl rfl rfl rfl (w_within' (lo := 0) (hi := 2) h1 _ _) ?_
  refine zx_go 19 rfl ?_
  refine zx_c rfl rfl rfl rfl (w_isAddress h2 _ _) ?_
  refine zx_go 19 rfl ?_
  refine zx_c rfl rfl rfl rfl (w_arg1 _ _) ?_
  refine zx_go 19 rfl ?_
  exact zx_x rfl rfl rfl rfl (w_vt5 hG _) rfl rfl
theorem k_flush_t6 (hG : zGk G) (p1 p2 : Int32) (h1 : zwi p1 0 2 = 1) (h2 : zwi p2 0 4095 = 1) (d : Nat) : zCr (d + 3) 158 [.ref 0, .int 6, .int p1, .int p2] (zHx F G L) (.inr 1) (zHx F G L) := by
  refine zx_in rfl rfl ?_
  refine zx_go 19 rfl ?_
  refine zx_c rfl rfl rfl rfl (w_isVcpu (show zwi 6 0 7 = 1 by decide) _ _) ?_
  refine zx_go 19 rfl ?_
  refine zx_c rfl rfl rfl rfl (w_within' (lo := 0) (hi := 2) h1 _ _) ?_
  refine zx_go 19 rfl ?_
  refine zx_c rfl rfl rfl rfl (w_isAddress h2 _ _) ?_
  refine zx_go 19 rfl ?_
  refine zx_c rfl rfl rfl rfl (w_arg1 _ _) ?_
  refine zx_go 19 rfl ?_
  exact zx_x rfl rfl rfl rfl (w_vt6 hG _) rfl rfl
theorem k_flush_t7 (hG : zGk G) (p1 p2 : Int32) (h1 : zwi p1 0 2 = 1) (h2 : zwi p2 0 4095 = 1) (d : Nat) : zCr (d + 3) 158 [.ref 0, .int 7, .int p1, .int p2] (zHx F G L) (.inr 1) (zHx F G L) := by
  refine zx_in rfl rfl ?_
  refine zx_go 19 rfl ?_
  refine zx_c rfl rfl rfl rfl (w_isVcpu (show zwi 7 0 7 = 1 by decide) _ _) ?_
  refine zx_go 19 rfl ?_
  refine zx_c rfl rfl rfl rfl (w_within' (lo := 0) (hi := 2) h1 _ _) ?_
  refine zx_go 19 rfl ?_
  refine zx_c rfl rfl rfl rfl (w_isAddress h2 _ _) ?_
  refine zx_go 19 rfl ?_
  refine zx_c rfl rfl rfl rfl (w_arg1 _ _) ?_
  refine zx_go 19 rfl ?_
  exact zx_x rfl rfl rfl rfl (w_vt7 hG _) rfl rfl
theorem k_aside_0 (p0 p1 p2 : Int32) (h0 : zwi p0 0 7 = 0) (h : zH) (d : Nat) : zCr (d + 3) 162 [.ref 0, .int p0, .int p1, .int p2] h (.inr 0) h := by
  refine zx_in rfl rfl ?_
  refine zx_go 19 rfl ?_
  refine zx_c rfl rfl rfl rfl (w_isVcpu h0 _ _) ?_
  refine zx_go 19 rfl ?_
  exact zx_x rfl rfl rfl rfl (w_arg0 _ _) rfl rfl
theorem k_aside_1 (p0 p1 p2 : Int32) (h0 : zwi p0 0 7 = 1) (h1 : zwi p1 0 7 = 0) (h : zH) (d : Nat) : zCr (d + 3) 162 [.ref 0, .int p0, .int p1, .int p2] h (.inr 0) h := by
  refine zx_in rfl rfl ?_
  refine zx_go 19 rfl ?_
  refine zx_c rfl rfl rfl rfl (w_isVcpu h0 _ _) ?_
  refine zx_go 19 rfl ?_
  refine zx_c rfl rfl rfl rfl (w_within' (lo := 0) (hi := 7) h1 _ _) ?_
  refine zx_go 19 rfl ?_
  exact zx_x rfl rfl rfl rfl (w_arg0 _ _) rfl rfl
theorem k_aside_2 (p0 p1 p2 : Int32) (h0 : zwi p0 0 7 = 1) (h1 : zwi p1 0 7 = 1) (h2 : zwi p2 0 3 = 0) (h : zH) (d : Nat) : zCr (d + 3) 162 [.ref 0, .int p0, .int p1, .int p2] h (.inr 0) h := by
  refine zx_in rfl rfl ?_
  refine zx_go 19 rfl ?_
  refine zx_c rfl rfl rfl rfl (w_isVcpu h0 _ _) ?_
  refine zx_go 19 rfl ?_
  refine zx_c rfl rfl rfl rfl (w_within' (lo := 0) (hi := 7) h1 _ _) ?_
  refine zx_go 19 rfl ?_
  refine zx_c rfl rfl rfl rfl (w_within' (lo := 0) (hi := 3) h2 _ _) ?_
  refine zx_go 19 rfl ?_
  exact zx_x rfl rfl rfl rfl (w_arg0 _ _) rfl rfl
theorem k_aside_t0 (hG : zGk G) (p1 p2 : Int32) (h1 : zwi p1 0 7 = 1) (h2 : zwi p2 0 3 = 1) (d : Nat) : zCr (d + 3) 162 [.ref 0, .int 0, .int p1, .int p2] (zHx F G L) (.inr 1) (zHx F G L) := by
  refine zx_in rfl rfl ?_
  refine zx_go 19 rfl ?_
  refine zx_c rfl rfl rfl rfl (w_isVcpu (show zwi 0 0 7 = 1 by decide) _ _) ?_
  refine zx_go 19 rfl ?_
  refine zx_c rfl rfl rfl rfl (w_within' (lo := 0) (hi := 7) h1 _ _) ?_
  refine zx_go 19 rfl ?_
  refine zx_c rfl rfl rfl rfl (w_within' (lo := 0) (hi := 3) h2 _ _) ?_
  refine zx_go 19 rfl ?_
  refine zx_c rfl rfl rfl rfl (w_arg1 _ _) ?_
  refine zx_go 19 rfl ?_
  exact zx_x rfl rfl rfl rfl (w_vt0 hG _) rfl rfl
theorem k_aside_t1 (hG : zGk G) (p1 p2 : Int32) (h1 : zwi p1 0 7 = 1) (h2 : zwi p2 0 3 = 1) (d : Nat) : zCr (d + 3) 162 [.ref 0, .int 1, .int p1, .int p2] (zHx F G L) (.inr 1) (zHx F G L) := by
  refine zx_in rfl rfl ?_
  refine zx_go 19 rfl ?_
  refine zx_c rfl rfl rfl rfl (w_isVcpu (show zwi 1 0 7 = 1 by decide) _ _) ?_
  refine zx_go 19 rfl ?_
  refine zx_c rfl rfl rfl rfl (w_within' (lo := 0) (hi := 7) h1 _ _) ?_
  refine zx_go 19 rfl ?_
  refine zx_c rfl rfl rfl rfl (w_within' (lo := 0) (hi := 3) h2 _ _) ?_
  refine zx_go 19 rfl ?_
  refine zx_c rfl rfl rfl rfl (w_arg1 _ _) ?_
  refine zx_go 19 rfl ?_
  exact zx_x rfl rfl rfl rfl (w_vt1 hG _) rfl rfl
theorem k_aside_t2 (hG : zGk G) (p1 p2 : Int32) (h1 : zwi p1 0 7 = 1) (h2 : zwi p2 0 3 = 1) (d : Nat) : zCr (d + 3) 162 [.ref 0, .int 2, .int p1, .int p2] (zHx F G L) (.inr 1) (zHx F G L) := by
  refine zx_in rfl rfl ?_
  refine zx_go 19 rfl ?_
  refine zx_c rfl rfl rfl rfl (w_isVcpu (show zwi 2 0 7 = 1 by decide) _ _) ?_
  refine zx_go 19 rfl ?_
  refine zx_c rfl rfl rfl rfl (w_within' (lo := 0) (hi := 7) h1 _ _) ?_
  refine zx_go 19 rfl ?_
  refine zx_c rfl rfl rfl rfl (w_within' (lo := 0) (hi := 3) h2 _ _) ?_
  refine zx_go 19 rfl ?_
  refine zx_c rfl rfl rfl rfl (w_arg1 _ _) ?_
  refine zx_go 19 rfl ?_
  exact zx_x rfl rfl rfl rfl (w_vt2 hG _) rfl rfl
theorem k_aside_t3 (hG : zGk G) (p1 p2 : Int32) (h1 : zwi p1 0 7 = 1) (h2 : zwi p2 0 3 = 1) (d : Nat) : zCr (d + 3) 162 [.ref 0, .int 3, .int p1, .int p2] (zHx F G L) (.inr 1) (zHx F G L) := by
  refine zx_in rfl rfl ?_
  refine zx_go 19 rfl ?_
  refine zx_c rfl rfl rfl rfl (w_isVcpu (show zwi 3 0 7 = 1 by decide) _ _) ?_
  refine zx_go 19 rfl ?_
  refine zx_c rfl rfl rfl rfl (w_within' (lo := 0) (hi := 7) h1 _ _) ?_
  refine zx_go 19 rfl ?_
  refine zx_c rfl rfl rfl rfl (w_within' (lo := 0) (hi := 3) h2 _ _) ?_
  refine zx_go 19 rfl ?_
  refine zx_c rfl rfl rfl rfl (w_arg1 _ _) ?_
  refine zx_go 19 rfl ?_
  exact zx_x rfl rfl rfl rfl (w_vt3 hG _) rfl rfl
theorem k_aside_t4 (hG : zGk G) (p1 p2 : Int32) (h1 : zwi p1 0 7 = 1) (h2 : zwi p2 0 3 = 1) (d : Nat) : zCr (d + 3) 162 [.ref 0, .int 4, .int p1, .int p2] (zHx F G L) (.inr 1) (zHx F G L) := by
  refine zx_in rfl rfl ?_
  refine zx_go 19 rfl ?_
  refine zx_c rfl rfl rfl rfl (w_isVcpu (show zwi 4 0 7 = 1 by decide) _ _) ?_
  refine zx_go 19 rfl ?_
  refine zx_c rfl rfl rfl rfl (w_within' (lo := 0) (hi := 7) h1 _ _) ?_
  refine zx_go 19 rfl ?_
  refine zx_c rfl rfl rfl rfl (w_within' (lo := 0) (hi := 3) h2 _ _) ?_
  refine zx_go 19 rfl ?_
  refine zx_c rfl rfl rfl rfl (w_arg1 _ _) ?_
  refine zx_go 19 rfl ?_
  exact zx_x rfl rfl rfl rfl (w_vt4 hG _) rfl rfl
theorem k_aside_t5 (hG : zGk G) (p1 p2 : Int32) (h1 : zwi p1 0 7 = 1) (h2 : zwi p2 0 3 = 1) (d : Nat) : zCr (d + 3) 162 [.ref 0, .int 5, .int p1, .int p2] (zHx F G L) (.inr 1) (zHx F G L) := by
  refine zx_in rfl rfl ?_
  refine zx_go 19 rfl ?_
  refine zx_c rfl rfl rfl rfl (w_isVcpu (show zwi 5 0 7 = 1 by decide) _ _) ?_
  refine zx_go 19 rfl ?_
  refine zx_c rfl rfl rfl rfl (w_within' (lo := 0) (hi := 7) h1 _ _) ?_
  refine zx_go 19 rfl ?_
  refine zx_c rfl rfl rfl rfl (w_within' (lo := 0) (hi := 3) h2 _ _) ?_
  refine zx_go 19 rfl ?_
  refine zx_c rfl rfl rfl rfl (w_arg1 _ _) ?_
  refine zx_go 19 rfl ?_
  exact zx_x rfl rfl rfl rfl (w_vt5 hG _) rfl rfl
theorem k_aside_t6 (hG : zGk G) (p1 p2 : Int32) (h1 : zwi p1 0 7 = 1) (h2 : zwi p2 0 3 = 1) (d : Nat) : zCr (d + 3) 162 [.ref 0, .int 6, .int p1, .int p2] (zHx F G L) (.inr 1) (zHx F G L) := by
  refine zx_in rfl rfl ?_
  refine zx_go 19 rfl ?_
  refine zx_c rfl rfl rfl rfl (w_isVcpu (show zwi 6 0 7 = 1 by decide) _ _) ?_
  refine zx_go 19 rfl ?_
  refine zx_c rfl rfl rfl rfl (w_within' (lo := 0) (hi := 7) h1 _ _) ?_
  refine zx_go 19 rfl ?_
  refine zx_c rfl rfl rfl rfl (w_within' (lo := 0) (hi := 3) h2 _ _) ?_
  refine zx_go 19 rfl ?_
  refine zx_c rfl rfl rfl rfl (w_arg1 _ _) ?_
  refine zx_go 19 rfl ?_
  exact zx_x rfl rfl rfl rfl (w_vt6 hG _) rfl rfl
theorem k_aside_t7 (hG : zGk G) (p1 p2 : Int32) (h1 : zwi p1 0 7 = 1) (h2 : zwi p2 0 3 = 1) (d : Nat) : zCr (d + 3) 162 [.ref 0, .int 7, .int p1, .int p2] (zHx F G L) (.inr 1) (zHx F G L) := by
  refine zx_in rfl rfl ?_
  refine zx_go 19 rfl ?_
  refine zx_c rfl rfl rfl rfl (w_isVcpu (show zwi 7 0 7 = 1 by decide) _ _) ?_
  refine zx_go 19 rfl ?_
  refine zx_c rfl rfl rfl rfl (w_within' (lo := 0) (hi := 7) h1 _ _) ?_
  refine zx_go 19 rfl ?_
  refine zx_c rfl rfl rfl rfl (w_within' (lo := 0) (hi := 3) h2 _ _) ?_
  refine zx_go 19 rfl ?_
  refine zx_c rfl rfl rfl rfl (w_arg1 _ _) ?_
  refine zx_go 19 rfl ?_
  exact zx_x rfl rfl rfl rfl (w_vt7 hG _) rfl rfl
theorem k_deny_0 (p0 p1 p2 : Int32) (h0 : zwi p0 0 3 = 0) (h : zH) (d : Nat) : zCr (d + 3) 166 [.ref 0, .int p0, .int p1, .int p2] h (.inr 0) h := by
  refine zx_in rfl rfl ?_
  refine zx_go 19 rfl ?_
  refine zx_c rfl rfl rfl rfl (w_isGuest h0 _ _) ?_
  refine zx_go 19 rfl ?_
  exact zx_x rfl rfl rfl rfl (w_arg0 _ _) rfl rfl
theorem k_deny_1 (p0 p1 p2 : Int32) (h0 : zwi p0 0 3 = 1) (h1 : zwi p1 0 127 = 0) (h : zH) (d : Nat) : zCr (d + 3) 166 [.ref 0, .int p0, .int p1, .int p2] h (.inr 0) h := by
  refine zx_in rfl rfl ?_
  refine zx_go 19 rfl ?_
  refine zx_c rfl rfl rfl rfl (w_isGuest h0 _ _) ?_
  refine zx_go 19 rfl ?_
  refine zx_c rfl rfl rfl rfl (w_isMemoryPage h1 _ _) ?_
  refine zx_go 19 rfl ?_
  exact zx_x rfl rfl rfl rfl (w_arg0 _ _) rfl rfl
theorem k_deny_2 (p0 p1 p2 : Int32) (h0 : zwi p0 0 3 = 1) (h1 : zwi p1 0 127 = 1) (h2 : zwi p2 0 7 = 0) (h : zH) (d : Nat) : zCr (d + 3) 166 [.ref 0, .int p0, .int p1, .int p2] h (.inr 0) h := by
  refine zx_in rfl rfl ?_
  refine zx_go 19 rfl ?_
  refine zx_c rfl rfl rfl rfl (w_isGuest h0 _ _) ?_
  refine zx_go 19 rfl ?_
  refine zx_c rfl rfl rfl rfl (w_isMemoryPage h1 _ _) ?_
  refine zx_go 19 rfl ?_
  refine zx_c rfl rfl rfl rfl (w_within' (lo := 0) (hi := 7) h2 _ _) ?_
  refine zx_go 19 rfl ?_
  exact zx_x rfl rfl rfl rfl (w_arg0 _ _) rfl rfl
theorem k_deny_t0 (hG : zGk G) (p1 p2 : Int32) (h1 : zwi p1 0 127 = 1) (h2 : zwi p2 0 7 = 1) (d : Nat) : zCr (d + 3) 166 [.ref 0, .int 0, .int p1, .int p2] (zHx F G L) (.inr 1) (zHx F G L) := by
  refine zx_in rfl rfl ?_
  refine zx_go 19 rfl ?_
  refine zx_c rfl rfl rfl rfl (w_isGuest (show zwi 0 0 3 = 1 by decide) _ _) ?_
  refine zx_go 19 rfl ?_
  refine zx_c rfl rfl rfl rfl (w_isMemoryPage h1 _ _) ?_
  refine zx_go 19 rfl ?_
  refine zx_c rfl rfl rfl rfl (w_within' (lo := 0) (hi := 7) h2 _ _) ?_
  refine zx_go 19 rfl ?_
  refine zx_c rfl rfl rfl rfl (w_arg1 _ _) ?_
  refine zx_go 19 rfl ?_
  exact zx_x rfl rfl rfl rfl (w_gt0 hG _) rfl rfl
theorem k_deny_t1 (hG : zGk G) (p1 p2 : Int32) (h1 : zwi p1 0 127 = 1) (h2 : zwi p2 0 7 = 1) (d : Nat) : zCr (d + 3) 166 [.ref 0, .int 1, .int p1, .int p2] (zHx F G L) (.inr 1) (zHx F G L) := by
  refine zx_in rfl rfl ?_
  refine zx_go 19 rfl ?_
  refine zx_c rfl rfl rfl rfl (w_isGuest (show zwi 1 0 3 = 1 by decide) _ _) ?_
  refine zx_go 19 rfl ?_
  refine zx_c rfl rfl rfl rfl (w_isMemoryPage h1 _ _) ?_
  refine zx_go 19 rfl ?_
  refine zx_c rfl rfl rfl rfl (w_within' (lo := 0) (hi := 7) h2 _ _) ?_
  refine zx_go 19 rfl ?_
  refine zx_c rfl rfl rfl rfl (w_arg1 _ _) ?_
  refine zx_go 19 rfl ?_
  exact zx_x rfl rfl rfl rfl (w_gt1 hG _) rfl rfl
theorem k_deny_t2 (hG : zGk G) (p1 p2 : Int32) (h1 : zwi p1 0 127 = 1) (h2 : zwi p2 0 7 = 1) (d : Nat) : zCr (d + 3) 166 [.ref 0, .int 2, .int p1, .int p2] (zHx F G L) (.inr 1) (zHx F G L) := by
  refine zx_in rfl rfl ?_
  refine zx_go 19 rfl ?_
  refine zx_c rfl rfl rfl rfl (w_isGuest (show zwi 2 0 3 = 1 by decide) _ _) ?_
  refine zx_go 19 rfl ?_
  refine zx_c rfl rfl rfl rfl (w_isMemoryPage h1 _ _) ?_
  refine zx_go 19 rfl ?_
  refine zx_c rfl rfl rfl rfl (w_within' (lo := 0) (hi := 7) h2 _ _) ?_
  refine zx_go 19 rfl ?_
  refine zx_c rfl rfl rfl rfl (w_arg1 _ _) ?_
  refine zx_go 19 rfl ?_
  exact zx_x rfl rfl rfl rfl (w_gt2 hG _) rfl rfl
theorem k_deny_t3 (hG : zGk G) (p1 p2 : Int32) (h1 : zwi p1 0 127 = 1) (h2 : zwi p2 0 7 = 1) (d : Nat) : zCr (d + 3) 166 [.ref 0, .int 3, .int p1, .int p2] (zHx F G L) (.inr 1) (zHx F G L) := by
  refine zx_in rfl rfl ?_
  refine zx_go 19 rfl ?_
  refine zx_c rfl rfl rfl rfl (w_isGuest (show zwi 3 0 3 = 1 by decide) _ _) ?_
  refine zx_go 19 rfl ?_
  refine zx_c rfl rfl rfl rfl (w_isMemoryPage h1 _ _) ?_
  refine zx_go 19 rfl ?_
  refine zx_c rfl rfl rfl rfl (w_within' (lo := 0) (hi := 7) h2 _ _) ?_
  refine zx_go 19 rfl ?_
  refine zx_c rfl rfl rfl rfl (w_arg1 _ _) ?_
  refine zx_go 19 rfl ?_
  exact zx_x rfl rfl rfl rfl (w_gt3 hG _) rfl rfl
theorem k_swap_0 (p0 p1 : Int32) (h0 : zwi p0 0 3 = 0) (h : zH) (d : Nat) : zCr (d + 3) 171 [.ref 0, .int p0, .int p1] h (.inr 0) h := by
  refine zx_in rfl rfl ?_
  refine zx_go 19 rfl ?_
  refine zx_c rfl rfl rfl rfl (w_isGuest h0 _ _) ?_
  refine zx_go 19 rfl ?_
  exact zx_x rfl rfl rfl rfl (w_arg0 _ _) rfl rfl
theorem k_swap_1 (p0 p1 : Int32) (h0 : zwi p0 0 3 = 1) (h1 : zwi p1 0 127 = 0) (h : zH) (d : Nat) : zCr (d + 3) 171 [.ref 0, .int p0, .int p1] h (.inr 0) h := by
  refine zx_in rfl rfl ?_
  refine zx_go 19 rfl ?_
  refine zx_c rfl rfl rfl rfl (w_isGuest h0 _ _) ?_
  refine zx_go 19 rfl ?_
  refine zx_c rfl rfl rfl rfl (w_isMemoryPage h1 _ _) ?_
  refine zx_go 19 rfl ?_
  exact zx_x rfl rfl rfl rfl (w_arg0 _ _) rfl rfl
theorem k_swap_t0 (hG : zGk G) (p1 : Int32) (h1 : zwi p1 0 127 = 1) (d : Nat) : zCr (d + 3) 171 [.ref 0, .int 0, .int p1] (zHx F G L) (.inr 1) (zHx F G L) := by
  refine zx_in rfl rfl ?_
  refine zx_go 19 rfl ?_
  refine zx_c rfl rfl rfl rfl (w_isGuest (show zwi 0 0 3 = 1 by decide) _ _) ?_
  refine zx_go 19 rfl ?_
  refine zx_c rfl rfl rfl rfl (w_isMemoryPage h1 _ _) ?_
  refine zx_go 19 rfl ?_
  refine zx_c rfl rfl rfl rfl (w_arg1 _ _) ?_
  refine zx_go 19 rfl ?_
  exact zx_x rfl rfl rfl rfl (w_gt0 hG _) rfl rfl
theorem k_swap_t1 (hG : zGk G) (p1 : Int32) (h1 : zwi p1 0 127 = 1) (d : Nat) : zCr (d + 3) 171 [.ref 0, .int 1, .int p1] (zHx F G L) (.inr 1) (zHx F G L) := by
  refine zx_in rfl rfl ?_
  refine zx_go 19 rfl ?_
  refine zx_c rfl rfl rfl rfl (w_isGuest (show zwi 1 0 3 = 1 by decide) _ _) ?_
  refine zx_go 19 rfl ?_
  refine zx_c rfl rfl rfl rfl (w_isMemoryPage h1 _ _) ?_
  refine zx_go 19 rfl ?_
  refine zx_c rfl rfl rfl rfl (w_arg1 _ _) ?_
  refine zx_go 19 rfl ?_
  exact zx_x rfl rfl rfl rfl (w_gt1 hG _) rfl rfl
theorem k_swap_t2 (hG : zGk G) (p1 : Int32) (h1 : zwi p1 0 127 = 1) (d : Nat) : zCr (d + 3) 171 [.ref 0, .int 2, .int p1] (zHx F G L) (.inr 1) (zHx F G L) := by
  refine zx_in rfl rfl ?_
  refine zx_go 19 rfl ?_
  refine zx_c rfl rfl rfl rfl (w_isGuest (show zwi 2 0 3 = 1 by decide) _ _) ?_
  refine zx_go 19 rfl ?_
  refine zx_c rfl rfl rfl rfl (w_isMemoryPage h1 _ _) ?_
  refine zx_go 19 rfl ?_
  refine zx_c rfl rfl rfl rfl (w_arg1 _ _) ?_
  refine zx_go 19 rfl ?_
  exact zx_x rfl rfl rfl rfl (w_gt2 hG _) rfl rfl
theorem k_swap_t3 (hG : zGk G) (p1 : Int32) (h1 : zwi p1 0 127 = 1) (d : Nat) : zCr (d + 3) 171 [.ref 0, .int 3, .int p1] (zHx F G L) (.inr 1) (zHx F G L) := by
  refine zx_in rfl rfl ?_
  refine zx_go 19 rfl ?_
  refine zx_c rfl rfl rfl rfl (w_isGuest (show zwi 3 0 3 = 1 by decide) _ _) ?_
  refine zx_go 19 rfl ?_
  refine zx_c rfl rfl rfl rfl (w_isMemoryPage h1 _ _) ?_
  refine zx_go 19 rfl ?_
  refine zx_c rfl rfl rfl rfl (w_arg1 _ _) ?_
  refine zx_go 19 rfl ?_
  exact zx_x rfl rfl rfl rfl (w_gt3 hG _) rfl rfl
theorem k_move_0 (p0 p1 : Int32) (h0 : zwi p0 0 3 = 0) (h : zH) (d : Nat) : zCr (d + 3) 175 [.ref 0, .int p0, .int p1] h (.inr 0) h := by
  refine zx_in rfl rfl ?_
  refine zx_go 19 rfl ?_
  refine zx_c rfl rfl rfl rfl (w_isGuest h0 _ _) ?_
  refine zx_go 19 rfl ?_
  exact zx_x rfl rfl rfl rfl (w_arg0 _ _) rfl rfl
theorem k_move_1 (p0 p1 : Int32) (h0 : zwi p0 0 3 = 1) (h1 : zwi p1 0 127 = 0) (h : zH) (d : Nat) : zCr (d + 3) 175 [.ref 0, .int p0, .int p1] h (.inr 0) h := by
  refine zx_in rfl rfl ?_
  refine zx_go 19 rfl ?_
  refine zx_c rfl rfl rfl rfl (w_isGuest h0 _ _) ?_
  refine zx_go 19 rfl ?_
  refine zx_c rfl rfl rfl rfl (w_isMemoryPage h1 _ _) ?_
  refine zx_go 19 rfl ?_
  exact zx_x rfl rfl rfl rfl (w_arg0 _ _) rfl rfl
theorem k_move_t0 (hG : zGk G) (p1 : Int32) (h1 : zwi p1 0 127 = 1) (d : Nat) : zCr (d + 3) 175 [.ref 0, .int 0, .int p1] (zHx F G L) (.inr 1) (zHx F G L) := by
  refine zx_in rfl rfl ?_
  refine zx_go 19 rfl ?_
  refine zx_c rfl rfl rfl rfl (w_isGuest (show zwi 0 0 3 = 1 by decide) _ _) ?_
  refine zx_go 19 rfl ?_
  refine zx_c rfl rfl rfl rfl (w_isMemoryPage h1 _ _) ?_
  refine zx_go 19 rfl ?_
  refine zx_c rfl rfl rfl rfl (w_arg1 _ _) ?_
  refine zx_go 19 rfl ?_
  exact zx_x rfl rfl rfl rfl (w_gt0 hG _) rfl rfl
theorem k_move_t1 (hG : zGk G) (p1 : Int32) (h1 : zwi p1 0 127 = 1) (d : Nat) : zCr (d + 3) 175 [.ref 0, .int 1, .int p1] (zHx F G L) (.inr 1) (zHx F G L) := by
  refine zx_in rfl rfl ?_
  refine zx_go 19 rfl ?_
  refine zx_c rfl rfl rfl rfl (w_isGuest (show zwi 1 0 3 = 1 by decide) _ _) ?_
  refine zx_go 19 rfl ?_
  refine zx_c rfl rfl rfl rfl (w_isMemoryPage h1 _ _) ?_
  refine zx_go 19 rfl ?_
  refine zx_c rfl rfl rfl rfl (w_arg1 _ _) ?_
  refine zx_go 19 rfl ?_
  exact zx_x rfl rfl rfl rfl (w_gt1 hG _) rfl rfl
theorem k_move_t2 (hG : zGk G) (p1 : Int32) (h1 : zwi p1 0 127 = 1) (d : Nat) : zCr (d + 3) 175 [.ref 0, .int 2, .int p1] (zHx F G L) (.inr 1) (zHx F G L) := by
  refine zx_in rfl rfl ?_
  refine zx_go 19 rfl ?_
  refine zx_c rfl rfl rfl rfl (w_isGuest (show zwi 2 0 3 = 1 by decide) _ _) ?_
  refine zx_go 19 rfl ?_
  refine zx_c rfl rfl rfl rfl (w_isMemoryPage h1 _ _) ?_
  refine zx_go 19 rfl ?_
  refine zx_c rfl rfl rfl rfl (w_arg1 _ _) ?_
  refine zx_go 19 rfl ?_
  exact zx_x rfl rfl rfl rfl (w_gt2 hG _) rfl rfl
theorem k_move_t3 (hG : zGk G) (p1 : Int32) (h1 : zwi p1 0 127 = 1) (d : Nat) : zCr (d + 3) 175 [.ref 0, .int 3, .int p1] (zHx F G L) (.inr 1) (zHx F G L) := by
  refine zx_in rfl rfl ?_
  refine zx_go 19 rfl ?_
  refine zx_c rfl rfl rfl rfl (w_isGuest (show zwi 3 0 3 = 1 by decide) _ _) ?_
  refine zx_go 19 rfl ?_
  refine zx_c rfl rfl rfl rfl (w_isMemoryPage h1 _ _) ?_
  refine zx_go 19 rfl ?_
  refine zx_c rfl rfl rfl rfl (w_arg1 _ _) ?_
  refine zx_go 19 rfl ?_
  exact zx_x rfl rfl rfl rfl (w_gt3 hG _) rfl rfl
theorem k_target_0 (p0 p1 : Int32) (h0 : zwi p0 0 3 = 0) (h : zH) (d : Nat) : zCr (d + 3) 178 [.ref 0, .int p0, .int p1] h (.inr 0) h := by
  refine zx_in rfl rfl ?_
  refine zx_go 19 rfl ?_
  refine zx_c rfl rfl rfl rfl (w_isGuest h0 _ _) ?_
  refine zx_go 19 rfl ?_
  exact zx_x rfl rfl rfl rfl (w_arg0 _ _) rfl rfl
theorem k_target_1 (p0 p1 : Int32) (h0 : zwi p0 0 3 = 1) (h1 : zwi p1 0 128 = 0) (h : zH) (d : Nat) : zCr (d + 3) 178 [.ref 0, .int p0, .int p1] h (.inr 0) h := by
  refine zx_in rfl rfl ?_
  refine zx_go 19 rfl ?_
  refine zx_c rfl rfl rfl rfl (w_isGuest h0 _ _) ?_
  refine zx_go 19 rfl ?_
  refine zx_c rfl rfl rfl rfl (w_within' (lo := 0) (hi := 128) h1 _ _) ?_
  refine zx_go 19 rfl ?_
  exact zx_x rfl rfl rfl rfl (w_arg0 _ _) rfl rfl
theorem k_target_t0 (hG : zGk G) (p1 : Int32) (h1 : zwi p1 0 128 = 1) (d : Nat) : zCr (d + 3) 178 [.ref 0, .int 0, .int p1] (zHx F G L) (.inr 1) (zHx F G L) := by
  refine zx_in rfl rfl ?_
  refine zx_go 19 rfl ?_
  refine zx_c rfl rfl rfl rfl (w_isGuest (show zwi 0 0 3 = 1 by decide) _ _) ?_
  refine zx_go 19 rfl ?_
  refine zx_c rfl rfl rfl rfl (w_within' (lo := 0) (hi := 128) h1 _ _) ?_
  refine zx_go 19 rfl ?_
  refine zx_c rfl rfl rfl rfl (w_arg1 _ _) ?_
  refine zx_go 19 rfl ?_
  exact zx_x rfl rfl rfl rfl (w_gt0 hG _) rfl rfl
theorem k_target_t1 (hG : zGk G) (p1 : Int32) (h1 : zwi p1 0 128 = 1) (d : Nat) : zCr (d + 3) 178 [.ref 0, .int 1, .int p1] (zHx F G L) (.inr 1) (zHx F G L) := by
  refine zx_in rfl rfl ?_
  refine zx_go 19 rfl ?_
  refine zx_c rfl rfl rfl rfl (w_isGuest (show zwi 1 0 3 = 1 by decide) _ _) ?_
  refine zx_go 19 rfl ?_
  refine zx_c rfl rfl rfl rfl (w_within' (lo := 0) (hi := 128) h1 _ _) ?_
  refine zx_go 19 rfl ?_
  refine zx_c rfl rfl rfl rfl (w_arg1 _ _) ?_
  refine zx_go 19 rfl ?_
  exact zx_x rfl rfl rfl rfl (w_gt1 hG _) rfl rfl
theorem k_target_t2 (hG : zGk G) (p1 : Int32) (h1 : zwi p1 0 128 = 1) (d : Nat) : zCr (d + 3) 178 [.ref 0, .int 2, .int p1] (zHx F G L) (.inr 1) (zHx F G L) := by
  refine zx_in rfl rfl ?_
  refine zx_go 19 rfl ?_
  refine zx_c rfl rfl rfl rfl (w_isGuest (show zwi 2 0 3 = 1 by decide) _ _) ?_
  refine zx_go 19 rfl ?_
  refine zx_c rfl rfl rfl rfl (w_within' (lo := 0) (hi := 128) h1 _ _) ?_
  refine zx_go 19 rfl ?_
  refine zx_c rfl rfl rfl rfl (w_arg1 _ _) ?_
  refine zx_go 19 rfl ?_
  exact zx_x rfl rfl rfl rfl (w_gt2 hG _) rfl rfl
theorem k_target_t3 (hG : zGk G) (p1 : Int32) (h1 : zwi p1 0 128 = 1) (d : Nat) : zCr (d + 3) 178 [.ref 0, .int 3, .int p1] (zHx F G L) (.inr 1) (zHx F G L) := by
  refine zx_in rfl rfl ?_
  refine zx_go 19 rfl ?_
  refine zx_c rfl rfl rfl rfl (w_isGuest (show zwi 3 0 3 = 1 by decide) _ _) ?_
  refine zx_go 19 rfl ?_
  refine zx_c rfl rfl rfl rfl (w_within' (lo := 0) (hi := 128) h1 _ _) ?_
  refine zx_go 19 rfl ?_
  refine zx_c rfl rfl rfl rfl (w_arg1 _ _) ?_
  refine zx_go 19 rfl ?_
  exact zx_x rfl rfl rfl rfl (w_gt3 hG _) rfl rfl
theorem k_harvest_0 (p0 : Int32) (h0 : zwi p0 0 3 = 0) (h : zH) (d : Nat) : zCr (d + 3) 181 [.ref 0, .int p0] h (.inr 0) h := by
  refine zx_in rfl rfl ?_
  refine zx_go 19 rfl ?_
  refine zx_c rfl rfl rfl rfl (w_isGuest h0 _ _) ?_
  refine zx_go 19 rfl ?_
  exact zx_x rfl rfl rfl rfl (w_arg0 _ _) rfl rfl
theorem k_harvest_t0 (hG : zGk G)  (d : Nat) : zCr (d + 3) 181 [.ref 0, .int 0] (zHx F G L) (.inr 1) (zHx F G L) := by
  refine zx_in rfl rfl ?_
  refine zx_go 19 rfl ?_
  refine zx_c rfl rfl rfl rfl (w_isGuest (show zwi 0 0 3 = 1 by decide) _ _) ?_
  refine zx_go 19 rfl ?_
  refine zx_c rfl rfl rfl rfl (w_arg1 _ _) ?_
  refine zx_go 19 rfl ?_
  exact zx_x rfl rfl rfl rfl (w_gt0 hG _) rfl rfl
theorem k_harvest_t1 (hG : zGk G)  (d : Nat) : zCr (d + 3) 181 [.ref 0, .int 1] (zHx F G L) (.inr 1) (zHx F G L) := by
  refine zx_in rfl rfl ?_
  refine zx_go 19 rfl ?_
  refine zx_c rfl rfl rfl rfl (w_isGuest (show zwi 1 0 3 = 1 by decide) _ _) ?_
  refine zx_go 19 rfl ?_
  refine zx_c rfl rfl rfl rfl (w_arg1 _ _) ?_
  refine zx_go 19 rfl ?_
  exact zx_x rfl rfl rfl rfl (w_gt1 hG _) rfl rfl
theorem k_harvest_t2 (hG : zGk G)  (d : Nat) : zCr (d + 3) 181 [.ref 0, .int 2] (zHx F G L) (.inr 1) (zHx F G L) := by
  refine zx_in rfl rfl ?_
  refine zx_go 19 rfl ?_
  refine zx_c rfl rfl rfl rfl (w_isGuest (show zwi 2 0 3 = 1 by decide) _ _) ?_
  refine zx_go 19 rfl ?_
  refine zx_c rfl rfl rfl rfl (w_arg1 _ _) ?_
  refine zx_go 19 rfl ?_
  exact zx_x rfl rfl rfl rfl (w_gt2 hG _) rfl rfl
theorem k_harvest_t3 (hG : zGk G)  (d : Nat) : zCr (d + 3) 181 [.ref 0, .int 3] (zHx F G L) (.inr 1) (zHx F G L) := by
  refine zx_in rfl rfl ?_
  refine zx_go 19 rfl ?_
  refine zx_c rfl rfl rfl rfl (w_isGuest (show zwi 3 0 3 = 1 by decide) _ _) ?_
  refine zx_go 19 rfl ?_
  refine zx_c rfl rfl rfl rfl (w_arg1 _ _) ?_
  refine zx_go 19 rfl ?_
  exact zx_x rfl rfl rfl rfl (w_gt3 hG _) rfl rfl
theorem k_entry_0 (p0 p1 : Int32) (h0 : zwi p0 0 3 = 0) (h : zH) (d : Nat) : zCr (d + 3) 186 [.ref 0, .int p0, .int p1] h (.inr 0) h := by
  refine zx_in rfl rfl ?_
  refine zx_go 19 rfl ?_
  refine zx_c rfl rfl rfl rfl (w_isGuest h0 _ _) ?_
  refine zx_go 19 rfl ?_
  exact zx_x rfl rfl rfl rfl (w_arg0 _ _) rfl rfl
theorem k_entry_1 (p0 p1 : Int32) (h0 : zwi p0 0 3 = 1) (h1 : zwi p1 0 127 = 0) (h : zH) (d : Nat) : zCr (d + 3) 186 [.ref 0, .int p0, .int p1] h (.inr 0) h := by
  refine zx_in rfl rfl ?_
  refine zx_go 19 rfl ?_
  refine zx_c rfl rfl rfl rfl (w_isGuest h0 _ _) ?_
  refine zx_go 19 rfl ?_
  refine zx_c rfl rfl rfl rfl (w_isMemoryPage h1 _ _) ?_
  refine zx_go 19 rfl ?_
  exact zx_x rfl rfl rfl rfl (w_arg0 _ _) rfl rfl
theorem k_entry_t0 (hG : zGk G) (p1 : Int32) (h1 : zwi p1 0 127 = 1) (d : Nat) : zCr (d + 3) 186 [.ref 0, .int 0, .int p1] (zHx F G L) (.inr 1) (zHx F G L) := by
  refine zx_in rfl rfl ?_
  refine zx_go 19 rfl ?_
  refine zx_c rfl rfl rfl rfl (w_isGuest (show zwi 0 0 3 = 1 by decide) _ _) ?_
  refine zx_go 19 rfl ?_
  refine zx_c rfl rfl rfl rfl (w_isMemoryPage h1 _ _) ?_
  refine zx_go 19 rfl ?_
  refine zx_c rfl rfl rfl rfl (w_arg1 _ _) ?_
  refine zx_go 19 rfl ?_
  exact zx_x rfl rfl rfl rfl (w_gt0 hG _) rfl rfl
theorem k_entry_t1 (hG : zGk G) (p1 : Int32) (h1 : zwi p1 0 127 = 1) (d : Nat) : zCr (d + 3) 186 [.ref 0, .int 1, .int p1] (zHx F G L) (.inr 1) (zHx F G L) := by
  refine zx_in rfl rfl ?_
  refine zx_go 19 rfl ?_
  refine zx_c rfl rfl rfl rfl (w_isGuest (show zwi 1 0 3 = 1 by decide) _ _) ?_
  refine zx_go 19 rfl ?_
  refine zx_c rfl rfl rfl rfl (w_isMemoryPage h1 _ _) ?_
  refine zx_go 19 rfl ?_
  refine zx_c rfl rfl rfl rfl (w_arg1 _ _) ?_
  refine zx_go 19 rfl ?_
  exact zx_x rfl rfl rfl rfl (w_gt1 hG _) rfl rfl
theorem k_entry_t2 (hG : zGk G) (p1 : Int32) (h1 : zwi p1 0 127 = 1) (d : Nat) : zCr (d + 3) 186 [.ref 0, .int 2, .int p1] (zHx F G L) (.inr 1) (zHx F G L) := by
  refine zx_in rfl rfl ?_
  refine zx_go 19 rfl ?_
  refine zx_c rfl rfl rfl rfl (w_isGuest (show zwi 2 0 3 = 1 by decide) _ _) ?_
  refine zx_go 19 rfl ?_
  refine zx_c rfl rfl rfl rfl (w_isMemoryPage h1 _ _) ?_
  refine zx_go 19 rfl ?_
  refine zx_c rfl rfl rfl rfl (w_arg1 _ _) ?_
  refine zx_go 19 rfl ?_
  exact zx_x rfl rfl rfl rfl (w_gt2 hG _) rfl rfl
theorem k_entry_t3 (hG : zGk G) (p1 : Int32) (h1 : zwi p1 0 127 = 1) (d : Nat) : zCr (d + 3) 186 [.ref 0, .int 3, .int p1] (zHx F G L) (.inr 1) (zHx F G L) := by
  refine zx_in rfl rfl ?_
  refine zx_go 19 rfl ?_
  refine zx_c rfl rfl rfl rfl (w_isGuest (show zwi 3 0 3 = 1 by decide) _ _) ?_
  refine zx_go 19 rfl ?_
  refine zx_c rfl rfl rfl rfl (w_isMemoryPage h1 _ _) ?_
  refine zx_go 19 rfl ?_
  refine zx_c rfl rfl rfl rfl (w_arg1 _ _) ?_
  refine zx_go 19 rfl ?_
  exact zx_x rfl rfl rfl rfl (w_gt3 hG _) rfl rfl
theorem k_peek_0 (p0 p1 : Int32) (h0 : zwi p0 0 3 = 0) (h : zH) (d : Nat) : zCr (d + 3) 195 [.ref 0, .int p0, .int p1] h (.inr 0) h := by
  refine zx_in rfl rfl ?_
  refine zx_go 19 rfl ?_
  refine zx_c rfl rfl rfl rfl (w_isGuest h0 _ _) ?_
  refine zx_go 19 rfl ?_
  exact zx_x rfl rfl rfl rfl (w_arg0 _ _) rfl rfl
theorem k_peek_1 (p0 p1 : Int32) (h0 : zwi p0 0 3 = 1) (h1 : zwi p1 0 2047 = 0) (h : zH) (d : Nat) : zCr (d + 3) 195 [.ref 0, .int p0, .int p1] h (.inr 0) h := by
  refine zx_in rfl rfl ?_
  refine zx_go 19 rfl ?_
  refine zx_c rfl rfl rfl rfl (w_isGuest h0 _ _) ?_
  refine zx_go 19 rfl ?_
  refine zx_c rfl rfl rfl rfl (w_isHostAddress h1 _ _) ?_
  refine zx_go 19 rfl ?_
  exact zx_x rfl rfl rfl rfl (w_arg0 _ _) rfl rfl
theorem k_peek_t0 (hG : zGk G) (p1 : Int32) (h1 : zwi p1 0 2047 = 1) (d : Nat) : zCr (d + 3) 195 [.ref 0, .int 0, .int p1] (zHx F G L) (.inr 1) (zHx F G L) := by
  refine zx_in rfl rfl ?_
  refine zx_go 19 rfl ?_
  refine zx_c rfl rfl rfl rfl (w_isGuest (show zwi 0 0 3 = 1 by decide) _ _) ?_
  refine zx_go 19 rfl ?_
  refine zx_c rfl rfl rfl rfl (w_isHostAddress h1 _ _) ?_
  refine zx_go 19 rfl ?_
  refine zx_c rfl rfl rfl rfl (w_arg1 _ _) ?_
  refine zx_go 19 rfl ?_
  exact zx_x rfl rfl rfl rfl (w_gt0 hG _) rfl rfl
theorem k_peek_t1 (hG : zGk G) (p1 : Int32) (h1 : zwi p1 0 2047 = 1) (d : Nat) : zCr (d + 3) 195 [.ref 0, .int 1, .int p1] (zHx F G L) (.inr 1) (zHx F G L) := by
  refine zx_in rfl rfl ?_
  refine zx_go 19 rfl ?_
  refine zx_c rfl rfl rfl rfl (w_isGuest (show zwi 1 0 3 = 1 by decide) _ _) ?_
  refine zx_go 19 rfl ?_
  refine zx_c rfl rfl rfl rfl (w_isHostAddress h1 _ _) ?_
  refine zx_go 19 rfl ?_
  refine zx_c rfl rfl rfl rfl (w_arg1 _ _) ?_
  refine zx_go 19 rfl ?_
  exact zx_x rfl rfl rfl rfl (w_gt1 hG _) rfl rfl
theorem k_peek_t2 (hG : zGk G) (p1 : Int32) (h1 : zwi p1 0 2047 = 1) (d : Nat) : zCr (d + 3) 195 [.ref 0, .int 2, .int p1] (zHx F G L) (.inr 1) (zHx F G L) := by
  refine zx_in rfl rfl ?_
  refine zx_go 19 rfl ?_
  refine zx_c rfl rfl rfl rfl (w_isGuest (show zwi 2 0 3 = 1 by decide) _ _) ?_
  refine zx_go 19 rfl ?_
  refine zx_c rfl rfl rfl rfl (w_isHostAddress h1 _ _) ?_
  refine zx_go 19 rfl ?_
  refine zx_c rfl rfl rfl rfl (w_arg1 _ _) ?_
  refine zx_go 19 rfl ?_
  exact zx_x rfl rfl rfl rfl (w_gt2 hG _) rfl rfl
theorem k_peek_t3 (hG : zGk G) (p1 : Int32) (h1 : zwi p1 0 2047 = 1) (d : Nat) : zCr (d + 3) 195 [.ref 0, .int 3, .int p1] (zHx F G L) (.inr 1) (zHx F G L) := by
  refine zx_in rfl rfl ?_
  refine zx_go 19 rfl ?_
  refine zx_c rfl rfl rfl rfl (w_isGuest (show zwi 3 0 3 = 1 by decide) _ _) ?_
  refine zx_go 19 rfl ?_
  refine zx_c rfl rfl rfl rfl (w_isHostAddress h1 _ _) ?_
  refine zx_go 19 rfl ?_
  refine zx_c rfl rfl rfl rfl (w_arg1 _ _) ?_
  refine zx_go 19 rfl ?_
  exact zx_x rfl rfl rfl rfl (w_gt3 hG _) rfl rfl
theorem k_count_0 (p0 p1 : Int32) (h0 : zwi p0 0 3 = 0) (h : zH) (d : Nat) : zCr (d + 3) 206 [.ref 0, .int p0, .int p1] h (.inr 0) h := by
  refine zx_in rfl rfl ?_
  refine zx_go 19 rfl ?_
  refine zx_c rfl rfl rfl rfl (w_isGuest h0 _ _) ?_
  refine zx_go 19 rfl ?_
  exact zx_x rfl rfl rfl rfl (w_arg0 _ _) rfl rfl
theorem k_count_1 (p0 p1 : Int32) (h0 : zwi p0 0 3 = 1) (h1 : zwi p1 0 11 = 0) (h : zH) (d : Nat) : zCr (d + 3) 206 [.ref 0, .int p0, .int p1] h (.inr 0) h := by
  refine zx_in rfl rfl ?_
  refine zx_go 19 rfl ?_
  refine zx_c rfl rfl rfl rfl (w_isGuest h0 _ _) ?_
  refine zx_go 19 rfl ?_
  refine zx_c rfl rfl rfl rfl (w_within' (lo := 0) (hi := 11) h1 _ _) ?_
  refine zx_go 19 rfl ?_
  exact zx_x rfl rfl rfl rfl (w_arg0 _ _) rfl rfl
theorem k_count_t0 (hG : zGk G) (p1 : Int32) (h1 : zwi p1 0 11 = 1) (d : Nat) : zCr (d + 3) 206 [.ref 0, .int 0, .int p1] (zHx F G L) (.inr 1) (zHx F G L) := by
  refine zx_in rfl rfl ?_
  refine zx_go 19 rfl ?_
  refine zx_c rfl rfl rfl rfl (w_isGuest (show zwi 0 0 3 = 1 by decide) _ _) ?_
  refine zx_go 19 rfl ?_
  refine zx_c rfl rfl rfl rfl (w_within' (lo := 0) (hi := 11) h1 _ _) ?_
  refine zx_go 19 rfl ?_
  refine zx_c rfl rfl rfl rfl (w_arg1 _ _) ?_
  refine zx_go 19 rfl ?_
  exact zx_x rfl rfl rfl rfl (w_gt0 hG _) rfl rfl
theorem k_count_t1 (hG : zGk G) (p1 : Int32) (h1 : zwi p1 0 11 = 1) (d : Nat) : zCr (d + 3) 206 [.ref 0, .int 1, .int p1] (zHx F G L) (.inr 1) (zHx F G L) := by
  refine zx_in rfl rfl ?_
  refine zx_go 19 rfl ?_
  refine zx_c rfl rfl rfl rfl (w_isGuest (show zwi 1 0 3 = 1 by decide) _ _) ?_
  refine zx_go 19 rfl ?_
  refine zx_c rfl rfl rfl rfl (w_within' (lo := 0) (hi := 11) h1 _ _) ?_
  refine zx_go 19 rfl ?_
  refine zx_c rfl rfl rfl rfl (w_arg1 _ _) ?_
  refine zx_go 19 rfl ?_
  exact zx_x rfl rfl rfl rfl (w_gt1 hG _) rfl rfl
theorem k_count_t2 (hG : zGk G) (p1 : Int32) (h1 : zwi p1 0 11 = 1) (d : Nat) : zCr (d + 3) 206 [.ref 0, .int 2, .int p1] (zHx F G L) (.inr 1) (zHx F G L) := by
  refine zx_in rfl rfl ?_
  refine zx_go 19 rfl ?_
  refine zx_c rfl rfl rfl rfl (w_isGuest (show zwi 2 0 3 = 1 by decide) _ _) ?_
  refine zx_go 19 rfl ?_
  refine zx_c rfl rfl rfl rfl (w_within' (lo := 0) (hi := 11) h1 _ _) ?_
  refine zx_go 19 rfl ?_
  refine zx_c rfl rfl rfl rfl (w_arg1 _ _) ?_
  refine zx_go 19 rfl ?_
  exact zx_x rfl rfl rfl rfl (w_gt2 hG _) rfl rfl
theorem k_count_t3 (hG : zGk G) (p1 : Int32) (h1 : zwi p1 0 11 = 1) (d : Nat) : zCr (d + 3) 206 [.ref 0, .int 3, .int p1] (zHx F G L) (.inr 1) (zHx F G L) := by
  refine zx_in rfl rfl ?_
  refine zx_go 19 rfl ?_
  refine zx_c rfl rfl rfl rfl (w_isGuest (show zwi 3 0 3 = 1 by decide) _ _) ?_
  refine zx_go 19 rfl ?_
  refine zx_c rfl rfl rfl rfl (w_within' (lo := 0) (hi := 11) h1 _ _) ?_
  refine zx_go 19 rfl ?_
  refine zx_c rfl rfl rfl rfl (w_arg1 _ _) ?_
  refine zx_go 19 rfl ?_
  exact zx_x rfl rfl rfl rfl (w_gt3 hG _) rfl rfl
theorem k_printed_0 (p0 p1 : Int32) (h0 : zwi p0 0 3 = 0) (h : zH) (d : Nat) : zCr (d + 3) 212 [.ref 0, .int p0, .int p1] h (.inr 0) h := by
  refine zx_in rfl rfl ?_
  refine zx_go 19 rfl ?_
  refine zx_c rfl rfl rfl rfl (w_isGuest h0 _ _) ?_
  refine zx_go 19 rfl ?_
  exact zx_x rfl rfl rfl rfl (w_arg0 _ _) rfl rfl
theorem k_printed_t0 (hG : zGk G) (p1 : Int32)  (d : Nat) : zCr (d + 3) 212 [.ref 0, .int 0, .int p1] (zHx F G L) (.inr 1) (zHx F G L) := by
  refine zx_in rfl rfl ?_
  refine zx_go 19 rfl ?_
  refine zx_c rfl rfl rfl rfl (w_isGuest (show zwi 0 0 3 = 1 by decide) _ _) ?_
  refine zx_go 19 rfl ?_
  refine zx_c rfl rfl rfl rfl (w_arg1 _ _) ?_
  refine zx_go 19 rfl ?_
  exact zx_x rfl rfl rfl rfl (w_gt0 hG _) rfl rfl
theorem k_printed_t1 (hG : zGk G) (p1 : Int32)  (d : Nat) : zCr (d + 3) 212 [.ref 0, .int 1, .int p1] (zHx F G L) (.inr 1) (zHx F G L) := by
  refine zx_in rfl rfl ?_
  refine zx_go 19 rfl ?_
  refine zx_c rfl rfl rfl rfl (w_isGuest (show zwi 1 0 3 = 1 by decide) _ _) ?_
  refine zx_go 19 rfl ?_
  refine zx_c rfl rfl rfl rfl (w_arg1 _ _) ?_
  refine zx_go 19 rfl ?_
  exact zx_x rfl rfl rfl rfl (w_gt1 hG _) rfl rfl
theorem k_printed_t2 (hG : zGk G) (p1 : Int32)  (d : Nat) : zCr (d + 3) 212 [.ref 0, .int 2, .int p1] (zHx F G L) (.inr 1) (zHx F G L) := by
  refine zx_in rfl rfl ?_
  refine zx_go 19 rfl ?_
  refine zx_c rfl rfl rfl rfl (w_isGuest (show zwi 2 0 3 = 1 by decide) _ _) ?_
  refine zx_go 19 rfl ?_
  refine zx_c rfl rfl rfl rfl (w_arg1 _ _) ?_
  refine zx_go 19 rfl ?_
  exact zx_x rfl rfl rfl rfl (w_gt2 hG _) rfl rfl
theorem k_printed_t3 (hG : zGk G) (p1 : Int32)  (d : Nat) : zCr (d + 3) 212 [.ref 0, .int 3, .int p1] (zHx F G L) (.inr 1) (zHx F G L) := by
  refine zx_in rfl rfl ?_
  refine zx_go 19 rfl ?_
  refine zx_c rfl rfl rfl rfl (w_isGuest (show zwi 3 0 3 = 1 by decide) _ _) ?_
  refine zx_go 19 rfl ?_
  refine zx_c rfl rfl rfl rfl (w_arg1 _ _) ?_
  refine zx_go 19 rfl ?_
  exact zx_x rfl rfl rfl rfl (w_gt3 hG _) rfl rfl
end ZFP
