/-! THE MODEL ON THE FRESH OBJECT -/
def zmf : List Value := [.int 0, .ref 114, .ref 115, .ref 116, .ref 117, .ref 118, .ref 119, .int 0, .ref 120, .ref 121, .ref 122, .ref 123, .ref 124, .ref 125, .ref 126, .ref 127, .ref 128, .ref 129, .ref 130, .ref 131, .ref 132, .ref 133, .ref 134, .ref 135, .ref 136, .ref 137, .ref 138, .ref 139, .ref 140, .ref 141, .ref 142, .ref 143, .ref 144, .ref 145, .ref 146, .int 0, .ref 147, .int 0, .int 0, .int 0, .int 0, .int 0]
/-- .. with its field thrown set -/
def zHt (F : Nat → Nat → Int32) (G : Nat → Nat → Option Nat) (L : Nat → Int64) (k : Int32) : zH := (zHx F G L).set 113 (.inr (11, zmf.set 0 (.int k)))
/-- nobody is there -/
def zFk (F : Nat → Nat → Int32) : Prop := F 120 0 = 0 ∧ F 120 1 = 0 ∧ F 120 2 = 0 ∧ F 120 3 = 0 ∧ F 138 0 = 0 ∧ F 138 1 = 0 ∧ F 138 2 = 0 ∧ F 138 3 = 0 ∧ F 138 4 = 0 ∧ F 138 5 = 0 ∧ F 138 6 = 0 ∧ F 138 7 = 0
section ZMO
variable {F : Nat → Nat → Int32} {G : Nat → Nat → Option Nat} {L : Nat → Int64}
theorem m_rf0 (d : Nat) : zCr (d + 1) 21 [.ref 113, .int 0] (zHx F G L) (.inl (some (.int 0))) (zHt F G L 0) := by
  refine zx_in rfl rfl ?_
  refine zx_go 19 rfl ?_
  exact zx_r rfl rfl
theorem m_rf1 (d : Nat) : zCr (d + 1) 21 [.ref 113, .int 1] (zHx F G L) (.inl (some (.int 1))) (zHt F G L 1) := by
  refine zx_in rfl rfl ?_
  refine zx_go 19 rfl ?_
  exact zx_r rfl rfl
theorem m_rf2 (d : Nat) : zCr (d + 1) 21 [.ref 113, .int 2] (zHx F G L) (.inl (some (.int 1))) (zHt F G L 2) := by
  refine zx_in rfl rfl ?_
  refine zx_go 19 rfl ?_
  exact zx_r rfl rfl
theorem m_destroy_0 (p0 : Int32) (h0 : zwi p0 0 3 = 0) (d : Nat) : zCr (d + 2) 44 [.ref 113, .int p0] (zHx F G L) (.inl (some (.int 0))) (zHt F G L 1) := by
  refine zx_in rfl rfl ?_
  refine zx_gp 19 rfl ?_
  refine zx_c rfl rfl rfl rfl (w_isIn' (lo := 0) (hi := 3) h0 _ _) ?_
  refine zx_gp 19 rfl ?_
  refine zx_c rfl rfl rfl rfl (m_rf1 _) ?_
  refine zx_gp 19 rfl ?_
  exact zx_r rfl rfl
theorem m_destroy_t0 (hF : zFk F)  (d : Nat) : zCr (d + 2) 44 [.ref 113, .int 0] (zHx F G L) (.inl (some (.int 0))) (zHt F G L 2) := by
  refine zx_in rfl rfl ?_
  refine zx_gp 19 rfl ?_
  refine zx_c rfl rfl rfl rfl (w_isIn' (lo := 0) (hi := 3) (show zwi 0 0 3 = 1 by decide) _ _) ?_
  refine zx_gp 19 rfl ?_
  refine zx_bal rfl rfl rfl rfl hF.1 ?_
  refine zx_gp 19 rfl ?_
  refine zx_c rfl rfl rfl rfl (m_rf2 _) ?_
  refine zx_gp 19 rfl ?_
  exact zx_r rfl rfl
theorem m_destroy_t1 (hF : zFk F)  (d : Nat) : zCr (d + 2) 44 [.ref 113, .int 1] (zHx F G L) (.inl (some (.int 0))) (zHt F G L 2) := by
  refine zx_in rfl rfl ?_
  refine zx_gp 19 rfl ?_
  refine zx_c rfl rfl rfl rfl (w_isIn' (lo := 0) (hi := 3) (show zwi 1 0 3 = 1 by decide) _ _) ?_
  refine zx_gp 19 rfl ?_
  refine zx_bal rfl rfl rfl rfl hF.2.1 ?_
  refine zx_gp 19 rfl ?_
  refine zx_c rfl rfl rfl rfl (m_rf2 _) ?_
  refine zx_gp 19 rfl ?_
  exact zx_r rfl rfl
theorem m_destroy_t2 (hF : zFk F)  (d : Nat) : zCr (d + 2) 44 [.ref 113, .int 2] (zHx F G L) (.inl (some (.int 0))) (zHt F G L 2) := by
  refine zx_in rfl rfl ?_
  refine zx_gp 19 rfl ?_
  refine zx_c rfl rfl rfl rfl (w_isIn' (lo := 0) (hi := 3) (show zwi 2 0 3 = 1 by decide) _ _) ?_
  refine zx_gp 19 rfl ?_
  refine zx_bal rfl rfl rfl rfl hF.2.2.1 ?_
  refine zx_gp 19 rfl ?_
  refine zx_c rfl rfl rfl rfl (m_rf2 _) ?_
  refine zx_gp 19 rfl ?_
  exact zx_r rfl rfl
theorem m_destroy_t3 (hF : zFk F)  (d : Nat) : zCr (d + 2) 44 [.ref 113, .int 3] (zHx F G L) (.inl (some (.int 0))) (zHt F G L 2) := by
  refine zx_in rfl rfl ?_
  refine zx_gp 19 rfl ?_
  refine zx_c rfl rfl rfl rfl (w_isIn' (lo := 0) (hi := 3) (show zwi 3 0 3 = 1 by decide) _ _) ?_
  refine zx_gp 19 rfl ?_
  refine zx_bal rfl rfl rfl rfl hF.2.2.2.1 ?_
  refine zx_gp 19 rfl ?_
  refine zx_c rfl rfl rfl rfl (m_rf2 _) ?_
  refine zx_gp 19 rfl ?_
  exact zx_r rfl rfl
theorem m_vcpu_0 (p0 : Int32) (h0 : zwi p0 0 3 = 0) (d : Nat) : zCr (d + 2) 51 [.ref 113, .int p0] (zHx F G L) (.inl (some (.int 0))) (zHt F G L 1) := by
  refine zx_in rfl rfl ?_
  refine zx_gp 19 rfl ?_
  refine zx_c rfl rfl rfl rfl (w_isIn' (lo := 0) (hi := 3) h0 _ _) ?_
  refine zx_gp 19 rfl ?_
  refine zx_c rfl rfl rfl rfl (m_rf1 _) ?_
  refine zx_gp 19 rfl ?_
  exact zx_r rfl rfl
theorem m_vcpu_t0 (hF : zFk F)  (d : Nat) : zCr (d + 2) 51 [.ref 113, .int 0] (zHx F G L) (.inl (some (.int 0))) (zHt F G L 2) := by
  refine zx_in rfl rfl ?_
  refine zx_gp 19 rfl ?_
  refine zx_c rfl rfl rfl rfl (w_isIn' (lo := 0) (hi := 3) (show zwi 0 0 3 = 1 by decide) _ _) ?_
  refine zx_gp 19 rfl ?_
  refine zx_bal rfl rfl rfl rfl hF.1 ?_
  refine zx_gp 19 rfl ?_
  refine zx_c rfl rfl rfl rfl (m_rf2 _) ?_
  refine zx_gp 19 rfl ?_
  exact zx_r rfl rfl
theorem m_vcpu_t1 (hF : zFk F)  (d : Nat) : zCr (d + 2) 51 [.ref 113, .int 1] (zHx F G L) (.inl (some (.int 0))) (zHt F G L 2) := by
  refine zx_in rfl rfl ?_
  refine zx_gp 19 rfl ?_
  refine zx_c rfl rfl rfl rfl (w_isIn' (lo := 0) (hi := 3) (show zwi 1 0 3 = 1 by decide) _ _) ?_
  refine zx_gp 19 rfl ?_
  refine zx_bal rfl rfl rfl rfl hF.2.1 ?_
  refine zx_gp 19 rfl ?_
  refine zx_c rfl rfl rfl rfl (m_rf2 _) ?_
  refine zx_gp 19 rfl ?_
  exact zx_r rfl rfl
theorem m_vcpu_t2 (hF : zFk F)  (d : Nat) : zCr (d + 2) 51 [.ref 113, .int 2] (zHx F G L) (.inl (some (.int 0))) (zHt F G L 2) := by
  refine zx_in rfl rfl ?_
  refine zx_gp 19 rfl ?_
  refine zx_c rfl rfl rfl rfl (w_isIn' (lo := 0) (hi := 3) (show zwi 2 0 3 = 1 by decide) _ _) ?_
  refine zx_gp 19 rfl ?_
  refine zx_bal rfl rfl rfl rfl hF.2.2.1 ?_
  refine zx_gp 19 rfl ?_
  refine zx_c rfl rfl rfl rfl (m_rf2 _) ?_
  refine zx_gp 19 rfl ?_
  exact zx_r rfl rfl
theorem m_vcpu_t3 (hF : zFk F)  (d : Nat) : zCr (d + 2) 51 [.ref 113, .int 3] (zHx F G L) (.inl (some (.int 0))) (zHt F G L 2) := by
  refine zx_in rfl rfl ?_
  refine zx_gp 19 rfl ?_
  refine zx_c rfl rfl rfl rfl (w_isIn' (lo := 0) (hi := 3) (show zwi 3 0 3 = 1 by decide) _ _) ?_
  refine zx_gp 19 rfl ?_
  refine zx_bal rfl rfl rfl rfl hF.2.2.2.1 ?_
  refine zx_gp 19 rfl ?_
  refine zx_c rfl rfl rfl rfl (m_rf2 _) ?_
  refine zx_gp 19 rfl ?_
  exact zx_r rfl rfl
theorem m_get_0 (p0 p1 : Int32) (h0 : zwi p0 0 7 = 0) (d : Nat) : zCr (d + 2) 60 [.ref 113, .int p0, .int p1] (zHx F G L) (.inl (some (.int 0))) (zHt F G L 1) := by
  refine zx_in rfl rfl ?_
  refine zx_gp 19 rfl ?_
  refine zx_c rfl rfl rfl rfl (w_isIn' (lo := 0) (hi := 7) h0 _ _) ?_
  refine zx_gp 19 rfl ?_
  refine zx_c rfl rfl rfl rfl (m_rf1 _) ?_
  refine zx_gp 19 rfl ?_
  exact zx_r rfl rfl
theorem m_get_1 (p0 p1 : Int32) (h0 : zwi p0 0 7 = 1) (h1 : zwi p1 0 18 = 0) (d : Nat) : zCr (d + 2) 60 [.ref 113, .int p0, .int p1] (zHx F G L) (.inl (some (.int 0))) (zHt F G L 1) := by
  refine zx_in rfl rfl ?_
  refine zx_gp 19 rfl ?_
  refine zx_c rfl rfl rfl rfl (w_isIn' (lo := 0) (hi := 7) h0 _ _) ?_
  refine zx_gp 19 rfl ?_
  refine zx_c rfl rfl rfl rfl (w_isIn' (lo := 0) (hi := 18) h1 _ _) ?_
  refine zx_gp 19 rfl ?_
  refine zx_c rfl rfl rfl rfl (m_rf1 _) ?_
  refine zx_gp 19 rfl ?_
  exact zx_r rfl rfl
theorem m_get_t0 (hF : zFk F) (p1 : Int32) (h1 : zwi p1 0 18 = 1) (d : Nat) : zCr (d + 2) 60 [.ref 113, .int 0, .int p1] (zHx F G L) (.inl (some (.int 0))) (zHt F G L 2) := by
  refine zx_in rfl rfl ?_
  refine zx_gp 19 rfl ?_
  refine zx_c rfl rfl rfl rfl (w_isIn' (lo := 0) (hi := 7) (show zwi 0 0 7 = 1 by decide) _ _) ?_
  refine zx_gp 19 rfl ?_
  refine zx_c rfl rfl rfl rfl (w_isIn' (lo := 0) (hi := 18) h1 _ _) ?_
  refine zx_gp 19 rfl ?_
  refine zx_bal rfl rfl rfl rfl hF.2.2.2.2.1 ?_
  refine zx_gp 19 rfl ?_
  refine zx_c rfl rfl rfl rfl (m_rf2 _) ?_
  refine zx_gp 19 rfl ?_
  exact zx_r rfl rfl
theorem m_get_t1 (hF : zFk F) (p1 : Int32) (h1 : zwi p1 0 18 = 1) (d : Nat) : zCr (d + 2) 60 [.ref 113, .int 1, .int p1] (zHx F G L) (.inl (some (.int 0))) (zHt F G L 2) := by
  refine zx_in rfl rfl ?_
  refine zx_gp 19 rfl ?_
  refine zx_c rfl rfl rfl rfl (w_isIn' (lo := 0) (hi := 7) (show zwi 1 0 7 = 1 by decide) _ _) ?_
  refine zx_gp 19 rfl ?_
  refine zx_c rfl rfl rfl rfl (w_isIn' (lo := 0) (hi := 18) h1 _ _) ?_
  refine zx_gp 19 rfl ?_
  refine zx_bal rfl rfl rfl rfl hF.2.2.2.2.2.1 ?_
  refine zx_gp 19 rfl ?_
  refine zx_c rfl rfl rfl rfl (m_rf2 _) ?_
  refine zx_gp 19 rfl ?_
  exact zx_r rfl rfl
theorem m_get_t2 (hF : zFk F) (p1 : Int32) (h1 : zwi p1 0 18 = 1) (d : Nat) : zCr (d + 2) 60 [.ref 113, .int 2, .int p1] (zHx F G L) (.inl (some (.int 0))) (zHt F G L 2) := by
  refine zx_in rfl rfl ?_
  refine zx_gp 19 rfl ?_
  refine zx_c rfl rfl rfl rfl (w_isIn' (lo := 0) (hi := 7) (show zwi 2 0 7 = 1 by decide) _ _) ?_
  refine zx_gp 19 rfl ?_
  refine zx_c rfl rfl rfl rfl (w_isIn' (lo := 0) (hi := 18) h1 _ _) ?_
  refine zx_gp 19 rfl ?_
  refine zx_bal rfl rfl rfl rfl hF.2.2.2.2.2.2.1 ?_
  refine zx_gp 19 rfl ?_
  refine zx_c rfl rfl rfl rfl (m_rf2 _) ?_
  refine zx_gp 19 rfl ?_
  exact zx_r rfl rfl
theorem m_get_t3 (hF : zFk F) (p1 : Int32) (h1 : zwi p1 0 18 = 1) (d : Nat) : zCr (d + 2) 60 [.ref 113, .int 3, .int p1] (zHx F G L) (.inl (some (.int 0))) (zHt F G L 2) := by
  refine zx_in rfl rfl ?_
  refine zx_gp 19 rfl ?_
  refine zx_c rfl rfl rfl rfl (w_isIn' (lo := 0) (hi := 7) (show zwi 3 0 7 = 1 by decide) _ _) ?_
  refine zx_gp 19 rfl ?_
  refine zx_c rfl rfl rfl rfl (w_isIn' (lo := 0) (hi := 18) h1 _ _) ?_
  refine zx_gp 19 rfl ?_
  refine zx_bal rfl rfl rfl rfl hF.2.2.2.2.2.2.2.1 ?_
  refine zx_gp 19 rfl ?_
  refine zx_c rfl rfl rfl rfl (m_rf2 _) ?_
  refine zx_gp 19 rfl ?_
  exact zx_r rfl rfl
theorem m_get_t4 (hF : zFk F) (p1 : Int32) (h1 : zwi p1 0 18 = 1) (d : Nat) : zCr (d + 2) 60 [.ref 113, .int 4, .int p1] (zHx F G L) (.inl (some (.int 0))) (zHt F G L 2) := by
  refine zx_in rfl rfl ?_
  refine zx_gp 19 rfl ?_
  refine zx_c rfl rfl rfl rfl (w_isIn' (lo := 0) (hi := 7) (show zwi 4 0 7 = 1 by decide) _ _) ?_
  refine zx_gp 19 rfl ?_
  refine zx_c rfl rfl rfl rfl (w_isIn' (lo := 0) (hi := 18) h1 _ _) ?_
  refine zx_gp 19 rfl ?_
  refine zx_bal rfl rfl rfl rfl hF.2.2.2.2.2.2.2.2.1 ?_
  refine zx_gp 19 rfl ?_
  refine zx_c rfl rfl rfl rfl (m_rf2 _) ?_
  refine zx_gp 19 rfl ?_
  exact zx_r rfl rfl
theorem m_get_t5 (hF : zFk F) (p1 : Int32) (h1 : zwi p1 0 18 = 1) (d : Nat) : zCr (d + 2) 60 [.ref 113, .int 5, .int p1] (zHx F G L) (.inl (some (.int 0))) (zHt F G L 2) := by
  refine zx_in rfl rfl ?_
  refine zx_gp 19 rfl ?_
  refine zx_c rfl rfl rfl rfl (w_isIn' (lo := 0) (hi := 7) (show zwi 5 0 7 = 1 by decide) _ _) ?_
  refine zx_gp 19 rfl ?_
  refine zx_c rfl rfl rfl rfl (w_isIn' (lo := 0) (hi := 18) h1 _ _) ?_
  refine zx_gp 19 rfl ?_
  refine zx_bal rfl rfl rfl rfl hF.2.2.2.2.2.2.2.2.2.1 ?_
  refine zx_gp 19 rfl ?_
  refine zx_c rfl rfl rfl rfl (m_rf2 _) ?_
  refine zx_gp 19 rfl ?_
  exact zx_r rfl rfl
theorem m_get_t6 (hF : zFk F) (p1 : Int32) (h1 : zwi p1 0 18 = 1) (d : Nat) : zCr (d + 2) 60 [.ref 113, .int 6, .int p1] (zHx F G L) (.inl (some (.int 0))) (zHt F G L 2) := by
  refine zx_in rfl rfl ?_
  refine zx_gp 19 rfl ?_
  refine zx_c rfl rfl rfl rfl (w_isIn' (lo := 0) (hi := 7) (show zwi 6 0 7 = 1 by decide) _ _) ?_
  refine zx_gp 19 rfl ?_
  refine zx_c rfl rfl rfl rfl (w_isIn' (lo := 0) (hi := 18) h1 _ _) ?_
  refine zx_gp 19 rfl ?_
  refine zx_bal rfl rfl rfl rfl hF.2.2.2.2.2.2.2.2.2.2.1 ?_
  refine zx_gp 19 rfl ?_
  refine zx_c rfl rfl rfl rfl (m_rf2 _) ?_
  refine zx_gp 19 rfl ?_
  exact zx_r rfl rfl
theorem m_get_t7 (hF : zFk F) (p1 : Int32) (h1 : zwi p1 0 18 = 1) (d : Nat) : zCr (d + 2) 60 [.ref 113, .int 7, .int p1] (zHx F G L) (.inl (some (.int 0))) (zHt F G L 2) := by
  refine zx_in rfl rfl ?_
  refine zx_gp 19 rfl ?_
  refine zx_c rfl rfl rfl rfl (w_isIn' (lo := 0) (hi := 7) (show zwi 7 0 7 = 1 by decide) _ _) ?_
  refine zx_gp 19 rfl ?_
  refine zx_c rfl rfl rfl rfl (w_isIn' (lo := 0) (hi := 18) h1 _ _) ?_
  refine zx_gp 19 rfl ?_
  refine zx_bal rfl rfl rfl rfl hF.2.2.2.2.2.2.2.2.2.2.2 ?_
  refine zx_gp 19 rfl ?_
  refine zx_c rfl rfl rfl rfl (m_rf2 _) ?_
  refine zx_gp 19 rfl ?_
  exact zx_r rfl rfl
theorem m_access_0 (p0 p1 p2 p3 : Int32) (h0 : zwi p0 0 7 = 0) (d : Nat) : zCr (d + 2) 129 [.ref 113, .int p0, .int p1, .int p2, .int p3] (zHx F G L) (.inl (some (.int 0))) (zHt F G L 1) := by
  refine zx_in rfl rfl ?_
  refine zx_gp 19 rfl ?_
  refine zx_c rfl rfl rfl rfl (w_isIn' (lo := 0) (hi := 7) h0 _ _) ?_
  refine zx_gp 19 rfl ?_
  refine zx_c rfl rfl rfl rfl (m_rf1 _) ?_
  refine zx_gp 19 rfl ?_
  exact zx_r rfl rfl
theorem m_access_1 (p0 p1 p2 p3 : Int32) (h0 : zwi p0 0 7 = 1) (h1 : zwi p1 0 2 = 0) (d : Nat) : zCr (d + 2) 129 [.ref 113, .int p0, .int p1, .int p2, .int p3] (zHx F G L) (.inl (some (.int 0))) (zHt F G L 1) := by
  refine zx_in rfl rfl ?_
  refine zx_gp 19 rfl ?_
  refine zx_c rfl rfl rfl rfl (w_isIn' (lo := 0) (hi := 7) h0 _ _) ?_
  refine zx_gp 19 rfl ?_
  refine zx_c rfl rfl rfl rfl (w_isIn' (lo := 0) (hi := 2) h1 _ _) ?_
  refine zx_gp 19 rfl ?_
  refine zx_c rfl rfl rfl rfl (m_rf1 _) ?_
  refine zx_gp 19 rfl ?_
  exact zx_r rfl rfl
theorem m_access_2 (p0 p1 p2 p3 : Int32) (h0 : zwi p0 0 7 = 1) (h1 : zwi p1 0 2 = 1) (h2 : zwi p2 0 4095 = 0) (d : Nat) : zCr (d + 2) 129 [.ref 113, .int p0, .int p1, .int p2, .int p3] (zHx F G L) (.inl (some (.int 0))) (zHt F G L 1) := by
  refine zx_in rfl rfl ?_
  refine zx_gp 19 rfl ?_
  refine zx_c rfl rfl rfl rfl (w_isIn' (lo := 0) (hi := 7) h0 _ _) ?_
  refine zx_gp 19 rfl ?_
  refine zx_c rfl rfl rfl rfl (w_isIn' (lo := 0) (hi := 2) h1 _ _) ?_
  refine zx_gp 19 rfl ?_
  refine zx_c rfl rfl rfl rfl (w_isIn' (lo := 0) (hi := 4095) h2 _ _) ?_
  refine zx_gp 19 rfl ?_
  refine zx_c rfl rfl rfl rfl (m_rf1 _) ?_
  refine zx_gp 19 rfl ?_
  exact zx_r rfl rfl
theorem m_access_3 (p0 p1 p2 p3 : Int32) (h0 : zwi p0 0 7 = 1) (h1 : zwi p1 0 2 = 1) (h2 : zwi p2 0 4095 = 1) (h3 : zwi p3 0 65535 = 0) (d : Nat) : zCr (d + 2) 129 [.ref 113, .int p0, .int p1, .int p2, .int p3] (zHx F G L) (.inl (some (.int 0))) (zHt F G L 1) := by
  refine zx_in rfl rfl ?_
  refine zx_gp 19 rfl ?_
  refine zx_c rfl rfl rfl rfl (w_isIn' (lo := 0) (hi := 7) h0 _ _) ?_
  refine zx_gp 19 rfl ?_
  refine zx_c rfl rfl rfl rfl (w_isIn' (lo := 0) (hi := 2) h1 _ _) ?_
  refine zx_gp 19 rfl ?_
  refine zx_c rfl rfl rfl rfl (w_isIn' (lo := 0) (hi := 4095) h2 _ _) ?_
  refine zx_gp 19 rfl ?_
  refine zx_c rfl rfl rfl rfl (w_isIn' (lo := 0) (hi := 65535) h3 _ _) ?_
  refine zx_gp 19 rfl ?_
  refine zx_c rfl rfl rfl rfl (m_rf1 _) ?_
  refine zx_gp 19 rfl ?_
  exact zx_r rfl rfl
theorem m_access_t0 (hF : zFk F) (p1 p2 p3 : Int32) (h1 : zwi p1 0 2 = 1) (h2 : zwi p2 0 4095 = 1) (h3 : zwi p3 0 65535 = 1) (d : Nat) : zCr (d + 2) 129 [.ref 113, .int 0, .int p1, .int p2, .int p3] (zHx F G L) (.inl (some (.int 0))) (zHt F G L 2) := by
  refine zx_in rfl rfl ?_
  refine zx_gp 19 rfl ?_
  refine zx_c rfl rfl rfl rfl (w_isIn' (lo := 0) (hi := 7) (show zwi 0 0 7 = 1 by decide) _ _) ?_
  refine zx_gp 19 rfl ?_
  refine zx_c rfl rfl rfl rfl (w_isIn' (lo := 0) (hi := 2) h1 _ _) ?_
  refine zx_gp 19 rfl ?_
  refine zx_c rfl rfl rfl rfl (w_isIn' (lo := 0) (hi := 4095) h2 _ _) ?_
  refine zx_gp 19 rfl ?_
  refine zx_c rfl rfl rfl rfl (w_isIn' (lo := 0) (hi := 65535) h3 _ _) ?_
  refine zx_gp 19 rfl ?_
  refine zx_bal rfl rfl rfl rfl hF.2.2.2.2.1 ?_
  refine zx_gp 19 rfl ?_
  refine zx_c rfl rfl rfl rfl (m_rf2 _) ?_
  refine zx_gp 19 rfl ?_
  exact zx_r rfl rfl
theorem m_access_t1 (hF : zFk F) (p1 p2 p3 : Int32) (h1 : zwi p1 0 2 = 1) (h2 : zwi p2 0 4095 = 1) (h3 : zwi p3 0 65535 = 1) (d : Nat) : zCr (d + 2) 129 [.ref 113, .int 1, .int p1, .int p2, .int p3] (zHx F G L) (.inl (some (.int 0))) (zHt F G L 2) := by
  refine zx_in rfl rfl ?_
  refine zx_gp 19 rfl ?_
  refine zx_c rfl rfl rfl rfl (w_isIn' (lo := 0) (hi := 7) (show zwi 1 0 7 = 1 by decide) _ _) ?_
  refine zx_gp 19 rfl ?_
  refine zx_c rfl rfl rfl rfl (w_isIn' (lo := 0) (hi := 2) h1 _ _) ?_
  refine zx_gp 19 rfl ?_
  refine zx_c rfl rfl rfl rfl (w_isIn' (lo := 0) (hi := 4095) h2 _ _) ?_
  refine zx_gp 19 rfl ?_
  refine zx_c rfl rfl rfl rfl (w_isIn' (lo := 0) (hi := 65535) h3 _ _) ?_
  refine zx_gp 19 rfl ?_
  refine zx_bal rfl rfl rfl rfl hF.2.2.2.2.2.1 ?_
  refine zx_gp 19 rfl ?_
  refine zx_c rfl rfl rfl rfl (m_rf2 _) ?_
  refine zx_gp 19 rfl ?_
  exact zx_r rfl rfl
theorem m_access_t2 (hF : zFk F) (p1 p2 p3 : Int32) (h1 : zwi p1 0 2 = 1) (h2 : zwi p2 0 4095 = 1) (h3 : zwi p3 0 65535 = 1) (d : Nat) : zCr (d + 2) 129 [.ref 113, .int 2, .int p1, .int p2, .int p3] (zHx F G L) (.inl (some (.int 0))) (zHt F G L 2) := by
  refine zx_in rfl rfl ?_
  refine zx_gp 19 rfl ?_
  refine zx_c rfl rfl rfl rfl (w_isIn' (lo := 0) (hi := 7) (show zwi 2 0 7 = 1 by decide) _ _) ?_
  refine zx_gp 19 rfl ?_
  refine zx_c rfl rfl rfl rfl (w_isIn' (lo := 0) (hi := 2) h1 _ _) ?_
  refine zx_gp 19 rfl ?_
  refine zx_c rfl rfl rfl rfl (w_isIn' (lo := 0) (hi := 4095) h2 _ _) ?_
  refine zx_gp 19 rfl ?_
  refine zx_c rfl rfl rfl rfl (w_isIn' (lo := 0) (hi := 65535) h3 _ _) ?_
  refine zx_gp 19 rfl ?_
  refine zx_bal rfl rfl rfl rfl hF.2.2.2.2.2.2.1 ?_
  refine zx_gp 19 rfl ?_
  refine zx_c rfl rfl rfl rfl (m_rf2 _) ?_
  refine zx_gp 19 rfl ?_
  exact zx_r rfl rfl
theorem m_access_t3 (hF : zFk F) (p1 p2 p3 : Int32) (h1 : zwi p1 0 2 = 1) (h2 : zwi p2 0 4095 = 1) (h3 : zwi p3 0 65535 = 1) (d : Nat) : zCr (d + 2) 129 [.ref 113, .int 3, .int p1, .int p2, .int p3] (zHx F G L) (.inl (some (.int 0))) (zHt F G L 2) := by
  refine zx_in rfl rfl ?_
  refine zx_gp 19 rfl ?_
  refine zx_c rfl rfl rfl rfl (w_isIn' (lo := 0) (hi := 7) (show zwi 3 0 7 = 1 by decide) _ _) ?_
  refine zx_gp 19 rfl ?_
  refine zx_c rfl rfl rfl rfl (w_isIn' (lo := 0) (hi := 2) h1 _ _) ?_
  refine zx_gp 19 rfl ?_
  refine zx_c rfl rfl rfl rfl (w_isIn' (lo := 0) (hi := 4095) h2 _ _) ?_
  refine zx_gp 19 rfl ?_
  refine zx_c rfl rfl rfl rfl (w_isIn' (lo := 0) (hi := 65535) h3 _ _) ?_
  refine zx_gp 19 rfl ?_
  refine zx_bal rfl rfl rfl rfl hF.2.2.2.2.2.2.2.1 ?_
  refine zx_gp 19 rfl ?_
  refine zx_c rfl rfl rfl rfl (m_rf2 _) ?_
  refine zx_gp 19 rfl ?_
  exact zx_r rfl rfl
theorem m_access_t4 (hF : zFk F) (p1 p2 p3 : Int32) (h1 : zwi p1 0 2 = 1) (h2 : zwi p2 0 4095 = 1) (h3 : zwi p3 0 65535 = 1) (d : Nat) : zCr (d + 2) 129 [.ref 113, .int 4, .int p1, .int p2, .int p3] (zHx F G L) (.inl (some (.int 0))) (zHt F G L 2) := by
  refine zx_in rfl rfl ?_
  refine zx_gp 19 rfl ?_
  refine zx_c rfl rfl rfl rfl (w_isIn' (lo := 0) (hi := 7) (show zwi 4 0 7 = 1 by decide) _ _) ?_
  refine zx_gp 19 rfl ?_
  refine zx_c rfl rfl rfl rfl (w_isIn' (lo := 0) (hi := 2) h1 _ _) ?_
  refine zx_gp 19 rfl ?_
  refine zx_c rfl rfl rfl rfl (w_isIn' (lo := 0) (hi := 4095) h2 _ _) ?_
  refine zx_gp 19 rfl ?_
  refine zx_c rfl rfl rfl rfl (w_isIn' (lo := 0) (hi := 65535) h3 _ _) ?_
  refine zx_gp 19 rfl ?_
  refine zx_bal rfl rfl rfl rfl hF.2.2.2.2.2.2.2.2.1 ?_
  refine zx_gp 19 rfl ?_
  refine zx_c rfl rfl rfl rfl (m_rf2 _) ?_
  refine zx_gp 19 rfl ?_
  exact zx_r rfl rfl
theorem m_access_t5 (hF : zFk F) (p1 p2 p3 : Int32) (h1 : zwi p1 0 2 = 1) (h2 : zwi p2 0 4095 = 1) (h3 : zwi p3 0 65535 = 1) (d : Nat) : zCr (d + 2) 129 [.ref 113, .int 5, .int p1, .int p2, .int p3] (zHx F G L) (.inl (some (.int 0))) (zHt F G L 2) := by
  refine zx_in rfl rfl ?_
  refine zx_gp 19 rfl ?_
  refine zx_c rfl rfl rfl rfl (w_isIn' (lo := 0) (hi := 7) (show zwi 5 0 7 = 1 by decide) _ _) ?_
  refine zx_gp 19 rfl ?_
  refine zx_c rfl rfl rfl rfl (w_isIn' (lo := 0) (hi := 2) h1 _ _) ?_
  refine zx_gp 19 rfl ?_
  refine zx_c rfl rfl rfl rfl (w_isIn' (lo := 0) (hi := 4095) h2 _ _) ?_
  refine zx_gp 19 rfl ?_
  refine zx_c rfl rfl rfl rfl (w_isIn' (lo := 0) (hi := 65535) h3 _ _) ?_
  refine zx_gp 19 rfl ?_
  refine zx_bal rfl rfl rfl rfl hF.2.2.2.2.2.2.2.2.2.1 ?_
  refine zx_gp 19 rfl ?_
  refine zx_c rfl rfl rfl rfl (m_rf2 _) ?_
  refine zx_gp 19 rfl ?_
  exact zx_r rfl rfl
theorem m_access_t6 (hF : zFk F) (p1 p2 p3 : Int32) (h1 : zwi p1 0 2 = 1) (h2 : zwi p2 0 4095 = 1) (h3 : zwi p3 0 65535 = 1) (d : Nat) : zCr (d + 2) 129 [.ref 113, .int 6, .int p1, .int p2, .int p3] (zHx F G L) (.inl (some (.int 0))) (zHt F G L 2) := by
  refine zx_in rfl rfl ?_
  refine zx_gp 19 rfl ?_
  refine zx_c rfl rfl rfl rfl (w_isIn' (lo := 0) (hi := 7) (show zwi 6 0 7 = 1 by decide) _ _) ?_
  refine zx_gp 19 rfl ?_
  refine zx_c rfl rfl rfl rfl (w_isIn' (lo := 0) (hi := 2) h1 _ _) ?_
  refine zx_gp 19 rfl ?_
  refine zx_c rfl rfl rfl rfl (w_isIn' (lo := 0) (hi := 4095) h2 _ _) ?_
  refine zx_gp 19 rfl ?_
  refine zx_c rfl rfl rfl rfl (w_isIn' (lo := 0) (hi := 65535) h3 _ _) ?_
  refine zx_gp 19 rfl ?_
  refine zx_bal rfl rfl rfl rfl hF.2.2.2.2.2.2.2.2.2.2.1 ?_
  refine zx_gp 19 rfl ?_
  refine zx_c rfl rfl rfl rfl (m_rf2 _) ?_
  refine zx_gp 19 rfl ?_
  exact zx_r rfl rfl
theorem m_access_t7 (hF : zFk F) (p1 p2 p3 : Int32) (h1 : zwi p1 0 2 = 1) (h2 : zwi p2 0 4095 = 1) (h3 : zwi p3 0 65535 = 1) (d : Nat) : zCr (d + 2) 129 [.ref 113, .int 7, .int p1, .int p2, .int p3] (zHx F G L) (.inl (some (.int 0))) (zHt F G L 2) := by
  refine zx_in rfl rfl ?_
  refine zx_gp 19 rfl ?_
  refine zx_c rfl rfl rfl rfl (w_isIn' (lo := 0) (hi := 7) (show zwi 7 0 7 = 1 by decide) _ _) ?_
  refine zx_gp 19 rfl ?_
  refine zx_c rfl rfl rfl rfl (w_isIn' (lo := 0) (hi := 2) h1 _ _) ?_
  refine zx_gp 19 rfl ?_
  refine zx_c rfl rfl rfl rfl (w_isIn' (lo := 0) (hi := 4095) h2 _ _) ?_
  refine zx_gp 19 rfl ?_
  refine zx_c rfl rfl rfl rfl (w_isIn' (lo := 0) (hi := 65535) h3 _ _) ?_
  refine zx_gp 19 rfl ?_
  refine zx_bal rfl rfl rfl rfl hF.2.2.2.2.2.2.2.2.2.2.2 ?_
  refine zx_gp 19 rfl ?_
  refine zx_c rfl rfl rfl rfl (m_rf2 _) ?_
  refine zx_gp 19 rfl ?_
  exact zx_r rfl rfl
theorem m_run_0 (p0 p1 : Int32) (h0 : zwi p0 0 7 = 0) (d : Nat) : zCr (d + 2) 154 [.ref 113, .int p0, .int p1] (zHx F G L) (.inl (some (.int 0))) (zHt F G L 1) := by
  refine zx_in rfl rfl ?_
  refine zx_gp 19 rfl ?_
  refine zx_c rfl rfl rfl rfl (w_isIn' (lo := 0) (hi := 7) h0 _ _) ?_
  refine zx_gp 19 rfl ?_
  refine zx_c rfl rfl rfl rfl (m_rf1 _) ?_
  refine zx_gp 19 rfl ?_
  exact zx_r rfl rfl
theorem m_run_1 (p0 p1 : Int32) (h0 : zwi p0 0 7 = 1) (h1 : zwi p1 1 1000 = 0) (d : Nat) : zCr (d + 2) 154 [.ref 113, .int p0, .int p1] (zHx F G L) (.inl (some (.int 0))) (zHt F G L 1) := by
  refine zx_in rfl rfl ?_
  refine zx_gp 19 rfl ?_
  refine zx_c rfl rfl rfl rfl (w_isIn' (lo := 0) (hi := 7) h0 _ _) ?_
  refine zx_gp 19 rfl ?_
  refine zx_c rfl rfl rfl rfl (w_isIn' (lo := 1) (hi := 1000) h1 _ _) ?_
  refine zx_gp 19 rfl ?_
  refine zx_c rfl rfl rfl rfl (m_rf1 _) ?_
  refine zx_gp 19 rfl ?_
  exact zx_r rfl rfl
theorem m_run_t0 (hF : zFk F) (p1 : Int32) (h1 : zwi p1 1 1000 = 1) (d : Nat) : zCr (d + 2) 154 [.ref 113, .int 0, .int p1] (zHx F G L) (.inl (some (.int 0))) (zHt F G L 2) := by
  refine zx_in rfl rfl ?_
  refine zx_gp 19 rfl ?_
  refine zx_c rfl rfl rfl rfl (w_isIn' (lo := 0) (hi := 7) (show zwi 0 0 7 = 1 by decide) _ _) ?_
  refine zx_gp 19 rfl ?_
  refine zx_c rfl rfl rfl rfl (w_isIn' (lo := 1) (hi := 1000) h1 _ _) ?_
  refine zx_gp 19 rfl ?_
  refine zx_bal rfl rfl rfl rfl hF.2.2.2.2.1 ?_
  refine zx_gp 19 rfl ?_
  refine zx_c rfl rfl rfl rfl (m_rf2 _) ?_
  refine zx_gp 19 rfl ?_
  exact zx_r rfl rfl
theorem m_run_t1 (hF : zFk F) (p1 : Int32) (h1 : zwi p1 1 1000 = 1) (d : Nat) : zCr (d + 2) 154 [.ref 113, .int 1, .int p1] (zHx F G L) (.inl (some (.int 0))) (zHt F G L 2) := by
  refine zx_in rfl rfl ?_
  refine zx_gp 19 rfl ?_
  refine zx_c rfl rfl rfl rfl (w_isIn' (lo := 0) (hi := 7) (show zwi 1 0 7 = 1 by decide) _ _) ?_
  refine zx_gp 19 rfl ?_
  refine zx_c rfl rfl rfl rfl (w_isIn' (lo := 1) (hi := 1000) h1 _ _) ?_
  refine zx_gp 19 rfl ?_
  refine zx_bal rfl rfl rfl rfl hF.2.2.2.2.2.1 ?_
  refine zx_gp 19 rfl ?_
  refine zx_c rfl rfl rfl rfl (m_rf2 _) ?_
  refine zx_gp 19 rfl ?_
  exact zx_r rfl rfl
theorem m_run_t2 (hF : zFk F) (p1 : Int32) (h1 : zwi p1 1 1000 = 1) (d : Nat) : zCr (d + 2) 154 [.ref 113, .int 2, .int p1] (zHx F G L) (.inl (some (.int 0))) (zHt F G L 2) := by
  refine zx_in rfl rfl ?_
  refine zx_gp 19 rfl ?_
  refine zx_c rfl rfl rfl rfl (w_isIn' (lo := 0) (hi := 7) (show zwi 2 0 7 = 1 by decide) _ _) ?_
  refine zx_gp 19 rfl ?_
  refine zx_c rfl rfl rfl rfl (w_isIn' (lo := 1) (hi := 1000) h1 _ _) ?_
  refine zx_gp 19 rfl ?_
  refine zx_bal rfl rfl rfl rfl hF.2.2.2.2.2.2.1 ?_
  refine zx_gp 19 rfl ?_
  refine zx_c rfl rfl rfl rfl (m_rf2 _) ?_
  refine zx_gp 19 rfl ?_
  exact zx_r rfl rfl
theorem m_run_t3 (hF : zFk F) (p1 : Int32) (h1 : zwi p1 1 1000 = 1) (d : Nat) : zCr (d + 2) 154 [.ref 113, .int 3, .int p1] (zHx F G L) (.inl (some (.int 0))) (zHt F G L 2) := by
  refine zx_in rfl rfl ?_
  refine zx_gp 19 rfl ?_
  refine zx_c rfl rfl rfl rfl (w_isIn' (lo := 0) (hi := 7) (show zwi 3 0 7 = 1 by decide) _ _) ?_
  refine zx_gp 19 rfl ?_
  refine zx_c rfl rfl rfl rfl (w_isIn' (lo := 1) (hi := 1000) h1 _ _) ?_
  refine zx_gp 19 rfl ?_
  refine zx_bal rfl rfl rfl rfl hF.2.2.2.2.2.2.2.1 ?_
  refine zx_gp 19 rfl ?_
  refine zx_c rfl rfl rfl rfl (m_rf2 _) ?_
  refine zx_gp 19 rfl ?_
  exact zx_r rfl rfl
theorem m_run_t4 (hF : zFk F) (p1 : Int32) (h1 : zwi p1 1 1000 = 1) (d : Nat) : zCr (d + 2) 154 [.ref 113, .int 4, .int p1] (zHx F G L) (.inl (some (.int 0))) (zHt F G L 2) := by
  refine zx_in rfl rfl ?_
  refine zx_gp 19 rfl ?_
  refine zx_c rfl rfl rfl rfl (w_isIn' (lo := 0) (hi := 7) (show zwi 4 0 7 = 1 by decide) _ _) ?_
  refine zx_gp 19 rfl ?_
  refine zx_c rfl rfl rfl rfl (w_isIn' (lo := 1) (hi := 1000) h1 _ _) ?_
  refine zx_gp 19 rfl ?_
  refine zx_bal rfl rfl rfl rfl hF.2.2.2.2.2.2.2.2.1 ?_
  refine zx_gp 19 rfl ?_
  refine zx_c rfl rfl rfl rfl (m_rf2 _) ?_
  refine zx_gp 19 rfl ?_
  exact zx_r rfl rfl
theorem m_run_t5 (hF : zFk F) (p1 : Int32) (h1 : zwi p1 1 1000 = 1) (d : Nat) : zCr (d + 2) 154 [.ref 113, .int 5, .int p1] (zHx F G L) (.inl (some (.int 0))) (zHt F G L 2) := by
  refine zx_in rfl rfl ?_
  refine zx_gp 19 rfl ?_
  refine zx_c rfl rfl rfl rfl (w_isIn' (lo := 0) (hi := 7) (show zwi 5 0 7 = 1 by decide) _ _) ?_
  refine zx_gp 19 rfl ?_
  refine zx_c rfl rfl rfl rfl (w_isIn' (lo := 1) (hi := 1000) h1 _ _) ?_
  refine zx_gp 19 rfl ?_
  refine zx_bal rfl rfl rfl rfl hF.2.2.2.2.2.2.2.2.2.1 ?_
  refine zx_gp 19 rfl ?_
  refine zx_c rfl rfl rfl rfl (m_rf2 _) ?_
  refine zx_gp 19 rfl ?_
  exact zx_r rfl rfl
theorem m_run_t6 (hF : zFk F) (p1 : Int32) (h1 : zwi p1 1 1000 = 1) (d : Nat) : zCr (d + 2) 154 [.ref 113, .int 6, .int p1] (zHx F G L) (.inl (some (.int 0))) (zHt F G L 2) := by
  refine zx_in rfl rfl ?_
  refine zx_gp 19 rfl ?_
  refine zx_c rfl rfl rfl rfl (w_isIn' (lo := 0) (hi := 7) (show zwi 6 0 7 = 1 by decide) _ _) ?_
  refine zx_gp 19 rfl ?_
  refine zx_c rfl rfl rfl rfl (w_isIn' (lo := 1) (hi := 1000) h1 _ _) ?_
  refine zx_gp 19 rfl ?_
  refine zx_bal rfl rfl rfl rfl hF.2.2.2.2.2.2.2.2.2.2.1 ?_
  refine zx_gp 19 rfl ?_
  refine zx_c rfl rfl rfl rfl (m_rf2 _) ?_
  refine zx_gp 19 rfl ?_
  exact zx_r rfl rfl
theorem m_run_t7 (hF : zFk F) (p1 : Int32) (h1 : zwi p1 1 1000 = 1) (d : Nat) : zCr (d + 2) 154 [.ref 113, .int 7, .int p1] (zHx F G L) (.inl (some (.int 0))) (zHt F G L 2) := by
  refine zx_in rfl rfl ?_
  refine zx_gp 19 rfl ?_
  refine zx_c rfl rfl rfl rfl (w_isIn' (lo := 0) (hi := 7) (show zwi 7 0 7 = 1 by decide) _ _) ?_
  refine zx_gp 19 rfl ?_
  refine zx_c rfl rfl rfl rfl (w_isIn' (lo := 1) (hi := 1000) h1 _ _) ?_
  refine zx_gp 19 rfl ?_
  refine zx_bal rfl rfl rfl rfl hF.2.2.2.2.2.2.2.2.2.2.2 ?_
  refine zx_gp 19 rfl ?_
  refine zx_c rfl rfl rfl rfl (m_rf2 _) ?_
  refine zx_gp 19 rfl ?_
  exact zx_r rfl rfl
theorem m_exit_0 (p0 p1 : Int32) (h0 : zwi p0 0 7 = 0) (d : Nat) : zCr (d + 2) 157 [.ref 113, .int p0, .int p1] (zHx F G L) (.inl (some (.int 0))) (zHt F G L 1) := by
  refine zx_in rfl rfl ?_
  refine zx_gp 19 rfl ?_
  refine zx_c rfl rfl rfl rfl (w_isIn' (lo := 0) (hi := 7) h0 _ _) ?_
  refine zx_gp 19 rfl ?_
  refine zx_c rfl rfl rfl rfl (m_rf1 _) ?_
  refine zx_gp 19 rfl ?_
  exact zx_r rfl rfl
theorem m_exit_1 (p0 p1 : Int32) (h0 : zwi p0 0 7 = 1) (h1 : zwi p1 0 4 = 0) (d : Nat) : zCr (d + 2) 157 [.ref 113, .int p0, .int p1] (zHx F G L) (.inl (some (.int 0))) (zHt F G L 1) := by
  refine zx_in rfl rfl ?_
  refine zx_gp 19 rfl ?_
  refine zx_c rfl rfl rfl rfl (w_isIn' (lo := 0) (hi := 7) h0 _ _) ?_
  refine zx_gp 19 rfl ?_
  refine zx_c rfl rfl rfl rfl (w_isIn' (lo := 0) (hi := 4) h1 _ _) ?_
  refine zx_gp 19 rfl ?_
  refine zx_c rfl rfl rfl rfl (m_rf1 _) ?_
  refine zx_gp 19 rfl ?_
  exact zx_r rfl rfl
theorem m_exit_t0 (hF : zFk F) (p1 : Int32) (h1 : zwi p1 0 4 = 1) (d : Nat) : zCr (d + 2) 157 [.ref 113, .int 0, .int p1] (zHx F G L) (.inl (some (.int 0))) (zHt F G L 2) := by
  refine zx_in rfl rfl ?_
  refine zx_gp 19 rfl ?_
  refine zx_c rfl rfl rfl rfl (w_isIn' (lo := 0) (hi := 7) (show zwi 0 0 7 = 1 by decide) _ _) ?_
  refine zx_gp 19 rfl ?_
  refine zx_c rfl rfl rfl rfl (w_isIn' (lo := 0) (hi := 4) h1 _ _) ?_
  refine zx_gp 19 rfl ?_
  refine zx_bal rfl rfl rfl rfl hF.2.2.2.2.1 ?_
  refine zx_gp 19 rfl ?_
  refine zx_c rfl rfl rfl rfl (m_rf2 _) ?_
  refine zx_gp 19 rfl ?_
  exact zx_r rfl rfl
theorem m_exit_t1 (hF : zFk F) (p1 : Int32) (h1 : zwi p1 0 4 = 1) (d : Nat) : zCr (d + 2) 157 [.ref 113, .int 1, .int p1] (zHx F G L) (.inl (some (.int 0))) (zHt F G L 2) := by
  refine zx_in rfl rfl ?_
  refine zx_gp 19 rfl ?_
  refine zx_c rfl rfl rfl rfl (w_isIn' (lo := 0) (hi := 7) (show zwi 1 0 7 = 1 by decide) _ _) ?_
  refine zx_gp 19 rfl ?_
  refine zx_c rfl rfl rfl rfl (w_isIn' (lo := 0) (hi := 4) h1 _ _) ?_
  refine zx_gp 19 rfl ?_
  refine zx_bal rfl rfl rfl rfl hF.2.2.2.2.2.1 ?_
  refine zx_gp 19 rfl ?_
  refine zx_c rfl rfl rfl rfl (m_rf2 _) ?_
  refine zx_gp 19 rfl ?_
  exact zx_r rfl rfl
theorem m_exit_t2 (hF : zFk F) (p1 : Int32) (h1 : zwi p1 0 4 = 1) (d : Nat) : zCr (d + 2) 157 [.ref 113, .int 2, .int p1] (zHx F G L) (.inl (some (.int 0))) (zHt F G L 2) := by
  refine zx_in rfl rfl ?_
  refine zx_gp 19 rfl ?_
  refine zx_c rfl rfl rfl rfl (w_isIn' (lo := 0) (hi := 7) (show zwi 2 0 7 = 1 by decide) _ _) ?_
  refine zx_gp 19 rfl ?_
  refine zx_c rfl rfl rfl rfl (w_isIn' (lo := 0) (hi := 4) h1 _ _) ?_
  refine zx_gp 19 rfl ?_
  refine zx_bal rfl rfl rfl rfl hF.2.2.2.2.2.2.1 ?_
  refine zx_gp 19 rfl ?_
  refine zx_c rfl rfl rfl rfl (m_rf2 _) ?_
  refine zx_gp 19 rfl ?_
  exact zx_r rfl rfl
theorem m_exit_t3 (hF : zFk F) (p1 : Int32) (h1 : zwi p1 0 4 = 1) (d : Nat) : zCr (d + 2) 157 [.ref 113, .int 3, .int p1] (zHx F G L) (.inl (some (.int 0))) (zHt F G L 2) := by
  refine zx_in rfl rfl ?_
  refine zx_gp 19 rfl ?_
  refine zx_c rfl rfl rfl rfl (w_isIn' (lo := 0) (hi := 7) (show zwi 3 0 7 = 1 by decide) _ _) ?_
  refine zx_gp 19 rfl ?_
  refine zx_c rfl rfl rfl rfl (w_isIn' (lo := 0) (hi := 4) h1 _ _) ?_
  refine zx_gp 19 rfl ?_
  refine zx_bal rfl rfl rfl rfl hF.2.2.2.2.2.2.2.1 ?_
  refine zx_gp 19 rfl ?_
  refine zx_c rfl rfl rfl rfl (m_rf2 _) ?_
  refine zx_gp 19 rfl ?_
  exact zx_r rfl rfl
theorem m_exit_t4 (hF : zFk F) (p1 : Int32) (h1 : zwi p1 0 4 = 1) (d : Nat) : zCr (d + 2) 157 [.ref 113, .int 4, .int p1] (zHx F G L) (.inl (some (.int 0))) (zHt F G L 2) := by
  refine zx_in rfl rfl ?_
  refine zx_gp 19 rfl ?_
  refine zx_c rfl rfl rfl rfl (w_isIn' (lo := 0) (hi := 7) (show zwi 4 0 7 = 1 by decide) _ _) ?_
  refine zx_gp 19 rfl ?_
  refine zx_c rfl rfl rfl rfl (w_isIn' (lo := 0) (hi := 4) h1 _ _) ?_
  refine zx_gp 19 rfl ?_
  refine zx_bal rfl rfl rfl rfl hF.2.2.2.2.2.2.2.2.1 ?_
  refine zx_gp 19 rfl ?_
  refine zx_c rfl rfl rfl rfl (m_rf2 _) ?_
  refine zx_gp 19 rfl ?_
  exact zx_r rfl rfl
theorem m_exit_t5 (hF : zFk F) (p1 : Int32) (h1 : zwi p1 0 4 = 1) (d : Nat) : zCr (d + 2) 157 [.ref 113, .int 5, .int p1] (zHx F G L) (.inl (some (.int 0))) (zHt F G L 2) := by
  refine zx_in rfl rfl ?_
  refine zx_gp 19 rfl ?_
  refine zx_c rfl rfl rfl rfl (w_isIn' (lo := 0) (hi := 7) (show zwi 5 0 7 = 1 by decide) _ _) ?_
  refine zx_gp 19 rfl ?_
  refine zx_c rfl rfl rfl rfl (w_isIn' (lo := 0) (hi := 4) h1 _ _) ?_
  refine zx_gp 19 rfl ?_
  refine zx_bal rfl rfl rfl rfl hF.2.2.2.2.2.2.2.2.2.1 ?_
  refine zx_gp 19 rfl ?_
  refine zx_c rfl rfl rfl rfl (m_rf2 _) ?_
  refine zx_gp 19 rfl ?_
  exact zx_r rfl rfl
theorem m_exit_t6 (hF : zFk F) (p1 : Int32) (h1 : zwi p1 0 4 = 1) (d : Nat) : zCr (d + 2) 157 [.ref 113, .int 6, .int p1] (zHx F G L) (.inl (some (.int 0))) (zHt F G L 2) := by
  refine zx_in rfl rfl ?_
  refine zx_gp 19 rfl ?_
  refine zx_c rfl rfl rfl rfl (w_isIn' (lo := 0) (hi := 7) (show zwi 6 0 7 = 1 by decide) _ _) ?_
  refine zx_gp 19 rfl ?_
  refine zx_c rfl rfl rfl rfl (w_isIn' (lo := 0) (hi := 4) h1 _ _) ?_
  refine zx_gp 19 rfl ?_
  refine zx_bal rfl rfl rfl rfl hF.2.2.2.2.2.2.2.2.2.2.1 ?_
  refine zx_gp 19 rfl ?_
  refine zx_c rfl rfl rfl rfl (m_rf2 _) ?_
  refine zx_gp 19 rfl ?_
  exact zx_r rfl rfl
theorem m_exit_t7 (hF : zFk F) (p1 : Int32) (h1 : zwi p1 0 4 = 1) (d : Nat) : zCr (d + 2) 157 [.ref 113, .int 7, .int p1] (zHx F G L) (.inl (some (.int 0))) (zHt F G L 2) := by
  refine zx_in rfl rfl ?_
  refine zx_gp 19 rfl ?_
  refine zx_c rfl rfl rfl rfl (w_isIn' (lo := 0) (hi := 7) (show zwi 7 0 7 = 1 by decide) _ _) ?_
  refine zx_gp 19 rfl ?_
  refine zx_c rfl rfl rfl rfl (w_isIn' (lo := 0) (hi := 4) h1 _ _) ?_
  refine zx_gp 19 rfl ?_
  refine zx_bal rfl rfl rfl rfl hF.2.2.2.2.2.2.2.2.2.2.2 ?_
  refine zx_gp 19 rfl ?_
  refine zx_c rfl rfl rfl rfl (m_rf2 _) ?_
  refine zx_gp 19 rfl ?_
  exact zx_r rfl rfl
theorem m_flush_0 (p0 p1 p2 : Int32) (h0 : zwi p0 0 7 = 0) (d : Nat) : zCr (d + 2) 160 [.ref 113, .int p0, .int p1, .int p2] (zHx F G L) (.inl (some (.int 0))) (zHt F G L 1) := by
  refine zx_in rfl rfl ?_
  refine zx_gp 19 rfl ?_
  refine zx_c rfl rfl rfl rfl (w_isIn' (lo := 0) (hi := 7) h0 _ _) ?_
  refine zx_gp 19 rfl ?_
  refine zx_c rfl rfl rfl rfl (m_rf1 _) ?_
  refine zx_gp 19 rfl ?_
  exact zx_r rfl rfl
theorem m_flush_1 (p0 p1 p2 : Int32) (h0 : zwi p0 0 7 = 1) (h1 : zwi p1 0 2 = 0) (d : Nat) : zCr (d + 2) 160 [.ref 113, .int p0, .int p1, .int p2] (zHx F G L) (.inl (some (.int 0))) (zHt F G L 1) := by
  refine zx_in rfl rfl ?_
  refine zx_gp 19 rfl ?_
  refine zx_c rfl rfl rfl rfl (w_isIn' (lo := 0) (hi := 7) h0 _ _) ?_
  refine zx_gp 19 rfl ?_
  refine zx_c rfl rfl rfl rfl (w_isIn' (lo := 0) (hi := 2) h1 _ _) ?_
  refine zx_gp 19 rfl ?_
  refine zx_c rfl rfl rfl rfl (m_rf1 _) ?_
  refine zx_gp 19 rfl ?_
  exact zx_r rfl rfl
theorem m_flush_2 (p0 p1 p2 : Int32) (h0 : zwi p0 0 7 = 1) (h1 : zwi p1 0 2 = 1) (h2 : zwi p2 0 4095 = 0) (d : Nat) : zCr (d + 2) 160 [.ref 113, .int p0, .int p1, .int p2] (zHx F G L) (.inl (some (.int 0))) (zHt F G L 1) := by
  refine zx_in rfl rfl ?_
  refine zx_gp 19 rfl ?_
  refine zx_c rfl rfl rfl rfl (w_isIn' (lo := 0) (hi := 7) h0 _ _) ?_
  refine zx_gp 19 rfl ?_
  refine zx_c rfl rfl rfl rfl (w_isIn' (lo := 0) (hi := 2) h1 _ _) ?_
  refine zx_gp 19 rfl ?_
  refine zx_c rfl rfl rfl rfl (w_isIn' (lo := 0) (hi := 4095) h2 _ _) ?_
  refine zx_gp 19 rfl ?_
  refine zx_c rfl rfl rfl rfl (m_rf1 _) ?_
  refine zx_gp 19 rfl ?_
  exact zx_r rfl rfl
theorem m_flush_t0 (hF : zFk F) (p1 p2 : Int32) (h1 : zwi p1 0 2 = 1) (h2 : zwi p2 0 4095 = 1) (d : Nat) : zCr (d + 2) 160 [.ref 113, .int 0, .int p1, .int p2] (zHx F G L) (.inl (some (.int 0))) (zHt F G L 2) := by
  refine zx_in rfl rfl ?_
  refine zx_gp 19 rfl ?_
  refine zx_c rfl rfl rfl rfl (w_isIn' (lo := 0) (hi := 7) (show zwi 0 0 7 = 1 by decide) _ _) ?_
  refine zx_gp 19 rfl ?_
  refine zx_c rfl rfl rfl rfl (w_isIn' (lo := 0) (hi := 2) h1 _ _) ?_
  refine zx_gp 19 rfl ?_
  refine zx_c rfl rfl rfl rfl (w_isIn' (lo := 0) (hi := 4095) h2 _ _) ?_
  refine zx_gp 19 rfl ?_
  refine zx_bal rfl rfl rfl rfl hF.2.2.2.2.1 ?_
  refine zx_gp 19 rfl ?_
  refine zx_c rfl rfl rfl rfl (m_rf2 _) ?_
  refine zx_gp 19 rfl ?_
  exact zx_r rfl rfl
theorem m_flush_t1 (hF : zFk F) (p1 p2 : Int32) (h1 : zwi p1 0 2 = 1) (h2 : zwi p2 0 4095 = 1) (d : Nat) : zCr (d + 2) 160 [.ref 113, .int 1, .int p1, .int p2] (zHx F G L) (.inl (some (.int 0))) (zHt F G L 2) := by
  refine zx_in rfl rfl ?_
  refine zx_gp 19 rfl ?_
  refine zx_c rfl rfl rfl rfl (w_isIn' (lo := 0) (hi := 7) (show zwi 1 0 7 = 1 by decide) _ _) ?_
  refine zx_gp 19 rfl ?_
  refine zx_c rfl rfl rfl rfl (w_isIn' (lo := 0) (hi := 2) h1 _ _) ?_
  refine zx_gp 19 rfl ?_
  refine zx_c rfl rfl rfl rfl (w_isIn' (lo := 0) (hi := 4095) h2 _ _) ?_
  refine zx_gp 19 rfl ?_
  refine zx_bal rfl rfl rfl rfl hF.2.2.2.2.2.1 ?_
  refine zx_gp 19 rfl ?_
  refine zx_c rfl rfl rfl rfl (m_rf2 _) ?_
  refine zx_gp 19 rfl ?_
  exact zx_r rfl rfl
theorem m_flush_t2 (hF : zFk F) (p1 p2 : Int32) (h1 : zwi p1 0 2 = 1) (h2 : zwi p2 0 4095 = 1) (d : Nat) : zCr (d + 2) 160 [.ref 113, .int 2, .int p1, .int p2] (zHx F G L) (.inl (some (.int 0))) (zHt F G L 2) := by
  refine zx_in rfl rfl ?_
  refine zx_gp 19 rfl ?_
  refine zx_c rfl rfl rfl rfl (w_isIn' (lo := 0) (hi := 7) (show zwi 2 0 7 = 1 by decide) _ _) ?_
  refine zx_gp 19 rfl ?_
  refine zx_c rfl rfl rfl rfl (w_isIn' (lo := 0) (hi := 2) h1 _ _) ?_
  refine zx_gp 19 rfl ?_
  refine zx_c rfl rfl rfl rfl (w_isIn' (lo := 0) (hi := 4095) h2 _ _) ?_
  refine zx_gp 19 rfl ?_
  refine zx_bal rfl rfl rfl rfl hF.2.2.2.2.2.2.1 ?_
  refine zx_gp 19 rfl ?_
  refine zx_c rfl rfl rfl rfl (m_rf2 _) ?_
  refine zx_gp 19 rfl ?_
  exact zx_r rfl rfl
theorem m_flush_t3 (hF : zFk F) (p1 p2 : Int32) (h1 : zwi p1 0 2 = 1) (h2 : zwi p2 0 4095 = 1) (d : Nat) : zCr (d + 2) 160 [.ref 113, .int 3, .int p1, .int p2] (zHx F G L) (.inl (some (.int 0))) (zHt F G L 2) := by
  refine zx_in rfl rfl ?_
  refine zx_gp 19 rfl ?_
  refine zx_c rfl rfl rfl rfl (w_isIn' (lo := 0) (hi := 7) (show zwi 3 0 7 = 1 by decide) _ _) ?_
  refine zx_gp 19 rfl ?_
  refine zx_c rfl rfl rfl rfl (w_isIn' (lo := 0) (hi := 2) h1 _ _) ?_
  refine zx_gp 19 rfl ?_
  refine zx_c rfl rfl rfl rfl (w_isIn' (lo := 0) (hi := 4095) h2 _ _) ?_
  refine zx_gp 19 rfl ?_
  refine zx_bal rfl rfl rfl rfl hF.2.2.2.2.2.2.2.1 ?_
  refine zx_gp 19 rfl ?_
  refine zx_c rfl rfl rfl rfl (m_rf2 _) ?_
  refine zx_gp 19 rfl ?_
  exact zx_r rfl rfl
theorem m_flush_t4 (hF : zFk F) (p1 p2 : Int32) (h1 : zwi p1 0 2 = 1) (h2 : zwi p2 0 4095 = 1) (d : Nat) : zCr (d + 2) 160 [.ref 113, .int 4, .int p1, .int p2] (zHx F G L) (.inl (some (.int 0))) (zHt F G L 2) := by
  refine zx_in rfl rfl ?_
  refine zx_gp 19 rfl ?_
  refine zx_c rfl rfl rfl rfl (w_isIn' (lo := 0) (hi := 7) (show zwi 4 0 7 = 1 by decide) _ _) ?_
  refine zx_gp 19 rfl ?_
  refine zx_c rfl rfl rfl rfl (w_isIn' (lo := 0) (hi := 2) h1 _ _) ?_
  refine zx_gp 19 rfl ?_
  refine zx_c rfl rfl rfl rfl (w_isIn' (lo := 0) (hi := 4095) h2 _ _) ?_
  refine zx_gp 19 rfl ?_
  refine zx_bal rfl rfl rfl rfl hF.2.2.2.2.2.2.2.2.1 ?_
  refine zx_gp 19 rfl ?_
  refine zx_c rfl rfl rfl rfl (m_rf2 _) ?_
  refine zx_gp 19 rfl ?_
  exact zx_r rfl rfl
theorem m_flush_t5 (hF : zFk F) (p1 p2 : Int32) (h1 : zwi p1 0 2 = 1) (h2 : zwi p2 0 4095 = 1) (d : Nat) : zCr (d + 2) 160 [.ref 113, .int 5, .int p1, .int p2] (zHx F G L) (.inl (some (.int 0))) (zHt F G L 2) := by
  refine zx_in rfl rfl ?_
  refine zx_gp 19 rfl ?_
  refine zx_c rfl rfl rfl rfl (w_isIn' (lo := 0) (hi := 7) (show zwi 5 0 7 = 1 by decide) _ _) ?_
  refine zx_gp 19 rfl ?_
  refine zx_c rfl rfl rfl rfl (w_isIn' (lo := 0) (hi := 2) h1 _ _) ?_
  refine zx_gp 19 rfl ?_
  refine zx_c rfl rfl rfl rfl (w_isIn' (lo := 0) (hi := 4095) h2 _ _) ?_
  refine zx_gp 19 rfl ?_
  refine zx_bal rfl rfl rfl rfl hF.2.2.2.2.2.2.2.2.2.1 ?_
  refine zx_gp 19 rfl ?_
  refine zx_c rfl rfl rfl rfl (m_rf2 _) ?_
  refine zx_gp 19 rfl ?_
  exact zx_r rfl rfl
theorem m_flush_t6 (hF : zFk F) (p1 p2 : Int32) (h1 : zwi p1 0 2 = 1) (h2 : zwi p2 0 4095 = 1) (d : Nat) : zCr (d + 2) 160 [.ref 113, .int 6, .int p1, .int p2] (zHx F G L) (.inl (some (.int 0))) (zHt F G L 2) := by
  refine zx_in rfl rfl ?_
  refine zx_gp 19 rfl ?_
  refine zx_c rfl rfl rfl rfl (w_isIn' (lo := 0) (hi := 7) (show zwi 6 0 7 = 1 by decide) _ _) ?_
  refine zx_gp 19 rfl ?_
  refine zx_c rfl rfl rfl rfl (w_isIn' (lo := 0) (hi := 2) h1 _ _) ?_
  refine zx_gp 19 rfl ?_
  refine zx_c rfl rfl rfl rfl (w_isIn' (lo := 0) (hi := 4095) h2 _ _) ?_
  refine zx_gp 19 rfl ?_
  refine zx_bal rfl rfl rfl rfl hF.2.2.2.2.2.2.2.2.2.2.1 ?_
  refine zx_gp 19 rfl ?_
  refine zx_c rfl rfl rfl rfl (m_rf2 _) ?_
  refine zx_gp 19 rfl ?_
  exact zx_r rfl rfl
theorem m_flush_t7 (hF : zFk F) (p1 p2 : Int32) (h1 : zwi p1 0 2 = 1) (h2 : zwi p2 0 4095 = 1) (d : Nat) : zCr (d + 2) 160 [.ref 113, .int 7, .int p1, .int p2] (zHx F G L) (.inl (some (.int 0))) (zHt F G L 2) := by
  refine zx_in rfl rfl ?_
  refine zx_gp 19 rfl ?_
  refine zx_c rfl rfl rfl rfl (w_isIn' (lo := 0) (hi := 7) (show zwi 7 0 7 = 1 by decide) _ _) ?_
  refine zx_gp 19 rfl ?_
  refine zx_c rfl rfl rfl rfl (w_isIn' (lo := 0) (hi := 2) h1 _ _) ?_
  refine zx_gp 19 rfl ?_
  refine zx_c rfl rfl rfl rfl (w_isIn' (lo := 0) (hi := 4095) h2 _ _) ?_
  refine zx_gp 19 rfl ?_
  refine zx_bal rfl rfl rfl rfl hF.2.2.2.2.2.2.2.2.2.2.2 ?_
  refine zx_gp 19 rfl ?_
  refine zx_c rfl rfl rfl rfl (m_rf2 _) ?_
  refine zx_gp 19 rfl ?_
  exact zx_r rfl rfl
theorem m_aside_0 (p0 p1 p2 : Int32) (h0 : zwi p0 0 7 = 0) (d : Nat) : zCr (d + 2) 164 [.ref 113, .int p0, .int p1, .int p2] (zHx F G L) (.inl (some (.int 0))) (zHt F G L 1) := by
  refine zx_in rfl rfl ?_
  refine zx_gp 19 rfl ?_
  refine zx_c rfl rfl rfl rfl (w_isIn' (lo := 0) (hi := 7) h0 _ _) ?_
  refine zx_gp 19 rfl ?_
  refine zx_c rfl rfl rfl rfl (m_rf1 _) ?_
  refine zx_gp 19 rfl ?_
  exact zx_r rfl rfl
theorem m_aside_1 (p0 p1 p2 : Int32) (h0 : zwi p0 0 7 = 1) (h1 : zwi p1 0 7 = 0) (d : Nat) : zCr (d + 2) 164 [.ref 113, .int p0, .int p1, .int p2] (zHx F G L) (.inl (some (.int 0))) (zHt F G L 1) := by
  refine zx_in rfl rfl ?_
  refine zx_gp 19 rfl ?_
  refine zx_c rfl rfl rfl rfl (w_isIn' (lo := 0) (hi := 7) h0 _ _) ?_
  refine zx_gp 19 rfl ?_
  refine zx_c rfl rfl rfl rfl (w_isIn' (lo := 0) (hi := 7) h1 _ _) ?_
  refine zx_gp 19 rfl ?_
  refine zx_c rfl rfl rfl rfl (m_rf1 _) ?_
  refine zx_gp 19 rfl ?_
  exact zx_r rfl rfl
theorem m_aside_2 (p0 p1 p2 : Int32) (h0 : zwi p0 0 7 = 1) (h1 : zwi p1 0 7 = 1) (h2 : zwi p2 0 3 = 0) (d : Nat) : zCr (d + 2) 164 [.ref 113, .int p0, .int p1, .int p2] (zHx F G L) (.inl (some (.int 0))) (zHt F G L 1) := by
  refine zx_in rfl rfl ?_
  refine zx_gp 19 rfl ?_
  refine zx_c rfl rfl rfl rfl (w_isIn' (lo := 0) (hi := 7) h0 _ _) ?_
  refine zx_gp 19 rfl ?_
  refine zx_c rfl rfl rfl rfl (w_isIn' (lo := 0) (hi := 7) h1 _ _) ?_
  refine zx_gp 19 rfl ?_
  refine zx_c rfl rfl rfl rfl (w_isIn' (lo := 0) (hi := 3) h2 _ _) ?_
  refine zx_gp 19 rfl ?_
  refine zx_c rfl rfl rfl rfl (m_rf1 _) ?_
  refine zx_gp 19 rfl ?_
  exact zx_r rfl rfl
theorem m_aside_t0 (hF : zFk F) (p1 p2 : Int32) (h1 : zwi p1 0 7 = 1) (h2 : zwi p2 0 3 = 1) (d : Nat) : zCr (d + 2) 164 [.ref 113, .int 0, .int p1, .int p2] (zHx F G L) (.inl (some (.int 0))) (zHt F G L 2) := by
  refine zx_in rfl rfl ?_
  refine zx_gp 19 rfl ?_
  refine zx_c rfl rfl rfl rfl (w_isIn' (lo := 0) (hi := 7) (show zwi 0 0 7 = 1 by decide) _ _) ?_
  refine zx_gp 19 rfl ?_
  refine zx_c rfl rfl rfl rfl (w_isIn' (lo := 0) (hi := 7) h1 _ _) ?_
  refine zx_gp 19 rfl ?_
  refine zx_c rfl rfl rfl rfl (w_isIn' (lo := 0) (hi := 3) h2 _ _) ?_
  refine zx_gp 19 rfl ?_
  refine zx_bal rfl rfl rfl rfl hF.2.2.2.2.1 ?_
  refine zx_gp 19 rfl ?_
  refine zx_c rfl rfl rfl rfl (m_rf2 _) ?_
  refine zx_gp 19 rfl ?_
  exact zx_r rfl rfl
theorem m_aside_t1 (hF : zFk F) (p1 p2 : Int32) (h1 : zwi p1 0 7 = 1) (h2 : zwi p2 0 3 = 1) (d : Nat) : zCr (d + 2) 164 [.ref 113, .int 1, .int p1, .int p2] (zHx F G L) (.inl (some (.int 0))) (zHt F G L 2) := by
  refine zx_in rfl rfl ?_
  refine zx_gp 19 rfl ?_
  refine zx_c rfl rfl rfl rfl (w_isIn' (lo := 0) (hi := 7) (show zwi 1 0 7 = 1 by decide) _ _) ?_
  refine zx_gp 19 rfl ?_
  refine zx_c rfl rfl rfl rfl (w_isIn' (lo := 0) (hi := 7) h1 _ _) ?_
  refine zx_gp 19 rfl ?_
  refine zx_c rfl rfl rfl rfl (w_isIn' (lo := 0) (hi := 3) h2 _ _) ?_
  refine zx_gp 19 rfl ?_
  refine zx_bal rfl rfl rfl rfl hF.2.2.2.2.2.1 ?_
  refine zx_gp 19 rfl ?_
  refine zx_c rfl rfl rfl rfl (m_rf2 _) ?_
  refine zx_gp 19 rfl ?_
  exact zx_r rfl rfl
theorem m_aside_t2 (hF : zFk F) (p1 p2 : Int32) (h1 : zwi p1 0 7 = 1) (h2 : zwi p2 0 3 = 1) (d : Nat) : zCr (d + 2) 164 [.ref 113, .int 2, .int p1, .int p2] (zHx F G L) (.inl (some (.int 0))) (zHt F G L 2) := by
  refine zx_in rfl rfl ?_
  refine zx_gp 19 rfl ?_
  refine zx_c rfl rfl rfl rfl (w_isIn' (lo := 0) (hi := 7) (show zwi 2 0 7 = 1 by decide) _ _) ?_
  refine zx_gp 19 rfl ?_
  refine zx_c rfl rfl rfl rfl (w_isIn' (lo := 0) (hi := 7) h1 _ _) ?_
  refine zx_gp 19 rfl ?_
  refine zx_c rfl rfl rfl rfl (w_isIn' (lo := 0) (hi := 3) h2 _ _) ?_
  refine zx_gp 19 rfl ?_
  refine zx_bal rfl rfl rfl rfl hF.2.2.2.2.2.2.1 ?_
  refine zx_gp 19 rfl ?_
  refine zx_c rfl rfl rfl rfl (m_rf2 _) ?_
  refine zx_gp 19 rfl ?_
  exact zx_r rfl rfl
theorem m_aside_t3 (hF : zFk F) (p1 p2 : Int32) (h1 : zwi p1 0 7 = 1) (h2 : zwi p2 0 3 = 1) (d : Nat) : zCr (d + 2) 164 [.ref 113, .int 3, .int p1, .int p2] (zHx F G L) (.inl (some (.int 0))) (zHt F G L 2) := by
  refine zx_in rfl rfl ?_
  refine zx_gp 19 rfl ?_
  refine zx_c rfl rfl rfl rfl (w_isIn' (lo := 0) (hi := 7) (show zwi 3 0 7 = 1 by decide) _ _) ?_
  refine zx_gp 19 rfl ?_
  refine zx_c rfl rfl rfl rfl (w_isIn' (lo := 0) (hi := 7) h1 _ _) ?_
  refine zx_gp 19 rfl ?_
  refine zx_c rfl rfl rfl rfl (w_isIn' (lo := 0) (hi := 3) h2 _ _) ?_
  refine zx_gp 19 rfl ?_
  refine zx_bal rfl rfl rfl rfl hF.2.2.2.2.2.2.2.1 ?_
  refine zx_gp 19 rfl ?_
  refine zx_c rfl rfl rfl rfl (m_rf2 _) ?_
  refine zx_gp 19 rfl ?_
  exact zx_r rfl rfl
theorem m_aside_t4 (hF : zFk F) (p1 p2 : Int32) (h1 : zwi p1 0 7 = 1) (h2 : zwi p2 0 3 = 1) (d : Nat) : zCr (d + 2) 164 [.ref 113, .int 4, .int p1, .int p2] (zHx F G L) (.inl (some (.int 0))) (zHt F G L 2) := by
  refine zx_in rfl rfl ?_
  refine zx_gp 19 rfl ?_
  refine zx_c rfl rfl rfl rfl (w_isIn' (lo := 0) (hi := 7) (show zwi 4 0 7 = 1 by decide) _ _) ?_
  refine zx_gp 19 rfl ?_
  refine zx_c rfl rfl rfl rfl (w_isIn' (lo := 0) (hi := 7) h1 _ _) ?_
  refine zx_gp 19 rfl ?_
  refine zx_c rfl rfl rfl rfl (w_isIn' (lo := 0) (hi := 3) h2 _ _) ?_
  refine zx_gp 19 rfl ?_
  refine zx_bal rfl rfl rfl rfl hF.2.2.2.2.2.2.2.2.1 ?_
  refine zx_gp 19 rfl ?_
  refine zx_c rfl rfl rfl rfl (m_rf2 _) ?_
  refine zx_gp 19 rfl ?_
  exact zx_r rfl rfl
theorem m_aside_t5 (hF : zFk F) (p1 p2 : Int32) (h1 : zwi p1 0 7 = 1) (h2 : zwi p2 0 3 = 1) (d : Nat) : zCr (d + 2) 164 [.ref 113, .int 5, .int p1, .int p2] (zHx F G L) (.inl (some (.int 0))) (zHt F G L 2) := by
  refine zx_in rfl rfl ?_
  refine zx_gp 19 rfl ?_
  refine zx_c rfl rfl rfl rfl (w_isIn' (lo := 0) (hi := 7) (show zwi 5 0 7 = 1 by decide) _ _) ?_
  refine zx_gp 19 rfl ?_
  refine zx_c rfl rfl rfl rfl (w_isIn' (lo := 0) (hi := 7) h1 _ _) ?_
  refine zx_gp 19 rfl ?_
  refine zx_c rfl rfl rfl rfl (w_isIn' (lo := 0) (hi := 3) h2 _ _) ?_
  refine zx_gp 19 rfl ?_
  refine zx_bal rfl rfl rfl rfl hF.2.2.2.2.2.2.2.2.2.1 ?_
  refine zx_gp 19 rfl ?_
  refine zx_c rfl rfl rfl rfl (m_rf2 _) ?_
  refine zx_gp 19 rfl ?_
  exact zx_r rfl rfl
theorem m_aside_t6 (hF : zFk F) (p1 p2 : Int32) (h1 : zwi p1 0 7 = 1) (h2 : zwi p2 0 3 = 1) (d : Nat) : zCr (d + 2) 164 [.ref 113, .int 6, .int p1, .int p2] (zHx F G L) (.inl (some (.int 0))) (zHt F G L 2) := by
  refine zx_in rfl rfl ?_
  refine zx_gp 19 rfl ?_
  refine zx_c rfl rfl rfl rfl (w_isIn' (lo := 0) (hi := 7) (show zwi 6 0 7 = 1 by decide) _ _) ?_
  refine zx_gp 19 rfl ?_
  refine zx_c rfl rfl rfl rfl (w_isIn' (lo := 0) (hi := 7) h1 _ _) ?_
  refine zx_gp 19 rfl ?_
  refine zx_c rfl rfl rfl rfl (w_isIn' (lo := 0) (hi := 3) h2 _ _) ?_
  refine zx_gp 19 rfl ?_
  refine zx_bal rfl rfl rfl rfl hF.2.2.2.2.2.2.2.2.2.2.1 ?_
  refine zx_gp 19 rfl ?_
  refine zx_c rfl rfl rfl rfl (m_rf2 _) ?_
  refine zx_gp 19 rfl ?_
  exact zx_r rfl rfl
theorem m_aside_t7 (hF : zFk F) (p1 p2 : Int32) (h1 : zwi p1 0 7 = 1) (h2 : zwi p2 0 3 = 1) (d : Nat) : zCr (d + 2) 164 [.ref 113, .int 7, .int p1, .int p2] (zHx F G L) (.inl (some (.int 0))) (zHt F G L 2) := by
  refine zx_in rfl rfl ?_
  refine zx_gp 19 rfl ?_
  refine zx_c rfl rfl rfl rfl (w_isIn' (lo := 0) (hi := 7) (show zwi 7 0 7 = 1 by decide) _ _) ?_
  refine zx_gp 19 rfl ?_
  refine zx_c rfl rfl rfl rfl (w_isIn' (lo := 0) (hi := 7) h1 _ _) ?_
  refine zx_gp 19 rfl ?_
  refine zx_c rfl rfl rfl rfl (w_isIn' (lo := 0) (hi := 3) h2 _ _) ?_
  refine zx_gp 19 rfl ?_
  refine zx_bal rfl rfl rfl rfl hF.2.2.2.2.2.2.2.2.2.2.2 ?_
  refine zx_gp 19 rfl ?_
  refine zx_c rfl rfl rfl rfl (m_rf2 _) ?_
  refine zx_gp 19 rfl ?_
  exact zx_r rfl rfl
theorem m_target_0 (p0 p1 : Int32) (h0 : zwi p0 0 3 = 0) (d : Nat) : zCr (d + 2) 180 [.ref 113, .int p0, .int p1] (zHx F G L) (.inl (some (.int 0))) (zHt F G L 1) := by
  refine zx_in rfl rfl ?_
  refine zx_gp 19 rfl ?_
  refine zx_c rfl rfl rfl rfl (w_isIn' (lo := 0) (hi := 3) h0 _ _) ?_
  refine zx_gp 19 rfl ?_
  refine zx_c rfl rfl rfl rfl (m_rf1 _) ?_
  refine zx_gp 19 rfl ?_
  exact zx_r rfl rfl
theorem m_target_1 (p0 p1 : Int32) (h0 : zwi p0 0 3 = 1) (h1 : zwi p1 0 128 = 0) (d : Nat) : zCr (d + 2) 180 [.ref 113, .int p0, .int p1] (zHx F G L) (.inl (some (.int 0))) (zHt F G L 1) := by
  refine zx_in rfl rfl ?_
  refine zx_gp 19 rfl ?_
  refine zx_c rfl rfl rfl rfl (w_isIn' (lo := 0) (hi := 3) h0 _ _) ?_
  refine zx_gp 19 rfl ?_
  refine zx_c rfl rfl rfl rfl (w_isIn' (lo := 0) (hi := 128) h1 _ _) ?_
  refine zx_gp 19 rfl ?_
  refine zx_c rfl rfl rfl rfl (m_rf1 _) ?_
  refine zx_gp 19 rfl ?_
  exact zx_r rfl rfl
theorem m_target_t0 (hF : zFk F) (p1 : Int32) (h1 : zwi p1 0 128 = 1) (d : Nat) : zCr (d + 2) 180 [.ref 113, .int 0, .int p1] (zHx F G L) (.inl (some (.int 0))) (zHt F G L 2) := by
  refine zx_in rfl rfl ?_
  refine zx_gp 19 rfl ?_
  refine zx_c rfl rfl rfl rfl (w_isIn' (lo := 0) (hi := 3) (show zwi 0 0 3 = 1 by decide) _ _) ?_
  refine zx_gp 19 rfl ?_
  refine zx_c rfl rfl rfl rfl (w_isIn' (lo := 0) (hi := 128) h1 _ _) ?_
  refine zx_gp 19 rfl ?_
  refine zx_bal rfl rfl rfl rfl hF.1 ?_
  refine zx_gp 19 rfl ?_
  refine zx_c rfl rfl rfl rfl (m_rf2 _) ?_
  refine zx_gp 19 rfl ?_
  exact zx_r rfl rfl
theorem m_target_t1 (hF : zFk F) (p1 : Int32) (h1 : zwi p1 0 128 = 1) (d : Nat) : zCr (d + 2) 180 [.ref 113, .int 1, .int p1] (zHx F G L) (.inl (some (.int 0))) (zHt F G L 2) := by
  refine zx_in rfl rfl ?_
  refine zx_gp 19 rfl ?_
  refine zx_c rfl rfl rfl rfl (w_isIn' (lo := 0) (hi := 3) (show zwi 1 0 3 = 1 by decide) _ _) ?_
  refine zx_gp 19 rfl ?_
  refine zx_c rfl rfl rfl rfl (w_isIn' (lo := 0) (hi := 128) h1 _ _) ?_
  refine zx_gp 19 rfl ?_
  refine zx_bal rfl rfl rfl rfl hF.2.1 ?_
  refine zx_gp 19 rfl ?_
  refine zx_c rfl rfl rfl rfl (m_rf2 _) ?_
  refine zx_gp 19 rfl ?_
  exact zx_r rfl rfl
theorem m_target_t2 (hF : zFk F) (p1 : Int32) (h1 : zwi p1 0 128 = 1) (d : Nat) : zCr (d + 2) 180 [.ref 113, .int 2, .int p1] (zHx F G L) (.inl (some (.int 0))) (zHt F G L 2) := by
  refine zx_in rfl rfl ?_
  refine zx_gp 19 rfl ?_
  refine zx_c rfl rfl rfl rfl (w_isIn' (lo := 0) (hi := 3) (show zwi 2 0 3 = 1 by decide) _ _) ?_
  refine zx_gp 19 rfl ?_
  refine zx_c rfl rfl rfl rfl (w_isIn' (lo := 0) (hi := 128) h1 _ _) ?_
  refine zx_gp 19 rfl ?_
  refine zx_bal rfl rfl rfl rfl hF.2.2.1 ?_
  refine zx_gp 19 rfl ?_
  refine zx_c rfl rfl rfl rfl (m_rf2 _) ?_
  refine zx_gp 19 rfl ?_
  exact zx_r rfl rfl
theorem m_target_t3 (hF : zFk F) (p1 : Int32) (h1 : zwi p1 0 128 = 1) (d : Nat) : zCr (d + 2) 180 [.ref 113, .int 3, .int p1] (zHx F G L) (.inl (some (.int 0))) (zHt F G L 2) := by
  refine zx_in rfl rfl ?_
  refine zx_gp 19 rfl ?_
  refine zx_c rfl rfl rfl rfl (w_isIn' (lo := 0) (hi := 3) (show zwi 3 0 3 = 1 by decide) _ _) ?_
  refine zx_gp 19 rfl ?_
  refine zx_c rfl rfl rfl rfl (w_isIn' (lo := 0) (hi := 128) h1 _ _) ?_
  refine zx_gp 19 rfl ?_
  refine zx_bal rfl rfl rfl rfl hF.2.2.2.1 ?_
  refine zx_gp 19 rfl ?_
  refine zx_c rfl rfl rfl rfl (m_rf2 _) ?_
  refine zx_gp 19 rfl ?_
  exact zx_r rfl rfl
theorem m_harvest_0 (p0 : Int32) (h0 : zwi p0 0 3 = 0) (d : Nat) : zCr (d + 2) 183 [.ref 113, .int p0] (zHx F G L) (.inl (some (.int 0))) (zHt F G L 1) := by
  refine zx_in rfl rfl ?_
  refine zx_gp 19 rfl ?_
  refine zx_c rfl rfl rfl rfl (w_isIn' (lo := 0) (hi := 3) h0 _ _) ?_
  refine zx_gp 19 rfl ?_
  refine zx_c rfl rfl rfl rfl (m_rf1 _) ?_
  refine zx_gp 19 rfl ?_
  exact zx_r rfl rfl
theorem m_harvest_t0 (hF : zFk F)  (d : Nat) : zCr (d + 2) 183 [.ref 113, .int 0] (zHx F G L) (.inl (some (.int 0))) (zHt F G L 2) := by
  refine zx_in rfl rfl ?_
  refine zx_gp 19 rfl ?_
  refine zx_c rfl rfl rfl rfl (w_isIn' (lo := 0) (hi := 3) (show zwi 0 0 3 = 1 by decide) _ _) ?_
  refine zx_gp 19 rfl ?_
  refine zx_bal rfl rfl rfl rfl hF.1 ?_
  refine zx_gp 19 rfl ?_
  refine zx_c rfl rfl rfl rfl (m_rf2 _) ?_
  refine zx_gp 19 rfl ?_
  exact zx_r rfl rfl
theorem m_harvest_t1 (hF : zFk F)  (d : Nat) : zCr (d + 2) 183 [.ref 113, .int 1] (zHx F G L) (.inl (some (.int 0))) (zHt F G L 2) := by
  refine zx_in rfl rfl ?_
  refine zx_gp 19 rfl ?_
  refine zx_c rfl rfl rfl rfl (w_isIn' (lo := 0) (hi := 3) (show zwi 1 0 3 = 1 by decide) _ _) ?_
  refine zx_gp 19 rfl ?_
  refine zx_bal rfl rfl rfl rfl hF.2.1 ?_
  refine zx_gp 19 rfl ?_
  refine zx_c rfl rfl rfl rfl (m_rf2 _) ?_
  refine zx_gp 19 rfl ?_
  exact zx_r rfl rfl
theorem m_harvest_t2 (hF : zFk F)  (d : Nat) : zCr (d + 2) 183 [.ref 113, .int 2] (zHx F G L) (.inl (some (.int 0))) (zHt F G L 2) := by
  refine zx_in rfl rfl ?_
  refine zx_gp 19 rfl ?_
  refine zx_c rfl rfl rfl rfl (w_isIn' (lo := 0) (hi := 3) (show zwi 2 0 3 = 1 by decide) _ _) ?_
  refine zx_gp 19 rfl ?_
  refine zx_bal rfl rfl rfl rfl hF.2.2.1 ?_
  refine zx_gp 19 rfl ?_
  refine zx_c rfl rfl rfl rfl (m_rf2 _) ?_
  refine zx_gp 19 rfl ?_
  exact zx_r rfl rfl
theorem m_harvest_t3 (hF : zFk F)  (d : Nat) : zCr (d + 2) 183 [.ref 113, .int 3] (zHx F G L) (.inl (some (.int 0))) (zHt F G L 2) := by
  refine zx_in rfl rfl ?_
  refine zx_gp 19 rfl ?_
  refine zx_c rfl rfl rfl rfl (w_isIn' (lo := 0) (hi := 3) (show zwi 3 0 3 = 1 by decide) _ _) ?_
  refine zx_gp 19 rfl ?_
  refine zx_bal rfl rfl rfl rfl hF.2.2.2.1 ?_
  refine zx_gp 19 rfl ?_
  refine zx_c rfl rfl rfl rfl (m_rf2 _) ?_
  refine zx_gp 19 rfl ?_
  exact zx_r rfl rfl
theorem m_entry_0 (p0 p1 : Int32) (h0 : zwi p0 0 3 = 0) (d : Nat) : zCr (d + 2) 188 [.ref 113, .int p0, .int p1] (zHx F G L) (.inl (some (.int 0))) (zHt F G L 1) := by
  refine zx_in rfl rfl ?_
  refine zx_gp 19 rfl ?_
  refine zx_c rfl rfl rfl rfl (w_isIn' (lo := 0) (hi := 3) h0 _ _) ?_
  refine zx_gp 19 rfl ?_
  refine zx_c rfl rfl rfl rfl (m_rf1 _) ?_
  refine zx_gp 19 rfl ?_
  exact zx_r rfl rfl
theorem m_entry_1 (p0 p1 : Int32) (h0 : zwi p0 0 3 = 1) (h1 : zwi p1 0 127 = 0) (d : Nat) : zCr (d + 2) 188 [.ref 113, .int p0, .int p1] (zHx F G L) (.inl (some (.int 0))) (zHt F G L 1) := by
  refine zx_in rfl rfl ?_
  refine zx_gp 19 rfl ?_
  refine zx_c rfl rfl rfl rfl (w_isIn' (lo := 0) (hi := 3) h0 _ _) ?_
  refine zx_gp 19 rfl ?_
  refine zx_c rfl rfl rfl rfl (w_isIn' (lo := 0) (hi := 127) h1 _ _) ?_
  refine zx_gp 19 rfl ?_
  refine zx_c rfl rfl rfl rfl (m_rf1 _) ?_
  refine zx_gp 19 rfl ?_
  exact zx_r rfl rfl
theorem m_entry_t0 (hF : zFk F) (p1 : Int32) (h1 : zwi p1 0 127 = 1) (d : Nat) : zCr (d + 2) 188 [.ref 113, .int 0, .int p1] (zHx F G L) (.inl (some (.int 0))) (zHt F G L 2) := by
  refine zx_in rfl rfl ?_
  refine zx_gp 19 rfl ?_
  refine zx_c rfl rfl rfl rfl (w_isIn' (lo := 0) (hi := 3) (show zwi 0 0 3 = 1 by decide) _ _) ?_
  refine zx_gp 19 rfl ?_
  refine zx_c rfl rfl rfl rfl (w_isIn' (lo := 0) (hi := 127) h1 _ _) ?_
  refine zx_gp 19 rfl ?_
  refine zx_bal rfl rfl rfl rfl hF.1 ?_
  refine zx_gp 19 rfl ?_
  refine zx_c rfl rfl rfl rfl (m_rf2 _) ?_
  refine zx_gp 19 rfl ?_
  exact zx_r rfl rfl
theorem m_entry_t1 (hF : zFk F) (p1 : Int32) (h1 : zwi p1 0 127 = 1) (d : Nat) : zCr (d + 2) 188 [.ref 113, .int 1, .int p1] (zHx F G L) (.inl (some (.int 0))) (zHt F G L 2) := by
  refine zx_in rfl rfl ?_
  refine zx_gp 19 rfl ?_
  refine zx_c rfl rfl rfl rfl (w_isIn' (lo := 0) (hi := 3) (show zwi 1 0 3 = 1 by decide) _ _) ?_
  refine zx_gp 19 rfl ?_
  refine zx_c rfl rfl rfl rfl (w_isIn' (lo := 0) (hi := 127) h1 _ _) ?_
  refine zx_gp 19 rfl ?_
  refine zx_bal rfl rfl rfl rfl hF.2.1 ?_
  refine zx_gp 19 rfl ?_
  refine zx_c rfl rfl rfl rfl (m_rf2 _) ?_
  refine zx_gp 19 rfl ?_
  exact zx_r rfl rfl
theorem m_entry_t2 (hF : zFk F) (p1 : Int32) (h1 : zwi p1 0 127 = 1) (d : Nat) : zCr (d + 2) 188 [.ref 113, .int 2, .int p1] (zHx F G L) (.inl (some (.int 0))) (zHt F G L 2) := by
  refine zx_in rfl rfl ?_
  refine zx_gp 19 rfl ?_
  refine zx_c rfl rfl rfl rfl (w_isIn' (lo := 0) (hi := 3) (show zwi 2 0 3 = 1 by decide) _ _) ?_
  refine zx_gp 19 rfl ?_
  refine zx_c rfl rfl rfl rfl (w_isIn' (lo := 0) (hi := 127) h1 _ _) ?_
  refine zx_gp 19 rfl ?_
  refine zx_bal rfl rfl rfl rfl hF.2.2.1 ?_
  refine zx_gp 19 rfl ?_
  refine zx_c rfl rfl rfl rfl (m_rf2 _) ?_
  refine zx_gp 19 rfl ?_
  exact zx_r rfl rfl
theorem m_entry_t3 (hF : zFk F) (p1 : Int32) (h1 : zwi p1 0 127 = 1) (d : Nat) : zCr (d + 2) 188 [.ref 113, .int 3, .int p1] (zHx F G L) (.inl (some (.int 0))) (zHt F G L 2) := by
  refine zx_in rfl rfl ?_
  refine zx_gp 19 rfl ?_
  refine zx_c rfl rfl rfl rfl (w_isIn' (lo := 0) (hi := 3) (show zwi 3 0 3 = 1 by decide) _ _) ?_
  refine zx_gp 19 rfl ?_
  refine zx_c rfl rfl rfl rfl (w_isIn' (lo := 0) (hi := 127) h1 _ _) ?_
  refine zx_gp 19 rfl ?_
  refine zx_bal rfl rfl rfl rfl hF.2.2.2.1 ?_
  refine zx_gp 19 rfl ?_
  refine zx_c rfl rfl rfl rfl (m_rf2 _) ?_
  refine zx_gp 19 rfl ?_
  exact zx_r rfl rfl
theorem m_peek_0 (p0 p1 : Int32) (h0 : zwi p0 0 3 = 0) (d : Nat) : zCr (d + 2) 197 [.ref 113, .int p0, .int p1] (zHx F G L) (.inl (some (.int 0))) (zHt F G L 1) := by
  refine zx_in rfl rfl ?_
  refine zx_gp 19 rfl ?_
  refine zx_c rfl rfl rfl rfl (w_isIn' (lo := 0) (hi := 3) h0 _ _) ?_
  refine zx_gp 19 rfl ?_
  refine zx_c rfl rfl rfl rfl (m_rf1 _) ?_
  refine zx_gp 19 rfl ?_
  exact zx_r rfl rfl
theorem m_peek_1 (p0 p1 : Int32) (h0 : zwi p0 0 3 = 1) (h1 : zwi p1 0 2047 = 0) (d : Nat) : zCr (d + 2) 197 [.ref 113, .int p0, .int p1] (zHx F G L) (.inl (some (.int 0))) (zHt F G L 1) := by
  refine zx_in rfl rfl ?_
  refine zx_gp 19 rfl ?_
  refine zx_c rfl rfl rfl rfl (w_isIn' (lo := 0) (hi := 3) h0 _ _) ?_
  refine zx_gp 19 rfl ?_
  refine zx_c rfl rfl rfl rfl (w_isIn' (lo := 0) (hi := 2047) h1 _ _) ?_
  refine zx_gp 19 rfl ?_
  refine zx_c rfl rfl rfl rfl (m_rf1 _) ?_
  refine zx_gp 19 rfl ?_
  exact zx_r rfl rfl
theorem m_peek_t0 (hF : zFk F) (p1 : Int32) (h1 : zwi p1 0 2047 = 1) (d : Nat) : zCr (d + 2) 197 [.ref 113, .int 0, .int p1] (zHx F G L) (.inl (some (.int 0))) (zHt F G L 2) := by
  refine zx_in rfl rfl ?_
  refine zx_gp 19 rfl ?_
  refine zx_c rfl rfl rfl rfl (w_isIn' (lo := 0) (hi := 3) (show zwi 0 0 3 = 1 by decide) _ _) ?_
  refine zx_gp 19 rfl ?_
  refine zx_c rfl rfl rfl rfl (w_isIn' (lo := 0) (hi := 2047) h1 _ _) ?_
  refine zx_gp 19 rfl ?_
  refine zx_bal rfl rfl rfl rfl hF.1 ?_
  refine zx_gp 19 rfl ?_
  refine zx_c rfl rfl rfl rfl (m_rf2 _) ?_
  refine zx_gp 19 rfl ?_
  exact zx_r rfl rfl
theorem m_peek_t1 (hF : zFk F) (p1 : Int32) (h1 : zwi p1 0 2047 = 1) (d : Nat) : zCr (d + 2) 197 [.ref 113, .int 1, .int p1] (zHx F G L) (.inl (some (.int 0))) (zHt F G L 2) := by
  refine zx_in rfl rfl ?_
  refine zx_gp 19 rfl ?_
  refine zx_c rfl rfl rfl rfl (w_isIn' (lo := 0) (hi := 3) (show zwi 1 0 3 = 1 by decide) _ _) ?_
  refine zx_gp 19 rfl ?_
  refine zx_c rfl rfl rfl rfl (w_isIn' (lo := 0) (hi := 2047) h1 _ _) ?_
  refine zx_gp 19 rfl ?_
  refine zx_bal rfl rfl rfl rfl hF.2.1 ?_
  refine zx_gp 19 rfl ?_
  refine zx_c rfl rfl rfl rfl (m_rf2 _) ?_
  refine zx_gp 19 rfl ?_
  exact zx_r rfl rfl
theorem m_peek_t2 (hF : zFk F) (p1 : Int32) (h1 : zwi p1 0 2047 = 1) (d : Nat) : zCr (d + 2) 197 [.ref 113, .int 2, .int p1] (zHx F G L) (.inl (some (.int 0))) (zHt F G L 2) := by
  refine zx_in rfl rfl ?_
  refine zx_gp 19 rfl ?_
  refine zx_c rfl rfl rfl rfl (w_isIn' (lo := 0) (hi := 3) (show zwi 2 0 3 = 1 by decide) _ _) ?_
  refine zx_gp 19 rfl ?_
  refine zx_c rfl rfl rfl rfl (w_isIn' (lo := 0) (hi := 2047) h1 _ _) ?_
  refine zx_gp 19 rfl ?_
  refine zx_bal rfl rfl rfl rfl hF.2.2.1 ?_
  refine zx_gp 19 rfl ?_
  refine zx_c rfl rfl rfl rfl (m_rf2 _) ?_
  refine zx_gp 19 rfl ?_
  exact zx_r rfl rfl
theorem m_peek_t3 (hF : zFk F) (p1 : Int32) (h1 : zwi p1 0 2047 = 1) (d : Nat) : zCr (d + 2) 197 [.ref 113, .int 3, .int p1] (zHx F G L) (.inl (some (.int 0))) (zHt F G L 2) := by
  refine zx_in rfl rfl ?_
  refine zx_gp 19 rfl ?_
  refine zx_c rfl rfl rfl rfl (w_isIn' (lo := 0) (hi := 3) (show zwi 3 0 3 = 1 by decide) _ _) ?_
  refine zx_gp 19 rfl ?_
  refine zx_c rfl rfl rfl rfl (w_isIn' (lo := 0) (hi := 2047) h1 _ _) ?_
  refine zx_gp 19 rfl ?_
  refine zx_bal rfl rfl rfl rfl hF.2.2.2.1 ?_
  refine zx_gp 19 rfl ?_
  refine zx_c rfl rfl rfl rfl (m_rf2 _) ?_
  refine zx_gp 19 rfl ?_
  exact zx_r rfl rfl
theorem m_count_0 (p0 p1 : Int32) (h0 : zwi p0 0 3 = 0) (d : Nat) : zCr (d + 2) 210 [.ref 113, .int p0, .int p1] (zHx F G L) (.inl (some (.int 0))) (zHt F G L 1) := by
  refine zx_in rfl rfl ?_
  refine zx_gp 19 rfl ?_
  refine zx_c rfl rfl rfl rfl (w_isIn' (lo := 0) (hi := 3) h0 _ _) ?_
  refine zx_gp 19 rfl ?_
  refine zx_c rfl rfl rfl rfl (m_rf1 _) ?_
  refine zx_gp 19 rfl ?_
  exact zx_r rfl rfl
theorem m_count_1 (p0 p1 : Int32) (h0 : zwi p0 0 3 = 1) (h1 : zwi p1 0 11 = 0) (d : Nat) : zCr (d + 2) 210 [.ref 113, .int p0, .int p1] (zHx F G L) (.inl (some (.int 0))) (zHt F G L 1) := by
  refine zx_in rfl rfl ?_
  refine zx_gp 19 rfl ?_
  refine zx_c rfl rfl rfl rfl (w_isIn' (lo := 0) (hi := 3) h0 _ _) ?_
  refine zx_gp 19 rfl ?_
  refine zx_c rfl rfl rfl rfl (w_isIn' (lo := 0) (hi := 11) h1 _ _) ?_
  refine zx_gp 19 rfl ?_
  refine zx_c rfl rfl rfl rfl (m_rf1 _) ?_
  refine zx_gp 19 rfl ?_
  exact zx_r rfl rfl
theorem m_count_t0 (hF : zFk F) (p1 : Int32) (h1 : zwi p1 0 11 = 1) (d : Nat) : zCr (d + 2) 210 [.ref 113, .int 0, .int p1] (zHx F G L) (.inl (some (.int 0))) (zHt F G L 2) := by
  refine zx_in rfl rfl ?_
  refine zx_gp 19 rfl ?_
  refine zx_c rfl rfl rfl rfl (w_isIn' (lo := 0) (hi := 3) (show zwi 0 0 3 = 1 by decide) _ _) ?_
  refine zx_gp 19 rfl ?_
  refine zx_c rfl rfl rfl rfl (w_isIn' (lo := 0) (hi := 11) h1 _ _) ?_
  refine zx_gp 19 rfl ?_
  refine zx_bal rfl rfl rfl rfl hF.1 ?_
  refine zx_gp 19 rfl ?_
  refine zx_c rfl rfl rfl rfl (m_rf2 _) ?_
  refine zx_gp 19 rfl ?_
  exact zx_r rfl rfl
theorem m_count_t1 (hF : zFk F) (p1 : Int32) (h1 : zwi p1 0 11 = 1) (d : Nat) : zCr (d + 2) 210 [.ref 113, .int 1, .int p1] (zHx F G L) (.inl (some (.int 0))) (zHt F G L 2) := by
  refine zx_in rfl rfl ?_
  refine zx_gp 19 rfl ?_
  refine zx_c rfl rfl rfl rfl (w_isIn' (lo := 0) (hi := 3) (show zwi 1 0 3 = 1 by decide) _ _) ?_
  refine zx_gp 19 rfl ?_
  refine zx_c rfl rfl rfl rfl (w_isIn' (lo := 0) (hi := 11) h1 _ _) ?_
  refine zx_gp 19 rfl ?_
  refine zx_bal rfl rfl rfl rfl hF.2.1 ?_
  refine zx_gp 19 rfl ?_
  refine zx_c rfl rfl rfl rfl (m_rf2 _) ?_
  refine zx_gp 19 rfl ?_
  exact zx_r rfl rfl
theorem m_count_t2 (hF : zFk F) (p1 : Int32) (h1 : zwi p1 0 11 = 1) (d : Nat) : zCr (d + 2) 210 [.ref 113, .int 2, .int p1] (zHx F G L) (.inl (some (.int 0))) (zHt F G L 2) := by
  refine zx_in rfl rfl ?_
  refine zx_gp 19 rfl ?_
  refine zx_c rfl rfl rfl rfl (w_isIn' (lo := 0) (hi := 3) (show zwi 2 0 3 = 1 by decide) _ _) ?_
  refine zx_gp 19 rfl ?_
  refine zx_c rfl rfl rfl rfl (w_isIn' (lo := 0) (hi := 11) h1 _ _) ?_
  refine zx_gp 19 rfl ?_
  refine zx_bal rfl rfl rfl rfl hF.2.2.1 ?_
  refine zx_gp 19 rfl ?_
  refine zx_c rfl rfl rfl rfl (m_rf2 _) ?_
  refine zx_gp 19 rfl ?_
  exact zx_r rfl rfl
theorem m_count_t3 (hF : zFk F) (p1 : Int32) (h1 : zwi p1 0 11 = 1) (d : Nat) : zCr (d + 2) 210 [.ref 113, .int 3, .int p1] (zHx F G L) (.inl (some (.int 0))) (zHt F G L 2) := by
  refine zx_in rfl rfl ?_
  refine zx_gp 19 rfl ?_
  refine zx_c rfl rfl rfl rfl (w_isIn' (lo := 0) (hi := 3) (show zwi 3 0 3 = 1 by decide) _ _) ?_
  refine zx_gp 19 rfl ?_
  refine zx_c rfl rfl rfl rfl (w_isIn' (lo := 0) (hi := 11) h1 _ _) ?_
  refine zx_gp 19 rfl ?_
  refine zx_bal rfl rfl rfl rfl hF.2.2.2.1 ?_
  refine zx_gp 19 rfl ?_
  refine zx_c rfl rfl rfl rfl (m_rf2 _) ?_
  refine zx_gp 19 rfl ?_
  exact zx_r rfl rfl
theorem m_printed_0 (p0 p1 : Int32) (h0 : zwi p0 0 3 = 0) (d : Nat) : zCr (d + 2) 214 [.ref 113, .int p0, .int p1] (zHx F G L) (.inl (some (.int 0))) (zHt F G L 1) := by
  refine zx_in rfl rfl ?_
  refine zx_gp 19 rfl ?_
  refine zx_c rfl rfl rfl rfl (w_isIn' (lo := 0) (hi := 3) h0 _ _) ?_
  refine zx_gp 19 rfl ?_
  refine zx_c rfl rfl rfl rfl (m_rf1 _) ?_
  refine zx_gp 19 rfl ?_
  exact zx_r rfl rfl
theorem m_printed_t0 (hF : zFk F) (p1 : Int32)  (d : Nat) : zCr (d + 2) 214 [.ref 113, .int 0, .int p1] (zHx F G L) (.inl (some (.int 0))) (zHt F G L 2) := by
  refine zx_in rfl rfl ?_
  refine zx_gp 19 rfl ?_
  refine zx_c rfl rfl rfl rfl (w_isIn' (lo := 0) (hi := 3) (show zwi 0 0 3 = 1 by decide) _ _) ?_
  refine zx_gp 19 rfl ?_
  refine zx_bal rfl rfl rfl rfl hF.1 ?_
  refine zx_gp 19 rfl ?_
  refine zx_c rfl rfl rfl rfl (m_rf2 _) ?_
  refine zx_gp 19 rfl ?_
  exact zx_r rfl rfl
theorem m_printed_t1 (hF : zFk F) (p1 : Int32)  (d : Nat) : zCr (d + 2) 214 [.ref 113, .int 1, .int p1] (zHx F G L) (.inl (some (.int 0))) (zHt F G L 2) := by
  refine zx_in rfl rfl ?_
  refine zx_gp 19 rfl ?_
  refine zx_c rfl rfl rfl rfl (w_isIn' (lo := 0) (hi := 3) (show zwi 1 0 3 = 1 by decide) _ _) ?_
  refine zx_gp 19 rfl ?_
  refine zx_bal rfl rfl rfl rfl hF.2.1 ?_
  refine zx_gp 19 rfl ?_
  refine zx_c rfl rfl rfl rfl (m_rf2 _) ?_
  refine zx_gp 19 rfl ?_
  exact zx_r rfl rfl
theorem m_printed_t2 (hF : zFk F) (p1 : Int32)  (d : Nat) : zCr (d + 2) 214 [.ref 113, .int 2, .int p1] (zHx F G L) (.inl (some (.int 0))) (zHt F G L 2) := by
  refine zx_in rfl rfl ?_
  refine zx_gp 19 rfl ?_
  refine zx_c rfl rfl rfl rfl (w_isIn' (lo := 0) (hi := 3) (show zwi 2 0 3 = 1 by decide) _ _) ?_
  refine zx_gp 19 rfl ?_
  refine zx_bal rfl rfl rfl rfl hF.2.2.1 ?_
  refine zx_gp 19 rfl ?_
  refine zx_c rfl rfl rfl rfl (m_rf2 _) ?_
  refine zx_gp 19 rfl ?_
  exact zx_r rfl rfl
theorem m_printed_t3 (hF : zFk F) (p1 : Int32)  (d : Nat) : zCr (d + 2) 214 [.ref 113, .int 3, .int p1] (zHx F G L) (.inl (some (.int 0))) (zHt F G L 2) := by
  refine zx_in rfl rfl ?_
  refine zx_gp 19 rfl ?_
  refine zx_c rfl rfl rfl rfl (w_isIn' (lo := 0) (hi := 3) (show zwi 3 0 3 = 1 by decide) _ _) ?_
  refine zx_gp 19 rfl ?_
  refine zx_bal rfl rfl rfl rfl hF.2.2.2.1 ?_
  refine zx_gp 19 rfl ?_
  refine zx_c rfl rfl rfl rfl (m_rf2 _) ?_
  refine zx_gp 19 rfl ?_
  exact zx_r rfl rfl
theorem m_thrown (k : Int32) (d : Nat) : zCr (d + 1) 24 [.ref 113] (zHt F G L k) (.inl (some (.int k))) (zHt F G L k) := by
  refine zx_in rfl rfl ?_
  refine zx_go 9 rfl ?_
  exact zx_r rfl rfl
end ZMO
