/-! THE MODEL: the other methods -/
section ZMP
variable {F : Nat → Nat → Int32} {G : Nat → Nat → Option Nat} {L : Nat → Int64}
theorem m_isValue_o {p1 : Int32} (p2 : Int32) (h1 : zwi p1 0 9 = 0) (h : zH) (d : Nat) : zCr (d + 2) 56 [.int p1, .int p2] h (.inl (some (.int 0))) h := by
  refine zx_in rfl rfl ?_
  refine zx_go 1 rfl ?_
  refine zx_sw rfl rfl (zwi_sw9 h1) rfl ?_
  refine zx_go 9 rfl ?_
  exact zx_r rfl rfl
theorem m_isValue_0 {p2 r : Int32} (hr : zwi p2 0 65535 = r) (h : zH) (d : Nat) : zCr (d + 2) 56 [.int 0, .int p2] h (.inl (some (.int r))) h := by
  refine zx_in rfl rfl ?_
  refine zx_go 9 rfl ?_
  refine zx_c rfl rfl rfl rfl (w_isIn' (lo := 0) (hi := 65535) hr _ _) ?_
  rcases zwi_01 p2 0 65535 with q | q <;> (rw [q] at hr; subst hr; exact zx_r rfl rfl)
theorem m_isValue_1 {p2 r : Int32} (hr : zwi p2 0 65535 = r) (h : zH) (d : Nat) : zCr (d + 2) 56 [.int 1, .int p2] h (.inl (some (.int r))) h := by
  refine zx_in rfl rfl ?_
  refine zx_go 9 rfl ?_
  refine zx_c rfl rfl rfl rfl (w_isIn' (lo := 0) (hi := 65535) hr _ _) ?_
  rcases zwi_01 p2 0 65535 with q | q <;> (rw [q] at hr; subst hr; exact zx_r rfl rfl)
theorem m_isValue_2 {p2 r : Int32} (hr : zwi p2 0 4095 = r) (h : zH) (d : Nat) : zCr (d + 2) 56 [.int 2, .int p2] h (.inl (some (.int r))) h := by
  refine zx_in rfl rfl ?_
  refine zx_go 9 rfl ?_
  refine zx_c rfl rfl rfl rfl (w_isIn' (lo := 0) (hi := 4095) hr _ _) ?_
  rcases zwi_01 p2 0 4095 with q | q <;> (rw [q] at hr; subst hr; exact zx_r rfl rfl)
theorem m_isValue_3 {p2 r : Int32} (hr : zwi p2 0 1 = r) (h : zH) (d : Nat) : zCr (d + 2) 56 [.int 3, .int p2] h (.inl (some (.int r))) h := by
  refine zx_in rfl rfl ?_
  refine zx_go 9 rfl ?_
  refine zx_c rfl rfl rfl rfl (w_isIn' (lo := 0) (hi := 1) hr _ _) ?_
  rcases zwi_01 p2 0 1 with q | q <;> (rw [q] at hr; subst hr; exact zx_r rfl rfl)
theorem m_isValue_4 {p2 r : Int32} (hr : zwi p2 0 3 = r) (h : zH) (d : Nat) : zCr (d + 2) 56 [.int 4, .int p2] h (.inl (some (.int r))) h := by
  refine zx_in rfl rfl ?_
  refine zx_go 9 rfl ?_
  refine zx_c rfl rfl rfl rfl (w_isIn' (lo := 0) (hi := 3) hr _ _) ?_
  rcases zwi_01 p2 0 3 with q | q <;> (rw [q] at hr; subst hr; exact zx_r rfl rfl)
theorem m_isValue_5 {p2 r : Int32} (hr : zwi p2 0 255 = r) (h : zH) (d : Nat) : zCr (d + 2) 56 [.int 5, .int p2] h (.inl (some (.int r))) h := by
  refine zx_in rfl rfl ?_
  refine zx_go 9 rfl ?_
  refine zx_c rfl rfl rfl rfl (w_isIn' (lo := 0) (hi := 255) hr _ _) ?_
  rcases zwi_01 p2 0 255 with q | q <;> (rw [q] at hr; subst hr; exact zx_r rfl rfl)
theorem m_isValue_6 {p2 r : Int32} (hr : zwi p2 0 3 = r) (h : zH) (d : Nat) : zCr (d + 2) 56 [.int 6, .int p2] h (.inl (some (.int r))) h := by
  refine zx_in rfl rfl ?_
  refine zx_go 9 rfl ?_
  refine zx_c rfl rfl rfl rfl (w_isIn' (lo := 0) (hi := 3) hr _ _) ?_
  rcases zwi_01 p2 0 3 with q | q <;> (rw [q] at hr; subst hr; exact zx_r rfl rfl)
theorem m_isValue_7 {p2 r : Int32} (hr : zwi p2 (-1) 4095 = r) (h : zH) (d : Nat) : zCr (d + 2) 56 [.int 7, .int p2] h (.inl (some (.int r))) h := by
  refine zx_in rfl rfl ?_
  refine zx_go 9 rfl ?_
  refine zx_c rfl rfl rfl rfl (w_isIn' (lo := (-1)) (hi := 4095) hr _ _) ?_
  rcases zwi_01 p2 (-1) 4095 with q | q <;> (rw [q] at hr; subst hr; exact zx_r rfl rfl)
theorem m_isValue_8 {p2 r : Int32} (hr : zwi p2 0 4095 = r) (h : zH) (d : Nat) : zCr (d + 2) 56 [.int 8, .int p2] h (.inl (some (.int r))) h := by
  refine zx_in rfl rfl ?_
  refine zx_go 9 rfl ?_
  refine zx_c rfl rfl rfl rfl (w_isIn' (lo := 0) (hi := 4095) hr _ _) ?_
  rcases zwi_01 p2 0 4095 with q | q <;> (rw [q] at hr; subst hr; exact zx_r rfl rfl)
theorem m_isValue_9 {p2 r : Int32} (hr : zwi p2 0 1 = r) (h : zH) (d : Nat) : zCr (d + 2) 56 [.int 9, .int p2] h (.inl (some (.int r))) h := by
  refine zx_in rfl rfl ?_
  refine zx_go 9 rfl ?_
  refine zx_c rfl rfl rfl rfl (w_isIn' (lo := 0) (hi := 1) hr _ _) ?_
  rcases zwi_01 p2 0 1 with q | q <;> (rw [q] at hr; subst hr; exact zx_r rfl rfl)
theorem m_set_0 (p0 p1 p2 : Int32) (h0 : zwi p0 0 7 = 0) (d : Nat) : zCr (d + 3) 57 [.ref 113, .int p0, .int p1, .int p2] (zHx F G L) (.inl none) (zHt F G L 1) := by
  refine zx_in rfl rfl ?_
  refine zx_gp 19 rfl ?_
  refine zx_c rfl rfl rfl rfl (w_isIn' (lo := 0) (hi := 7) h0 _ _) ?_
  refine zx_gp 19 rfl ?_
  refine zx_c rfl rfl rfl rfl (m_rf1 _) ?_
  refine zx_gp 19 rfl ?_
  exact zx_r rfl rfl
theorem m_set_1 (p0 p1 p2 : Int32) (h0 : zwi p0 0 7 = 1) (h1 : zwi p1 0 9 = 0) (d : Nat) : zCr (d + 3) 57 [.ref 113, .int p0, .int p1, .int p2] (zHx F G L) (.inl none) (zHt F G L 1) := by
  refine zx_in rfl rfl ?_
  refine zx_gp 19 rfl ?_
  refine zx_c rfl rfl rfl rfl (w_isIn' (lo := 0) (hi := 7) h0 _ _) ?_
  refine zx_gp 19 rfl ?_
  refine zx_c rfl rfl rfl rfl (m_isValue_o _ h1 _ _) ?_
  refine zx_gp 19 rfl ?_
  refine zx_c rfl rfl rfl rfl (m_rf1 _) ?_
  refine zx_gp 19 rfl ?_
  exact zx_r rfl rfl
theorem m_set_b0 (p0 p2 : Int32) (h0 : zwi p0 0 7 = 1) (h2 : zwi p2 0 65535 = 0) (d : Nat) : zCr (d + 3) 57 [.ref 113, .int p0, .int 0, .int p2] (zHx F G L) (.inl none) (zHt F G L 1) := by
  refine zx_in rfl rfl ?_
  refine zx_gp 19 rfl ?_
  refine zx_c rfl rfl rfl rfl (w_isIn' (lo := 0) (hi := 7) h0 _ _) ?_
  refine zx_gp 19 rfl ?_
  refine zx_c rfl rfl rfl rfl (m_isValue_0 h2 _ _) ?_
  refine zx_gp 19 rfl ?_
  refine zx_c rfl rfl rfl rfl (m_rf1 _) ?_
  refine zx_gp 19 rfl ?_
  exact zx_r rfl rfl
theorem m_set_t0 (hF : zFk F) (p0 p2 : Int32) (h0 : zwi p0 0 7 = 1) (h2 : zwi p2 0 65535 = 1) (d : Nat) : zCr (d + 3) 57 [.ref 113, .int p0, .int 0, .int p2] (zHx F G L) (.inl none) (zHt F G L 2) := by
  have key : ∀ j : Int32, zin j 8 = true → F 138 j.toNatClampNeg = 0 → zwi j 0 7 = 1 → zCr (d + 3) 57 [.ref 113, .int j, .int 0, .int p2] (zHx F G L) (.inl none) (zHt F G L 2) := by
    intro j hz hv hj
    refine zx_in rfl rfl ?_
    refine zx_gp 19 rfl ?_
    refine zx_c rfl rfl rfl rfl (w_isIn' (lo := 0) (hi := 7) hj _ _) ?_
    refine zx_gp 19 rfl ?_
    refine zx_c rfl rfl rfl rfl (m_isValue_0 h2 _ _) ?_
    refine zx_gp 19 rfl ?_
    refine zx_bal rfl rfl rfl hz hv ?_
    refine zx_gp 19 rfl ?_
    refine zx_c rfl rfl rfl rfl (m_rf2 _) ?_
    refine zx_gp 19 rfl ?_
    exact zx_r rfl rfl
  rcases zwi_7 h0 with rfl | rfl | rfl | rfl | rfl | rfl | rfl | rfl
  · exact key 0 rfl hF.2.2.2.2.1 rfl
  · exact key 1 rfl hF.2.2.2.2.2.1 rfl
  · exact key 2 rfl hF.2.2.2.2.2.2.1 rfl
  · exact key 3 rfl hF.2.2.2.2.2.2.2.1 rfl
  · exact key 4 rfl hF.2.2.2.2.2.2.2.2.1 rfl
  · exact key 5 rfl hF.2.2.2.2.2.2.2.2.2.1 rfl
  · exact key 6 rfl hF.2.2.2.2.2.2.2.2.2.2.1 rfl
  · exact key 7 rfl hF.2.2.2.2.2.2.2.2.2.2.2 rfl
theorem m_set_b1 (p0 p2 : Int32) (h0 : zwi p0 0 7 = 1) (h2 : zwi p2 0 65535 = 0) (d : Nat) : zCr (d + 3) 57 [.ref 113, .int p0, .int 1, .int p2] (zHx F G L) (.inl none) (zHt F G L 1) := by
  refine zx_in rfl rfl ?_
  refine zx_gp 19 rfl ?_
  refine zx_c rfl rfl rfl rfl (w_isIn' (lo := 0) (hi := 7) h0 _ _) ?_
  refine zx_gp 19 rfl ?_
  refine zx_c rfl rfl rfl rfl (m_isValue_1 h2 _ _) ?_
  refine zx_gp 19 rfl ?_
  refine zx_c rfl rfl rfl rfl (m_rf1 _) ?_
  refine zx_gp 19 rfl ?_
  exact zx_r rfl rfl
theorem m_set_t1 (hF : zFk F) (p0 p2 : Int32) (h0 : zwi p0 0 7 = 1) (h2 : zwi p2 0 65535 = 1) (d : Nat) : zCr (d + 3) 57 [.ref 113, .int p0, .int 1, .int p2] (zHx F G L) (.inl none) (zHt F G L 2) := by
  have key : ∀ j : Int32, zin j 8 = true → F 138 j.toNatClampNeg = 0 → zwi j 0 7 = 1 → zCr (d + 3) 57 [.ref 113, .int j, .int 1, .int p2] (zHx F G L) (.inl none) (zHt F G L 2) := by
    intro j hz hv hj
    refine zx_in rfl rfl ?_
    refine zx_gp 19 rfl ?_
    refine zx_c rfl rfl rfl rfl (w_isIn' (lo := 0) (hi := 7) hj _ _) ?_
    refine zx_gp 19 rfl ?_
    refine zx_c rfl rfl rfl rfl (m_isValue_1 h2 _ _) ?_
    refine zx_gp 19 rfl ?_
    refine zx_bal rfl rfl rfl hz hv ?_
    refine zx_gp 19 rfl ?_
    refine zx_c rfl rfl rfl rfl (m_rf2 _) ?_
    refine zx_gp 19 rfl ?_
    exact zx_r rfl rfl
  rcases zwi_7 h0 with rfl | rfl | rfl | rfl | rfl | rfl | rfl | rfl
  · exact key 0 rfl hF.2.2.2.2.1 rfl
  · exact key 1 rfl hF.2.2.2.2.2.1 rfl
  · exact key 2 rfl hF.2.2.2.2.2.2.1 rfl
  · exact key 3 rfl hF.2.2.2.2.2.2.2.1 rfl
  · exact key 4 rfl hF.2.2.2.2.2.2.2.2.1 rfl
  · exact key 5 rfl hF.2.2.2.2.2.2.2.2.2.1 rfl
  · exact key 6 rfl hF.2.2.2.2.2.2.2.2.2.2.1 rfl
  · exact key 7 rfl hF.2.2.2.2.2.2.2.2.2.2.2 rfl
theorem m_set_b2 (p0 p2 : Int32) (h0 : zwi p0 0 7 = 1) (h2 : zwi p2 0 4095 = 0) (d : Nat) : zCr (d + 3) 57 [.ref 113, .int p0, .int 2, .int p2] (zHx F G L) (.inl none) (zHt F G L 1) := by
  refine zx_in rfl rfl ?_
  refine zx_gp 19 rfl ?_
  refine zx_c rfl rfl rfl rfl (w_isIn' (lo := 0) (hi := 7) h0 _ _) ?_
  refine zx_gp 19 rfl ?_
  refine zx_c rfl rfl rfl rfl (m_isValue_2 h2 _ _) ?_
  refine zx_gp 19 rfl ?_
  refine zx_c rfl rfl rfl rfl (m_rf1 _) ?_
  refine zx_gp 19 rfl ?_
  exact zx_r rfl rfl
theorem m_set_t2 (hF : zFk F) (p0 p2 : Int32) (h0 : zwi p0 0 7 = 1) (h2 : zwi p2 0 4095 = 1) (d : Nat) : zCr (d + 3) 57 [.ref 113, .int p0, .int 2, .int p2] (zHx F G L) (.inl none) (zHt F G L 2) := by
  have key : ∀ j : Int32, zin j 8 = true → F 138 j.toNatClampNeg = 0 → zwi j 0 7 = 1 → zCr (d + 3) 57 [.ref 113, .int j, .int 2, .int p2] (zHx F G L) (.inl none) (zHt F G L 2) := by
    intro j hz hv hj
    refine zx_in rfl rfl ?_
    refine zx_gp 19 rfl ?_
    refine zx_c rfl rfl rfl rfl (w_isIn' (lo := 0) (hi := 7) hj _ _) ?_
    refine zx_gp 19 rfl ?_
    refine zx_c rfl rfl rfl rfl (m_isValue_2 h2 _ _) ?_
    refine zx_gp 19 rfl ?_
    refine zx_bal rfl rfl rfl hz hv ?_
    refine zx_gp 19 rfl ?_
    refine zx_c rfl rfl rfl rfl (m_rf2 _) ?_
    refine zx_gp 19 rfl ?_
    exact zx_r rfl rfl
  rcases zwi_7 h0 with rfl | rfl | rfl | rfl | rfl | rfl | rfl | rfl
  · exact key 0 rfl hF.2.2.2.2.1 rfl
  · exact key 1 rfl hF.2.2.2.2.2.1 rfl
  · exact key 2 rfl hF.2.2.2.2.2.2.1 rfl
  · exact key 3 rfl hF.2.2.2.2.2.2.2.1 rfl
  · exact key 4 rfl hF.2.2.2.2.2.2.2.2.1 rfl
  · exact key 5 rfl hF.2.2.2.2.2.2.2.2.2.1 rfl
  · exact key 6 rfl hF.2.2.2.2.2.2.2.2.2.2.1 rfl
  · exact key 7 rfl hF.2.2.2.2.2.2.2.2.2.2.2 rfl
theorem m_set_b3 (p0 p2 : Int32) (h0 : zwi p0 0 7 = 1) (h2 : zwi p2 0 1 = 0) (d : Nat) : zCr (d + 3) 57 [.ref 113, .int p0, .int 3, .int p2] (zHx F G L) (.inl none) (zHt F G L 1) := by
  refine zx_in rfl rfl ?_
  refine zx_gp 19 rfl ?_
  refine zx_c rfl rfl rfl rfl (w_isIn' (lo := 0) (hi := 7) h0 _ _) ?_
  refine zx_gp 19 rfl ?_
  refine zx_c rfl rfl rfl rfl (m_isValue_3 h2 _ _) ?_
  refine zx_gp 19 rfl ?_
  refine zx_c rfl rfl rfl rfl (m_rf1 _) ?_
  refine zx_gp 19 rfl ?_
  exact zx_r rfl rfl
theorem m_set_t3 (hF : zFk F) (p0 p2 : Int32) (h0 : zwi p0 0 7 = 1) (h2 : zwi p2 0 1 = 1) (d : Nat) : zCr (d + 3) 57 [.ref 113, .int p0, .int 3, .int p2] (zHx F G L) (.inl none) (zHt F G L 2) := by
  have key : ∀ j : Int32, zin j 8 = true → F 138 j.toNatClampNeg = 0 → zwi j 0 7 = 1 → zCr (d + 3) 57 [.ref 113, .int j, .int 3, .int p2] (zHx F G L) (.inl none) (zHt F G L 2) := by
    intro j hz hv hj
    refine zx_in rfl rfl ?_
    refine zx_gp 19 rfl ?_
    refine zx_c rfl rfl rfl rfl (w_isIn' (lo := 0) (hi := 7) hj _ _) ?_
    refine zx_gp 19 rfl ?_
    refine zx_c rfl rfl rfl rfl (m_isValue_3 h2 _ _) ?_
    refine zx_gp 19 rfl ?_
    refine zx_bal rfl rfl rfl hz hv ?_
    refine zx_gp 19 rfl ?_
    refine zx_c rfl rfl rfl rfl (m_rf2 _) ?_
    refine zx_gp 19 rfl ?_
    exact zx_r rfl rfl
  rcases zwi_7 h0 with rfl | rfl | rfl | rfl | rfl | rfl | rfl | rfl
  · exact key 0 rfl hF.2.2.2.2.1 rfl
  · exact key 1 rfl hF.2.2.2.2.2.1 rfl
  · exact key 2 rfl hF.2.2.2.2.2.2.1 rfl
  · exact key 3 rfl hF.2.2.2.2.2.2.2.1 rfl
  · exact key 4 rfl hF.2.2.2.2.2.2.2.2.1 rfl
  · exact key 5 rfl hF.2.2.2.2.2.2.2.2.2.1 rfl
  · exact key 6 rfl hF.2.2.2.2.2.2.2.2.2.2.1 rfl
  · exact key 7 rfl hF.2.2.2.2.2.2.2.2.2.2.2 rfl
theorem m_set_b4 (p0 p2 : Int32) (h0 : zwi p0 0 7 = 1) (h2 : zwi p2 0 3 = 0) (d : Nat) : zCr (d + 3) 57 [.ref 113, .int p0, .int 4, .int p2] (zHx F G L) (.inl none) (zHt F G L 1) := by
  refine zx_in rfl rfl ?_
  refine zx_gp 19 rfl ?_
  refine zx_c rfl rfl rfl rfl (w_isIn' (lo := 0) (hi := 7) h0 _ _) ?_
  refine zx_gp 19 rfl ?_
  refine zx_c rfl rfl rfl rfl (m_isValue_4 h2 _ _) ?_
  refine zx_gp 19 rfl ?_
  refine zx_c rfl rfl rfl rfl (m_rf1 _) ?_
  refine zx_gp 19 rfl ?_
  exact zx_r rfl rfl
theorem m_set_t4 (hF : zFk F) (p0 p2 : Int32) (h0 : zwi p0 0 7 = 1) (h2 : zwi p2 0 3 = 1) (d : Nat) : zCr (d + 3) 57 [.ref 113, .int p0, .int 4, .int p2] (zHx F G L) (.inl none) (zHt F G L 2) := by
  have key : ∀ j : Int32, zin j 8 = true → F 138 j.toNatClampNeg = 0 → zwi j 0 7 = 1 → zCr (d + 3) 57 [.ref 113, .int j, .int 4, .int p2] (zHx F G L) (.inl none) (zHt F G L 2) := by
    intro j hz hv hj
    refine zx_in rfl rfl ?_
    refine zx_gp 19 rfl ?_
    refine zx_c rfl rfl rfl rfl (w_isIn' (lo := 0) (hi := 7) hj _ _) ?_
    refine zx_gp 19 rfl ?_
    refine zx_c rfl rfl rfl rfl (m_isValue_4 h2 _ _) ?_
    refine zx_gp 19 rfl ?_
    refine zx_bal rfl rfl rfl hz hv ?_
    refine zx_gp 19 rfl ?_
    refine zx_c rfl rfl rfl rfl (m_rf2 _) ?_
    refine zx_gp 19 rfl ?_
    exact zx_r rfl rfl
  rcases zwi_7 h0 with rfl | rfl | rfl | rfl | rfl | rfl | rfl | rfl
  · exact key 0 rfl hF.2.2.2.2.1 rfl
  · exact key 1 rfl hF.2.2.2.2.2.1 rfl
  · exact key 2 rfl hF.2.2.2.2.2.2.1 rfl
  · exact key 3 rfl hF.2.2.2.2.2.2.2.1 rfl
  · exact key 4 rfl hF.2.2.2.2.2.2.2.2.1 rfl
  · exact key 5 rfl hF.2.2.2.2.2.2.2.2.2.1 rfl
  · exact key 6 rfl hF.2.2.2.2.2.2.2.2.2.2.1 rfl
  · exact key 7 rfl hF.2.2.2.2.2.2.2.2.2.2.2 rfl
theorem m_set_b5 (p0 p2 : Int32) (h0 : zwi p0 0 7 = 1) (h2 : zwi p2 0 255 = 0) (d : Nat) : zCr (d + 3) 57 [.ref 113, .int p0, .int 5, .int p2] (zHx F G L) (.inl none) (zHt F G L 1) := by
  refine zx_in rfl rfl ?_
  refine zx_gp 19 rfl ?_
  refine zx_c rfl rfl rfl rfl (w_isIn' (lo := 0) (hi := 7) h0 _ _) ?_
  refine zx_gp 19 rfl ?_
  refine zx_c rfl rfl rfl rfl (m_isValue_5 h2 _ _) ?_
  refine zx_gp 19 rfl ?_
  refine zx_c rfl rfl rfl rfl (m_rf1 _) ?_
  refine zx_gp 19 rfl ?_
  exact zx_r rfl rfl
theorem m_set_t5 (hF : zFk F) (p0 p2 : Int32) (h0 : zwi p0 0 7 = 1) (h2 : zwi p2 0 255 = 1) (d : Nat) : zCr (d + 3) 57 [.ref 113, .int p0, .int 5, .int p2] (zHx F G L) (.inl none) (zHt F G L 2) := by
  have key : ∀ j : Int32, zin j 8 = true → F 138 j.toNatClampNeg = 0 → zwi j 0 7 = 1 → zCr (d + 3) 57 [.ref 113, .int j, .int 5, .int p2] (zHx F G L) (.inl none) (zHt F G L 2) := by
    intro j hz hv hj
    refine zx_in rfl rfl ?_
    refine zx_gp 19 rfl ?_
    refine zx_c rfl rfl rfl rfl (w_isIn' (lo := 0) (hi := 7) hj _ _) ?_
    refine zx_gp 19 rfl ?_
    refine zx_c rfl rfl rfl rfl (m_isValue_5 h2 _ _) ?_
    refine zx_gp 19 rfl ?_
    refine zx_bal rfl rfl rfl hz hv ?_
    refine zx_gp 19 rfl ?_
    refine zx_c rfl rfl rfl rfl (m_rf2 _) ?_
    refine zx_gp 19 rfl ?_
    exact zx_r rfl rfl
  rcases zwi_7 h0 with rfl | rfl | rfl | rfl | rfl | rfl | rfl | rfl
  · exact key 0 rfl hF.2.2.2.2.1 rfl
  · exact key 1 rfl hF.2.2.2.2.2.1 rfl
  · exact key 2 rfl hF.2.2.2.2.2.2.1 rfl
  · exact key 3 rfl hF.2.2.2.2.2.2.2.1 rfl
  · exact key 4 rfl hF.2.2.2.2.2.2.2.2.1 rfl
  · exact key 5 rfl hF.2.2.2.2.2.2.2.2.2.1 rfl
  · exact key 6 rfl hF.2.2.2.2.2.2.2.2.2.2.1 rfl
  · exact key 7 rfl hF.2.2.2.2.2.2.2.2.2.2.2 rfl
theorem m_set_b6 (p0 p2 : Int32) (h0 : zwi p0 0 7 = 1) (h2 : zwi p2 0 3 = 0) (d : Nat) : zCr (d + 3) 57 [.ref 113, .int p0, .int 6, .int p2] (zHx F G L) (.inl none) (zHt F G L 1) := by
  refine zx_in rfl rfl ?_
  refine zx_gp 19 rfl ?_
  refine zx_c rfl rfl rfl rfl (w_isIn' (lo := 0) (hi := 7) h0 _ _) ?_
  refine zx_gp 19 rfl ?_
  refine zx_c rfl rfl rfl rfl (m_isValue_6 h2 _ _) ?_
  refine zx_gp 19 rfl ?_
  refine zx_c rfl rfl rfl rfl (m_rf1 _) ?_
  refine zx_gp 19 rfl ?_
  exact zx_r rfl rfl
theorem m_set_t6 (hF : zFk F) (p0 p2 : Int32) (h0 : zwi p0 0 7 = 1) (h2 : zwi p2 0 3 = 1) (d : Nat) : zCr (d + 3) 57 [.ref 113, .int p0, .int 6, .int p2] (zHx F G L) (.inl none) (zHt F G L 2) := by
  have key : ∀ j : Int32, zin j 8 = true → F 138 j.toNatClampNeg = 0 → zwi j 0 7 = 1 → zCr (d + 3) 57 [.ref 113, .int j, .int 6, .int p2] (zHx F G L) (.inl none) (zHt F G L 2) := by
    intro j hz hv hj
    refine zx_in rfl rfl ?_
    refine zx_gp 19 rfl ?_
    refine zx_c rfl rfl rfl rfl (w_isIn' (lo := 0) (hi := 7) hj _ _) ?_
    refine zx_gp 19 rfl ?_
    refine zx_c rfl rfl rfl rfl (m_isValue_6 h2 _ _) ?_
    refine zx_gp 19 rfl ?_
    refine zx_bal rfl rfl rfl hz hv ?_
    refine zx_gp 19 rfl ?_
    refine zx_c rfl rfl rfl rfl (m_rf2 _) ?_
    refine zx_gp 19 rfl ?_
    exact zx_r rfl rfl
  rcases zwi_7 h0 with rfl | rfl | rfl | rfl | rfl | rfl | rfl | rfl
  · exact key 0 rfl hF.2.2.2.2.1 rfl
  · exact key 1 rfl hF.2.2.2.2.2.1 rfl
  · exact key 2 rfl hF.2.2.2.2.2.2.1 rfl
  · exact key 3 rfl hF.2.2.2.2.2.2.2.1 rfl
  · exact key 4 rfl hF.2.2.2.2.2.2.2.2.1 rfl
  · exact key 5 rfl hF.2.2.2.2.2.2.2.2.2.1 rfl
  · exact key 6 rfl hF.2.2.2.2.2.2.2.2.2.2.1 rfl
  · exact key 7 rfl hF.2.2.2.2.2.2.2.2.2.2.2 rfl
theorem m_set_b7 (p0 p2 : Int32) (h0 : zwi p0 0 7 = 1) (h2 : zwi p2 (-1) 4095 = 0) (d : Nat) : zCr (d + 3) 57 [.ref 113, .int p0, .int 7, .int p2] (zHx F G L) (.inl none) (zHt F G L 1) := by
  refine zx_in rfl rfl ?_
  refine zx_gp 19 rfl ?_
  refine zx_c rfl rfl rfl rfl (w_isIn' (lo := 0) (hi := 7) h0 _ _) ?_
  refine zx_gp 19 rfl ?_
  refine zx_c rfl rfl rfl rfl (m_isValue_7 h2 _ _) ?_
  refine zx_gp 19 rfl ?_
  refine zx_c rfl rfl rfl rfl (m_rf1 _) ?_
  refine zx_gp 19 rfl ?_
  exact zx_r rfl rfl
theorem m_set_t7 (hF : zFk F) (p0 p2 : Int32) (h0 : zwi p0 0 7 = 1) (h2 : zwi p2 (-1) 4095 = 1) (d : Nat) : zCr (d + 3) 57 [.ref 113, .int p0, .int 7, .int p2] (zHx F G L) (.inl none) (zHt F G L 2) := by
  have key : ∀ j : Int32, zin j 8 = true → F 138 j.toNatClampNeg = 0 → zwi j 0 7 = 1 → zCr (d + 3) 57 [.ref 113, .int j, .int 7, .int p2] (zHx F G L) (.inl none) (zHt F G L 2) := by
    intro j hz hv hj
    refine zx_in rfl rfl ?_
    refine zx_gp 19 rfl ?_
    refine zx_c rfl rfl rfl rfl (w_isIn' (lo := 0) (hi := 7) hj _ _) ?_
    refine zx_gp 19 rfl ?_
    refine zx_c rfl rfl rfl rfl (m_isValue_7 h2 _ _) ?_
    refine zx_gp 19 rfl ?_
    refine zx_bal rfl rfl rfl hz hv ?_
    refine zx_gp 19 rfl ?_
    refine zx_c rfl rfl rfl rfl (m_rf2 _) ?_
    refine zx_gp 19 rfl ?_
    exact zx_r rfl rfl
  rcases zwi_7 h0 with rfl | rfl | rfl | rfl | rfl | rfl | rfl | rfl
  · exact key 0 rfl hF.2.2.2.2.1 rfl
  · exact key 1 rfl hF.2.2.2.2.2.1 rfl
  · exact key 2 rfl hF.2.2.2.2.2.2.1 rfl
  · exact key 3 rfl hF.2.2.2.2.2.2.2.1 rfl
  · exact key 4 rfl hF.2.2.2.2.2.2.2.2.1 rfl
  · exact key 5 rfl hF.2.2.2.2.2.2.2.2.2.1 rfl
  · exact key 6 rfl hF.2.2.2.2.2.2.2.2.2.2.1 rfl
  · exact key 7 rfl hF.2.2.2.2.2.2.2.2.2.2.2 rfl
theorem m_set_b8 (p0 p2 : Int32) (h0 : zwi p0 0 7 = 1) (h2 : zwi p2 0 4095 = 0) (d : Nat) : zCr (d + 3) 57 [.ref 113, .int p0, .int 8, .int p2] (zHx F G L) (.inl none) (zHt F G L 1) := by
  refine zx_in rfl rfl ?_
  refine zx_gp 19 rfl ?_
  refine zx_c rfl rfl rfl rfl (w_isIn' (lo := 0) (hi := 7) h0 _ _) ?_
  refine zx_gp 19 rfl ?_
  refine zx_c rfl rfl rfl rfl (m_isValue_8 h2 _ _) ?_
  refine zx_gp 19 rfl ?_
  refine zx_c rfl rfl rfl rfl (m_rf1 _) ?_
  refine zx_gp 19 rfl ?_
  exact zx_r rfl rfl
theorem m_set_t8 (hF : zFk F) (p0 p2 : Int32) (h0 : zwi p0 0 7 = 1) (h2 : zwi p2 0 4095 = 1) (d : Nat) : zCr (d + 3) 57 [.ref 113, .int p0, .int 8, .int p2] (zHx F G L) (.inl none) (zHt F G L 2) := by
  have key : ∀ j : Int32, zin j 8 = true → F 138 j.toNatClampNeg = 0 → zwi j 0 7 = 1 → zCr (d + 3) 57 [.ref 113, .int j, .int 8, .int p2] (zHx F G L) (.inl none) (zHt F G L 2) := by
    intro j hz hv hj
    refine zx_in rfl rfl ?_
    refine zx_gp 19 rfl ?_
    refine zx_c rfl rfl rfl rfl (w_isIn' (lo := 0) (hi := 7) hj _ _) ?_
    refine zx_gp 19 rfl ?_
    refine zx_c rfl rfl rfl rfl (m_isValue_8 h2 _ _) ?_
    refine zx_gp 19 rfl ?_
    refine zx_bal rfl rfl rfl hz hv ?_
    refine zx_gp 19 rfl ?_
    refine zx_c rfl rfl rfl rfl (m_rf2 _) ?_
    refine zx_gp 19 rfl ?_
    exact zx_r rfl rfl
  rcases zwi_7 h0 with rfl | rfl | rfl | rfl | rfl | rfl | rfl | rfl
  · exact key 0 rfl hF.2.2.2.2.1 rfl
  · exact key 1 rfl hF.2.2.2.2.2.1 rfl
  · exact key 2 rfl hF.2.2.2.2.2.2.1 rfl
  · exact key 3 rfl hF.2.2.2.2.2.2.2.1 rfl
  · exact key 4 rfl hF.2.2.2.2.2.2.2.2.1 rfl
  · exact key 5 rfl hF.2.2.2.2.2.2.2.2.2.1 rfl
  · exact key 6 rfl hF.2.2.2.2.2.2.2.2.2.2.1 rfl
  · exact key 7 rfl hF.2.2.2.2.2.2.2.2.2.2.2 rfl
theorem m_set_b9 (p0 p2 : Int32) (h0 : zwi p0 0 7 = 1) (h2 : zwi p2 0 1 = 0) (d : Nat) : zCr (d + 3) 57 [.ref 113, .int p0, .int 9, .int p2] (zHx F G L) (.inl none) (zHt F G L 1) := by
  refine zx_in rfl rfl ?_
  refine zx_gp 19 rfl ?_
  refine zx_c rfl rfl rfl rfl (w_isIn' (lo := 0) (hi := 7) h0 _ _) ?_
  refine zx_gp 19 rfl ?_
  refine zx_c rfl rfl rfl rfl (m_isValue_9 h2 _ _) ?_
  refine zx_gp 19 rfl ?_
  refine zx_c rfl rfl rfl rfl (m_rf1 _) ?_
  refine zx_gp 19 rfl ?_
  exact zx_r rfl rfl
theorem m_set_t9 (hF : zFk F) (p0 p2 : Int32) (h0 : zwi p0 0 7 = 1) (h2 : zwi p2 0 1 = 1) (d : Nat) : zCr (d + 3) 57 [.ref 113, .int p0, .int 9, .int p2] (zHx F G L) (.inl none) (zHt F G L 2) := by
  have key : ∀ j : Int32, zin j 8 = true → F 138 j.toNatClampNeg = 0 → zwi j 0 7 = 1 → zCr (d + 3) 57 [.ref 113, .int j, .int 9, .int p2] (zHx F G L) (.inl none) (zHt F G L 2) := by
    intro j hz hv hj
    refine zx_in rfl rfl ?_
    refine zx_gp 19 rfl ?_
    refine zx_c rfl rfl rfl rfl (w_isIn' (lo := 0) (hi := 7) hj _ _) ?_
    refine zx_gp 19 rfl ?_
    refine zx_c rfl rfl rfl rfl (m_isValue_9 h2 _ _) ?_
    refine zx_gp 19 rfl ?_
    refine zx_bal rfl rfl rfl hz hv ?_
    refine zx_gp 19 rfl ?_
    refine zx_c rfl rfl rfl rfl (m_rf2 _) ?_
    refine zx_gp 19 rfl ?_
    exact zx_r rfl rfl
  rcases zwi_7 h0 with rfl | rfl | rfl | rfl | rfl | rfl | rfl | rfl
  · exact key 0 rfl hF.2.2.2.2.1 rfl
  · exact key 1 rfl hF.2.2.2.2.2.1 rfl
  · exact key 2 rfl hF.2.2.2.2.2.2.1 rfl
  · exact key 3 rfl hF.2.2.2.2.2.2.2.1 rfl
  · exact key 4 rfl hF.2.2.2.2.2.2.2.2.1 rfl
  · exact key 5 rfl hF.2.2.2.2.2.2.2.2.2.1 rfl
  · exact key 6 rfl hF.2.2.2.2.2.2.2.2.2.2.1 rfl
  · exact key 7 rfl hF.2.2.2.2.2.2.2.2.2.2.2 rfl
theorem m_pr_0 (p0 p1 f : Int32) (h0 : zwi p0 0 3 = 0) (h : zH) (d : Nat) : zCr (d + 2) 168 [.ref 113, .int p0, .int p1, .int f] h (.inl (some (.int 1))) h := by
  refine zx_in rfl rfl ?_
  refine zx_gp 19 rfl ?_
  refine zx_c rfl rfl rfl rfl (w_isIn' (lo := 0) (hi := 3) h0 _ _) ?_
  refine zx_gp 19 rfl ?_
  exact zx_r rfl rfl
theorem m_pr_1 (p0 p1 f : Int32) (h0 : zwi p0 0 3 = 1) (h1 : zwi p1 0 127 = 0) (h : zH) (d : Nat) : zCr (d + 2) 168 [.ref 113, .int p0, .int p1, .int f] h (.inl (some (.int 1))) h := by
  refine zx_in rfl rfl ?_
  refine zx_gp 19 rfl ?_
  refine zx_c rfl rfl rfl rfl (w_isIn' (lo := 0) (hi := 3) h0 _ _) ?_
  refine zx_gp 19 rfl ?_
  refine zx_c rfl rfl rfl rfl (w_isIn' (lo := 0) (hi := 127) h1 _ _) ?_
  refine zx_gp 19 rfl ?_
  exact zx_r rfl rfl
theorem m_pr_t (hF : zFk F) (p0 p1 f : Int32) (h0 : zwi p0 0 3 = 1) (h1 : zwi p1 0 127 = 1) (d : Nat) : zCr (d + 2) 168 [.ref 113, .int p0, .int p1, .int f] (zHx F G L) (.inl (some (.int 2))) (zHx F G L) := by
  have key : ∀ j : Int32, zin j 4 = true → F 120 j.toNatClampNeg = 0 → zwi j 0 3 = 1 → zCr (d + 2) 168 [.ref 113, .int j, .int p1, .int f] (zHx F G L) (.inl (some (.int 2))) (zHx F G L) := by
    intro j hz hv hj
    refine zx_in rfl rfl ?_
    refine zx_gp 19 rfl ?_
    refine zx_c rfl rfl rfl rfl (w_isIn' (lo := 0) (hi := 3) hj _ _) ?_
    refine zx_gp 19 rfl ?_
    refine zx_c rfl rfl rfl rfl (w_isIn' (lo := 0) (hi := 127) h1 _ _) ?_
    refine zx_gp 19 rfl ?_
    refine zx_bal rfl rfl rfl hz hv ?_
    refine zx_gp 19 rfl ?_
    exact zx_r rfl rfl
  rcases zwi_3 h0 with rfl | rfl | rfl | rfl
  · exact key 0 rfl hF.1 rfl
  · exact key 1 rfl hF.2.1 rfl
  · exact key 2 rfl hF.2.2.1 rfl
  · exact key 3 rfl hF.2.2.2.1 rfl
theorem m_deny_0 (p0 p1 p2 : Int32) (h2 : zwi p2 0 7 = 0) (d : Nat) : zCr (d + 3) 169 [.ref 113, .int p0, .int p1, .int p2] (zHx F G L) (.inl (some (.int 0))) (zHt F G L 1) := by
  refine zx_in rfl rfl ?_
  refine zx_gp 19 rfl ?_
  refine zx_c rfl rfl rfl rfl (w_isIn' (lo := 0) (hi := 7) h2 _ _) ?_
  refine zx_gp 19 rfl ?_
  refine zx_c rfl rfl rfl rfl (m_rf1 _) ?_
  refine zx_gp 19 rfl ?_
  exact zx_r rfl rfl
theorem m_deny_1 (p0 p1 p2 : Int32) (h2 : zwi p2 0 7 = 1) (h0 : zwi p0 0 3 = 0) (d : Nat) : zCr (d + 3) 169 [.ref 113, .int p0, .int p1, .int p2] (zHx F G L) (.inl (some (.int 0))) (zHt F G L 1) := by
  refine zx_in rfl rfl ?_
  refine zx_gp 19 rfl ?_
  refine zx_c rfl rfl rfl rfl (w_isIn' (lo := 0) (hi := 7) h2 _ _) ?_
  refine zx_gp 19 rfl ?_
  refine zx_c rfl rfl rfl rfl (m_pr_0 _ _ 0 h0 _ _) ?_
  refine zx_gp 19 rfl ?_
  refine zx_c rfl rfl rfl rfl (m_rf1 _) ?_
  refine zx_gp 19 rfl ?_
  exact zx_r rfl rfl
theorem m_deny_2 (p0 p1 p2 : Int32) (h2 : zwi p2 0 7 = 1) (h0 : zwi p0 0 3 = 1) (h1 : zwi p1 0 127 = 0) (d : Nat) : zCr (d + 3) 169 [.ref 113, .int p0, .int p1, .int p2] (zHx F G L) (.inl (some (.int 0))) (zHt F G L 1) := by
  refine zx_in rfl rfl ?_
  refine zx_gp 19 rfl ?_
  refine zx_c rfl rfl rfl rfl (w_isIn' (lo := 0) (hi := 7) h2 _ _) ?_
  refine zx_gp 19 rfl ?_
  refine zx_c rfl rfl rfl rfl (m_pr_1 _ _ 0 h0 h1 _ _) ?_
  refine zx_gp 19 rfl ?_
  refine zx_c rfl rfl rfl rfl (m_rf1 _) ?_
  refine zx_gp 19 rfl ?_
  exact zx_r rfl rfl
theorem m_deny_ok (hF : zFk F) (p0 p1 p2 : Int32) (h2 : zwi p2 0 7 = 1) (h0 : zwi p0 0 3 = 1) (h1 : zwi p1 0 127 = 1) (d : Nat) : zCr (d + 3) 169 [.ref 113, .int p0, .int p1, .int p2] (zHx F G L) (.inl (some (.int 0))) (zHt F G L 2) := by
  refine zx_in rfl rfl ?_
  refine zx_gp 19 rfl ?_
  refine zx_c rfl rfl rfl rfl (w_isIn' (lo := 0) (hi := 7) h2 _ _) ?_
  refine zx_gp 19 rfl ?_
  refine zx_c rfl rfl rfl rfl (m_pr_t hF _ _ 0 h0 h1 _) ?_
  refine zx_gp 19 rfl ?_
  refine zx_c rfl rfl rfl rfl (m_rf2 _) ?_
  refine zx_gp 19 rfl ?_
  exact zx_r rfl rfl
theorem m_swap_0 (p0 p1 : Int32) (h0 : zwi p0 0 3 = 0) (d : Nat) : zCr (d + 3) 173 [.ref 113, .int p0, .int p1] (zHx F G L) (.inl (some (.int 0))) (zHt F G L 1) := by
  refine zx_in rfl rfl ?_
  refine zx_gp 19 rfl ?_
  refine zx_c rfl rfl rfl rfl (m_pr_0 _ _ 1 h0 _ _) ?_
  refine zx_gp 19 rfl ?_
  refine zx_c rfl rfl rfl rfl (m_rf1 _) ?_
  refine zx_gp 19 rfl ?_
  exact zx_r rfl rfl
theorem m_swap_1 (p0 p1 : Int32) (h0 : zwi p0 0 3 = 1) (h1 : zwi p1 0 127 = 0) (d : Nat) : zCr (d + 3) 173 [.ref 113, .int p0, .int p1] (zHx F G L) (.inl (some (.int 0))) (zHt F G L 1) := by
  refine zx_in rfl rfl ?_
  refine zx_gp 19 rfl ?_
  refine zx_c rfl rfl rfl rfl (m_pr_1 _ _ 1 h0 h1 _ _) ?_
  refine zx_gp 19 rfl ?_
  refine zx_c rfl rfl rfl rfl (m_rf1 _) ?_
  refine zx_gp 19 rfl ?_
  exact zx_r rfl rfl
theorem m_swap_ok (hF : zFk F) (p0 p1 : Int32) (h0 : zwi p0 0 3 = 1) (h1 : zwi p1 0 127 = 1) (d : Nat) : zCr (d + 3) 173 [.ref 113, .int p0, .int p1] (zHx F G L) (.inl (some (.int 0))) (zHt F G L 2) := by
  refine zx_in rfl rfl ?_
  refine zx_gp 19 rfl ?_
  refine zx_c rfl rfl rfl rfl (m_pr_t hF _ _ 1 h0 h1 _) ?_
  refine zx_gp 19 rfl ?_
  refine zx_c rfl rfl rfl rfl (m_rf2 _) ?_
  refine zx_gp 19 rfl ?_
  exact zx_r rfl rfl
theorem m_move_0 (p0 p1 : Int32) (h0 : zwi p0 0 3 = 0) (d : Nat) : zCr (d + 3) 177 [.ref 113, .int p0, .int p1] (zHx F G L) (.inl (some (.int 0))) (zHt F G L 1) := by
  refine zx_in rfl rfl ?_
  refine zx_gp 19 rfl ?_
  refine zx_c rfl rfl rfl rfl (m_pr_0 _ _ 1 h0 _ _) ?_
  refine zx_gp 19 rfl ?_
  refine zx_c rfl rfl rfl rfl (m_rf1 _) ?_
  refine zx_gp 19 rfl ?_
  exact zx_r rfl rfl
theorem m_move_1 (p0 p1 : Int32) (h0 : zwi p0 0 3 = 1) (h1 : zwi p1 0 127 = 0) (d : Nat) : zCr (d + 3) 177 [.ref 113, .int p0, .int p1] (zHx F G L) (.inl (some (.int 0))) (zHt F G L 1) := by
  refine zx_in rfl rfl ?_
  refine zx_gp 19 rfl ?_
  refine zx_c rfl rfl rfl rfl (m_pr_1 _ _ 1 h0 h1 _ _) ?_
  refine zx_gp 19 rfl ?_
  refine zx_c rfl rfl rfl rfl (m_rf1 _) ?_
  refine zx_gp 19 rfl ?_
  exact zx_r rfl rfl
theorem m_move_ok (hF : zFk F) (p0 p1 : Int32) (h0 : zwi p0 0 3 = 1) (h1 : zwi p1 0 127 = 1) (d : Nat) : zCr (d + 3) 177 [.ref 113, .int p0, .int p1] (zHx F G L) (.inl (some (.int 0))) (zHt F G L 2) := by
  refine zx_in rfl rfl ?_
  refine zx_gp 19 rfl ?_
  refine zx_c rfl rfl rfl rfl (m_pr_t hF _ _ 1 h0 h1 _) ?_
  refine zx_gp 19 rfl ?_
  refine zx_c rfl rfl rfl rfl (m_rf2 _) ?_
  refine zx_gp 19 rfl ?_
  exact zx_r rfl rfl
end ZMP
