/-! THE MODEL: poke, frame, owner, dirty -/
section ZMQ
variable {F : Nat → Nat → Int32} {G : Nat → Nat → Option Nat} {L : Nat → Int64}
theorem m_isWord {v r : Int32} (hr : zwi v 0 65535 = r) (h : zH) (d : Nat) : zCr (d + 2) 192 [.int v] h (.inl (some (.int r))) h := by
  refine zx_in rfl rfl ?_
  refine zx_go 9 rfl ?_
  refine zx_c rfl rfl rfl rfl (w_isIn' (lo := 0) (hi := 65535) hr _ _) ?_
  rcases zwi_01 v 0 65535 with q | q <;> (rw [q] at hr; subst hr; exact zx_r rfl rfl)
theorem m_poke_0 (p0 p1 p2 p3 p4 p5 : Int32) (h0 : zwi p0 0 3 = 0) (d : Nat) : zCr (d + 3) 193 [.ref 113, .int p0, .int p1, .int p2, .int p3, .int p4, .int p5] (zHx F G L) (.inl (some (.int 0))) (zHt F G L 1) := by
  refine zx_in rfl rfl ?_
  refine zx_gp 19 rfl ?_
  refine zx_c rfl rfl rfl rfl (w_isIn' (lo := 0) (hi := 3) h0 _ _) ?_
  refine zx_gp 19 rfl ?_
  refine zx_c rfl rfl rfl rfl (m_rf1 _) ?_
  refine zx_gp 19 rfl ?_
  exact zx_r rfl rfl
theorem m_poke_1 (p0 p1 p2 p3 p4 p5 : Int32) (h0 : zwi p0 0 3 = 1) (h1 : zwi p1 0 2047 = 0) (d : Nat) : zCr (d + 3) 193 [.ref 113, .int p0, .int p1, .int p2, .int p3, .int p4, .int p5] (zHx F G L) (.inl (some (.int 0))) (zHt F G L 1) := by
  refine zx_in rfl rfl ?_
  refine zx_gp 19 rfl ?_
  refine zx_c rfl rfl rfl rfl (w_isIn' (lo := 0) (hi := 3) h0 _ _) ?_
  refine zx_gp 19 rfl ?_
  refine zx_c rfl rfl rfl rfl (w_isIn' (lo := 0) (hi := 2047) h1 _ _) ?_
  refine zx_gp 19 rfl ?_
  refine zx_c rfl rfl rfl rfl (m_rf1 _) ?_
  refine zx_gp 19 rfl ?_
  exact zx_r rfl rfl
theorem m_poke_2 (p0 p1 p2 p3 p4 p5 : Int32) (h0 : zwi p0 0 3 = 1) (h1 : zwi p1 0 2047 = 1) (hm : zc1 .ne (p1 - p1 / 4 * 4) = true) (d : Nat) : zCr (d + 3) 193 [.ref 113, .int p0, .int p1, .int p2, .int p3, .int p4, .int p5] (zHx F G L) (.inl (some (.int 0))) (zHt F G L 1) := by
  refine zx_in rfl rfl ?_
  refine zx_gp 19 rfl ?_
  refine zx_c rfl rfl rfl rfl (w_isIn' (lo := 0) (hi := 3) h0 _ _) ?_
  refine zx_gp 19 rfl ?_
  refine zx_c rfl rfl rfl rfl (w_isIn' (lo := 0) (hi := 2047) h1 _ _) ?_
  refine zx_gp 4 rfl ?_
  refine zx_if rfl rfl hm rfl ?_
  refine zx_gp 19 rfl ?_
  refine zx_c rfl rfl rfl rfl (m_rf1 _) ?_
  refine zx_gp 19 rfl ?_
  exact zx_r rfl rfl
theorem m_poke_3 (p0 p1 p2 p3 p4 p5 : Int32) (h0 : zwi p0 0 3 = 1) (h1 : zwi p1 0 2047 = 1) (hm : zc1 .ne (p1 - p1 / 4 * 4) = false) (h2 : zwi p2 0 65535 = 0) (d : Nat) : zCr (d + 3) 193 [.ref 113, .int p0, .int p1, .int p2, .int p3, .int p4, .int p5] (zHx F G L) (.inl (some (.int 0))) (zHt F G L 1) := by
  refine zx_in rfl rfl ?_
  refine zx_gp 19 rfl ?_
  refine zx_c rfl rfl rfl rfl (w_isIn' (lo := 0) (hi := 3) h0 _ _) ?_
  refine zx_gp 19 rfl ?_
  refine zx_c rfl rfl rfl rfl (w_isIn' (lo := 0) (hi := 2047) h1 _ _) ?_
  refine zx_gp 4 rfl ?_
  refine zx_if rfl rfl hm rfl ?_
  refine zx_gp 19 rfl ?_
  refine zx_c rfl rfl rfl rfl (m_isWord h2 _ _) ?_
  refine zx_gp 19 rfl ?_
  refine zx_c rfl rfl rfl rfl (m_rf1 _) ?_
  refine zx_gp 19 rfl ?_
  exact zx_r rfl rfl
theorem m_poke_4 (p0 p1 p2 p3 p4 p5 : Int32) (h0 : zwi p0 0 3 = 1) (h1 : zwi p1 0 2047 = 1) (hm : zc1 .ne (p1 - p1 / 4 * 4) = false) (h2 : zwi p2 0 65535 = 1) (h3 : zwi p3 0 65535 = 0) (d : Nat) : zCr (d + 3) 193 [.ref 113, .int p0, .int p1, .int p2, .int p3, .int p4, .int p5] (zHx F G L) (.inl (some (.int 0))) (zHt F G L 1) := by
  refine zx_in rfl rfl ?_
  refine zx_gp 19 rfl ?_
  refine zx_c rfl rfl rfl rfl (w_isIn' (lo := 0) (hi := 3) h0 _ _) ?_
  refine zx_gp 19 rfl ?_
  refine zx_c rfl rfl rfl rfl (w_isIn' (lo := 0) (hi := 2047) h1 _ _) ?_
  refine zx_gp 4 rfl ?_
  refine zx_if rfl rfl hm rfl ?_
  refine zx_gp 19 rfl ?_
  refine zx_c rfl rfl rfl rfl (m_isWord h2 _ _) ?_
  refine zx_gp 19 rfl ?_
  refine zx_c rfl rfl rfl rfl (m_isWord h3 _ _) ?_
  refine zx_gp 19 rfl ?_
  refine zx_c rfl rfl rfl rfl (m_rf1 _) ?_
  refine zx_gp 19 rfl ?_
  exact zx_r rfl rfl
theorem m_poke_5 (p0 p1 p2 p3 p4 p5 : Int32) (h0 : zwi p0 0 3 = 1) (h1 : zwi p1 0 2047 = 1) (hm : zc1 .ne (p1 - p1 / 4 * 4) = false) (h2 : zwi p2 0 65535 = 1) (h3 : zwi p3 0 65535 = 1) (h4 : zwi p4 0 65535 = 0) (d : Nat) : zCr (d + 3) 193 [.ref 113, .int p0, .int p1, .int p2, .int p3, .int p4, .int p5] (zHx F G L) (.inl (some (.int 0))) (zHt F G L 1) := by
  refine zx_in rfl rfl ?_
  refine zx_gp 19 rfl ?_
  refine zx_c rfl rfl rfl rfl (w_isIn' (lo := 0) (hi := 3) h0 _ _) ?_
  refine zx_gp 19 rfl ?_
  refine zx_c rfl rfl rfl rfl (w_isIn' (lo := 0) (hi := 2047) h1 _ _) ?_
  refine zx_gp 4 rfl ?_
  refine zx_if rfl rfl hm rfl ?_
  refine zx_gp 19 rfl ?_
  refine zx_c rfl rfl rfl rfl (m_isWord h2 _ _) ?_
  refine zx_gp 19 rfl ?_
  refine zx_c rfl rfl rfl rfl (m_isWord h3 _ _) ?_
  refine zx_gp 19 rfl ?_
  refine zx_c rfl rfl rfl rfl (m_isWord h4 _ _) ?_
  refine zx_gp 19 rfl ?_
  refine zx_c rfl rfl rfl rfl (m_rf1 _) ?_
  refine zx_gp 19 rfl ?_
  exact zx_r rfl rfl
theorem m_poke_6 (p0 p1 p2 p3 p4 p5 : Int32) (h0 : zwi p0 0 3 = 1) (h1 : zwi p1 0 2047 = 1) (hm : zc1 .ne (p1 - p1 / 4 * 4) = false) (h2 : zwi p2 0 65535 = 1) (h3 : zwi p3 0 65535 = 1) (h4 : zwi p4 0 65535 = 1) (h5 : zwi p5 0 65535 = 0) (d : Nat) : zCr (d + 3) 193 [.ref 113, .int p0, .int p1, .int p2, .int p3, .int p4, .int p5] (zHx F G L) (.inl (some (.int 0))) (zHt F G L 1) := by
  refine zx_in rfl rfl ?_
  refine zx_gp 19 rfl ?_
  refine zx_c rfl rfl rfl rfl (w_isIn' (lo := 0) (hi := 3) h0 _ _) ?_
  refine zx_gp 19 rfl ?_
  refine zx_c rfl rfl rfl rfl (w_isIn' (lo := 0) (hi := 2047) h1 _ _) ?_
  refine zx_gp 4 rfl ?_
  refine zx_if rfl rfl hm rfl ?_
  refine zx_gp 19 rfl ?_
  refine zx_c rfl rfl rfl rfl (m_isWord h2 _ _) ?_
  refine zx_gp 19 rfl ?_
  refine zx_c rfl rfl rfl rfl (m_isWord h3 _ _) ?_
  refine zx_gp 19 rfl ?_
  refine zx_c rfl rfl rfl rfl (m_isWord h4 _ _) ?_
  refine zx_gp 19 rfl ?_
  refine zx_c rfl rfl rfl rfl (m_isWord h5 _ _) ?_
  refine zx_gp 19 rfl ?_
  refine zx_c rfl rfl rfl rfl (m_rf1 _) ?_
  refine zx_gp 19 rfl ?_
  exact zx_r rfl rfl
theorem m_poke_ok (hF : zFk F) (p0 p1 p2 p3 p4 p5 : Int32) (h0 : zwi p0 0 3 = 1) (h1 : zwi p1 0 2047 = 1) (hm : zc1 .ne (p1 - p1 / 4 * 4) = false) (h2 : zwi p2 0 65535 = 1) (h3 : zwi p3 0 65535 = 1) (h4 : zwi p4 0 65535 = 1) (h5 : zwi p5 0 65535 = 1) (d : Nat) : zCr (d + 3) 193 [.ref 113, .int p0, .int p1, .int p2, .int p3, .int p4, .int p5] (zHx F G L) (.inl (some (.int 0))) (zHt F G L 2) := by
  have key : ∀ j : Int32, zin j 4 = true → F 120 j.toNatClampNeg = 0 → zwi j 0 3 = 1 → zCr (d + 3) 193 [.ref 113, .int j, .int p1, .int p2, .int p3, .int p4, .int p5] (zHx F G L) (.inl (some (.int 0))) (zHt F G L 2) := by
    intro j hz hv h0
    refine zx_in rfl rfl ?_
    refine zx_gp 19 rfl ?_
    refine zx_c rfl rfl rfl rfl (w_isIn' (lo := 0) (hi := 3) h0 _ _) ?_
    refine zx_gp 19 rfl ?_
    refine zx_c rfl rfl rfl rfl (w_isIn' (lo := 0) (hi := 2047) h1 _ _) ?_
    refine zx_gp 4 rfl ?_
    refine zx_if rfl rfl hm rfl ?_
    refine zx_gp 19 rfl ?_
    refine zx_c rfl rfl rfl rfl (m_isWord h2 _ _) ?_
    refine zx_gp 19 rfl ?_
    refine zx_c rfl rfl rfl rfl (m_isWord h3 _ _) ?_
    refine zx_gp 19 rfl ?_
    refine zx_c rfl rfl rfl rfl (m_isWord h4 _ _) ?_
    refine zx_gp 19 rfl ?_
    refine zx_c rfl rfl rfl rfl (m_isWord h5 _ _) ?_
    refine zx_gp 19 rfl ?_
    refine zx_bal rfl rfl rfl hz hv ?_
    refine zx_gp 19 rfl ?_
    refine zx_c rfl rfl rfl rfl (m_rf2 _) ?_
    refine zx_gp 19 rfl ?_
    exact zx_r rfl rfl
  rcases zwi_3 h0 with rfl | rfl | rfl | rfl
  · exact key 0 rfl hF.1 rfl
  · exact key 1 rfl hF.2.1 rfl
  · exact key 2 rfl hF.2.2.1 rfl
  · exact key 3 rfl hF.2.2.2.1 rfl
theorem m_frame_0 (p0 p1 : Int32) (h0 : zwi p0 0 127 = 0) (d : Nat) : zCr (d + 2) 201 [.ref 113, .int p0, .int p1] (zHx F G L) (.inl (some (.int 0))) (zHt F G L 1) := by
  refine zx_in rfl rfl ?_
  refine zx_gp 19 rfl ?_
  refine zx_c rfl rfl rfl rfl (w_isIn' (lo := 0) (hi := 127) h0 _ _) ?_
  refine zx_gp 19 rfl ?_
  refine zx_c rfl rfl rfl rfl (m_rf1 _) ?_
  refine zx_gp 19 rfl ?_
  exact zx_r rfl rfl
theorem m_frame_1 (p0 p1 : Int32) (h0 : zwi p0 0 127 = 1) (h1 : zwi p1 0 15 = 0) (d : Nat) : zCr (d + 2) 201 [.ref 113, .int p0, .int p1] (zHx F G L) (.inl (some (.int 0))) (zHt F G L 1) := by
  refine zx_in rfl rfl ?_
  refine zx_gp 19 rfl ?_
  refine zx_c rfl rfl rfl rfl (w_isIn' (lo := 0) (hi := 127) h0 _ _) ?_
  refine zx_gp 19 rfl ?_
  refine zx_c rfl rfl rfl rfl (w_isIn' (lo := 0) (hi := 15) h1 _ _) ?_
  refine zx_gp 19 rfl ?_
  refine zx_c rfl rfl rfl rfl (m_rf1 _) ?_
  refine zx_gp 19 rfl ?_
  exact zx_r rfl rfl
theorem m_frame_ok (hF : zFz F) (p0 p1 : Int32) (h0 : zwi p0 0 127 = 1) (h1 : zwi p1 0 15 = 1) (d : Nat) : zCr (d + 2) 201 [.ref 113, .int p0, .int p1] (zHx F G L) (.inl (some (.int 0))) (zHt F G L 0) := by
  obtain ⟨j, hj, -, e1⟩ := zfrm h0 h1
  refine zx_in rfl rfl ?_
  refine zx_gp 19 rfl ?_
  refine zx_c rfl rfl rfl rfl (w_isIn' (lo := 0) (hi := 127) h0 _ _) ?_
  refine zx_gp 19 rfl ?_
  refine zx_c rfl rfl rfl rfl (w_isIn' (lo := 0) (hi := 15) h1 _ _) ?_
  refine zx_gp 19 rfl ?_
  refine zx_c rfl rfl rfl rfl (m_rf0 _) ?_
  refine zx_gp 19 rfl ?_
  refine zx_eq (y := nI j) e1 ?_
  refine zx_ial (x := 0) rfl rfl rfl (zin_nI hj (by decide)) (by rw [nI_clamp (by omega)]; exact hF.2.2.2.2.1 j hj) ?_
  exact zx_r rfl rfl
theorem m_owner_0 (p0 p1 : Int32) (h0 : zwi p0 0 127 = 0) (d : Nat) : zCr (d + 2) 204 [.ref 113, .int p0, .int p1] (zHx F G L) (.inl (some (.int 0))) (zHt F G L 1) := by
  refine zx_in rfl rfl ?_
  refine zx_gp 19 rfl ?_
  refine zx_c rfl rfl rfl rfl (w_isIn' (lo := 0) (hi := 127) h0 _ _) ?_
  refine zx_gp 19 rfl ?_
  refine zx_c rfl rfl rfl rfl (m_rf1 _) ?_
  refine zx_gp 19 rfl ?_
  exact zx_r rfl rfl
theorem m_owner_1 (p0 p1 : Int32) (h0 : zwi p0 0 127 = 1) (h1 : zwi p1 0 2 = 0) (d : Nat) : zCr (d + 2) 204 [.ref 113, .int p0, .int p1] (zHx F G L) (.inl (some (.int 0))) (zHt F G L 1) := by
  refine zx_in rfl rfl ?_
  refine zx_gp 19 rfl ?_
  refine zx_c rfl rfl rfl rfl (w_isIn' (lo := 0) (hi := 127) h0 _ _) ?_
  refine zx_gp 19 rfl ?_
  refine zx_c rfl rfl rfl rfl (w_isIn' (lo := 0) (hi := 2) h1 _ _) ?_
  refine zx_gp 19 rfl ?_
  refine zx_c rfl rfl rfl rfl (m_rf1 _) ?_
  refine zx_gp 19 rfl ?_
  exact zx_r rfl rfl
theorem m_owner_t0 (hF : zFz F) (p0 : Int32) (h0 : zwi p0 0 127 = 1) (d : Nat) : zCr (d + 2) 204 [.ref 113, .int p0, .int 0] (zHx F G L) (.inl (some (.int 0))) (zHt F G L 0) := by
  obtain ⟨j, hj, e1⟩ := zwi_nI (n := 127) rfl h0
  refine zx_in rfl rfl ?_
  refine zx_gp 19 rfl ?_
  refine zx_c rfl rfl rfl rfl (w_isIn' (lo := 0) (hi := 127) h0 _ _) ?_
  refine zx_gp 19 rfl ?_
  refine zx_c rfl rfl rfl rfl (w_isIn' (lo := 0) (hi := 2) (show zwi 0 0 2 = 1 by decide) _ _) ?_
  refine zx_gp 19 rfl ?_
  refine zx_c rfl rfl rfl rfl (m_rf0 _) ?_
  refine zx_gp 19 rfl ?_
  refine zx_eq (y := nI j) e1 ?_
  refine zx_ial (x := 0) rfl rfl rfl (zin_nI (n := 128) (by omega) (by decide)) (by rw [nI_clamp (by omega)]; exact hF.2.2.2.2.2 j (by omega)) ?_
  refine zx_gp 19 rfl ?_
  exact zx_r rfl rfl
theorem m_owner_t1 (hF : zFz F) (p0 : Int32) (h0 : zwi p0 0 127 = 1) (d : Nat) : zCr (d + 2) 204 [.ref 113, .int p0, .int 1] (zHx F G L) (.inl (some (.int (-1)))) (zHt F G L 0) := by
  obtain ⟨j, hj, e1⟩ := zwi_nI (n := 127) rfl h0
  refine zx_in rfl rfl ?_
  refine zx_gp 19 rfl ?_
  refine zx_c rfl rfl rfl rfl (w_isIn' (lo := 0) (hi := 127) h0 _ _) ?_
  refine zx_gp 19 rfl ?_
  refine zx_c rfl rfl rfl rfl (w_isIn' (lo := 0) (hi := 2) (show zwi 1 0 2 = 1 by decide) _ _) ?_
  refine zx_gp 19 rfl ?_
  refine zx_c rfl rfl rfl rfl (m_rf0 _) ?_
  refine zx_gp 19 rfl ?_
  refine zx_eq (y := nI j) e1 ?_
  refine zx_ial (x := 0) rfl rfl rfl (zin_nI (n := 128) (by omega) (by decide)) (by rw [nI_clamp (by omega)]; exact hF.2.2.2.2.2 j (by omega)) ?_
  refine zx_gp 19 rfl ?_
  exact zx_r rfl rfl
theorem m_owner_t2 (hF : zFz F) (p0 : Int32) (h0 : zwi p0 0 127 = 1) (d : Nat) : zCr (d + 2) 204 [.ref 113, .int p0, .int 2] (zHx F G L) (.inl (some (.int (-1)))) (zHt F G L 0) := by
  obtain ⟨j, hj, e1⟩ := zwi_nI (n := 127) rfl h0
  refine zx_in rfl rfl ?_
  refine zx_gp 19 rfl ?_
  refine zx_c rfl rfl rfl rfl (w_isIn' (lo := 0) (hi := 127) h0 _ _) ?_
  refine zx_gp 19 rfl ?_
  refine zx_c rfl rfl rfl rfl (w_isIn' (lo := 0) (hi := 2) (show zwi 2 0 2 = 1 by decide) _ _) ?_
  refine zx_gp 19 rfl ?_
  refine zx_c rfl rfl rfl rfl (m_rf0 _) ?_
  refine zx_gp 19 rfl ?_
  refine zx_eq (y := nI j) e1 ?_
  refine zx_ial (x := 0) rfl rfl rfl (zin_nI (n := 128) (by omega) (by decide)) (by rw [nI_clamp (by omega)]; exact hF.2.2.2.2.2 j (by omega)) ?_
  refine zx_gp 19 rfl ?_
  exact zx_r rfl rfl
theorem m_dirty (p0 : Int32) (d : Nat) : zCr (d + 2) 185 [.ref 113, .int p0] (zHx F G L) (.inl (some (.int (-1)))) (zHt F G L 0) := by
  refine zx_in rfl rfl ?_
  refine zx_gp 19 rfl ?_
  refine zx_c rfl rfl rfl rfl (w_isIn' (lo := 0) (hi := (-1)) (zwi_neg p0) _ _) ?_
  refine zx_gp 19 rfl ?_
  exact zx_r rfl rfl
theorem k_guest_0 (p0 : Int32) (h0 : zwi p0 1 128 = 0) (h : zH) (d : Nat) : zCr (d + 3) 18 [.ref 0, .int p0] h (.inr 0) h := by
  refine zx_in rfl rfl ?_
  refine zx_go 19 rfl ?_
  refine zx_c rfl rfl rfl rfl (w_within' (lo := 1) (hi := 128) h0 _ _) ?_
  refine zx_go 19 rfl ?_
  exact zx_x rfl rfl rfl rfl (w_arg0 _ _) rfl rfl
theorem k_host_0 (p0 : Int32) (h0 : zwi p0 0 4 = 0) (h : zH) (d : Nat) : zCr (d + 3) 218 [.ref 0, .int p0] h (.inr 0) h := by
  refine zx_in rfl rfl ?_
  refine zx_go 19 rfl ?_
  refine zx_c rfl rfl rfl rfl (w_within' (lo := 0) (hi := 4) h0 _ _) ?_
  refine zx_go 19 rfl ?_
  exact zx_x rfl rfl rfl rfl (w_arg0 _ _) rfl rfl
theorem m_guest_0 (p0 : Int32) (h0 : zwi p0 1 128 = 0) (d : Nat) : zCr (d + 2) 23 [.ref 113, .int p0] (zHx F G L) (.inl (some (.int 0))) (zHt F G L 1) := by
  refine zx_in rfl rfl ?_
  refine zx_gp 19 rfl ?_
  refine zx_c rfl rfl rfl rfl (w_isIn' (lo := 1) (hi := 128) h0 _ _) ?_
  refine zx_gp 19 rfl ?_
  refine zx_c rfl rfl rfl rfl (m_rf1 _) ?_
  refine zx_gp 19 rfl ?_
  exact zx_r rfl rfl
theorem m_host_0 (p0 : Int32) (h0 : zwi p0 0 4 = 0) (d : Nat) : zCr (d + 2) 220 [.ref 113, .int p0] (zHx F G L) (.inl (some (.int 0))) (zHt F G L 1) := by
  refine zx_in rfl rfl ?_
  refine zx_gp 19 rfl ?_
  refine zx_c rfl rfl rfl rfl (w_isIn' (lo := 0) (hi := 4) h0 _ _) ?_
  refine zx_gp 19 rfl ?_
  refine zx_c rfl rfl rfl rfl (m_rf1 _) ?_
  refine zx_gp 19 rfl ?_
  exact zx_r rfl rfl
end ZMQ
