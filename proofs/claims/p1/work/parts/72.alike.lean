/-! EVERY CALL IS ALIKE ON BOTH SIDES, on the fresh object -/
theorem zwi_2 {v : Int32} (h : zwi v 0 2 = 1) : v = 0 ∨ v = 1 ∨ v = 2 := by
  obtain ⟨j, hj, e⟩ := zwi_nI (n := 2) rfl h
  subst e
  match j, hj with
  | 0, _ => exact Or.inl rfl
  | 1, _ => exact Or.inr (Or.inl rfl)
  | 2, _ => exact Or.inr (Or.inr (rfl))
theorem zwi_9 {v : Int32} (h : zwi v 0 9 = 1) : v = 0 ∨ v = 1 ∨ v = 2 ∨ v = 3 ∨ v = 4 ∨ v = 5 ∨ v = 6 ∨ v = 7 ∨ v = 8 ∨ v = 9 := by
  obtain ⟨j, hj, e⟩ := zwi_nI (n := 9) rfl h
  subst e
  match j, hj with
  | 0, _ => exact Or.inl rfl
  | 1, _ => exact Or.inr (Or.inl rfl)
  | 2, _ => exact Or.inr (Or.inr (Or.inl rfl))
  | 3, _ => exact Or.inr (Or.inr (Or.inr (Or.inl rfl)))
  | 4, _ => exact Or.inr (Or.inr (Or.inr (Or.inr (Or.inl rfl))))
  | 5, _ => exact Or.inr (Or.inr (Or.inr (Or.inr (Or.inr (Or.inl rfl)))))
  | 6, _ => exact Or.inr (Or.inr (Or.inr (Or.inr (Or.inr (Or.inr (Or.inl rfl))))))
  | 7, _ => exact Or.inr (Or.inr (Or.inr (Or.inr (Or.inr (Or.inr (Or.inr (Or.inl rfl)))))))
  | 8, _ => exact Or.inr (Or.inr (Or.inr (Or.inr (Or.inr (Or.inr (Or.inr (Or.inr (Or.inl rfl))))))))
  | 9, _ => exact Or.inr (Or.inr (Or.inr (Or.inr (Or.inr (Or.inr (Or.inr (Or.inr (Or.inr (rfl)))))))))
theorem zwi_4 {v : Int32} (h : zwi v 0 4 = 1) : v = 0 ∨ v = 1 ∨ v = 2 ∨ v = 3 ∨ v = 4 := by
  obtain ⟨j, hj, e⟩ := zwi_nI (n := 4) rfl h
  subst e
  match j, hj with
  | 0, _ => exact Or.inl rfl
  | 1, _ => exact Or.inr (Or.inl rfl)
  | 2, _ => exact Or.inr (Or.inr (Or.inl rfl))
  | 3, _ => exact Or.inr (Or.inr (Or.inr (Or.inl rfl)))
  | 4, _ => exact Or.inr (Or.inr (Or.inr (Or.inr (rfl))))
section ZHL
variable {F : Nat → Nat → Int32} {G : Nat → Nat → Option Nat} {L : Nat → Int64}
def zRs0 (al am : List Value) (H : zH) : Prop := ∃ (k : Int32) (h1 h2 h3 : zH), zCr 8 55 al H (.inl (some (.int k))) h1 ∧ zCr 8 57 am h1 (.inl none) h2 ∧ zCr 8 24 [.ref 113] h2 (.inl (some (.int k))) h3 ∧ zR11 h1 ∧ zR11 h2
theorem zRs_t {z m : Nat} {al am : List Value} {k : Int32} (hk : ¬ k = 0) (hl : zCr 8 z al (zHx F G L) (.inl (some (.int k))) (zHx F G L)) (hm : zCr 8 m am (zHx F G L) (.inl (some (.int 0))) (zHt F G L k)) : zRs z m al am (zHx F G L) := ⟨k, 0, _, _, _, L, hl, hm, m_thrown k 7, rfl, fun e => absurd e hk, ⟨_, rfl⟩, ⟨_, rfl⟩⟩
theorem zRs0_t {al am : List Value} {k : Int32} (hl : zCr 8 55 al (zHx F G L) (.inl (some (.int k))) (zHx F G L)) (hm : zCr 8 57 am (zHx F G L) (.inl none) (zHt F G L k)) : zRs0 al am (zHx F G L) := ⟨k, _, _, _, hl, hm, m_thrown k 7, ⟨_, rfl⟩, ⟨_, rfl⟩⟩
theorem l_destroy_1 {p0 : Int32} (hk : zCr 7 37 [.ref 0, .int p0] (zHx F G L) (.inr 0) (zHx F G L)) : zCr 8 38 [.ref 0, .int p0, .ref 148] (zHx F G L) (.inl (some (.int 1))) (zHx F G L) := by
  refine zx_in rfl rfl ?_
  refine zx_go 19 rfl ?_
  refine zx_k rfl rfl rfl rfl hk rfl (by decide) rfl rfl rfl rfl ?_
  refine zx_go 1 rfl ?_
  exact zx_r rfl rfl
theorem l_destroy_2 {p0 : Int32} (hk : zCr 7 37 [.ref 0, .int p0] (zHx F G L) (.inr 1) (zHx F G L)) : zCr 8 38 [.ref 0, .int p0, .ref 148] (zHx F G L) (.inl (some (.int 2))) (zHx F G L) := by
  refine zx_in rfl rfl ?_
  refine zx_go 19 rfl ?_
  refine zx_k rfl rfl rfl rfl hk rfl (by decide) rfl rfl rfl rfl ?_
  refine zx_go 1 rfl ?_
  exact zx_r rfl rfl
theorem r_destroy (hK : zFk F) (hG : zGk G) (p0 : Int32) : zRs 38 44 [.ref 0, .int p0, .ref 148] [.ref 113, .int p0] (zHx F G L) := by
  rcases zwi_01 p0 0 3 with h0 | h0
  · exact zRs_t (by decide) (l_destroy_1 (k_destroy_0 p0 h0 _ 4)) (m_destroy_0 p0 h0 6)
  rcases zwi_3 h0 with rfl | rfl | rfl | rfl
  · exact zRs_t (by decide) (l_destroy_2 (k_destroy_t0 hG   4)) (m_destroy_t0 hK   6)
  · exact zRs_t (by decide) (l_destroy_2 (k_destroy_t1 hG   4)) (m_destroy_t1 hK   6)
  · exact zRs_t (by decide) (l_destroy_2 (k_destroy_t2 hG   4)) (m_destroy_t2 hK   6)
  · exact zRs_t (by decide) (l_destroy_2 (k_destroy_t3 hG   4)) (m_destroy_t3 hK   6)
theorem l_vcpu_1 {p0 : Int32} (hk : zCr 7 48 [.ref 0, .int p0] (zHx F G L) (.inr 0) (zHx F G L)) : zCr 8 49 [.ref 0, .int p0, .ref 148] (zHx F G L) (.inl (some (.int 1))) (zHx F G L) := by
  refine zx_in rfl rfl ?_
  refine zx_go 19 rfl ?_
  refine zx_k rfl rfl rfl rfl hk rfl (by decide) rfl rfl rfl rfl ?_
  refine zx_go 1 rfl ?_
  exact zx_r rfl rfl
theorem l_vcpu_2 {p0 : Int32} (hk : zCr 7 48 [.ref 0, .int p0] (zHx F G L) (.inr 1) (zHx F G L)) : zCr 8 49 [.ref 0, .int p0, .ref 148] (zHx F G L) (.inl (some (.int 2))) (zHx F G L) := by
  refine zx_in rfl rfl ?_
  refine zx_go 19 rfl ?_
  refine zx_k rfl rfl rfl rfl hk rfl (by decide) rfl rfl rfl rfl ?_
  refine zx_go 1 rfl ?_
  exact zx_r rfl rfl
theorem r_vcpu (hK : zFk F) (hG : zGk G) (p0 : Int32) : zRs 49 51 [.ref 0, .int p0, .ref 148] [.ref 113, .int p0] (zHx F G L) := by
  rcases zwi_01 p0 0 3 with h0 | h0
  · exact zRs_t (by decide) (l_vcpu_1 (k_vcpu_0 p0 h0 _ 4)) (m_vcpu_0 p0 h0 6)
  rcases zwi_3 h0 with rfl | rfl | rfl | rfl
  · exact zRs_t (by decide) (l_vcpu_2 (k_vcpu_t0 hG   4)) (m_vcpu_t0 hK   6)
  · exact zRs_t (by decide) (l_vcpu_2 (k_vcpu_t1 hG   4)) (m_vcpu_t1 hK   6)
  · exact zRs_t (by decide) (l_vcpu_2 (k_vcpu_t2 hG   4)) (m_vcpu_t2 hK   6)
  · exact zRs_t (by decide) (l_vcpu_2 (k_vcpu_t3 hG   4)) (m_vcpu_t3 hK   6)
theorem l_get_1 {p0 p1 : Int32} (hk : zCr 7 58 [.ref 0, .int p0, .int p1] (zHx F G L) (.inr 0) (zHx F G L)) : zCr 8 59 [.ref 0, .int p0, .int p1, .ref 148] (zHx F G L) (.inl (some (.int 1))) (zHx F G L) := by
  refine zx_in rfl rfl ?_
  refine zx_go 19 rfl ?_
  refine zx_k rfl rfl rfl rfl hk rfl (by decide) rfl rfl rfl rfl ?_
  refine zx_go 1 rfl ?_
  exact zx_r rfl rfl
theorem l_get_2 {p0 p1 : Int32} (hk : zCr 7 58 [.ref 0, .int p0, .int p1] (zHx F G L) (.inr 1) (zHx F G L)) : zCr 8 59 [.ref 0, .int p0, .int p1, .ref 148] (zHx F G L) (.inl (some (.int 2))) (zHx F G L) := by
  refine zx_in rfl rfl ?_
  refine zx_go 19 rfl ?_
  refine zx_k rfl rfl rfl rfl hk rfl (by decide) rfl rfl rfl rfl ?_
  refine zx_go 1 rfl ?_
  exact zx_r rfl rfl
theorem r_get (hK : zFk F) (hG : zGk G) (p0 p1 : Int32) : zRs 59 60 [.ref 0, .int p0, .int p1, .ref 148] [.ref 113, .int p0, .int p1] (zHx F G L) := by
  rcases zwi_01 p0 0 7 with h0 | h0
  · exact zRs_t (by decide) (l_get_1 (k_get_0 p0 p1 h0 _ 4)) (m_get_0 p0 p1 h0 6)
  rcases zwi_01 p1 0 18 with h1 | h1
  · exact zRs_t (by decide) (l_get_1 (k_get_1 p0 p1 h0 h1 _ 4)) (m_get_1 p0 p1 h0 h1 6)
  rcases zwi_7 h0 with rfl | rfl | rfl | rfl | rfl | rfl | rfl | rfl
  · exact zRs_t (by decide) (l_get_2 (k_get_t0 hG p1 h1 4)) (m_get_t0 hK p1 h1 6)
  · exact zRs_t (by decide) (l_get_2 (k_get_t1 hG p1 h1 4)) (m_get_t1 hK p1 h1 6)
  · exact zRs_t (by decide) (l_get_2 (k_get_t2 hG p1 h1 4)) (m_get_t2 hK p1 h1 6)
  · exact zRs_t (by decide) (l_get_2 (k_get_t3 hG p1 h1 4)) (m_get_t3 hK p1 h1 6)
  · exact zRs_t (by decide) (l_get_2 (k_get_t4 hG p1 h1 4)) (m_get_t4 hK p1 h1 6)
  · exact zRs_t (by decide) (l_get_2 (k_get_t5 hG p1 h1 4)) (m_get_t5 hK p1 h1 6)
  · exact zRs_t (by decide) (l_get_2 (k_get_t6 hG p1 h1 4)) (m_get_t6 hK p1 h1 6)
  · exact zRs_t (by decide) (l_get_2 (k_get_t7 hG p1 h1 4)) (m_get_t7 hK p1 h1 6)
theorem l_access_1 {p0 p1 p2 p3 : Int32} (hk : zCr 7 102 [.ref 0, .int p0, .int p1, .int p2, .int p3] (zHx F G L) (.inr 0) (zHx F G L)) : zCr 8 103 [.ref 0, .int p0, .int p1, .int p2, .int p3, .ref 148] (zHx F G L) (.inl (some (.int 1))) (zHx F G L) := by
  refine zx_in rfl rfl ?_
  refine zx_go 19 rfl ?_
  refine zx_k rfl rfl rfl rfl hk rfl (by decide) rfl rfl rfl rfl ?_
  refine zx_go 1 rfl ?_
  exact zx_r rfl rfl
theorem l_access_2 {p0 p1 p2 p3 : Int32} (hk : zCr 7 102 [.ref 0, .int p0, .int p1, .int p2, .int p3] (zHx F G L) (.inr 1) (zHx F G L)) : zCr 8 103 [.ref 0, .int p0, .int p1, .int p2, .int p3, .ref 148] (zHx F G L) (.inl (some (.int 2))) (zHx F G L) := by
  refine zx_in rfl rfl ?_
  refine zx_go 19 rfl ?_
  refine zx_k rfl rfl rfl rfl hk rfl (by decide) rfl rfl rfl rfl ?_
  refine zx_go 1 rfl ?_
  exact zx_r rfl rfl
theorem r_access (hK : zFk F) (hG : zGk G) (p0 p1 p2 p3 : Int32) : zRs 103 129 [.ref 0, .int p0, .int p1, .int p2, .int p3, .ref 148] [.ref 113, .int p0, .int p1, .int p2, .int p3] (zHx F G L) := by
  rcases zwi_01 p0 0 7 with h0 | h0
  · exact zRs_t (by decide) (l_access_1 (k_access_0 p0 p1 p2 p3 h0 _ 4)) (m_access_0 p0 p1 p2 p3 h0 6)
  rcases zwi_01 p1 0 2 with h1 | h1
  · exact zRs_t (by decide) (l_access_1 (k_access_1 p0 p1 p2 p3 h0 h1 _ 4)) (m_access_1 p0 p1 p2 p3 h0 h1 6)
  rcases zwi_01 p2 0 4095 with h2 | h2
  · exact zRs_t (by decide) (l_access_1 (k_access_2 p0 p1 p2 p3 h0 h1 h2 _ 4)) (m_access_2 p0 p1 p2 p3 h0 h1 h2 6)
  rcases zwi_01 p3 0 65535 with h3 | h3
  · exact zRs_t (by decide) (l_access_1 (k_access_3 p0 p1 p2 p3 h0 h1 h2 h3 _ 4)) (m_access_3 p0 p1 p2 p3 h0 h1 h2 h3 6)
  rcases zwi_7 h0 with rfl | rfl | rfl | rfl | rfl | rfl | rfl | rfl
  · exact zRs_t (by decide) (l_access_2 (k_access_t0 hG p1 p2 p3 h1 h2 h3 4)) (m_access_t0 hK p1 p2 p3 h1 h2 h3 6)
  · exact zRs_t (by decide) (l_access_2 (k_access_t1 hG p1 p2 p3 h1 h2 h3 4)) (m_access_t1 hK p1 p2 p3 h1 h2 h3 6)
  · exact zRs_t (by decide) (l_access_2 (k_access_t2 hG p1 p2 p3 h1 h2 h3 4)) (m_access_t2 hK p1 p2 p3 h1 h2 h3 6)
  · exact zRs_t (by decide) (l_access_2 (k_access_t3 hG p1 p2 p3 h1 h2 h3 4)) (m_access_t3 hK p1 p2 p3 h1 h2 h3 6)
  · exact zRs_t (by decide) (l_access_2 (k_access_t4 hG p1 p2 p3 h1 h2 h3 4)) (m_access_t4 hK p1 p2 p3 h1 h2 h3 6)
  · exact zRs_t (by decide) (l_access_2 (k_access_t5 hG p1 p2 p3 h1 h2 h3 4)) (m_access_t5 hK p1 p2 p3 h1 h2 h3 6)
  · exact zRs_t (by decide) (l_access_2 (k_access_t6 hG p1 p2 p3 h1 h2 h3 4)) (m_access_t6 hK p1 p2 p3 h1 h2 h3 6)
  · exact zRs_t (by decide) (l_access_2 (k_access_t7 hG p1 p2 p3 h1 h2 h3 4)) (m_access_t7 hK p1 p2 p3 h1 h2 h3 6)
theorem l_run_1 {p0 p1 : Int32} (hk : zCr 7 146 [.ref 0, .int p0, .int p1] (zHx F G L) (.inr 0) (zHx F G L)) : zCr 8 147 [.ref 0, .int p0, .int p1, .ref 148] (zHx F G L) (.inl (some (.int 1))) (zHx F G L) := by
  refine zx_in rfl rfl ?_
  refine zx_go 19 rfl ?_
  refine zx_k rfl rfl rfl rfl hk rfl (by decide) rfl rfl rfl rfl ?_
  refine zx_go 1 rfl ?_
  exact zx_r rfl rfl
theorem l_run_2 {p0 p1 : Int32} (hk : zCr 7 146 [.ref 0, .int p0, .int p1] (zHx F G L) (.inr 1) (zHx F G L)) : zCr 8 147 [.ref 0, .int p0, .int p1, .ref 148] (zHx F G L) (.inl (some (.int 2))) (zHx F G L) := by
  refine zx_in rfl rfl ?_
  refine zx_go 19 rfl ?_
  refine zx_k rfl rfl rfl rfl hk rfl (by decide) rfl rfl rfl rfl ?_
  refine zx_go 1 rfl ?_
  exact zx_r rfl rfl
theorem r_run (hK : zFk F) (hG : zGk G) (p0 p1 : Int32) : zRs 147 154 [.ref 0, .int p0, .int p1, .ref 148] [.ref 113, .int p0, .int p1] (zHx F G L) := by
  rcases zwi_01 p0 0 7 with h0 | h0
  · exact zRs_t (by decide) (l_run_1 (k_run_0 p0 p1 h0 _ 4)) (m_run_0 p0 p1 h0 6)
  rcases zwi_01 p1 1 1000 with h1 | h1
  · exact zRs_t (by decide) (l_run_1 (k_run_1 p0 p1 h0 h1 _ 4)) (m_run_1 p0 p1 h0 h1 6)
  rcases zwi_7 h0 with rfl | rfl | rfl | rfl | rfl | rfl | rfl | rfl
  · exact zRs_t (by decide) (l_run_2 (k_run_t0 hG p1 h1 4)) (m_run_t0 hK p1 h1 6)
  · exact zRs_t (by decide) (l_run_2 (k_run_t1 hG p1 h1 4)) (m_run_t1 hK p1 h1 6)
  · exact zRs_t (by decide) (l_run_2 (k_run_t2 hG p1 h1 4)) (m_run_t2 hK p1 h1 6)
  · exact zRs_t (by decide) (l_run_2 (k_run_t3 hG p1 h1 4)) (m_run_t3 hK p1 h1 6)
  · exact zRs_t (by decide) (l_run_2 (k_run_t4 hG p1 h1 4)) (m_run_t4 hK p1 h1 6)
  · exact zRs_t (by decide) (l_run_2 (k_run_t5 hG p1 h1 4)) (m_run_t5 hK p1 h1 6)
  · exact zRs_t (by decide) (l_run_2 (k_run_t6 hG p1 h1 4)) (m_run_t6 hK p1 h1 6)
  · exact zRs_t (by decide) (l_run_2 (k_run_t7 hG p1 h1 4)) (m_run_t7 hK p1 h1 6)
theorem l_exit_1 {p0 p1 : Int32} (hk : zCr 7 155 [.ref 0, .int p0, .int p1] (zHx F G L) (.inr 0) (zHx F G L)) : zCr 8 156 [.ref 0, .int p0, .int p1, .ref 148] (zHx F G L) (.inl (some (.int 1))) (zHx F G L) := by
  refine zx_in rfl rfl ?_
  refine zx_go 19 rfl ?_
  refine zx_k rfl rfl rfl rfl hk rfl (by decide) rfl rfl rfl rfl ?_
  refine zx_go 1 rfl ?_
  exact zx_r rfl rfl
theorem l_exit_2 {p0 p1 : Int32} (hk : zCr 7 155 [.ref 0, .int p0, .int p1] (zHx F G L) (.inr 1) (zHx F G L)) : zCr 8 156 [.ref 0, .int p0, .int p1, .ref 148] (zHx F G L) (.inl (some (.int 2))) (zHx F G L) := by
  refine zx_in rfl rfl ?_
  refine zx_go 19 rfl ?_
  refine zx_k rfl rfl rfl rfl hk rfl (by decide) rfl rfl rfl rfl ?_
  refine zx_go 1 rfl ?_
  exact zx_r rfl rfl
theorem r_exit (hK : zFk F) (hG : zGk G) (p0 p1 : Int32) : zRs 156 157 [.ref 0, .int p0, .int p1, .ref 148] [.ref 113, .int p0, .int p1] (zHx F G L) := by
  rcases zwi_01 p0 0 7 with h0 | h0
  · exact zRs_t (by decide) (l_exit_1 (k_exit_0 p0 p1 h0 _ 4)) (m_exit_0 p0 p1 h0 6)
  rcases zwi_01 p1 0 4 with h1 | h1
  · exact zRs_t (by decide) (l_exit_1 (k_exit_1 p0 p1 h0 h1 _ 4)) (m_exit_1 p0 p1 h0 h1 6)
  rcases zwi_7 h0 with rfl | rfl | rfl | rfl | rfl | rfl | rfl | rfl
  · exact zRs_t (by decide) (l_exit_2 (k_exit_t0 hG p1 h1 4)) (m_exit_t0 hK p1 h1 6)
  · exact zRs_t (by decide) (l_exit_2 (k_exit_t1 hG p1 h1 4)) (m_exit_t1 hK p1 h1 6)
  · exact zRs_t (by decide) (l_exit_2 (k_exit_t2 hG p1 h1 4)) (m_exit_t2 hK p1 h1 6)
  · exact zRs_t (by decide) (l_exit_2 (k_exit_t3 hG p1 h1 4)) (m_exit_t3 hK p1 h1 6)
  · exact zRs_t (by decide) (l_exit_2 (k_exit_t4 hG p1 h1 4)) (m_exit_t4 hK p1 h1 6)
  · exact zRs_t (by decide) (l_exit_2 (k_exit_t5 hG p1 h1 4)) (m_exit_t5 hK p1 h1 6)
  · exact zRs_t (by decide) (l_exit_2 (k_exit_t6 hG p1 h1 4)) (m_exit_t6 hK p1 h1 6)
  · exact zRs_t (by decide) (l_exit_2 (k_exit_t7 hG p1 h1 4)) (m_exit_t7 hK p1 h1 6)
theorem l_flush_1 {p0 p1 p2 : Int32} (hk : zCr 7 158 [.ref 0, .int p0, .int p1, .int p2] (zHx F G L) (.inr 0) (zHx F G L)) : zCr 8 159 [.ref 0, .int p0, .int p1, .int p2, .ref 148] (zHx F G L) (.inl (some (.int 1))) (zHx F G L) := by
  refine zx_in rfl rfl ?_
  refine zx_go 19 rfl ?_
  refine zx_k rfl rfl rfl rfl hk rfl (by decide) rfl rfl rfl rfl ?_
  refine zx_go 1 rfl ?_
  exact zx_r rfl rfl
theorem l_flush_2 {p0 p1 p2 : Int32} (hk : zCr 7 158 [.ref 0, .int p0, .int p1, .int p2] (zHx F G L) (.inr 1) (zHx F G L)) : zCr 8 159 [.ref 0, .int p0, .int p1, .int p2, .ref 148] (zHx F G L) (.inl (some (.int 2))) (zHx F G L) := by
  refine zx_in rfl rfl ?_
  refine zx_go 19 rfl ?_
  refine zx_k rfl rfl rfl rfl hk rfl (by decide) rfl rfl rfl rfl ?_
  refine zx_go 1 rfl ?_
  exact zx_r rfl rfl
theorem r_flush (hK : zFk F) (hG : zGk G) (p0 p1 p2 : Int32) : zRs 159 160 [.ref 0, .int p0, .int p1, .int p2, .ref 148] [.ref 113, .int p0, .int p1, .int p2] (zHx F G L) := by
  rcases zwi_01 p0 0 7 with h0 | h0
  · exact zRs_t (by decide) (l_flush_1 (k_flush_0 p0 p1 p2 h0 _ 4)) (m_flush_0 p0 p1 p2 h0 6)
  rcases zwi_01 p1 0 2 with h1 | h1
  · exact zRs_t (by decide) (l_flush_1 (k_flush_1 p0 p1 p2 h0 h1 _ 4)) (m_flush_1 p0 p1 p2 h0 h1 6)
  rcases zwi_01 p2 0 4095 with h2 | h2
  · exact zRs_t (by decide) (l_flush_1 (k_flush_2 p0 p1 p2 h0 h1 h2 _ 4)) (m_flush_2 p0 p1 p2 h0 h1 h2 6)
  rcases zwi_7 h0 with rfl | rfl | rfl | rfl | rfl | rfl | rfl | rfl
  · exact zRs_t (by decide) (l_flush_2 (k_flush_t0 hG p1 p2 h1 h2 4)) (m_flush_t0 hK p1 p2 h1 h2 6)
  · exact zRs_t (by decide) (l_flush_2 (k_flush_t1 hG p1 p2 h1 h2 4)) (m_flush_t1 hK p1 p2 h1 h2 6)
  · exact zRs_t (by decide) (l_flush_2 (k_flush_t2 hG p1 p2 h1 h2 4)) (m_flush_t2 hK p1 p2 h1 h2 6)
  · exact zRs_t (by decide) (l_flush_2 (k_flush_t3 hG p1 p2 h1 h2 4)) (m_flush_t3 hK p1 p2 h1 h2 6)
  · exact zRs_t (by decide) (l_flush_2 (k_flush_t4 hG p1 p2 h1 h2 4)) (m_flush_t4 hK p1 p2 h1 h2 6)
  · exact zRs_t (by decide) (l_flush_2 (k_flush_t5 hG p1 p2 h1 h2 4)) (m_flush_t5 hK p1 p2 h1 h2 6)
  · exact zRs_t (by decide) (l_flush_2 (k_flush_t6 hG p1 p2 h1 h2 4)) (m_flush_t6 hK p1 p2 h1 h2 6)
  · exact zRs_t (by decide) (l_flush_2 (k_flush_t7 hG p1 p2 h1 h2 4)) (m_flush_t7 hK p1 p2 h1 h2 6)
theorem l_aside_1 {p0 p1 p2 : Int32} (hk : zCr 7 162 [.ref 0, .int p0, .int p1, .int p2] (zHx F G L) (.inr 0) (zHx F G L)) : zCr 8 163 [.ref 0, .int p0, .int p1, .int p2, .ref 148] (zHx F G L) (.inl (some (.int 1))) (zHx F G L) := by
  refine zx_in rfl rfl ?_
  refine zx_go 19 rfl ?_
  refine zx_k rfl rfl rfl rfl hk rfl (by decide) rfl rfl rfl rfl ?_
  refine zx_go 1 rfl ?_
  exact zx_r rfl rfl
theorem l_aside_2 {p0 p1 p2 : Int32} (hk : zCr 7 162 [.ref 0, .int p0, .int p1, .int p2] (zHx F G L) (.inr 1) (zHx F G L)) : zCr 8 163 [.ref 0, .int p0, .int p1, .int p2, .ref 148] (zHx F G L) (.inl (some (.int 2))) (zHx F G L) := by
  refine zx_in rfl rfl ?_
  refine zx_go 19 rfl ?_
  refine zx_k rfl rfl rfl rfl hk rfl (by decide) rfl rfl rfl rfl ?_
  refine zx_go 1 rfl ?_
  exact zx_r rfl rfl
theorem r_aside (hK : zFk F) (hG : zGk G) (p0 p1 p2 : Int32) : zRs 163 164 [.ref 0, .int p0, .int p1, .int p2, .ref 148] [.ref 113, .int p0, .int p1, .int p2] (zHx F G L) := by
  rcases zwi_01 p0 0 7 with h0 | h0
  · exact zRs_t (by decide) (l_aside_1 (k_aside_0 p0 p1 p2 h0 _ 4)) (m_aside_0 p0 p1 p2 h0 6)
  rcases zwi_01 p1 0 7 with h1 | h1
  · exact zRs_t (by decide) (l_aside_1 (k_aside_1 p0 p1 p2 h0 h1 _ 4)) (m_aside_1 p0 p1 p2 h0 h1 6)
  rcases zwi_01 p2 0 3 with h2 | h2
  · exact zRs_t (by decide) (l_aside_1 (k_aside_2 p0 p1 p2 h0 h1 h2 _ 4)) (m_aside_2 p0 p1 p2 h0 h1 h2 6)
  rcases zwi_7 h0 with rfl | rfl | rfl | rfl | rfl | rfl | rfl | rfl
  · exact zRs_t (by decide) (l_aside_2 (k_aside_t0 hG p1 p2 h1 h2 4)) (m_aside_t0 hK p1 p2 h1 h2 6)
  · exact zRs_t (by decide) (l_aside_2 (k_aside_t1 hG p1 p2 h1 h2 4)) (m_aside_t1 hK p1 p2 h1 h2 6)
  · exact zRs_t (by decide) (l_aside_2 (k_aside_t2 hG p1 p2 h1 h2 4)) (m_aside_t2 hK p1 p2 h1 h2 6)
  · exact zRs_t (by decide) (l_aside_2 (k_aside_t3 hG p1 p2 h1 h2 4)) (m_aside_t3 hK p1 p2 h1 h2 6)
  · exact zRs_t (by decide) (l_aside_2 (k_aside_t4 hG p1 p2 h1 h2 4)) (m_aside_t4 hK p1 p2 h1 h2 6)
  · exact zRs_t (by decide) (l_aside_2 (k_aside_t5 hG p1 p2 h1 h2 4)) (m_aside_t5 hK p1 p2 h1 h2 6)
  · exact zRs_t (by decide) (l_aside_2 (k_aside_t6 hG p1 p2 h1 h2 4)) (m_aside_t6 hK p1 p2 h1 h2 6)
  · exact zRs_t (by decide) (l_aside_2 (k_aside_t7 hG p1 p2 h1 h2 4)) (m_aside_t7 hK p1 p2 h1 h2 6)
theorem l_deny_1 {p0 p1 p2 : Int32} (hk : zCr 7 166 [.ref 0, .int p0, .int p1, .int p2] (zHx F G L) (.inr 0) (zHx F G L)) : zCr 8 167 [.ref 0, .int p0, .int p1, .int p2, .ref 148] (zHx F G L) (.inl (some (.int 1))) (zHx F G L) := by
  refine zx_in rfl rfl ?_
  refine zx_go 19 rfl ?_
  refine zx_k rfl rfl rfl rfl hk rfl (by decide) rfl rfl rfl rfl ?_
  refine zx_go 1 rfl ?_
  exact zx_r rfl rfl
theorem l_deny_2 {p0 p1 p2 : Int32} (hk : zCr 7 166 [.ref 0, .int p0, .int p1, .int p2] (zHx F G L) (.inr 1) (zHx F G L)) : zCr 8 167 [.ref 0, .int p0, .int p1, .int p2, .ref 148] (zHx F G L) (.inl (some (.int 2))) (zHx F G L) := by
  refine zx_in rfl rfl ?_
  refine zx_go 19 rfl ?_
  refine zx_k rfl rfl rfl rfl hk rfl (by decide) rfl rfl rfl rfl ?_
  refine zx_go 1 rfl ?_
  exact zx_r rfl rfl
theorem r_deny (hK : zFk F) (hG : zGk G) (p0 p1 p2 : Int32) : zRs 167 169 [.ref 0, .int p0, .int p1, .int p2, .ref 148] [.ref 113, .int p0, .int p1, .int p2] (zHx F G L) := by
  rcases zwi_01 p2 0 7 with h2 | h2
  · have hm := m_deny_0 (F := F) (G := G) (L := L) p0 p1 p2 h2 5
    rcases zwi_01 p0 0 3 with h0 | h0
    · exact zRs_t (by decide) (l_deny_1 (k_deny_0 p0 p1 p2 h0 _ 4)) hm
    rcases zwi_01 p1 0 127 with h1 | h1
    · exact zRs_t (by decide) (l_deny_1 (k_deny_1 p0 p1 p2 h0 h1 _ 4)) hm
    · exact zRs_t (by decide) (l_deny_1 (k_deny_2 p0 p1 p2 h0 h1 h2 _ 4)) hm
  rcases zwi_01 p0 0 3 with h0 | h0
  · exact zRs_t (by decide) (l_deny_1 (k_deny_0 p0 p1 p2 h0 _ 4)) (m_deny_1 p0 p1 p2 h2 h0 5)
  rcases zwi_01 p1 0 127 with h1 | h1
  · exact zRs_t (by decide) (l_deny_1 (k_deny_1 p0 p1 p2 h0 h1 _ 4)) (m_deny_2 p0 p1 p2 h2 h0 h1 5)
  have hm := m_deny_ok (G := G) (L := L) hK p0 p1 p2 h2 h0 h1 5
  rcases zwi_3 h0 with rfl | rfl | rfl | rfl
  · exact zRs_t (by decide) (l_deny_2 (k_deny_t0 hG p1 p2 h1 h2 4)) hm
  · exact zRs_t (by decide) (l_deny_2 (k_deny_t1 hG p1 p2 h1 h2 4)) hm
  · exact zRs_t (by decide) (l_deny_2 (k_deny_t2 hG p1 p2 h1 h2 4)) hm
  · exact zRs_t (by decide) (l_deny_2 (k_deny_t3 hG p1 p2 h1 h2 4)) hm
theorem l_swap_1 {p0 p1 : Int32} (hk : zCr 7 171 [.ref 0, .int p0, .int p1] (zHx F G L) (.inr 0) (zHx F G L)) : zCr 8 172 [.ref 0, .int p0, .int p1, .ref 148] (zHx F G L) (.inl (some (.int 1))) (zHx F G L) := by
  refine zx_in rfl rfl ?_
  refine zx_go 19 rfl ?_
  refine zx_k rfl rfl rfl rfl hk rfl (by decide) rfl rfl rfl rfl ?_
  refine zx_go 1 rfl ?_
  exact zx_r rfl rfl
theorem l_swap_2 {p0 p1 : Int32} (hk : zCr 7 171 [.ref 0, .int p0, .int p1] (zHx F G L) (.inr 1) (zHx F G L)) : zCr 8 172 [.ref 0, .int p0, .int p1, .ref 148] (zHx F G L) (.inl (some (.int 2))) (zHx F G L) := by
  refine zx_in rfl rfl ?_
  refine zx_go 19 rfl ?_
  refine zx_k rfl rfl rfl rfl hk rfl (by decide) rfl rfl rfl rfl ?_
  refine zx_go 1 rfl ?_
  exact zx_r rfl rfl
theorem r_swap (hK : zFk F) (hG : zGk G) (p0 p1 : Int32) : zRs 172 173 [.ref 0, .int p0, .int p1, .ref 148] [.ref 113, .int p0, .int p1] (zHx F G L) := by
  rcases zwi_01 p0 0 3 with h0 | h0
  · exact zRs_t (by decide) (l_swap_1 (k_swap_0 p0 p1 h0 _ 4)) (m_swap_0 p0 p1 h0 5)
  rcases zwi_01 p1 0 127 with h1 | h1
  · exact zRs_t (by decide) (l_swap_1 (k_swap_1 p0 p1 h0 h1 _ 4)) (m_swap_1 p0 p1 h0 h1 5)
  have hm := m_swap_ok (G := G) (L := L) hK p0 p1 h0 h1 5
  rcases zwi_3 h0 with rfl | rfl | rfl | rfl
  · exact zRs_t (by decide) (l_swap_2 (k_swap_t0 hG p1 h1 4)) hm
  · exact zRs_t (by decide) (l_swap_2 (k_swap_t1 hG p1 h1 4)) hm
  · exact zRs_t (by decide) (l_swap_2 (k_swap_t2 hG p1 h1 4)) hm
  · exact zRs_t (by decide) (l_swap_2 (k_swap_t3 hG p1 h1 4)) hm
theorem l_move_1 {p0 p1 : Int32} (hk : zCr 7 175 [.ref 0, .int p0, .int p1] (zHx F G L) (.inr 0) (zHx F G L)) : zCr 8 176 [.ref 0, .int p0, .int p1, .ref 148] (zHx F G L) (.inl (some (.int 1))) (zHx F G L) := by
  refine zx_in rfl rfl ?_
  refine zx_go 19 rfl ?_
  refine zx_k rfl rfl rfl rfl hk rfl (by decide) rfl rfl rfl rfl ?_
  refine zx_go 1 rfl ?_
  exact zx_r rfl rfl
theorem l_move_2 {p0 p1 : Int32} (hk : zCr 7 175 [.ref 0, .int p0, .int p1] (zHx F G L) (.inr 1) (zHx F G L)) : zCr 8 176 [.ref 0, .int p0, .int p1, .ref 148] (zHx F G L) (.inl (some (.int 2))) (zHx F G L) := by
  refine zx_in rfl rfl ?_
  refine zx_go 19 rfl ?_
  refine zx_k rfl rfl rfl rfl hk rfl (by decide) rfl rfl rfl rfl ?_
  refine zx_go 1 rfl ?_
  exact zx_r rfl rfl
theorem r_move (hK : zFk F) (hG : zGk G) (p0 p1 : Int32) : zRs 176 177 [.ref 0, .int p0, .int p1, .ref 148] [.ref 113, .int p0, .int p1] (zHx F G L) := by
  rcases zwi_01 p0 0 3 with h0 | h0
  · exact zRs_t (by decide) (l_move_1 (k_move_0 p0 p1 h0 _ 4)) (m_move_0 p0 p1 h0 5)
  rcases zwi_01 p1 0 127 with h1 | h1
  · exact zRs_t (by decide) (l_move_1 (k_move_1 p0 p1 h0 h1 _ 4)) (m_move_1 p0 p1 h0 h1 5)
  have hm := m_move_ok (G := G) (L := L) hK p0 p1 h0 h1 5
  rcases zwi_3 h0 with rfl | rfl | rfl | rfl
  · exact zRs_t (by decide) (l_move_2 (k_move_t0 hG p1 h1 4)) hm
  · exact zRs_t (by decide) (l_move_2 (k_move_t1 hG p1 h1 4)) hm
  · exact zRs_t (by decide) (l_move_2 (k_move_t2 hG p1 h1 4)) hm
  · exact zRs_t (by decide) (l_move_2 (k_move_t3 hG p1 h1 4)) hm
theorem l_target_1 {p0 p1 : Int32} (hk : zCr 7 178 [.ref 0, .int p0, .int p1] (zHx F G L) (.inr 0) (zHx F G L)) : zCr 8 179 [.ref 0, .int p0, .int p1, .ref 148] (zHx F G L) (.inl (some (.int 1))) (zHx F G L) := by
  refine zx_in rfl rfl ?_
  refine zx_go 19 rfl ?_
  refine zx_k rfl rfl rfl rfl hk rfl (by decide) rfl rfl rfl rfl ?_
  refine zx_go 1 rfl ?_
  exact zx_r rfl rfl
theorem l_target_2 {p0 p1 : Int32} (hk : zCr 7 178 [.ref 0, .int p0, .int p1] (zHx F G L) (.inr 1) (zHx F G L)) : zCr 8 179 [.ref 0, .int p0, .int p1, .ref 148] (zHx F G L) (.inl (some (.int 2))) (zHx F G L) := by
  refine zx_in rfl rfl ?_
  refine zx_go 19 rfl ?_
  refine zx_k rfl rfl rfl rfl hk rfl (by decide) rfl rfl rfl rfl ?_
  refine zx_go 1 rfl ?_
  exact zx_r rfl rfl
theorem r_target (hK : zFk F) (hG : zGk G) (p0 p1 : Int32) : zRs 179 180 [.ref 0, .int p0, .int p1, .ref 148] [.ref 113, .int p0, .int p1] (zHx F G L) := by
  rcases zwi_01 p0 0 3 with h0 | h0
  · exact zRs_t (by decide) (l_target_1 (k_target_0 p0 p1 h0 _ 4)) (m_target_0 p0 p1 h0 6)
  rcases zwi_01 p1 0 128 with h1 | h1
  · exact zRs_t (by decide) (l_target_1 (k_target_1 p0 p1 h0 h1 _ 4)) (m_target_1 p0 p1 h0 h1 6)
  rcases zwi_3 h0 with rfl | rfl | rfl | rfl
  · exact zRs_t (by decide) (l_target_2 (k_target_t0 hG p1 h1 4)) (m_target_t0 hK p1 h1 6)
  · exact zRs_t (by decide) (l_target_2 (k_target_t1 hG p1 h1 4)) (m_target_t1 hK p1 h1 6)
  · exact zRs_t (by decide) (l_target_2 (k_target_t2 hG p1 h1 4)) (m_target_t2 hK p1 h1 6)
  · exact zRs_t (by decide) (l_target_2 (k_target_t3 hG p1 h1 4)) (m_target_t3 hK p1 h1 6)
theorem l_harvest_1 {p0 : Int32} (hk : zCr 7 181 [.ref 0, .int p0] (zHx F G L) (.inr 0) (zHx F G L)) : zCr 8 182 [.ref 0, .int p0, .ref 148] (zHx F G L) (.inl (some (.int 1))) (zHx F G L) := by
  refine zx_in rfl rfl ?_
  refine zx_go 19 rfl ?_
  refine zx_k rfl rfl rfl rfl hk rfl (by decide) rfl rfl rfl rfl ?_
  refine zx_go 1 rfl ?_
  exact zx_r rfl rfl
theorem l_harvest_2 {p0 : Int32} (hk : zCr 7 181 [.ref 0, .int p0] (zHx F G L) (.inr 1) (zHx F G L)) : zCr 8 182 [.ref 0, .int p0, .ref 148] (zHx F G L) (.inl (some (.int 2))) (zHx F G L) := by
  refine zx_in rfl rfl ?_
  refine zx_go 19 rfl ?_
  refine zx_k rfl rfl rfl rfl hk rfl (by decide) rfl rfl rfl rfl ?_
  refine zx_go 1 rfl ?_
  exact zx_r rfl rfl
theorem r_harvest (hK : zFk F) (hG : zGk G) (p0 : Int32) : zRs 182 183 [.ref 0, .int p0, .ref 148] [.ref 113, .int p0] (zHx F G L) := by
  rcases zwi_01 p0 0 3 with h0 | h0
  · exact zRs_t (by decide) (l_harvest_1 (k_harvest_0 p0 h0 _ 4)) (m_harvest_0 p0 h0 6)
  rcases zwi_3 h0 with rfl | rfl | rfl | rfl
  · exact zRs_t (by decide) (l_harvest_2 (k_harvest_t0 hG   4)) (m_harvest_t0 hK   6)
  · exact zRs_t (by decide) (l_harvest_2 (k_harvest_t1 hG   4)) (m_harvest_t1 hK   6)
  · exact zRs_t (by decide) (l_harvest_2 (k_harvest_t2 hG   4)) (m_harvest_t2 hK   6)
  · exact zRs_t (by decide) (l_harvest_2 (k_harvest_t3 hG   4)) (m_harvest_t3 hK   6)
theorem l_entry_1 {p0 p1 : Int32} (hk : zCr 7 186 [.ref 0, .int p0, .int p1] (zHx F G L) (.inr 0) (zHx F G L)) : zCr 8 187 [.ref 0, .int p0, .int p1, .ref 148] (zHx F G L) (.inl (some (.int 1))) (zHx F G L) := by
  refine zx_in rfl rfl ?_
  refine zx_go 19 rfl ?_
  refine zx_k rfl rfl rfl rfl hk rfl (by decide) rfl rfl rfl rfl ?_
  refine zx_go 1 rfl ?_
  exact zx_r rfl rfl
theorem l_entry_2 {p0 p1 : Int32} (hk : zCr 7 186 [.ref 0, .int p0, .int p1] (zHx F G L) (.inr 1) (zHx F G L)) : zCr 8 187 [.ref 0, .int p0, .int p1, .ref 148] (zHx F G L) (.inl (some (.int 2))) (zHx F G L) := by
  refine zx_in rfl rfl ?_
  refine zx_go 19 rfl ?_
  refine zx_k rfl rfl rfl rfl hk rfl (by decide) rfl rfl rfl rfl ?_
  refine zx_go 1 rfl ?_
  exact zx_r rfl rfl
theorem r_entry (hK : zFk F) (hG : zGk G) (p0 p1 : Int32) : zRs 187 188 [.ref 0, .int p0, .int p1, .ref 148] [.ref 113, .int p0, .int p1] (zHx F G L) := by
  rcases zwi_01 p0 0 3 with h0 | h0
  · exact zRs_t (by decide) (l_entry_1 (k_entry_0 p0 p1 h0 _ 4)) (m_entry_0 p0 p1 h0 6)
  rcases zwi_01 p1 0 127 with h1 | h1
  · exact zRs_t (by decide) (l_entry_1 (k_entry_1 p0 p1 h0 h1 _ 4)) (m_entry_1 p0 p1 h0 h1 6)
  rcases zwi_3 h0 with rfl | rfl | rfl | rfl
  · exact zRs_t (by decide) (l_entry_2 (k_entry_t0 hG p1 h1 4)) (m_entry_t0 hK p1 h1 6)
  · exact zRs_t (by decide) (l_entry_2 (k_entry_t1 hG p1 h1 4)) (m_entry_t1 hK p1 h1 6)
  · exact zRs_t (by decide) (l_entry_2 (k_entry_t2 hG p1 h1 4)) (m_entry_t2 hK p1 h1 6)
  · exact zRs_t (by decide) (l_entry_2 (k_entry_t3 hG p1 h1 4)) (m_entry_t3 hK p1 h1 6)
theorem l_peek_1 {p0 p1 : Int32} (hk : zCr 7 195 [.ref 0, .int p0, .int p1] (zHx F G L) (.inr 0) (zHx F G L)) : zCr 8 196 [.ref 0, .int p0, .int p1, .ref 148] (zHx F G L) (.inl (some (.int 1))) (zHx F G L) := by
  refine zx_in rfl rfl ?_
  refine zx_go 19 rfl ?_
  refine zx_k rfl rfl rfl rfl hk rfl (by decide) rfl rfl rfl rfl ?_
  refine zx_go 1 rfl ?_
  exact zx_r rfl rfl
theorem l_peek_2 {p0 p1 : Int32} (hk : zCr 7 195 [.ref 0, .int p0, .int p1] (zHx F G L) (.inr 1) (zHx F G L)) : zCr 8 196 [.ref 0, .int p0, .int p1, .ref 148] (zHx F G L) (.inl (some (.int 2))) (zHx F G L) := by
  refine zx_in rfl rfl ?_
  refine zx_go 19 rfl ?_
  refine zx_k rfl rfl rfl rfl hk rfl (by decide) rfl rfl rfl rfl ?_
  refine zx_go 1 rfl ?_
  exact zx_r rfl rfl
theorem r_peek (hK : zFk F) (hG : zGk G) (p0 p1 : Int32) : zRs 196 197 [.ref 0, .int p0, .int p1, .ref 148] [.ref 113, .int p0, .int p1] (zHx F G L) := by
  rcases zwi_01 p0 0 3 with h0 | h0
  · exact zRs_t (by decide) (l_peek_1 (k_peek_0 p0 p1 h0 _ 4)) (m_peek_0 p0 p1 h0 6)
  rcases zwi_01 p1 0 2047 with h1 | h1
  · exact zRs_t (by decide) (l_peek_1 (k_peek_1 p0 p1 h0 h1 _ 4)) (m_peek_1 p0 p1 h0 h1 6)
  rcases zwi_3 h0 with rfl | rfl | rfl | rfl
  · exact zRs_t (by decide) (l_peek_2 (k_peek_t0 hG p1 h1 4)) (m_peek_t0 hK p1 h1 6)
  · exact zRs_t (by decide) (l_peek_2 (k_peek_t1 hG p1 h1 4)) (m_peek_t1 hK p1 h1 6)
  · exact zRs_t (by decide) (l_peek_2 (k_peek_t2 hG p1 h1 4)) (m_peek_t2 hK p1 h1 6)
  · exact zRs_t (by decide) (l_peek_2 (k_peek_t3 hG p1 h1 4)) (m_peek_t3 hK p1 h1 6)
theorem l_count_1 {p0 p1 : Int32} (hk : zCr 7 206 [.ref 0, .int p0, .int p1] (zHx F G L) (.inr 0) (zHx F G L)) : zCr 8 207 [.ref 0, .int p0, .int p1, .ref 148] (zHx F G L) (.inl (some (.int 1))) (zHx F G L) := by
  refine zx_in rfl rfl ?_
  refine zx_go 19 rfl ?_
  refine zx_k rfl rfl rfl rfl hk rfl (by decide) rfl rfl rfl rfl ?_
  refine zx_go 1 rfl ?_
  exact zx_r rfl rfl
theorem l_count_2 {p0 p1 : Int32} (hk : zCr 7 206 [.ref 0, .int p0, .int p1] (zHx F G L) (.inr 1) (zHx F G L)) : zCr 8 207 [.ref 0, .int p0, .int p1, .ref 148] (zHx F G L) (.inl (some (.int 2))) (zHx F G L) := by
  refine zx_in rfl rfl ?_
  refine zx_go 19 rfl ?_
  refine zx_k rfl rfl rfl rfl hk rfl (by decide) rfl rfl rfl rfl ?_
  refine zx_go 1 rfl ?_
  exact zx_r rfl rfl
theorem r_count (hK : zFk F) (hG : zGk G) (p0 p1 : Int32) : zRs 207 210 [.ref 0, .int p0, .int p1, .ref 148] [.ref 113, .int p0, .int p1] (zHx F G L) := by
  rcases zwi_01 p0 0 3 with h0 | h0
  · exact zRs_t (by decide) (l_count_1 (k_count_0 p0 p1 h0 _ 4)) (m_count_0 p0 p1 h0 6)
  rcases zwi_01 p1 0 11 with h1 | h1
  · exact zRs_t (by decide) (l_count_1 (k_count_1 p0 p1 h0 h1 _ 4)) (m_count_1 p0 p1 h0 h1 6)
  rcases zwi_3 h0 with rfl | rfl | rfl | rfl
  · exact zRs_t (by decide) (l_count_2 (k_count_t0 hG p1 h1 4)) (m_count_t0 hK p1 h1 6)
  · exact zRs_t (by decide) (l_count_2 (k_count_t1 hG p1 h1 4)) (m_count_t1 hK p1 h1 6)
  · exact zRs_t (by decide) (l_count_2 (k_count_t2 hG p1 h1 4)) (m_count_t2 hK p1 h1 6)
  · exact zRs_t (by decide) (l_count_2 (k_count_t3 hG p1 h1 4)) (m_count_t3 hK p1 h1 6)
theorem l_printed_1 {p0 p1 : Int32} (hk : zCr 7 212 [.ref 0, .int p0, .int p1] (zHx F G L) (.inr 0) (zHx F G L)) : zCr 8 213 [.ref 0, .int p0, .int p1, .ref 148] (zHx F G L) (.inl (some (.int 1))) (zHx F G L) := by
  refine zx_in rfl rfl ?_
  refine zx_go 19 rfl ?_
  refine zx_k rfl rfl rfl rfl hk rfl (by decide) rfl rfl rfl rfl ?_
  refine zx_go 1 rfl ?_
  exact zx_r rfl rfl
theorem l_printed_2 {p0 p1 : Int32} (hk : zCr 7 212 [.ref 0, .int p0, .int p1] (zHx F G L) (.inr 1) (zHx F G L)) : zCr 8 213 [.ref 0, .int p0, .int p1, .ref 148] (zHx F G L) (.inl (some (.int 2))) (zHx F G L) := by
  refine zx_in rfl rfl ?_
  refine zx_go 19 rfl ?_
  refine zx_k rfl rfl rfl rfl hk rfl (by decide) rfl rfl rfl rfl ?_
  refine zx_go 1 rfl ?_
  exact zx_r rfl rfl
theorem r_printed (hK : zFk F) (hG : zGk G) (p0 p1 : Int32) : zRs 213 214 [.ref 0, .int p0, .int p1, .ref 148] [.ref 113, .int p0, .int p1] (zHx F G L) := by
  rcases zwi_01 p0 0 3 with h0 | h0
  · exact zRs_t (by decide) (l_printed_1 (k_printed_0 p0 p1 h0 _ 4)) (m_printed_0 p0 p1 h0 6)
  rcases zwi_3 h0 with rfl | rfl | rfl | rfl
  · exact zRs_t (by decide) (l_printed_2 (k_printed_t0 hG p1  4)) (m_printed_t0 hK p1  6)
  · exact zRs_t (by decide) (l_printed_2 (k_printed_t1 hG p1  4)) (m_printed_t1 hK p1  6)
  · exact zRs_t (by decide) (l_printed_2 (k_printed_t2 hG p1  4)) (m_printed_t2 hK p1  6)
  · exact zRs_t (by decide) (l_printed_2 (k_printed_t3 hG p1  4)) (m_printed_t3 hK p1  6)
theorem l_poke_1 {p0 p1 p2 p3 p4 p5 : Int32} (hk : zCr 7 190 [.ref 0, .int p0, .int p1, .int p2, .int p3, .int p4, .int p5] (zHx F G L) (.inr 0) (zHx F G L)) : zCr 8 191 [.ref 0, .int p0, .int p1, .int p2, .int p3, .int p4, .int p5, .ref 148] (zHx F G L) (.inl (some (.int 1))) (zHx F G L) := by
  refine zx_in rfl rfl ?_
  refine zx_go 19 rfl ?_
  refine zx_k rfl rfl rfl rfl hk rfl (by decide) rfl rfl rfl rfl ?_
  refine zx_go 1 rfl ?_
  exact zx_r rfl rfl
theorem l_poke_2 {p0 p1 p2 p3 p4 p5 : Int32} (hk : zCr 7 190 [.ref 0, .int p0, .int p1, .int p2, .int p3, .int p4, .int p5] (zHx F G L) (.inr 1) (zHx F G L)) : zCr 8 191 [.ref 0, .int p0, .int p1, .int p2, .int p3, .int p4, .int p5, .ref 148] (zHx F G L) (.inl (some (.int 2))) (zHx F G L) := by
  refine zx_in rfl rfl ?_
  refine zx_go 19 rfl ?_
  refine zx_k rfl rfl rfl rfl hk rfl (by decide) rfl rfl rfl rfl ?_
  refine zx_go 1 rfl ?_
  exact zx_r rfl rfl
theorem r_poke (hK : zFk F) (hG : zGk G) (p0 p1 p2 p3 p4 p5 : Int32) : zRs 191 193 [.ref 0, .int p0, .int p1, .int p2, .int p3, .int p4, .int p5, .ref 148] [.ref 113, .int p0, .int p1, .int p2, .int p3, .int p4, .int p5] (zHx F G L) := by
  rcases zwi_01 p0 0 3 with h0 | h0
  · exact zRs_t (by decide) (l_poke_1 (k_poke_0 p0 p1 p2 p3 p4 p5 h0 _ 4)) (m_poke_0 p0 p1 p2 p3 p4 p5 h0 5)
  rcases zwi_01 p1 0 2047 with h1 | h1
  · exact zRs_t (by decide) (l_poke_1 (k_poke_1 p0 p1 p2 p3 p4 p5 h0 h1 _ 4)) (m_poke_1 p0 p1 p2 p3 p4 p5 h0 h1 5)
  rcases Bool.eq_false_or_eq_true (zc1 .ne (p1 - p1 / 4 * 4)) with hm | hm
  · exact zRs_t (by decide) (l_poke_1 (k_poke_2 p0 p1 p2 p3 p4 p5 h0 h1 hm _ 4)) (m_poke_2 p0 p1 p2 p3 p4 p5 h0 h1 hm 5)
  rcases zwi_01 p2 0 65535 with h2 | h2
  · exact zRs_t (by decide) (l_poke_1 (k_poke_3 p0 p1 p2 p3 p4 p5 h0 h1 hm h2 _ 4)) (m_poke_3 p0 p1 p2 p3 p4 p5 h0 h1 hm h2 5)
  rcases zwi_01 p3 0 65535 with h3 | h3
  · exact zRs_t (by decide) (l_poke_1 (k_poke_4 p0 p1 p2 p3 p4 p5 h0 h1 hm h2 h3 _ 4)) (m_poke_4 p0 p1 p2 p3 p4 p5 h0 h1 hm h2 h3 5)
  rcases zwi_01 p4 0 65535 with h4 | h4
  · exact zRs_t (by decide) (l_poke_1 (k_poke_5 p0 p1 p2 p3 p4 p5 h0 h1 hm h2 h3 h4 _ 4)) (m_poke_5 p0 p1 p2 p3 p4 p5 h0 h1 hm h2 h3 h4 5)
  rcases zwi_01 p5 0 65535 with h5 | h5
  · exact zRs_t (by decide) (l_poke_1 (k_poke_6 p0 p1 p2 p3 p4 p5 h0 h1 hm h2 h3 h4 h5 _ 4)) (m_poke_6 p0 p1 p2 p3 p4 p5 h0 h1 hm h2 h3 h4 h5 5)
  exact zRs_t (by decide) (l_poke_2 (k_poke_ok hG p0 p1 p2 p3 p4 p5 h0 h1 hm h2 h3 h4 h5 4)) (m_poke_ok hK p0 p1 p2 p3 p4 p5 h0 h1 hm h2 h3 h4 h5 5)
theorem l_set_1 {p0 p1 p2 : Int32} (hk : zCr 7 54 [.ref 0, .int p0, .int p1, .int p2] (zHx F G L) (.inr 0) (zHx F G L)) : zCr 8 55 [.ref 0, .int p0, .int p1, .int p2] (zHx F G L) (.inl (some (.int 1))) (zHx F G L) := by
  refine zx_in rfl rfl ?_
  refine zx_go 19 rfl ?_
  refine zx_k rfl rfl rfl rfl hk rfl (by decide) rfl rfl rfl rfl ?_
  refine zx_go 1 rfl ?_
  exact zx_r rfl rfl
theorem l_set_2 {p0 p1 p2 : Int32} (hk : zCr 7 54 [.ref 0, .int p0, .int p1, .int p2] (zHx F G L) (.inr 1) (zHx F G L)) : zCr 8 55 [.ref 0, .int p0, .int p1, .int p2] (zHx F G L) (.inl (some (.int 2))) (zHx F G L) := by
  refine zx_in rfl rfl ?_
  refine zx_go 19 rfl ?_
  refine zx_k rfl rfl rfl rfl hk rfl (by decide) rfl rfl rfl rfl ?_
  refine zx_go 1 rfl ?_
  exact zx_r rfl rfl
theorem r_set (hK : zFk F) (hG : zGk G) (p0 p1 p2 : Int32) : zRs0 [.ref 0, .int p0, .int p1, .int p2] [.ref 113, .int p0, .int p1, .int p2] (zHx F G L) := by
  rcases zwi_01 p0 0 7 with h0 | h0
  · exact zRs0_t (l_set_1 (k_set_0 p0 p1 p2 h0 _ 4)) (m_set_0 p0 p1 p2 h0 5)
  rcases zwi_01 p1 0 9 with h1 | h1
  · exact zRs0_t (l_set_1 (k_set_1 p0 p1 p2 h0 h1 _ 4)) (m_set_1 p0 p1 p2 h0 h1 5)
  rcases zwi_9 h1 with rfl | rfl | rfl | rfl | rfl | rfl | rfl | rfl | rfl | rfl
  · rcases zwi_01 p2 0 65535 with h2 | h2
    · exact zRs0_t (l_set_1 (k_set_b0 p0 p2 h0 h2 _ 4)) (m_set_b0 p0 p2 h0 h2 5)
    · exact zRs0_t (l_set_2 (k_set_t0 hG p0 p2 h0 h2 4)) (m_set_t0 hK p0 p2 h0 h2 5)
  · rcases zwi_01 p2 0 65535 with h2 | h2
    · exact zRs0_t (l_set_1 (k_set_b1 p0 p2 h0 h2 _ 4)) (m_set_b1 p0 p2 h0 h2 5)
    · exact zRs0_t (l_set_2 (k_set_t1 hG p0 p2 h0 h2 4)) (m_set_t1 hK p0 p2 h0 h2 5)
  · rcases zwi_01 p2 0 4095 with h2 | h2
    · exact zRs0_t (l_set_1 (k_set_b2 p0 p2 h0 h2 _ 4)) (m_set_b2 p0 p2 h0 h2 5)
    · exact zRs0_t (l_set_2 (k_set_t2 hG p0 p2 h0 h2 4)) (m_set_t2 hK p0 p2 h0 h2 5)
  · rcases zwi_01 p2 0 1 with h2 | h2
    · exact zRs0_t (l_set_1 (k_set_b3 p0 p2 h0 h2 _ 4)) (m_set_b3 p0 p2 h0 h2 5)
    · exact zRs0_t (l_set_2 (k_set_t3 hG p0 p2 h0 h2 4)) (m_set_t3 hK p0 p2 h0 h2 5)
  · rcases zwi_01 p2 0 3 with h2 | h2
    · exact zRs0_t (l_set_1 (k_set_b4 p0 p2 h0 h2 _ 4)) (m_set_b4 p0 p2 h0 h2 5)
    · exact zRs0_t (l_set_2 (k_set_t4 hG p0 p2 h0 h2 4)) (m_set_t4 hK p0 p2 h0 h2 5)
  · rcases zwi_01 p2 0 255 with h2 | h2
    · exact zRs0_t (l_set_1 (k_set_b5 p0 p2 h0 h2 _ 4)) (m_set_b5 p0 p2 h0 h2 5)
    · exact zRs0_t (l_set_2 (k_set_t5 hG p0 p2 h0 h2 4)) (m_set_t5 hK p0 p2 h0 h2 5)
  · rcases zwi_01 p2 0 3 with h2 | h2
    · exact zRs0_t (l_set_1 (k_set_b6 p0 p2 h0 h2 _ 4)) (m_set_b6 p0 p2 h0 h2 5)
    · exact zRs0_t (l_set_2 (k_set_t6 hG p0 p2 h0 h2 4)) (m_set_t6 hK p0 p2 h0 h2 5)
  · rcases zwi_01 p2 (-1) 4095 with h2 | h2
    · exact zRs0_t (l_set_1 (k_set_b7 p0 p2 h0 h2 _ 4)) (m_set_b7 p0 p2 h0 h2 5)
    · exact zRs0_t (l_set_2 (k_set_t7 hG p0 p2 h0 h2 4)) (m_set_t7 hK p0 p2 h0 h2 5)
  · rcases zwi_01 p2 0 4095 with h2 | h2
    · exact zRs0_t (l_set_1 (k_set_b8 p0 p2 h0 h2 _ 4)) (m_set_b8 p0 p2 h0 h2 5)
    · exact zRs0_t (l_set_2 (k_set_t8 hG p0 p2 h0 h2 4)) (m_set_t8 hK p0 p2 h0 h2 5)
  · rcases zwi_01 p2 0 1 with h2 | h2
    · exact zRs0_t (l_set_1 (k_set_b9 p0 p2 h0 h2 _ 4)) (m_set_b9 p0 p2 h0 h2 5)
    · exact zRs0_t (l_set_2 (k_set_t9 hG p0 p2 h0 h2 4)) (m_set_t9 hK p0 p2 h0 h2 5)
theorem l_frame_1 {p0 p1 : Int32} (hk : zCr 7 199 [.ref 0, .int p0, .int p1] (zHx F G L) (.inr 0) (zHx F G L)) : zCr 8 200 [.ref 0, .int p0, .int p1, .ref 148] (zHx F G L) (.inl (some (.int 1))) (zHx F G L) := by
  refine zx_in rfl rfl ?_
  refine zx_go 19 rfl ?_
  refine zx_k rfl rfl rfl rfl hk rfl (by decide) rfl rfl rfl rfl ?_
  refine zx_go 1 rfl ?_
  exact zx_r rfl rfl
theorem l_frame_0 {p0 p1 v : Int32} (hk : zCr 7 199 [.ref 0, .int p0, .int p1] (zHx F G L) (.inl (some (.int v))) (zHx F G L)) : zCr 8 200 [.ref 0, .int p0, .int p1, .ref 148] (zHx F G L) (.inl (some (.int 0))) (zHx F G (vp_updL L 0 v.toInt64)) := by
  refine zx_in rfl rfl ?_
  refine zx_go 19 rfl ?_
  refine zx_c rfl rfl rfl rfl hk ?_
  refine zx_go 9 rfl ?_
  exact zx_r rfl rfl
theorem l_owner_1 {p0 p1 : Int32} (hk : zCr 7 202 [.ref 0, .int p0, .int p1] (zHx F G L) (.inr 0) (zHx F G L)) : zCr 8 203 [.ref 0, .int p0, .int p1, .ref 148] (zHx F G L) (.inl (some (.int 1))) (zHx F G L) := by
  refine zx_in rfl rfl ?_
  refine zx_go 19 rfl ?_
  refine zx_k rfl rfl rfl rfl hk rfl (by decide) rfl rfl rfl rfl ?_
  refine zx_go 1 rfl ?_
  exact zx_r rfl rfl
theorem l_owner_0 {p0 p1 v : Int32} (hk : zCr 7 202 [.ref 0, .int p0, .int p1] (zHx F G L) (.inl (some (.int v))) (zHx F G L)) : zCr 8 203 [.ref 0, .int p0, .int p1, .ref 148] (zHx F G L) (.inl (some (.int 0))) (zHx F G (vp_updL L 0 v.toInt64)) := by
  refine zx_in rfl rfl ?_
  refine zx_go 19 rfl ?_
  refine zx_c rfl rfl rfl rfl hk ?_
  refine zx_go 9 rfl ?_
  exact zx_r rfl rfl
theorem vp_updL0 (f : Nat → Int64) (x : Int64) : vp_updL f 0 x 0 = x := by
  unfold vp_updL
  rfl
theorem r_frame (hZ : zFz F) (p0 p1 : Int32) : zRs 200 201 [.ref 0, .int p0, .int p1, .ref 148] [.ref 113, .int p0, .int p1] (zHx F G L) := by
  rcases zwi_01 p0 0 127 with h0 | h0
  · exact zRs_t (by decide) (l_frame_1 (k_frame_0 p0 p1 h0 _ 4)) (m_frame_0 p0 p1 h0 6)
  rcases zwi_01 p1 0 15 with h1 | h1
  · exact zRs_t (by decide) (l_frame_1 (k_frame_1 p0 p1 h0 h1 _ 4)) (m_frame_1 p0 p1 h0 h1 6)
  exact ⟨0, 0, _, _, _, vp_updL L 0 (Int32.toInt64 0), l_frame_0 (k_frame_ok hZ p0 p1 h0 h1 4), m_frame_ok hZ p0 p1 h0 h1 6, m_thrown 0 7, rfl, fun _ => vp_updL0 _ _, ⟨_, rfl⟩, ⟨_, rfl⟩⟩
theorem r_owner (hZ : zFz F) (p0 p1 : Int32) : zRs 203 204 [.ref 0, .int p0, .int p1, .ref 148] [.ref 113, .int p0, .int p1] (zHx F G L) := by
  rcases zwi_01 p0 0 127 with h0 | h0
  · exact zRs_t (by decide) (l_owner_1 (k_owner_0 p0 p1 h0 _ 4)) (m_owner_0 p0 p1 h0 6)
  rcases zwi_01 p1 0 2 with h1 | h1
  · exact zRs_t (by decide) (l_owner_1 (k_owner_1 p0 p1 h0 h1 _ 4)) (m_owner_1 p0 p1 h0 h1 6)
  rcases zwi_2 h1 with rfl | rfl | rfl
  · exact ⟨0, 0, _, _, _, vp_updL L 0 (Int32.toInt64 0), l_owner_0 (k_owner_t0 hZ p0 h0 4), m_owner_t0 hZ p0 h0 6, m_thrown 0 7, rfl, fun _ => vp_updL0 _ _, ⟨_, rfl⟩, ⟨_, rfl⟩⟩
  · exact ⟨0, -1, _, _, _, vp_updL L 0 (Int32.toInt64 (-1)), l_owner_0 (k_owner_t1 hZ p0 h0 4), m_owner_t1 hZ p0 h0 6, m_thrown 0 7, rfl, fun _ => vp_updL0 _ _, ⟨_, rfl⟩, ⟨_, rfl⟩⟩
  · exact ⟨0, -1, _, _, _, vp_updL L 0 (Int32.toInt64 (-1)), l_owner_0 (k_owner_t2 hZ p0 h0 4), m_owner_t2 hZ p0 h0 6, m_thrown 0 7, rfl, fun _ => vp_updL0 _ _, ⟨_, rfl⟩, ⟨_, rfl⟩⟩
theorem l_guest_1 {p0 : Int32} (hk : zCr 7 18 [.ref 0, .int p0] (zHx F G L) (.inr 0) (zHx F G L)) : zCr 8 19 [.ref 0, .int p0, .ref 148] (zHx F G L) (.inl (some (.int 1))) (zHx F G L) := by
  refine zx_in rfl rfl ?_
  refine zx_go 19 rfl ?_
  refine zx_k rfl rfl rfl rfl hk rfl (by decide) rfl rfl rfl rfl ?_
  refine zx_go 1 rfl ?_
  exact zx_r rfl rfl
theorem l_host_1 {p0 : Int32} (hk : zCr 7 218 [.ref 0, .int p0] (zHx F G L) (.inr 0) (zHx F G L)) : zCr 8 219 [.ref 0, .int p0, .ref 148] (zHx F G L) (.inl (some (.int 1))) (zHx F G L) := by
  refine zx_in rfl rfl ?_
  refine zx_go 19 rfl ?_
  refine zx_k rfl rfl rfl rfl hk rfl (by decide) rfl rfl rfl rfl ?_
  refine zx_go 1 rfl ?_
  exact zx_r rfl rfl
theorem r_guest (hZ : zFz F) (hK : zFk F) (hG : zGk G) (p0 : Int32) : zRs 19 23 [.ref 0, .int p0, .ref 148] [.ref 113, .int p0] (zHx F G L) := by
  rcases zwi_01 p0 1 128 with h0 | h0
  · exact zRs_t (by decide) (l_guest_1 (k_guest_0 p0 h0 _ 4)) (m_guest_0 p0 h0 6)
  exact r_guest_1 hZ hK hG p0 h0
theorem r_host_0 (p0 : Int32) (h0 : zwi p0 0 4 = 0) : zRs 219 220 [.ref 0, .int p0, .ref 148] [.ref 113, .int p0] (zHx F G L) :=
  zRs_t (by decide) (l_host_1 (k_host_0 p0 h0 _ 4)) (m_host_0 p0 h0 6)
end ZHL
theorem r_host (p0 : Int32) : zRs 219 220 [.ref 0, .int p0, .ref 148] [.ref 113, .int p0] (zHx zF0 zG0 zL0) := by
  rcases zwi_01 p0 0 4 with h0 | h0
  · exact r_host_0 p0 h0
  obtain ⟨j, hj, rfl⟩ := zwi_nI (n := 4) rfl h0
  rw [← zH0_eq]
  exact zEvR_ok (List.all_eq_true.mp zEv_host j (List.mem_range.mpr (by omega)))
