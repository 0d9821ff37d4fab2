/-! MORE ROWS -/
section ZR5
variable {Pg : List zM} {FT : zFT} {FN : Nat → Nat} {X : zX} {cr : Nat → List Value → zH → zO → zH → Prop} {M : zM} {o : zO} {h h' : zH} {pc nc ns t : Nat} {lo : zL} {r : List Value} {en : zN} {x : Int32}
theorem zx_if {cd : ClassFile.Cond} {off : Int} {b : Bool} (hf : zfind (zIns M) pc = some en) (hi : en.2.1 = .ifCond cd off) (hx : zc1 cd x = b) (ht : ztgt en.1 off = some t) (k : zBx Pg FT FN X cr M o h' (bif b then t else pc + 3) lo r h nc ns) : zBx Pg FT FN X cr M o h' pc lo (.int x :: r) h nc ns := by
  have hpc := (zfind_eq hf).2
  refine zx_s hf (by rw [hi]; rfl) ?_ k
  unfold zstep
  rw [hi]
  dsimp only [zpush, zlod, zsto, zjmp, z1]
  rw [ht]
  dsimp only
  rw [hx, hpc]
theorem zx_sw {d lw hw : Int} {offs : Array Int} (hf : zfind (zIns M) pc = some en) (hi : en.2.1 = .tableswitch d lw hw offs) (hx : (decide (x.toInt < lw) || decide (hw < x.toInt)) = true) (ht : ztgt en.1 d = some t) (k : zBx Pg FT FN X cr M o h' t lo r h nc ns) : zBx Pg FT FN X cr M o h' pc lo (.int x :: r) h nc ns := by
  refine zx_s hf (by rw [hi]; rfl) ?_ k
  unfold zstep
  rw [hi]
  dsimp only [zpush, zlod, zsto, zjmp, z1]
  rw [hx, cond_true, ht]
/-- another name for the top of the stack -/
theorem zx_eq {y : Int32} (e : x = y) (k : zBx Pg FT FN X cr M o h' pc lo (.int y :: r) h nc ns) : zBx Pg FT FN X cr M o h' pc lo (.int x :: r) h nc ns := by
  subst e; exact k
end ZR5
theorem zwi_out {v lo hi : Int32} (h : zwi v lo hi = 0) : v < lo ∨ hi < v := by
  unfold zwi zc2 at h
  dsimp only at h
  cases h1 : decide (v < lo) with
  | true => exact Or.inl (of_decide_eq_true h1)
  | false =>
  rw [h1, cond_false] at h
  cases h2 : decide (hi < v) with
  | true => exact Or.inr (of_decide_eq_true h2)
  | false => rw [h2, cond_false] at h; exact absurd h (by decide)
theorem zwi_sw9 {v : Int32} (h : zwi v 0 9 = 0) : (decide (v.toInt < 0) || decide (9 < v.toInt)) = true := by
  rw [Bool.or_eq_true, decide_eq_true_eq, decide_eq_true_eq]
  rcases zwi_out h with q | q
  · exact Or.inl (Int32.lt_iff_toInt_lt.mp q)
  · exact Or.inr (Int32.lt_iff_toInt_lt.mp q)
theorem zwi_neg (v : Int32) : zwi v 0 (-1) = 0 := by
  rcases zwi_01 v 0 (-1) with q | q
  · exact q
  · obtain ⟨h1, h2⟩ := zwi_in q
    have a1 := Int32.le_iff_toInt_le.mp h1
    have a2 := Int32.le_iff_toInt_le.mp h2
    have e1 : (0 : Int32).toInt = 0 := rfl
    have e2 : (-1 : Int32).toInt = -1 := rfl
    omega
theorem zwi_nI {v hi : Int32} {n : Nat} (hM : hi.toInt = n) (h : zwi v 0 hi = 1) : ∃ j : Nat, j ≤ n ∧ v = nI j := by
  obtain ⟨h1, h2⟩ := zwi_in h
  exact nI_of2 hM (Int32.not_lt.mpr h1) h2
theorem zin_nI {j n : Nat} (h : j < n) (hn : n < 2 ^ 31) : zin (nI j) n = true := by
  unfold zin
  exact decide_eq_true (vp_in_nI h hn)
theorem zfrm {p0 p1 : Int32} (h0 : zwi p0 0 127 = 1) (h1 : zwi p1 0 15 = 1) : ∃ j : Nat, j < 2048 ∧ p0 * 16 + p1 = nI j ∧ 16 * p0 + p1 = nI j := by
  obtain ⟨a, ha, rfl⟩ := zwi_nI (n := 127) rfl h0
  obtain ⟨b, hb, rfl⟩ := zwi_nI (n := 15) rfl h1
  refine ⟨a * 16 + b, by omega, ?_, ?_⟩
  · rw [show (16 : Int32) = nI 16 from rfl, pk_mul, nI_add]
  · rw [show (16 : Int32) = nI 16 from rfl, pk_mul, nI_add, Nat.mul_comm]
/-- the arrays of the start -/
def zFz (F : Nat → Nat → Int32) : Prop := (∀ j, j < 2048 → F 2 j = 0) ∧ (∀ j, j < 128 → F 3 j = 0) ∧ (∀ j, j < 128 → F 4 j = -1) ∧ (∀ j, j < 128 → F 5 j = -1) ∧ (∀ j, j < 2048 → F 114 j = 0) ∧ (∀ j, j < 128 → F 115 j = 0)
/-! THE CLASS: the other methods -/
section ZCP
variable {F : Nat → Nat → Int32} {G : Nat → Nat → Option Nat} {L : Nat → Int64}
theorem w_gt {v : Int32} (hv : zwi v 0 3 = 1) (hG : zGk G) (d : Nat) : zCr (d + 2) 27 [.ref 0, .int v] (zHx F G L) (.inr 1) (zHx F G L) := by
  rcases zwi_3 hv with rfl | rfl | rfl | rfl
  · exact w_gt0 hG d
  · exact w_gt1 hG d
  · exact w_gt2 hG d
  · exact w_gt3 hG d
theorem w_vt {v : Int32} (hv : zwi v 0 7 = 1) (hG : zGk G) (d : Nat) : zCr (d + 2) 53 [.ref 0, .int v] (zHx F G L) (.inr 1) (zHx F G L) := by
  rcases zwi_7 hv with rfl | rfl | rfl | rfl | rfl | rfl | rfl | rfl
  · exact w_vt0 hG d
  · exact w_vt1 hG d
  · exact w_vt2 hG d
  · exact w_vt3 hG d
  · exact w_vt4 hG d
  · exact w_vt5 hG d
  · exact w_vt6 hG d
  · exact w_vt7 hG d
theorem k_set_0 (p0 p1 p2 : Int32) (h0 : zwi p0 0 7 = 0) (h : zH) (d : Nat) : zCr (d + 3) 54 [.ref 0, .int p0, .int p1, .int p2] h (.inr 0) h := by
  refine zx_in rfl rfl ?_
  refine zx_go 19 rfl ?_
  refine zx_c rfl rfl rfl rfl (w_isVcpu h0 _ _) ?_
  refine zx_go 19 rfl ?_
  exact zx_x rfl rfl rfl rfl (w_arg0 _ _) rfl rfl
theorem k_set_1 (p0 p1 p2 : Int32) (h0 : zwi p0 0 7 = 1) (h1 : zwi p1 0 9 = 0) (h : zH) (d : Nat) : zCr (d + 3) 54 [.ref 0, .int p0, .int p1, .int p2] h (.inr 0) h := by
  refine zx_in rfl rfl ?_
  refine zx_go 19 rfl ?_
  refine zx_c rfl rfl rfl rfl (w_isVcpu h0 _ _) ?_
  refine zx_go 19 rfl ?_
  refine zx_c rfl rfl rfl rfl (w_within' (lo := 0) (hi := 9) h1 _ _) ?_
  refine zx_go 19 rfl ?_
  exact zx_x rfl rfl rfl rfl (w_arg0 _ _) rfl rfl
theorem k_set_b0 (p0 p2 : Int32) (h0 : zwi p0 0 7 = 1) (h2 : zwi p2 0 65535 = 0) (h : zH) (d : Nat) : zCr (d + 3) 54 [.ref 0, .int p0, .int 0, .int p2] h (.inr 0) h := by
  refine zx_in rfl rfl ?_
  refine zx_go 19 rfl ?_
  refine zx_c rfl rfl rfl rfl (w_isVcpu h0 _ _) ?_
  refine zx_go 19 rfl ?_
  refine zx_c rfl rfl rfl rfl (w_within' (lo := 0) (hi := 9) (show zwi 0 0 9 = 1 by decide) _ _) ?_
  refine zx_go 19 rfl ?_
  refine zx_c rfl rfl rfl rfl (w_arg1 _ _) ?_
  refine zx_go 19 rfl ?_
  refine zx_c rfl rfl rfl rfl (w_within' (lo := 0) (hi := 65535) h2 _ _) ?_
  refine zx_go 19 rfl ?_
  exact zx_x rfl rfl rfl rfl (w_arg0 _ _) rfl rfl
theorem k_set_t0 (hG : zGk G) (p0 p2 : Int32) (h0 : zwi p0 0 7 = 1) (h2 : zwi p2 0 65535 = 1) (d : Nat) : zCr (d + 3) 54 [.ref 0, .int p0, .int 0, .int p2] (zHx F G L) (.inr 1) (zHx F G L) := by
  refine zx_in rfl rfl ?_
  refine zx_go 19 rfl ?_
  refine zx_c rfl rfl rfl rfl (w_isVcpu h0 _ _) ?_
  refine zx_go 19 rfl ?_
  refine zx_c rfl rfl rfl rfl (w_within' (lo := 0) (hi := 9) (show zwi 0 0 9 = 1 by decide) _ _) ?_
  refine zx_go 19 rfl ?_
  refine zx_c rfl rfl rfl rfl (w_arg1 _ _) ?_
  refine zx_go 19 rfl ?_
  refine zx_c rfl rfl rfl rfl (w_within' (lo := 0) (hi := 65535) h2 _ _) ?_
  refine zx_go 19 rfl ?_
  refine zx_c rfl rfl rfl rfl (w_arg1 _ _) ?_
  refine zx_go 19 rfl ?_
  exact zx_x rfl rfl rfl rfl (w_vt h0 hG _) rfl rfl
theorem k_set_b1 (p0 p2 : Int32) (h0 : zwi p0 0 7 = 1) (h2 : zwi p2 0 65535 = 0) (h : zH) (d : Nat) : zCr (d + 3) 54 [.ref 0, .int p0, .int 1, .int p2] h (.inr 0) h := by
  refine zx_in rfl rfl ?_
  refine zx_go 19 rfl ?_
  refine zx_c rfl rfl rfl rfl (w_isVcpu h0 _ _) ?_
  refine zx_go 19 rfl ?_
  refine zx_c rfl rfl rfl rfl (w_within' (lo := 0) (hi := 9) (show zwi 1 0 9 = 1 by decide) _ _) ?_
  refine zx_go 19 rfl ?_
  refine zx_c rfl rfl rfl rfl (w_arg1 _ _) ?_
  refine zx_go 19 rfl ?_
  refine zx_c rfl rfl rfl rfl (w_within' (lo := 0) (hi := 65535) h2 _ _) ?_
  refine zx_go 19 rfl ?_
  exact zx_x rfl rfl rfl rfl (w_arg0 _ _) rfl rfl
theorem k_set_t1 (hG : zGk G) (p0 p2 : Int32) (h0 : zwi p0 0 7 = 1) (h2 : zwi p2 0 65535 = 1) (d : Nat) : zCr (d + 3) 54 [.ref 0, .int p0, .int 1, .int p2] (zHx F G L) (.inr 1) (zHx F G L) := by
  refine zx_in rfl rfl ?_
  refine zx_go 19 rfl ?_
  refine zx_c rfl rfl rfl rfl (w_isVcpu h0 _ _) ?_
  refine zx_go 19 rfl ?_
  refine zx_c rfl rfl rfl rfl (w_within' (lo := 0) (hi := 9) (show zwi 1 0 9 = 1 by decide) _ _) ?_
  refine zx_go 19 rfl ?_
  refine zx_c rfl rfl rfl rfl (w_arg1 _ _) ?_
  refine zx_go 19 rfl ?_
  refine zx_c rfl rfl rfl rfl (w_within' (lo := 0) (hi := 65535) h2 _ _) ?_
  refine zx_go 19 rfl ?_
  refine zx_c rfl rfl rfl rfl (w_arg1 _ _) ?_
  refine zx_go 19 rfl ?_
  exact zx_x rfl rfl rfl rfl (w_vt h0 hG _) rfl rfl
theorem k_set_b2 (p0 p2 : Int32) (h0 : zwi p0 0 7 = 1) (h2 : zwi p2 0 4095 = 0) (h : zH) (d : Nat) : zCr (d + 3) 54 [.ref 0, .int p0, .int 2, .int p2] h (.inr 0) h := by
  refine zx_in rfl rfl ?_
  refine zx_go 19 rfl ?_
  refine zx_c rfl rfl rfl rfl (w_isVcpu h0 _ _) ?_
  refine zx_go 19 rfl ?_
  refine zx_c rfl rfl rfl rfl (w_within' (lo := 0) (hi := 9) (show zwi 2 0 9 = 1 by decide) _ _) ?_
  refine zx_go 19 rfl ?_
  refine zx_c rfl rfl rfl rfl (w_arg1 _ _) ?_
  refine zx_go 19 rfl ?_
  refine zx_c rfl rfl rfl rfl (w_within' (lo := 0) (hi := 4095) h2 _ _) ?_
  refine zx_go 19 rfl ?_
  exact zx_x rfl rfl rfl rfl (w_arg0 _ _) rfl rfl
theorem k_set_t2 (hG : zGk G) (p0 p2 : Int32) (h0 : zwi p0 0 7 = 1) (h2 : zwi p2 0 4095 = 1) (d : Nat) : zCr (d + 3) 54 [.ref 0, .int p0, .int 2, .int p2] (zHx F G L) (.inr 1) (zHx F G L) := by
  refine zx_in rfl rfl ?_
  refine zx_go 19 rfl ?_
  refine zx_c rfl rfl rfl rfl (w_isVcpu h0 _ _) ?_
  refine zx_go 19 rfl ?_
  refine zx_c rfl rfl rfl rfl (w_within' (lo := 0) (hi := 9) (show zwi 2 0 9 = 1 by decide) _ _) ?_
  refine zx_go 19 rfl ?_
  refine zx_c rfl rfl rfl rfl (w_arg1 _ _) ?_
  refine zx_go 19 rfl ?_
  refine zx_c rfl rfl rfl rfl (w_within' (lo := 0) (hi := 4095) h2 _ _) ?_
  refine zx_go 19 rfl ?_
  refine zx_c rfl rfl rfl rfl (w_arg1 _ _) ?_
  refine zx_go 19 rfl ?_
  exact zx_x rfl rfl rfl rfl (w_vt h0 hG _) rfl rfl
theorem k_set_b3 (p0 p2 : Int32) (h0 : zwi p0 0 7 = 1) (h2 : zwi p2 0 1 = 0) (h : zH) (d : Nat) : zCr (d + 3) 54 [.ref 0, .int p0, .int 3, .int p2] h (.inr 0) h := by
  refine zx_in rfl rfl ?_
  refine zx_go 19 rfl ?_
  refine zx_c rfl rfl rfl rfl (w_isVcpu h0 _ _) ?_
  refine zx_go 19 rfl ?_
  refine zx_c rfl rfl rfl rfl (w_within' (lo := 0) (hi := 9) (show zwi 3 0 9 = 1 by decide) _ _) ?_
  refine zx_go 19 rfl ?_
  refine zx_c rfl rfl rfl rfl (w_arg1 _ _) ?_
  refine zx_go 19 rfl ?_
  refine zx_c rfl rfl rfl rfl (w_within' (lo := 0) (hi := 1) h2 _ _) ?_
  refine zx_go 19 rfl ?_
  exact zx_x rfl rfl rfl rfl (w_arg0 _ _) rfl rfl
theorem k_set_t3 (hG : zGk G) (p0 p2 : Int32) (h0 : zwi p0 0 7 = 1) (h2 : zwi p2 0 1 = 1) (d : Nat) : zCr (d + 3) 54 [.ref 0, .int p0, .int 3, .int p2] (zHx F G L) (.inr 1) (zHx F G L) := by
  refine zx_in rfl rfl ?_
  refine zx_go 19 rfl ?_
  refine zx_c rfl rfl rfl rfl (w_isVcpu h0 _ _) ?_
  refine zx_go 19 rfl ?_
  refine zx_c rfl rfl rfl rfl (w_within' (lo := 0) (hi := 9) (show zwi 3 0 9 = 1 by decide) _ _) ?_
  refine zx_go 19 rfl ?_
  refine zx_c rfl rfl rfl rfl (w_arg1 _ _) ?_
  refine zx_go 19 rfl ?_
  refine zx_c rfl rfl rfl rfl (w_within' (lo := 0) (hi := 1) h2 _ _) ?_
  refine zx_go 19 rfl ?_
  refine zx_c rfl rfl rfl rfl (w_arg1 _ _) ?_
  refine zx_go 19 rfl ?_
  exact zx_x rfl rfl rfl rfl (w_vt h0 hG _) rfl rfl
theorem k_set_b4 (p0 p2 : Int32) (h0 : zwi p0 0 7 = 1) (h2 : zwi p2 0 3 = 0) (h : zH) (d : Nat) : zCr (d + 3) 54 [.ref 0, .int p0, .int 4, .int p2] h (.inr 0) h := by
  refine zx_in rfl rfl ?_
  refine zx_go 19 rfl ?_
  refine zx_c rfl rfl rfl rfl (w_isVcpu h0 _ _) ?_
  refine zx_go 19 rfl ?_
  refine zx_c rfl rfl rfl rfl (w_within' (lo := 0) (hi := 9) (show zwi 4 0 9 = 1 by decide) _ _) ?_
  refine zx_go 19 rfl ?_
  refine zx_c rfl rfl rfl rfl (w_arg1 _ _) ?_
  refine zx_go 19 rfl ?_
  refine zx_c rfl rfl rfl rfl (w_within' (lo := 0) (hi := 3) h2 _ _) ?_
  refine zx_go 19 rfl ?_
  exact zx_x rfl rfl rfl rfl (w_arg0 _ _) rfl rfl
theorem k_set_t4 (hG : zGk G) (p0 p2 : Int32) (h0 : zwi p0 0 7 = 1) (h2 : zwi p2 0 3 = 1) (d : Nat) : zCr (d + 3) 54 [.ref 0, .int p0, .int 4, .int p2] (zHx F G L) (.inr 1) (zHx F G L) := by
  refine zx_in rfl rfl ?_
  refine zx_go 19 rfl ?_
  refine zx_c rfl rfl rfl rfl (w_isVcpu h0 _ _) ?_
  refine zx_go 19 rfl ?_
  refine zx_c rfl rfl rfl rfl (w_within' (lo := 0) (hi := 9) (show zwi 4 0 9 = 1 by decide) _ _) ?_
  refine zx_go 19 rfl ?_
  refine zx_c rfl rfl rfl rfl (w_arg1 _ _) ?_
  refine zx_go 19 rfl ?_
  refine zx_c rfl rfl rfl rfl (w_within' (lo := 0) (hi := 3) h2 _ _) ?_
  refine zx_go 19 rfl ?_
  refine zx_c rfl rfl rfl rfl (w_arg1 _ _) ?_
  refine zx_go 19 rfl ?_
  exact zx_x rfl rfl rfl rfl (w_vt h0 hG _) rfl rfl
theorem k_set_b5 (p0 p2 : Int32) (h0 : zwi p0 0 7 = 1) (h2 : zwi p2 0 255 = 0) (h : zH) (d : Nat) : zCr (d + 3) 54 [.ref 0, .int p0, .int 5, .int p2] h (.inr 0) h := by
  refine zx_in rfl rfl ?_
  refine zx_go 19 rfl ?_
  refine zx_c rfl rfl rfl rfl (w_isVcpu h0 _ _) ?_
  refine zx_go 19 rfl ?_
  refine zx_c rfl rfl rfl rfl (w_within' (lo := 0) (hi := 9) (show zwi 5 0 9 = 1 by decide) _ _) ?_
  refine zx_go 19 rfl ?_
  refine zx_c rfl rfl rfl rfl (w_arg1 _ _) ?_
  refine zx_go 19 rfl ?_
  refine zx_c rfl rfl rfl rfl (w_within' (lo := 0) (hi := 255) h2 _ _) ?_
  refine zx_go 19 rfl ?_
  exact zx_x rfl rfl rfl rfl (w_arg0 _ _) rfl rfl
theorem k_set_t5 (hG : zGk G) (p0 p2 : Int32) (h0 : zwi p0 0 7 = 1) (h2 : zwi p2 0 255 = 1) (d : Nat) : zCr (d + 3) 54 [.ref 0, .int p0, .int 5, .int p2] (zHx F G L) (.inr 1) (zHx F G L) := by
  refine zx_in rfl rfl ?_
  refine zx_go 19 rfl ?_
  refine zx_c rfl rfl rfl rfl (w_isVcpu h0 _ _) ?_
  refine zx_go 19 rfl ?_
  refine zx_c rfl rfl rfl rfl (w_within' (lo := 0) (hi := 9) (show zwi 5 0 9 = 1 by decide) _ _) ?_
  refine zx_go 19 rfl ?_
  refine zx_c rfl rfl rfl rfl (w_arg1 _ _) ?_
  refine zx_go 19 rfl ?_
  refine zx_c rfl rfl rfl rfl (w_within' (lo := 0) (hi := 255) h2 _ _) ?_
  refine zx_go 19 rfl ?_
  refine zx_c rfl rfl rfl rfl (w_arg1 _ _) ?_
  refine zx_go 19 rfl ?_
  exact zx_x rfl rfl rfl rfl (w_vt h0 hG _) rfl rfl
theorem k_set_b6 (p0 p2 : Int32) (h0 : zwi p0 0 7 = 1) (h2 : zwi p2 0 3 = 0) (h : zH) (d : Nat) : zCr (d + 3) 54 [.ref 0, .int p0, .int 6, .int p2] h (.inr 0) h := by
  refine zx_in rfl rfl ?_
  refine zx_go 19 rfl ?_
  refine zx_c rfl rfl rfl rfl (w_isVcpu h0 _ _) ?_
  refine zx_go 19 rfl ?_
  refine zx_c rfl rfl rfl rfl (w_within' (lo := 0) (hi := 9) (show zwi 6 0 9 = 1 by decide) _ _) ?_
  refine zx_go 19 rfl ?_
  refine zx_c rfl rfl rfl rfl (w_arg1 _ _) ?_
  refine zx_go 19 rfl ?_
  refine zx_c rfl rfl rfl rfl (w_within' (lo := 0) (hi := 3) h2 _ _) ?_
  refine zx_go 19 rfl ?_
  exact zx_x rfl rfl rfl rfl (w_arg0 _ _) rfl rfl
theorem k_set_t6 (hG : zGk G) (p0 p2 : Int32) (h0 : zwi p0 0 7 = 1) (h2 : zwi p2 0 3 = 1) (d : Nat) : zCr (d + 3) 54 [.ref 0, .int p0, .int 6, .int p2] (zHx F G L) (.inr 1) (zHx F G L) := by
  refine zx_in rfl rfl ?_
  refine zx_go 19 rfl ?_
  refine zx_c rfl rfl rfl rfl (w_isVcpu h0 _ _) ?_
  refine zx_go 19 rfl ?_
  refine zx_c rfl rfl rfl rfl (w_within' (lo := 0) (hi := 9) (show zwi 6 0 9 = 1 by decide) _ _) ?_
  refine zx_go 19 rfl ?_
  refine zx_c rfl rfl rfl rfl (w_arg1 _ _) ?_
  refine zx_go 19 rfl ?_
  refine zx_c rfl rfl rfl rfl (w_within' (lo := 0) (hi := 3) h2 _ _) ?_
  refine zx_go 19 rfl ?_
  refine zx_c rfl rfl rfl rfl (w_arg1 _ _) ?_
  refine zx_go 19 rfl ?_
  exact zx_x rfl rfl rfl rfl (w_vt h0 hG _) rfl rfl
theorem k_set_b7 (p0 p2 : Int32) (h0 : zwi p0 0 7 = 1) (h2 : zwi p2 (-1) 4095 = 0) (h : zH) (d : Nat) : zCr (d + 3) 54 [.ref 0, .int p0, .int 7, .int p2] h (.inr 0) h := by
  refine zx_in rfl rfl ?_
  refine zx_go 19 rfl ?_
  refine zx_c rfl rfl rfl rfl (w_isVcpu h0 _ _) ?_
  refine zx_go 19 rfl ?_
  refine zx_c rfl rfl rfl rfl (w_within' (lo := 0) (hi := 9) (show zwi 7 0 9 = 1 by decide) _ _) ?_
  refine zx_go 19 rfl ?_
  refine zx_c rfl rfl rfl rfl (w_arg1 _ _) ?_
  refine zx_go 19 rfl ?_
  refine zx_c rfl rfl rfl rfl (w_within' (lo := (-1)) (hi := 4095) h2 _ _) ?_
  refine zx_go 19 rfl ?_
  exact zx_x rfl rfl rfl rfl (w_arg0 _ _) rfl rfl
theorem k_set_t7 (hG : zGk G) (p0 p2 : Int32) (h0 : zwi p0 0 7 = 1) (h2 : zwi p2 (-1) 4095 = 1) (d : Nat) : zCr (d + 3) 54 [.ref 0, .int p0, .int 7, .int p2] (zHx F G L) (.inr 1) (zHx F G L) := by
  refine zx_in rfl rfl ?_
  refine zx_go 19 rfl ?_
  refine zx_c rfl rfl rfl rfl (w_isVcpu h0 _ _) ?_
  refine zx_go 19 rfl ?_
  refine zx_c rfl rfl rfl rfl (w_within' (lo := 0) (hi := 9) (show zwi 7 0 9 = 1 by decide) _ _) ?_
  refine zx_go 19 rfl ?_
  refine zx_c rfl rfl rfl rfl (w_arg1 _ _) ?_
  refine zx_go 19 rfl ?_
  refine zx_c rfl rfl rfl rfl (w_within' (lo := (-1)) (hi := 4095) h2 _ _) ?_
  refine zx_go 19 rfl ?_
  refine zx_c rfl rfl rfl rfl (w_arg1 _ _) ?_
  refine zx_go 19 rfl ?_
  exact zx_x rfl rfl rfl rfl (w_vt h0 hG _) rfl rfl
theorem k_set_b8 (p0 p2 : Int32) (h0 : zwi p0 0 7 = 1) (h2 : zwi p2 0 4095 = 0) (h : zH) (d : Nat) : zCr (d + 3) 54 [.ref 0, .int p0, .int 8, .int p2] h (.inr 0) h := by
  refine zx_in rfl rfl ?_
  refine zx_go 19 rfl ?_
  refine zx_c rfl rfl rfl rfl (w_isVcpu h0 _ _) ?_
  refine zx_go 19 rfl ?_
  refine zx_c rfl rfl rfl rfl (w_within' (lo := 0) (hi := 9) (show zwi 8 0 9 = 1 by decide) _ _) ?_
  refine zx_go 19 rfl ?_
  refine zx_c rfl rfl rfl rfl (w_arg1 _ _) ?_
  refine zx_go 19 rfl ?_
  refine zx_c rfl rfl rfl rfl (w_within' (lo := 0) (hi := 4095) h2 _ _) ?_
  refine zx_go 19 rfl ?_
  exact zx_x rfl rfl rfl rfl (w_arg0 _ _) rfl rfl
theorem k_set_t8 (hG : zGk G) (p0 p2 : Int32) (h0 : zwi p0 0 7 = 1) (h2 : zwi p2 0 4095 = 1) (d : Nat) : zCr (d + 3) 54 [.ref 0, .int p0, .int 8, .int p2] (zHx F G L) (.inr 1) (zHx F G L) := by
  refine zx_in rfl rfl ?_
  refine zx_go 19 rfl ?_
  refine zx_c rfl rfl rfl rfl (w_isVcpu h0 _ _) ?_
  refine zx_go 19 rfl ?_
  refine zx_c rfl rfl rfl rfl (w_within' (lo := 0) (hi := 9) (show zwi 8 0 9 = 1 by decide) _ _) ?_
  refine zx_go 19 rfl ?_
  refine zx_c rfl rfl rfl rfl (w_arg1 _ _) ?_
  refine zx_go 19 rfl ?_
  refine zx_c rfl rfl rfl rfl (w_within' (lo := 0) (hi := 4095) h2 _ _) ?_
  refine zx_go 19 rfl ?_
  refine zx_c rfl rfl rfl rfl (w_arg1 _ _) ?_
  refine zx_go 19 rfl ?_
  exact zx_x rfl rfl rfl rfl (w_vt h0 hG _) rfl rfl
theorem k_set_b9 (p0 p2 : Int32) (h0 : zwi p0 0 7 = 1) (h2 : zwi p2 0 1 = 0) (h : zH) (d : Nat) : zCr (d + 3) 54 [.ref 0, .int p0, .int 9, .int p2] h (.inr 0) h := by
  refine zx_in rfl rfl ?_
  refine zx_go 19 rfl ?_
  refine zx_c rfl rfl rfl rfl (w_isVcpu h0 _ _) ?_
  refine zx_go 19 rfl ?_
  refine zx_c rfl rfl rfl rfl (w_within' (lo := 0) (hi := 9) (show zwi 9 0 9 = 1 by decide) _ _) ?_
  refine zx_go 19 rfl ?_
  refine zx_c rfl rfl rfl rfl (w_arg1 _ _) ?_
  refine zx_go 19 rfl ?_
  refine zx_c rfl rfl rfl rfl (w_within' (lo := 0) (hi := 1) h2 _ _) ?_
  refine zx_go 19 rfl ?_
  exact zx_x rfl rfl rfl rfl (w_arg0 _ _) rfl rfl
theorem k_set_t9 (hG : zGk G) (p0 p2 : Int32) (h0 : zwi p0 0 7 = 1) (h2 : zwi p2 0 1 = 1) (d : Nat) : zCr (d + 3) 54 [.ref 0, .int p0, .int 9, .int p2] (zHx F G L) (.inr 1) (zHx F G L) := by
  refine zx_in rfl rfl ?_
  refine zx_go 19 rfl ?_
  refine zx_c rfl rfl rfl rfl (w_isVcpu h0 _ _) ?_
  refine zx_go 19 rfl ?_
  refine zx_c rfl rfl rfl rfl (w_within' (lo := 0) (hi := 9) (show zwi 9 0 9 = 1 by decide) _ _) ?_
  refine zx_go 19 rfl ?_
  refine zx_c rfl rfl rfl rfl (w_arg1 _ _) ?_
  refine zx_go 19 rfl ?_
  refine zx_c rfl rfl rfl rfl (w_within' (lo := 0) (hi := 1) h2 _ _) ?_
  refine zx_go 19 rfl ?_
  refine zx_c rfl rfl rfl rfl (w_arg1 _ _) ?_
  refine zx_go 19 rfl ?_
  exact zx_x rfl rfl rfl rfl (w_vt h0 hG _) rfl rfl
theorem k_poke_0 (p0 p1 p2 p3 p4 p5 : Int32) (h0 : zwi p0 0 3 = 0) (h : zH) (d : Nat) : zCr (d + 3) 190 [.ref 0, .int p0, .int p1, .int p2, .int p3, .int p4, .int p5] h (.inr 0) h := by
  refine zx_in rfl rfl ?_
  refine zx_go 19 rfl ?_
  refine zx_c rfl rfl rfl rfl (w_isGuest h0 _ _) ?_
  refine zx_go 19 rfl ?_
  exact zx_x rfl rfl rfl rfl (w_arg0 _ _) rfl rfl
theorem k_poke_1 (p0 p1 p2 p3 p4 p5 : Int32) (h0 : zwi p0 0 3 = 1) (h1 : zwi p1 0 2047 = 0) (h : zH) (d : Nat) : zCr (d + 3) 190 [.ref 0, .int p0, .int p1, .int p2, .int p3, .int p4, .int p5] h (.inr 0) h := by
  refine zx_in rfl rfl ?_
  refine zx_go 19 rfl ?_
  refine zx_c rfl rfl rfl rfl (w_isGuest h0 _ _) ?_
  refine zx_go 19 rfl ?_
  refine zx_c rfl rfl rfl rfl (w_isHostAddress h1 _ _) ?_
  refine zx_go 19 rfl ?_
  exact zx_x rfl rfl rfl rfl (w_arg0 _ _) rfl rfl
theorem k_poke_2 (p0 p1 p2 p3 p4 p5 : Int32) (h0 : zwi p0 0 3 = 1) (h1 : zwi p1 0 2047 = 1) (hm : zc1 .ne (p1 - p1 / 4 * 4) = true) (h : zH) (d : Nat) : zCr (d + 3) 190 [.ref 0, .int p0, .int p1, .int p2, .int p3, .int p4, .int p5] h (.inr 0) h := by
  refine zx_in rfl rfl ?_
  refine zx_go 19 rfl ?_
  refine zx_c rfl rfl rfl rfl (w_isGuest h0 _ _) ?_
  refine zx_go 19 rfl ?_
  refine zx_c rfl rfl rfl rfl (w_isHostAddress h1 _ _) ?_
  refine zx_go 4 rfl ?_
  refine zx_if rfl rfl hm rfl ?_
  refine zx_go 19 rfl ?_
  exact zx_x rfl rfl rfl rfl (w_arg0 _ _) rfl rfl
theorem k_poke_3 (p0 p1 p2 p3 p4 p5 : Int32) (h0 : zwi p0 0 3 = 1) (h1 : zwi p1 0 2047 = 1) (hm : zc1 .ne (p1 - p1 / 4 * 4) = false) (h2 : zwi p2 0 65535 = 0) (h : zH) (d : Nat) : zCr (d + 3) 190 [.ref 0, .int p0, .int p1, .int p2, .int p3, .int p4, .int p5] h (.inr 0) h := by
  refine zx_in rfl rfl ?_
  refine zx_go 19 rfl ?_
  refine zx_c rfl rfl rfl rfl (w_isGuest h0 _ _) ?_
  refine zx_go 19 rfl ?_
  refine zx_c rfl rfl rfl rfl (w_isHostAddress h1 _ _) ?_
  refine zx_go 4 rfl ?_
  refine zx_if rfl rfl hm rfl ?_
  refine zx_go 19 rfl ?_
  refine zx_c rfl rfl rfl rfl (w_arg1 _ _) ?_
  refine zx_go 19 rfl ?_
  refine zx_c rfl rfl rfl rfl (w_isWord h2 _ _) ?_
  refine zx_go 19 rfl ?_
  exact zx_x rfl rfl rfl rfl (w_arg0 _ _) rfl rfl
theorem k_poke_4 (p0 p1 p2 p3 p4 p5 : Int32) (h0 : zwi p0 0 3 = 1) (h1 : zwi p1 0 2047 = 1) (hm : zc1 .ne (p1 - p1 / 4 * 4) = false) (h2 : zwi p2 0 65535 = 1) (h3 : zwi p3 0 65535 = 0) (h : zH) (d : Nat) : zCr (d + 3) 190 [.ref 0, .int p0, .int p1, .int p2, .int p3, .int p4, .int p5] h (.inr 0) h := by
  refine zx_in rfl rfl ?_
  refine zx_go 19 rfl ?_
  refine zx_c rfl rfl rfl rfl (w_isGuest h0 _ _) ?_
  refine zx_go 19 rfl ?_
  refine zx_c rfl rfl rfl rfl (w_isHostAddress h1 _ _) ?_
  refine zx_go 4 rfl ?_
  refine zx_if rfl rfl hm rfl ?_
  refine zx_go 19 rfl ?_
  refine zx_c rfl rfl rfl rfl (w_arg1 _ _) ?_
  refine zx_go 19 rfl ?_
  refine zx_c rfl rfl rfl rfl (w_isWord h2 _ _) ?_
  refine zx_go 19 rfl ?_
  refine zx_c rfl rfl rfl rfl (w_isWord h3 _ _) ?_
  refine zx_go 19 rfl ?_
  exact zx_x rfl rfl rfl rfl (w_arg0 _ _) rfl rfl
theorem k_poke_5 (p0 p1 p2 p3 p4 p5 : Int32) (h0 : zwi p0 0 3 = 1) (h1 : zwi p1 0 2047 = 1) (hm : zc1 .ne (p1 - p1 / 4 * 4) = false) (h2 : zwi p2 0 65535 = 1) (h3 : zwi p3 0 65535 = 1) (h4 : zwi p4 0 65535 = 0) (h : zH) (d : Nat) : zCr (d + 3) 190 [.ref 0, .int p0, .int p1, .int p2, .int p3, .int p4, .int p5] h (.inr 0) h := by
  refine zx_in rfl rfl ?_
  refine zx_go 19 rfl ?_
  refine zx_c rfl rfl rfl rfl (w_isGuest h0 _ _) ?_
  refine zx_go 19 rfl ?_
  refine zx_c rfl rfl rfl rfl (w_isHostAddress h1 _ _) ?_
  refine zx_go 4 rfl ?_
  refine zx_if rfl rfl hm rfl ?_
  refine zx_go 19 rfl ?_
  refine zx_c rfl rfl rfl rfl (w_arg1 _ _) ?_
  refine zx_go 19 rfl ?_
  refine zx_c rfl rfl rfl rfl (w_isWord h2 _ _) ?_
  refine zx_go 19 rfl ?_
  refine zx_c rfl rfl rfl rfl (w_isWord h3 _ _) ?_
  refine zx_go 19 rfl ?_
  refine zx_c rfl rfl rfl rfl (w_isWord h4 _ _) ?_
  refine zx_go 19 rfl ?_
  exact zx_x rfl rfl rfl rfl (w_arg0 _ _) rfl rfl
theorem k_poke_6 (p0 p1 p2 p3 p4 p5 : Int32) (h0 : zwi p0 0 3 = 1) (h1 : zwi p1 0 2047 = 1) (hm : zc1 .ne (p1 - p1 / 4 * 4) = false) (h2 : zwi p2 0 65535 = 1) (h3 : zwi p3 0 65535 = 1) (h4 : zwi p4 0 65535 = 1) (h5 : zwi p5 0 65535 = 0) (h : zH) (d : Nat) : zCr (d + 3) 190 [.ref 0, .int p0, .int p1, .int p2, .int p3, .int p4, .int p5] h (.inr 0) h := by
  refine zx_in rfl rfl ?_
  refine zx_go 19 rfl ?_
  refine zx_c rfl rfl rfl rfl (w_isGuest h0 _ _) ?_
  refine zx_go 19 rfl ?_
  refine zx_c rfl rfl rfl rfl (w_isHostAddress h1 _ _) ?_
  refine zx_go 4 rfl ?_
  refine zx_if rfl rfl hm rfl ?_
  refine zx_go 19 rfl ?_
  refine zx_c rfl rfl rfl rfl (w_arg1 _ _) ?_
  refine zx_go 19 rfl ?_
  refine zx_c rfl rfl rfl rfl (w_isWord h2 _ _) ?_
  refine zx_go 19 rfl ?_
  refine zx_c rfl rfl rfl rfl (w_isWord h3 _ _) ?_
  refine zx_go 19 rfl ?_
  refine zx_c rfl rfl rfl rfl (w_isWord h4 _ _) ?_
  refine zx_go 19 rfl ?_
  refine zx_c rfl rfl rfl rfl (w_isWord h5 _ _) ?_
  refine zx_go 19 rfl ?_
  exact zx_x rfl rfl rfl rfl (w_arg0 _ _) rfl rfl
theorem k_poke_ok (hG : zGk G) (p0 p1 p2 p3 p4 p5 : Int32) (h0 : zwi p0 0 3 = 1) (h1 : zwi p1 0 2047 = 1) (hm : zc1 .ne (p1 - p1 / 4 * 4) = false) (h2 : zwi p2 0 65535 = 1) (h3 : zwi p3 0 65535 = 1) (h4 : zwi p4 0 65535 = 1) (h5 : zwi p5 0 65535 = 1) (d : Nat) : zCr (d + 3) 190 [.ref 0, .int p0, .int p1, .int p2, .int p3, .int p4, .int p5] (zHx F G L) (.inr 1) (zHx F G L) := by
  refine zx_in rfl rfl ?_
  refine zx_go 19 rfl ?_
  refine zx_c rfl rfl rfl rfl (w_isGuest h0 _ _) ?_
  refine zx_go 19 rfl ?_
  refine zx_c rfl rfl rfl rfl (w_isHostAddress h1 _ _) ?_
  refine zx_go 4 rfl ?_
  refine zx_if rfl rfl hm rfl ?_
  refine zx_go 19 rfl ?_
  refine zx_c rfl rfl rfl rfl (w_arg1 _ _) ?_
  refine zx_go 19 rfl ?_
  refine zx_c rfl rfl rfl rfl (w_isWord h2 _ _) ?_
  refine zx_go 19 rfl ?_
  refine zx_c rfl rfl rfl rfl (w_isWord h3 _ _) ?_
  refine zx_go 19 rfl ?_
  refine zx_c rfl rfl rfl rfl (w_isWord h4 _ _) ?_
  refine zx_go 19 rfl ?_
  refine zx_c rfl rfl rfl rfl (w_isWord h5 _ _) ?_
  refine zx_go 19 rfl ?_
  refine zx_c rfl rfl rfl rfl (w_arg1 _ _) ?_
  refine zx_go 19 rfl ?_
  exact zx_x rfl rfl rfl rfl (w_gt h0 hG _) rfl rfl
theorem k_frame_0 (p0 p1 : Int32) (h0 : zwi p0 0 127 = 0) (h : zH) (d : Nat) : zCr (d + 3) 199 [.ref 0, .int p0, .int p1] h (.inr 0) h := by
  refine zx_in rfl rfl ?_
  refine zx_go 19 rfl ?_
  refine zx_c rfl rfl rfl rfl (w_isFrame h0 _ _) ?_
  refine zx_go 19 rfl ?_
  exact zx_x rfl rfl rfl rfl (w_arg0 _ _) rfl rfl
theorem k_frame_1 (p0 p1 : Int32) (h0 : zwi p0 0 127 = 1) (h1 : zwi p1 0 15 = 0) (h : zH) (d : Nat) : zCr (d + 3) 199 [.ref 0, .int p0, .int p1] h (.inr 0) h := by
  refine zx_in rfl rfl ?_
  refine zx_go 19 rfl ?_
  refine zx_c rfl rfl rfl rfl (w_isFrame h0 _ _) ?_
  refine zx_go 19 rfl ?_
  refine zx_c rfl rfl rfl rfl (w_within' (lo := 0) (hi := 15) h1 _ _) ?_
  refine zx_go 19 rfl ?_
  exact zx_x rfl rfl rfl rfl (w_arg0 _ _) rfl rfl
theorem k_frame_ok (hF : zFz F) (p0 p1 : Int32) (h0 : zwi p0 0 127 = 1) (h1 : zwi p1 0 15 = 1) (d : Nat) : zCr (d + 3) 199 [.ref 0, .int p0, .int p1] (zHx F G L) (.inl (some (.int 0))) (zHx F G L) := by
  obtain ⟨j, hj, e1, -⟩ := zfrm h0 h1
  refine zx_in rfl rfl ?_
  refine zx_go 19 rfl ?_
  refine zx_c rfl rfl rfl rfl (w_isFrame h0 _ _) ?_
  refine zx_go 19 rfl ?_
  refine zx_c rfl rfl rfl rfl (w_within' (lo := 0) (hi := 15) h1 _ _) ?_
  refine zx_go 19 rfl ?_
  refine zx_c rfl rfl rfl rfl (w_arg1 _ _) ?_
  refine zx_gp 19 rfl ?_
  refine zx_eq (y := nI j) e1 ?_
  refine zx_ial (x := 0) rfl rfl rfl (zin_nI hj (by decide)) (by rw [nI_clamp (by omega)]; exact hF.1 j hj) ?_
  exact zx_r rfl rfl
theorem k_owner_0 (p0 p1 : Int32) (h0 : zwi p0 0 127 = 0) (h : zH) (d : Nat) : zCr (d + 3) 202 [.ref 0, .int p0, .int p1] h (.inr 0) h := by
  refine zx_in rfl rfl ?_
  refine zx_go 19 rfl ?_
  refine zx_c rfl rfl rfl rfl (w_isFrame h0 _ _) ?_
  refine zx_go 19 rfl ?_
  exact zx_x rfl rfl rfl rfl (w_arg0 _ _) rfl rfl
theorem k_owner_1 (p0 p1 : Int32) (h0 : zwi p0 0 127 = 1) (h1 : zwi p1 0 2 = 0) (h : zH) (d : Nat) : zCr (d + 3) 202 [.ref 0, .int p0, .int p1] h (.inr 0) h := by
  refine zx_in rfl rfl ?_
  refine zx_go 19 rfl ?_
  refine zx_c rfl rfl rfl rfl (w_isFrame h0 _ _) ?_
  refine zx_go 19 rfl ?_
  refine zx_c rfl rfl rfl rfl (w_within' (lo := 0) (hi := 2) h1 _ _) ?_
  refine zx_go 19 rfl ?_
  exact zx_x rfl rfl rfl rfl (w_arg0 _ _) rfl rfl
theorem k_owner_t0 (hF : zFz F) (p0 : Int32) (h0 : zwi p0 0 127 = 1) (d : Nat) : zCr (d + 3) 202 [.ref 0, .int p0, .int 0] (zHx F G L) (.inl (some (.int 0))) (zHx F G L) := by
  obtain ⟨j, hj, e1⟩ := zwi_nI (n := 127) rfl h0
  refine zx_in rfl rfl ?_
  refine zx_go 19 rfl ?_
  refine zx_c rfl rfl rfl rfl (w_isFrame h0 _ _) ?_
  refine zx_go 19 rfl ?_
  refine zx_c rfl rfl rfl rfl (w_within' (lo := 0) (hi := 2) (show zwi 0 0 2 = 1 by decide) _ _) ?_
  refine zx_go 19 rfl ?_
  refine zx_c rfl rfl rfl rfl (w_arg1 _ _) ?_
  refine zx_gp 19 rfl ?_
  refine zx_eq (y := nI j) e1 ?_
  refine zx_ial (x := 0) rfl rfl rfl (zin_nI (n := 128) (by omega) (by decide)) (by rw [nI_clamp (by omega)]; exact hF.2.1 j (by omega)) ?_
  exact zx_r rfl rfl
theorem k_owner_t1 (hF : zFz F) (p0 : Int32) (h0 : zwi p0 0 127 = 1) (d : Nat) : zCr (d + 3) 202 [.ref 0, .int p0, .int 1] (zHx F G L) (.inl (some (.int (-1)))) (zHx F G L) := by
  obtain ⟨j, hj, e1⟩ := zwi_nI (n := 127) rfl h0
  refine zx_in rfl rfl ?_
  refine zx_go 19 rfl ?_
  refine zx_c rfl rfl rfl rfl (w_isFrame h0 _ _) ?_
  refine zx_go 19 rfl ?_
  refine zx_c rfl rfl rfl rfl (w_within' (lo := 0) (hi := 2) (show zwi 1 0 2 = 1 by decide) _ _) ?_
  refine zx_go 19 rfl ?_
  refine zx_c rfl rfl rfl rfl (w_arg1 _ _) ?_
  refine zx_gp 19 rfl ?_
  refine zx_eq (y := nI j) e1 ?_
  refine zx_ial (x := (-1)) rfl rfl rfl (zin_nI (n := 128) (by omega) (by decide)) (by rw [nI_clamp (by omega)]; exact hF.2.2.1 j (by omega)) ?_
  exact zx_r rfl rfl
theorem k_owner_t2 (hF : zFz F) (p0 : Int32) (h0 : zwi p0 0 127 = 1) (d : Nat) : zCr (d + 3) 202 [.ref 0, .int p0, .int 2] (zHx F G L) (.inl (some (.int (-1)))) (zHx F G L) := by
  obtain ⟨j, hj, e1⟩ := zwi_nI (n := 127) rfl h0
  refine zx_in rfl rfl ?_
  refine zx_go 19 rfl ?_
  refine zx_c rfl rfl rfl rfl (w_isFrame h0 _ _) ?_
  refine zx_go 19 rfl ?_
  refine zx_c rfl rfl rfl rfl (w_within' (lo := 0) (hi := 2) (show zwi 2 0 2 = 1 by decide) _ _) ?_
  refine zx_go 19 rfl ?_
  refine zx_c rfl rfl rfl rfl (w_arg1 _ _) ?_
  refine zx_gp 19 rfl ?_
  refine zx_eq (y := nI j) e1 ?_
  refine zx_ial (x := (-1)) rfl rfl rfl (zin_nI (n := 128) (by omega) (by decide)) (by rw [nI_clamp (by omega)]; exact hF.2.2.2.1 j (by omega)) ?_
  exact zx_r rfl rfl
theorem k_dirty (p0 : Int32) (d : Nat) : zCr (d + 3) 184 [.ref 0, .int p0] (zHx F G L) (.inl (some (.int (-1)))) (zHx F G L) := by
  refine zx_in rfl rfl ?_
  refine zx_go 19 rfl ?_
  refine zx_c rfl rfl rfl rfl (w_within' (lo := 0) (hi := -1) (zwi_neg p0) _ _) ?_
  refine zx_go 19 rfl ?_
  exact zx_r rfl rfl
end ZCP
