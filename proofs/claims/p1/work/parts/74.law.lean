/-! THE LAW: one call on the fresh object -/
section ZLW
variable {xs : Nat → Int32}
def zXl (n : Nat) (xs : Nat → Int32) : zX := fun k => bif Nat.beq k 2 then (n, xs) else (10, zHi)
def zLw (n : Nat) (xs : Nat → Int32) (pc : Nat) (lo : zL) (st : List Value) (h : zH) (nc ns : Nat) : Prop := ∃ h' : zH, zBx zPg zft zfn (zXl n xs) (zCR zPg zft zfn zX0 8) zm_221 (.inl (some (.int 1))) h' pc lo st h nc ns
theorem zl_of {n pc pc2 nc nc2 ns ns2 : Nat} {lo lo2 : zL} {st st2 : List Value} {h h2 : zH} (f : ∀ h' : zH, zBx zPg zft zfn (zXl n xs) (zCR zPg zft zfn zX0 8) zm_221 (.inl (some (.int 1))) h' pc2 lo2 st2 h2 nc2 ns2 → zBx zPg zft zfn (zXl n xs) (zCR zPg zft zfn zX0 8) zm_221 (.inl (some (.int 1))) h' pc lo st h nc ns) (k : zLw n xs pc2 lo2 st2 h2 nc2 ns2) : zLw n xs pc lo st h nc ns := by
  obtain ⟨h', k⟩ := k
  exact ⟨h', f h' k⟩
theorem zl_r {n pc nc ns : Nat} {lo : zL} {st : List Value} {h : zH} {en : zN} (hf : zfind (zIns zm_221) pc = some en) (he : zend en.2.1 (zRet zm_221) st = some (some (.int 1))) : zLw n xs pc lo st h nc ns := ⟨h, zx_r hf he⟩
theorem zx_lal {Pg : List zM} {FT : zFT} {FN : Nat → Nat} {X : zX} {cr : Nat → List Value → zH → zO → zH → Prop} {M : zM} {o : zO} {h h' : zH} {pc nc ns q n : Nat} {lo : zL} {r : List Value} {en : zN} {f : Nat → Int64} {j : Int32} (hf : zfind (zIns M) pc = some en) (hi : en.2.1 = .laload) (hq : h[q]? = some (.inl (2, n, .inr (.inl f)))) (hz : zin j n = true) (k : zBx Pg FT FN X cr M o h' (pc + 1) lo (.long (f j.toNatClampNeg) :: r) h nc ns) : zBx Pg FT FN X cr M o h' pc lo (.int j :: .ref q :: r) h nc ns := by
  have hpc := (zfind_eq hf).2
  have hal : zal .laload X (.int j :: .ref q :: r) h = some (.long (f j.toNatClampNeg), r) := by
    unfold zal
    dsimp only [zir]
    rw [hq]
    show (bif zin j n then some (_, r) else none) = _
    rw [hz]
    rfl
  refine zx_s hf (by rw [hi]; rfl) ?_ k
  unfold zstep
  rw [hi]
  dsimp only [zpush, zlod, zsto, zjmp]
  rw [hal]
  dsimp only
  rw [hpc]
abbrev zlo0 : zL := [(4, .int 0), (3, .ref 148), (2, .ref 113), (1, .ref 0), (0, .retAddr 2)]
set_option maxRecDepth 100000 in
theorem zl_end {h : zH} {nc ns : Nat} {v5 v6 : Value} : zLw 7 xs 1783 ((6, v6) :: (5, v5) :: zlo0) [] h nc ns := by
  refine zl_of (fun _ q => zx_go 7 rfl q) ?_
  refine zl_of (fun _ q => zx_ic (b := true) rfl rfl (show zc2 .gt (0 + Int32.ofInt 7) (Int32.ofNat 7 - (Int8.ofInt 7).toInt32) = true by decide) rfl q) ?_
  refine zl_of (fun _ q => zx_go 1 rfl q) ?_
  exact zl_r rfl rfl
set_option maxRecDepth 100000 in
theorem zl_end1 {h : zH} {nc ns : Nat} {v5 : Value} : zLw 7 xs 1783 ((5, v5) :: zlo0) [] h nc ns := by
  refine zl_of (fun _ q => zx_go 7 rfl q) ?_
  refine zl_of (fun _ q => zx_ic (b := true) rfl rfl (show zc2 .gt (0 + Int32.ofInt 7) (Int32.ofNat 7 - (Int8.ofInt 7).toInt32) = true by decide) rfl q) ?_
  refine zl_of (fun _ q => zx_go 1 rfl q) ?_
  exact zl_r rfl rfl
set_option maxRecDepth 100000 in
theorem zl_end0 {h : zH} {nc ns : Nat} : zLw 7 xs 1783 zlo0 [] h nc ns := by
  refine zl_of (fun _ q => zx_go 7 rfl q) ?_
  refine zl_of (fun _ q => zx_ic (b := true) rfl rfl (show zc2 .gt (0 + Int32.ofInt 7) (Int32.ofNat 7 - (Int8.ofInt 7).toInt32) = true by decide) rfl q) ?_
  refine zl_of (fun _ q => zx_go 1 rfl q) ?_
  exact zl_r rfl rfl
def zn0 : Nat := 0 + 1 + (zRoom zm_10).2.2.1 + 1 + (zRoom zm_11).2.2.1 + 1
def zs0 : Nat := 0 + zfn 10 + (zRoom zm_10).2.2.2 + zfn 11 + (zRoom zm_11).2.2.2 + 1
abbrev zHn : zH := zHx (fun _ _ => 0) (fun _ _ => none) (fun _ => 0)
set_option maxRecDepth 100000 in
theorem law_guest : zLw 7 xs 152 zlo0 [] (zHx zF0 zG0 zL0) zn0 zs0 := by
  obtain ⟨k, b, h1, h2, h3, f, c1, c2, c3, e, hq, ⟨fs1, r1⟩, ⟨fs2, r2⟩⟩ := r_guest (L := zL0) zF0_z zF0_k zG0_k (xs 1)
  refine zl_of (fun _ q => zx_go 7 rfl q) ?_
  refine zl_of (fun _ q => zx_c rfl rfl rfl rfl c1 q) ?_
  refine zl_of (fun _ q => zx_go 7 rfl q) ?_
  refine zl_of (fun _ q => zx_c rfl rfl rfl (zinv_of (h2 := zHn) rfl (zrec_of (b := 113) r1 rfl)) c2 q) ?_
  refine zl_of (fun _ q => zx_go 2 rfl q) ?_
  refine zl_of (fun _ q => zx_c rfl rfl rfl (zinv_of (h2 := zHn) rfl (zrec_of (b := 113) r2 rfl)) c3 q) ?_
  refine zl_of (fun _ q => zx_go 1 rfl q) ?_
  refine zl_of (fun _ q => zx_ic (b := true) rfl rfl (decide_eq_true rfl) rfl q) ?_
  refine zl_of (fun _ q => zx_go 1 rfl q) ?_
  by_cases hk : k = 0
  · refine zl_of (fun _ q => zx_if (b := false) rfl rfl (by rw [hk]; rfl) rfl q) ?_
    refine zl_of (fun _ q => zx_go 2 rfl q) ?_
    refine zl_of (fun _ q => zx_lal rfl rfl e rfl q) ?_
    refine zl_of (fun _ q => zx_go 2 rfl q) ?_
    refine zl_of (fun _ q => zx_go 1 rfl q) ?_
    refine zl_of (fun _ q => zx_if (b := true) rfl rfl (decide_eq_true ((lg_cmp_eq _ _).mpr (hq hk))) rfl q) ?_
    refine zl_of (fun _ q => zx_go 1 rfl q) ?_
    exact zl_end
  · refine zl_of (fun _ q => zx_if (b := true) rfl rfl (decide_eq_true hk) rfl q) ?_
    refine zl_of (fun _ q => zx_go 1 rfl q) ?_
    exact zl_end
set_option maxRecDepth 100000 in
theorem law_destroy : zLw 7 xs 208 zlo0 [] (zHx zF0 zG0 zL0) zn0 zs0 := by
  obtain ⟨k, b, h1, h2, h3, f, c1, c2, c3, e, hq, ⟨fs1, r1⟩, ⟨fs2, r2⟩⟩ := r_destroy (L := zL0) zF0_k zG0_k (xs 1)
  refine zl_of (fun _ q => zx_go 7 rfl q) ?_
  refine zl_of (fun _ q => zx_c rfl rfl rfl rfl c1 q) ?_
  refine zl_of (fun _ q => zx_go 7 rfl q) ?_
  refine zl_of (fun _ q => zx_c rfl rfl rfl (zinv_of (h2 := zHn) rfl (zrec_of (b := 113) r1 rfl)) c2 q) ?_
  refine zl_of (fun _ q => zx_go 2 rfl q) ?_
  refine zl_of (fun _ q => zx_c rfl rfl rfl (zinv_of (h2 := zHn) rfl (zrec_of (b := 113) r2 rfl)) c3 q) ?_
  refine zl_of (fun _ q => zx_go 1 rfl q) ?_
  refine zl_of (fun _ q => zx_ic (b := true) rfl rfl (decide_eq_true rfl) rfl q) ?_
  refine zl_of (fun _ q => zx_go 1 rfl q) ?_
  by_cases hk : k = 0
  · refine zl_of (fun _ q => zx_if (b := false) rfl rfl (by rw [hk]; rfl) rfl q) ?_
    refine zl_of (fun _ q => zx_go 2 rfl q) ?_
    refine zl_of (fun _ q => zx_lal rfl rfl e rfl q) ?_
    refine zl_of (fun _ q => zx_go 2 rfl q) ?_
    refine zl_of (fun _ q => zx_go 1 rfl q) ?_
    refine zl_of (fun _ q => zx_if (b := true) rfl rfl (decide_eq_true ((lg_cmp_eq _ _).mpr (hq hk))) rfl q) ?_
    refine zl_of (fun _ q => zx_go 1 rfl q) ?_
    exact zl_end
  · refine zl_of (fun _ q => zx_if (b := true) rfl rfl (decide_eq_true hk) rfl q) ?_
    refine zl_of (fun _ q => zx_go 1 rfl q) ?_
    exact zl_end
set_option maxRecDepth 100000 in
theorem law_vcpu : zLw 7 xs 264 zlo0 [] (zHx zF0 zG0 zL0) zn0 zs0 := by
  obtain ⟨k, b, h1, h2, h3, f, c1, c2, c3, e, hq, ⟨fs1, r1⟩, ⟨fs2, r2⟩⟩ := r_vcpu (L := zL0) zF0_k zG0_k (xs 1)
  refine zl_of (fun _ q => zx_go 7 rfl q) ?_
  refine zl_of (fun _ q => zx_c rfl rfl rfl rfl c1 q) ?_
  refine zl_of (fun _ q => zx_go 7 rfl q) ?_
  refine zl_of (fun _ q => zx_c rfl rfl rfl (zinv_of (h2 := zHn) rfl (zrec_of (b := 113) r1 rfl)) c2 q) ?_
  refine zl_of (fun _ q => zx_go 2 rfl q) ?_
  refine zl_of (fun _ q => zx_c rfl rfl rfl (zinv_of (h2 := zHn) rfl (zrec_of (b := 113) r2 rfl)) c3 q) ?_
  refine zl_of (fun _ q => zx_go 1 rfl q) ?_
  refine zl_of (fun _ q => zx_ic (b := true) rfl rfl (decide_eq_true rfl) rfl q) ?_
  refine zl_of (fun _ q => zx_go 1 rfl q) ?_
  by_cases hk : k = 0
  · refine zl_of (fun _ q => zx_if (b := false) rfl rfl (by rw [hk]; rfl) rfl q) ?_
    refine zl_of (fun _ q => zx_go 2 rfl q) ?_
    refine zl_of (fun _ q => zx_lal rfl rfl e rfl q) ?_
    refine zl_of (fun _ q => zx_go 2 rfl q) ?_
    refine zl_of (fun _ q => zx_go 1 rfl q) ?_
    refine zl_of (fun _ q => zx_if (b := true) rfl rfl (decide_eq_true ((lg_cmp_eq _ _).mpr (hq hk))) rfl q) ?_
    refine zl_of (fun _ q => zx_go 1 rfl q) ?_
    exact zl_end
  · refine zl_of (fun _ q => zx_if (b := true) rfl rfl (decide_eq_true hk) rfl q) ?_
    refine zl_of (fun _ q => zx_go 1 rfl q) ?_
    exact zl_end
set_option maxRecDepth 100000 in
theorem law_set : zLw 7 xs 320 zlo0 [] (zHx zF0 zG0 zL0) zn0 zs0 := by
  obtain ⟨k, h1, h2, h3, c1, c2, c3, ⟨fs1, r1⟩, ⟨fs2, r2⟩⟩ := r_set (L := zL0) zF0_k zG0_k (xs 1) (xs 2) (xs 3)
  refine zl_of (fun _ q => zx_go 16 rfl q) ?_
  refine zl_of (fun _ q => zx_c rfl rfl rfl rfl c1 q) ?_
  refine zl_of (fun _ q => zx_go 16 rfl q) ?_
  refine zl_of (fun _ q => zx_go 1 rfl q) ?_
  refine zl_of (fun _ q => zx_c rfl rfl rfl (zinv_of (h2 := zHn) rfl (zrec_of (b := 113) r1 rfl)) c2 q) ?_
  refine zl_of (fun _ q => zx_go 1 rfl q) ?_
  refine zl_of (fun _ q => zx_c rfl rfl rfl (zinv_of (h2 := zHn) rfl (zrec_of (b := 113) r2 rfl)) c3 q) ?_
  refine zl_of (fun _ q => zx_go 1 rfl q) ?_
  refine zl_of (fun _ q => zx_ic (b := true) rfl rfl (decide_eq_true rfl) rfl q) ?_
  refine zl_of (fun _ q => zx_go 1 rfl q) ?_
  exact zl_end1
set_option maxRecDepth 100000 in
theorem law_get : zLw 7 xs 380 zlo0 [] (zHx zF0 zG0 zL0) zn0 zs0 := by
  obtain ⟨k, b, h1, h2, h3, f, c1, c2, c3, e, hq, ⟨fs1, r1⟩, ⟨fs2, r2⟩⟩ := r_get (L := zL0) zF0_k zG0_k (xs 1) (xs 2)
  refine zl_of (fun _ q => zx_go 12 rfl q) ?_
  refine zl_of (fun _ q => zx_c rfl rfl rfl rfl c1 q) ?_
  refine zl_of (fun _ q => zx_go 12 rfl q) ?_
  refine zl_of (fun _ q => zx_c rfl rfl rfl (zinv_of (h2 := zHn) rfl (zrec_of (b := 113) r1 rfl)) c2 q) ?_
  refine zl_of (fun _ q => zx_go 2 rfl q) ?_
  refine zl_of (fun _ q => zx_c rfl rfl rfl (zinv_of (h2 := zHn) rfl (zrec_of (b := 113) r2 rfl)) c3 q) ?_
  refine zl_of (fun _ q => zx_go 1 rfl q) ?_
  refine zl_of (fun _ q => zx_ic (b := true) rfl rfl (decide_eq_true rfl) rfl q) ?_
  refine zl_of (fun _ q => zx_go 1 rfl q) ?_
  by_cases hk : k = 0
  · refine zl_of (fun _ q => zx_if (b := false) rfl rfl (by rw [hk]; rfl) rfl q) ?_
    refine zl_of (fun _ q => zx_go 2 rfl q) ?_
    refine zl_of (fun _ q => zx_lal rfl rfl e rfl q) ?_
    refine zl_of (fun _ q => zx_go 2 rfl q) ?_
    refine zl_of (fun _ q => zx_go 1 rfl q) ?_
    refine zl_of (fun _ q => zx_if (b := true) rfl rfl (decide_eq_true ((lg_cmp_eq _ _).mpr (hq hk))) rfl q) ?_
    refine zl_of (fun _ q => zx_go 1 rfl q) ?_
    exact zl_end
  · refine zl_of (fun _ q => zx_if (b := true) rfl rfl (decide_eq_true hk) rfl q) ?_
    refine zl_of (fun _ q => zx_go 1 rfl q) ?_
    exact zl_end
set_option maxRecDepth 100000 in
theorem law_access : zLw 7 xs 448 zlo0 [] (zHx zF0 zG0 zL0) zn0 zs0 := by
  obtain ⟨k, b, h1, h2, h3, f, c1, c2, c3, e, hq, ⟨fs1, r1⟩, ⟨fs2, r2⟩⟩ := r_access (L := zL0) zF0_k zG0_k (xs 1) (xs 2) (xs 3) (xs 4)
  refine zl_of (fun _ q => zx_go 16 rfl q) ?_
  refine zl_of (fun _ q => zx_go 6 rfl q) ?_
  refine zl_of (fun _ q => zx_c rfl rfl rfl rfl c1 q) ?_
  refine zl_of (fun _ q => zx_go 16 rfl q) ?_
  refine zl_of (fun _ q => zx_go 6 rfl q) ?_
  refine zl_of (fun _ q => zx_c rfl rfl rfl (zinv_of (h2 := zHn) rfl (zrec_of (b := 113) r1 rfl)) c2 q) ?_
  refine zl_of (fun _ q => zx_go 2 rfl q) ?_
  refine zl_of (fun _ q => zx_c rfl rfl rfl (zinv_of (h2 := zHn) rfl (zrec_of (b := 113) r2 rfl)) c3 q) ?_
  refine zl_of (fun _ q => zx_go 1 rfl q) ?_
  refine zl_of (fun _ q => zx_ic (b := true) rfl rfl (decide_eq_true rfl) rfl q) ?_
  refine zl_of (fun _ q => zx_go 1 rfl q) ?_
  by_cases hk : k = 0
  · refine zl_of (fun _ q => zx_if (b := false) rfl rfl (by rw [hk]; rfl) rfl q) ?_
    refine zl_of (fun _ q => zx_go 2 rfl q) ?_
    refine zl_of (fun _ q => zx_lal rfl rfl e rfl q) ?_
    refine zl_of (fun _ q => zx_go 2 rfl q) ?_
    refine zl_of (fun _ q => zx_go 1 rfl q) ?_
    refine zl_of (fun _ q => zx_if (b := true) rfl rfl (decide_eq_true ((lg_cmp_eq _ _).mpr (hq hk))) rfl q) ?_
    refine zl_of (fun _ q => zx_go 1 rfl q) ?_
    exact zl_end
  · refine zl_of (fun _ q => zx_if (b := true) rfl rfl (decide_eq_true hk) rfl q) ?_
    refine zl_of (fun _ q => zx_go 1 rfl q) ?_
    exact zl_end
set_option maxRecDepth 100000 in
theorem law_run : zLw 7 xs 540 zlo0 [] (zHx zF0 zG0 zL0) zn0 zs0 := by
  obtain ⟨k, b, h1, h2, h3, f, c1, c2, c3, e, hq, ⟨fs1, r1⟩, ⟨fs2, r2⟩⟩ := r_run (L := zL0) zF0_k zG0_k (xs 1) (xs 2)
  refine zl_of (fun _ q => zx_go 12 rfl q) ?_
  refine zl_of (fun _ q => zx_c rfl rfl rfl rfl c1 q) ?_
  refine zl_of (fun _ q => zx_go 12 rfl q) ?_
  refine zl_of (fun _ q => zx_c rfl rfl rfl (zinv_of (h2 := zHn) rfl (zrec_of (b := 113) r1 rfl)) c2 q) ?_
  refine zl_of (fun _ q => zx_go 2 rfl q) ?_
  refine zl_of (fun _ q => zx_c rfl rfl rfl (zinv_of (h2 := zHn) rfl (zrec_of (b := 113) r2 rfl)) c3 q) ?_
  refine zl_of (fun _ q => zx_go 1 rfl q) ?_
  refine zl_of (fun _ q => zx_ic (b := true) rfl rfl (decide_eq_true rfl) rfl q) ?_
  refine zl_of (fun _ q => zx_go 1 rfl q) ?_
  by_cases hk : k = 0
  · refine zl_of (fun _ q => zx_if (b := false) rfl rfl (by rw [hk]; rfl) rfl q) ?_
    refine zl_of (fun _ q => zx_go 2 rfl q) ?_
    refine zl_of (fun _ q => zx_lal rfl rfl e rfl q) ?_
    refine zl_of (fun _ q => zx_go 2 rfl q) ?_
    refine zl_of (fun _ q => zx_go 1 rfl q) ?_
    refine zl_of (fun _ q => zx_if (b := true) rfl rfl (decide_eq_true ((lg_cmp_eq _ _).mpr (hq hk))) rfl q) ?_
    refine zl_of (fun _ q => zx_go 1 rfl q) ?_
    exact zl_end
  · refine zl_of (fun _ q => zx_if (b := true) rfl rfl (decide_eq_true hk) rfl q) ?_
    refine zl_of (fun _ q => zx_go 1 rfl q) ?_
    exact zl_end
set_option maxRecDepth 100000 in
theorem law_exit : zLw 7 xs 608 zlo0 [] (zHx zF0 zG0 zL0) zn0 zs0 := by
  obtain ⟨k, b, h1, h2, h3, f, c1, c2, c3, e, hq, ⟨fs1, r1⟩, ⟨fs2, r2⟩⟩ := r_exit (L := zL0) zF0_k zG0_k (xs 1) (xs 2)
  refine zl_of (fun _ q => zx_go 12 rfl q) ?_
  refine zl_of (fun _ q => zx_c rfl rfl rfl rfl c1 q) ?_
  refine zl_of (fun _ q => zx_go 12 rfl q) ?_
  refine zl_of (fun _ q => zx_c rfl rfl rfl (zinv_of (h2 := zHn) rfl (zrec_of (b := 113) r1 rfl)) c2 q) ?_
  refine zl_of (fun _ q => zx_go 2 rfl q) ?_
  refine zl_of (fun _ q => zx_c rfl rfl rfl (zinv_of (h2 := zHn) rfl (zrec_of (b := 113) r2 rfl)) c3 q) ?_
  refine zl_of (fun _ q => zx_go 1 rfl q) ?_
  refine zl_of (fun _ q => zx_ic (b := true) rfl rfl (decide_eq_true rfl) rfl q) ?_
  refine zl_of (fun _ q => zx_go 1 rfl q) ?_
  by_cases hk : k = 0
  · refine zl_of (fun _ q => zx_if (b := false) rfl rfl (by rw [hk]; rfl) rfl q) ?_
    refine zl_of (fun _ q => zx_go 2 rfl q) ?_
    refine zl_of (fun _ q => zx_lal rfl rfl e rfl q) ?_
    refine zl_of (fun _ q => zx_go 2 rfl q) ?_
    refine zl_of (fun _ q => zx_go 1 rfl q) ?_
    refine zl_of (fun _ q => zx_if (b := true) rfl rfl (decide_eq_true ((lg_cmp_eq _ _).mpr (hq hk))) rfl q) ?_
    refine zl_of (fun _ q => zx_go 1 rfl q) ?_
    exact zl_end
  · refine zl_of (fun _ q => zx_if (b := true) rfl rfl (decide_eq_true hk) rfl q) ?_
    refine zl_of (fun _ q => zx_go 1 rfl q) ?_
    exact zl_end
set_option maxRecDepth 100000 in
theorem law_flush : zLw 7 xs 676 zlo0 [] (zHx zF0 zG0 zL0) zn0 zs0 := by
  obtain ⟨k, b, h1, h2, h3, f, c1, c2, c3, e, hq, ⟨fs1, r1⟩, ⟨fs2, r2⟩⟩ := r_flush (L := zL0) zF0_k zG0_k (xs 1) (xs 2) (xs 3)
  refine zl_of (fun _ q => zx_go 16 rfl q) ?_
  refine zl_of (fun _ q => zx_go 1 rfl q) ?_
  refine zl_of (fun _ q => zx_c rfl rfl rfl rfl c1 q) ?_
  refine zl_of (fun _ q => zx_go 16 rfl q) ?_
  refine zl_of (fun _ q => zx_go 1 rfl q) ?_
  refine zl_of (fun _ q => zx_c rfl rfl rfl (zinv_of (h2 := zHn) rfl (zrec_of (b := 113) r1 rfl)) c2 q) ?_
  refine zl_of (fun _ q => zx_go 2 rfl q) ?_
  refine zl_of (fun _ q => zx_c rfl rfl rfl (zinv_of (h2 := zHn) rfl (zrec_of (b := 113) r2 rfl)) c3 q) ?_
  refine zl_of (fun _ q => zx_go 1 rfl q) ?_
  refine zl_of (fun _ q => zx_ic (b := true) rfl rfl (decide_eq_true rfl) rfl q) ?_
  refine zl_of (fun _ q => zx_go 1 rfl q) ?_
  by_cases hk : k = 0
  · refine zl_of (fun _ q => zx_if (b := false) rfl rfl (by rw [hk]; rfl) rfl q) ?_
    refine zl_of (fun _ q => zx_go 2 rfl q) ?_
    refine zl_of (fun _ q => zx_lal rfl rfl e rfl q) ?_
    refine zl_of (fun _ q => zx_go 2 rfl q) ?_
    refine zl_of (fun _ q => zx_go 1 rfl q) ?_
    refine zl_of (fun _ q => zx_if (b := true) rfl rfl (decide_eq_true ((lg_cmp_eq _ _).mpr (hq hk))) rfl q) ?_
    refine zl_of (fun _ q => zx_go 1 rfl q) ?_
    exact zl_end
  · refine zl_of (fun _ q => zx_if (b := true) rfl rfl (decide_eq_true hk) rfl q) ?_
    refine zl_of (fun _ q => zx_go 1 rfl q) ?_
    exact zl_end
set_option maxRecDepth 100000 in
theorem law_aside : zLw 7 xs 756 zlo0 [] (zHx zF0 zG0 zL0) zn0 zs0 := by
  obtain ⟨k, b, h1, h2, h3, f, c1, c2, c3, e, hq, ⟨fs1, r1⟩, ⟨fs2, r2⟩⟩ := r_aside (L := zL0) zF0_k zG0_k (xs 1) (xs 2) (xs 3)
  refine zl_of (fun _ q => zx_go 16 rfl q) ?_
  refine zl_of (fun _ q => zx_go 1 rfl q) ?_
  refine zl_of (fun _ q => zx_c rfl rfl rfl rfl c1 q) ?_
  refine zl_of (fun _ q => zx_go 16 rfl q) ?_
  refine zl_of (fun _ q => zx_go 1 rfl q) ?_
  refine zl_of (fun _ q => zx_c rfl rfl rfl (zinv_of (h2 := zHn) rfl (zrec_of (b := 113) r1 rfl)) c2 q) ?_
  refine zl_of (fun _ q => zx_go 2 rfl q) ?_
  refine zl_of (fun _ q => zx_c rfl rfl rfl (zinv_of (h2 := zHn) rfl (zrec_of (b := 113) r2 rfl)) c3 q) ?_
  refine zl_of (fun _ q => zx_go 1 rfl q) ?_
  refine zl_of (fun _ q => zx_ic (b := true) rfl rfl (decide_eq_true rfl) rfl q) ?_
  refine zl_of (fun _ q => zx_go 1 rfl q) ?_
  by_cases hk : k = 0
  · refine zl_of (fun _ q => zx_if (b := false) rfl rfl (by rw [hk]; rfl) rfl q) ?_
    refine zl_of (fun _ q => zx_go 2 rfl q) ?_
    refine zl_of (fun _ q => zx_lal rfl rfl e rfl q) ?_
    refine zl_of (fun _ q => zx_go 2 rfl q) ?_
    refine zl_of (fun _ q => zx_go 1 rfl q) ?_
    refine zl_of (fun _ q => zx_if (b := true) rfl rfl (decide_eq_true ((lg_cmp_eq _ _).mpr (hq hk))) rfl q) ?_
    refine zl_of (fun _ q => zx_go 1 rfl q) ?_
    exact zl_end
  · refine zl_of (fun _ q => zx_if (b := true) rfl rfl (decide_eq_true hk) rfl q) ?_
    refine zl_of (fun _ q => zx_go 1 rfl q) ?_
    exact zl_end
set_option maxRecDepth 100000 in
theorem law_deny : zLw 7 xs 836 zlo0 [] (zHx zF0 zG0 zL0) zn0 zs0 := by
  obtain ⟨k, b, h1, h2, h3, f, c1, c2, c3, e, hq, ⟨fs1, r1⟩, ⟨fs2, r2⟩⟩ := r_deny (L := zL0) zF0_k zG0_k (xs 1) (xs 2) (xs 3)
  refine zl_of (fun _ q => zx_go 16 rfl q) ?_
  refine zl_of (fun _ q => zx_go 1 rfl q) ?_
  refine zl_of (fun _ q => zx_c rfl rfl rfl rfl c1 q) ?_
  refine zl_of (fun _ q => zx_go 16 rfl q) ?_
  refine zl_of (fun _ q => zx_go 1 rfl q) ?_
  refine zl_of (fun _ q => zx_c rfl rfl rfl (zinv_of (h2 := zHn) rfl (zrec_of (b := 113) r1 rfl)) c2 q) ?_
  refine zl_of (fun _ q => zx_go 2 rfl q) ?_
  refine zl_of (fun _ q => zx_c rfl rfl rfl (zinv_of (h2 := zHn) rfl (zrec_of (b := 113) r2 rfl)) c3 q) ?_
  refine zl_of (fun _ q => zx_go 1 rfl q) ?_
  refine zl_of (fun _ q => zx_ic (b := true) rfl rfl (decide_eq_true rfl) rfl q) ?_
  refine zl_of (fun _ q => zx_go 1 rfl q) ?_
  by_cases hk : k = 0
  · refine zl_of (fun _ q => zx_if (b := false) rfl rfl (by rw [hk]; rfl) rfl q) ?_
    refine zl_of (fun _ q => zx_go 2 rfl q) ?_
    refine zl_of (fun _ q => zx_lal rfl rfl e rfl q) ?_
    refine zl_of (fun _ q => zx_go 2 rfl q) ?_
    refine zl_of (fun _ q => zx_go 1 rfl q) ?_
    refine zl_of (fun _ q => zx_if (b := true) rfl rfl (decide_eq_true ((lg_cmp_eq _ _).mpr (hq hk))) rfl q) ?_
    refine zl_of (fun _ q => zx_go 1 rfl q) ?_
    exact zl_end
  · refine zl_of (fun _ q => zx_if (b := true) rfl rfl (decide_eq_true hk) rfl q) ?_
    refine zl_of (fun _ q => zx_go 1 rfl q) ?_
    exact zl_end
set_option maxRecDepth 100000 in
theorem law_swap : zLw 7 xs 916 zlo0 [] (zHx zF0 zG0 zL0) zn0 zs0 := by
  obtain ⟨k, b, h1, h2, h3, f, c1, c2, c3, e, hq, ⟨fs1, r1⟩, ⟨fs2, r2⟩⟩ := r_swap (L := zL0) zF0_k zG0_k (xs 1) (xs 2)
  refine zl_of (fun _ q => zx_go 12 rfl q) ?_
  refine zl_of (fun _ q => zx_c rfl rfl rfl rfl c1 q) ?_
  refine zl_of (fun _ q => zx_go 12 rfl q) ?_
  refine zl_of (fun _ q => zx_c rfl rfl rfl (zinv_of (h2 := zHn) rfl (zrec_of (b := 113) r1 rfl)) c2 q) ?_
  refine zl_of (fun _ q => zx_go 2 rfl q) ?_
  refine zl_of (fun _ q => zx_c rfl rfl rfl (zinv_of (h2 := zHn) rfl (zrec_of (b := 113) r2 rfl)) c3 q) ?_
  refine zl_of (fun _ q => zx_go 1 rfl q) ?_
  refine zl_of (fun _ q => zx_ic (b := true) rfl rfl (decide_eq_true rfl) rfl q) ?_
  refine zl_of (fun _ q => zx_go 1 rfl q) ?_
  by_cases hk : k = 0
  · refine zl_of (fun _ q => zx_if (b := false) rfl rfl (by rw [hk]; rfl) rfl q) ?_
    refine zl_of (fun _ q => zx_go 2 rfl q) ?_
    refine zl_of (fun _ q => zx_lal rfl rfl e rfl q) ?_
    refine zl_of (fun _ q => zx_go 2 rfl q) ?_
    refine zl_of (fun _ q => zx_go 1 rfl q) ?_
    refine zl_of (fun _ q => zx_if (b := true) rfl rfl (decide_eq_true ((lg_cmp_eq _ _).mpr (hq hk))) rfl q) ?_
    refine zl_of (fun _ q => zx_go 1 rfl q) ?_
    exact zl_end
  · refine zl_of (fun _ q => zx_if (b := true) rfl rfl (decide_eq_true hk) rfl q) ?_
    refine zl_of (fun _ q => zx_go 1 rfl q) ?_
    exact zl_end
set_option maxRecDepth 100000 in
theorem law_move : zLw 7 xs 984 zlo0 [] (zHx zF0 zG0 zL0) zn0 zs0 := by
  obtain ⟨k, b, h1, h2, h3, f, c1, c2, c3, e, hq, ⟨fs1, r1⟩, ⟨fs2, r2⟩⟩ := r_move (L := zL0) zF0_k zG0_k (xs 1) (xs 2)
  refine zl_of (fun _ q => zx_go 12 rfl q) ?_
  refine zl_of (fun _ q => zx_c rfl rfl rfl rfl c1 q) ?_
  refine zl_of (fun _ q => zx_go 12 rfl q) ?_
  refine zl_of (fun _ q => zx_c rfl rfl rfl (zinv_of (h2 := zHn) rfl (zrec_of (b := 113) r1 rfl)) c2 q) ?_
  refine zl_of (fun _ q => zx_go 2 rfl q) ?_
  refine zl_of (fun _ q => zx_c rfl rfl rfl (zinv_of (h2 := zHn) rfl (zrec_of (b := 113) r2 rfl)) c3 q) ?_
  refine zl_of (fun _ q => zx_go 1 rfl q) ?_
  refine zl_of (fun _ q => zx_ic (b := true) rfl rfl (decide_eq_true rfl) rfl q) ?_
  refine zl_of (fun _ q => zx_go 1 rfl q) ?_
  by_cases hk : k = 0
  · refine zl_of (fun _ q => zx_if (b := false) rfl rfl (by rw [hk]; rfl) rfl q) ?_
    refine zl_of (fun _ q => zx_go 2 rfl q) ?_
    refine zl_of (fun _ q => zx_lal rfl rfl e rfl q) ?_
    refine zl_of (fun _ q => zx_go 2 rfl q) ?_
    refine zl_of (fun _ q => zx_go 1 rfl q) ?_
    refine zl_of (fun _ q => zx_if (b := true) rfl rfl (decide_eq_true ((lg_cmp_eq _ _).mpr (hq hk))) rfl q) ?_
    refine zl_of (fun _ q => zx_go 1 rfl q) ?_
    exact zl_end
  · refine zl_of (fun _ q => zx_if (b := true) rfl rfl (decide_eq_true hk) rfl q) ?_
    refine zl_of (fun _ q => zx_go 1 rfl q) ?_
    exact zl_end
set_option maxRecDepth 100000 in
theorem law_target : zLw 7 xs 1052 zlo0 [] (zHx zF0 zG0 zL0) zn0 zs0 := by
  obtain ⟨k, b, h1, h2, h3, f, c1, c2, c3, e, hq, ⟨fs1, r1⟩, ⟨fs2, r2⟩⟩ := r_target (L := zL0) zF0_k zG0_k (xs 1) (xs 2)
  refine zl_of (fun _ q => zx_go 12 rfl q) ?_
  refine zl_of (fun _ q => zx_c rfl rfl rfl rfl c1 q) ?_
  refine zl_of (fun _ q => zx_go 12 rfl q) ?_
  refine zl_of (fun _ q => zx_c rfl rfl rfl (zinv_of (h2 := zHn) rfl (zrec_of (b := 113) r1 rfl)) c2 q) ?_
  refine zl_of (fun _ q => zx_go 2 rfl q) ?_
  refine zl_of (fun _ q => zx_c rfl rfl rfl (zinv_of (h2 := zHn) rfl (zrec_of (b := 113) r2 rfl)) c3 q) ?_
  refine zl_of (fun _ q => zx_go 1 rfl q) ?_
  refine zl_of (fun _ q => zx_ic (b := true) rfl rfl (decide_eq_true rfl) rfl q) ?_
  refine zl_of (fun _ q => zx_go 1 rfl q) ?_
  by_cases hk : k = 0
  · refine zl_of (fun _ q => zx_if (b := false) rfl rfl (by rw [hk]; rfl) rfl q) ?_
    refine zl_of (fun _ q => zx_go 2 rfl q) ?_
    refine zl_of (fun _ q => zx_lal rfl rfl e rfl q) ?_
    refine zl_of (fun _ q => zx_go 2 rfl q) ?_
    refine zl_of (fun _ q => zx_go 1 rfl q) ?_
    refine zl_of (fun _ q => zx_if (b := true) rfl rfl (decide_eq_true ((lg_cmp_eq _ _).mpr (hq hk))) rfl q) ?_
    refine zl_of (fun _ q => zx_go 1 rfl q) ?_
    exact zl_end
  · refine zl_of (fun _ q => zx_if (b := true) rfl rfl (decide_eq_true hk) rfl q) ?_
    refine zl_of (fun _ q => zx_go 1 rfl q) ?_
    exact zl_end
set_option maxRecDepth 100000 in
theorem law_harvest : zLw 7 xs 1120 zlo0 [] (zHx zF0 zG0 zL0) zn0 zs0 := by
  obtain ⟨k, b, h1, h2, h3, f, c1, c2, c3, e, hq, ⟨fs1, r1⟩, ⟨fs2, r2⟩⟩ := r_harvest (L := zL0) zF0_k zG0_k (xs 1)
  refine zl_of (fun _ q => zx_go 7 rfl q) ?_
  refine zl_of (fun _ q => zx_c rfl rfl rfl rfl c1 q) ?_
  refine zl_of (fun _ q => zx_go 7 rfl q) ?_
  refine zl_of (fun _ q => zx_c rfl rfl rfl (zinv_of (h2 := zHn) rfl (zrec_of (b := 113) r1 rfl)) c2 q) ?_
  refine zl_of (fun _ q => zx_go 2 rfl q) ?_
  refine zl_of (fun _ q => zx_c rfl rfl rfl (zinv_of (h2 := zHn) rfl (zrec_of (b := 113) r2 rfl)) c3 q) ?_
  refine zl_of (fun _ q => zx_go 1 rfl q) ?_
  refine zl_of (fun _ q => zx_ic (b := true) rfl rfl (decide_eq_true rfl) rfl q) ?_
  refine zl_of (fun _ q => zx_go 1 rfl q) ?_
  by_cases hk : k = 0
  · refine zl_of (fun _ q => zx_if (b := false) rfl rfl (by rw [hk]; rfl) rfl q) ?_
    refine zl_of (fun _ q => zx_go 2 rfl q) ?_
    refine zl_of (fun _ q => zx_lal rfl rfl e rfl q) ?_
    refine zl_of (fun _ q => zx_go 2 rfl q) ?_
    refine zl_of (fun _ q => zx_go 1 rfl q) ?_
    refine zl_of (fun _ q => zx_if (b := true) rfl rfl (decide_eq_true ((lg_cmp_eq _ _).mpr (hq hk))) rfl q) ?_
    refine zl_of (fun _ q => zx_go 1 rfl q) ?_
    exact zl_end
  · refine zl_of (fun _ q => zx_if (b := true) rfl rfl (decide_eq_true hk) rfl q) ?_
    refine zl_of (fun _ q => zx_go 1 rfl q) ?_
    exact zl_end
set_option maxRecDepth 100000 in
theorem law_dirty : zLw 7 xs 1176 zlo0 [] (zHx zF0 zG0 zL0) zn0 zs0 := by
  refine zl_of (fun _ q => zx_go 6 rfl q) ?_
  refine zl_of (fun _ q => zx_c rfl rfl rfl rfl (k_dirty (xs 1) 5) q) ?_
  refine zl_of (fun _ q => zx_go 6 rfl q) ?_
  refine zl_of (fun _ q => zx_c rfl rfl rfl rfl (m_dirty (xs 1) 6) q) ?_
  refine zl_of (fun _ q => zx_go 1 rfl q) ?_
  exact zl_end0
set_option maxRecDepth 100000 in
theorem law_entry : zLw 7 xs 1201 zlo0 [] (zHx zF0 zG0 zL0) zn0 zs0 := by
  obtain ⟨k, b, h1, h2, h3, f, c1, c2, c3, e, hq, ⟨fs1, r1⟩, ⟨fs2, r2⟩⟩ := r_entry (L := zL0) zF0_k zG0_k (xs 1) (xs 2)
  refine zl_of (fun _ q => zx_go 12 rfl q) ?_
  refine zl_of (fun _ q => zx_c rfl rfl rfl rfl c1 q) ?_
  refine zl_of (fun _ q => zx_go 12 rfl q) ?_
  refine zl_of (fun _ q => zx_c rfl rfl rfl (zinv_of (h2 := zHn) rfl (zrec_of (b := 113) r1 rfl)) c2 q) ?_
  refine zl_of (fun _ q => zx_go 2 rfl q) ?_
  refine zl_of (fun _ q => zx_c rfl rfl rfl (zinv_of (h2 := zHn) rfl (zrec_of (b := 113) r2 rfl)) c3 q) ?_
  refine zl_of (fun _ q => zx_go 1 rfl q) ?_
  refine zl_of (fun _ q => zx_ic (b := true) rfl rfl (decide_eq_true rfl) rfl q) ?_
  refine zl_of (fun _ q => zx_go 1 rfl q) ?_
  by_cases hk : k = 0
  · refine zl_of (fun _ q => zx_if (b := false) rfl rfl (by rw [hk]; rfl) rfl q) ?_
    refine zl_of (fun _ q => zx_go 2 rfl q) ?_
    refine zl_of (fun _ q => zx_lal rfl rfl e rfl q) ?_
    refine zl_of (fun _ q => zx_go 2 rfl q) ?_
    refine zl_of (fun _ q => zx_go 1 rfl q) ?_
    refine zl_of (fun _ q => zx_if (b := true) rfl rfl (decide_eq_true ((lg_cmp_eq _ _).mpr (hq hk))) rfl q) ?_
    refine zl_of (fun _ q => zx_go 1 rfl q) ?_
    exact zl_end
  · refine zl_of (fun _ q => zx_if (b := true) rfl rfl (decide_eq_true hk) rfl q) ?_
    refine zl_of (fun _ q => zx_go 1 rfl q) ?_
    exact zl_end
set_option maxRecDepth 100000 in
theorem law_poke : zLw 7 xs 1269 zlo0 [] (zHx zF0 zG0 zL0) zn0 zs0 := by
  obtain ⟨k, b, h1, h2, h3, f, c1, c2, c3, e, hq, ⟨fs1, r1⟩, ⟨fs2, r2⟩⟩ := r_poke (L := zL0) zF0_k zG0_k (xs 1) (xs 2) (xs 3) (xs 4) (xs 5) (xs 6)
  refine zl_of (fun _ q => zx_go 16 rfl q) ?_
  refine zl_of (fun _ q => zx_go 16 rfl q) ?_
  refine zl_of (fun _ q => zx_c rfl rfl rfl rfl c1 q) ?_
  refine zl_of (fun _ q => zx_go 16 rfl q) ?_
  refine zl_of (fun _ q => zx_go 16 rfl q) ?_
  refine zl_of (fun _ q => zx_c rfl rfl rfl (zinv_of (h2 := zHn) rfl (zrec_of (b := 113) r1 rfl)) c2 q) ?_
  refine zl_of (fun _ q => zx_go 2 rfl q) ?_
  refine zl_of (fun _ q => zx_c rfl rfl rfl (zinv_of (h2 := zHn) rfl (zrec_of (b := 113) r2 rfl)) c3 q) ?_
  refine zl_of (fun _ q => zx_go 1 rfl q) ?_
  refine zl_of (fun _ q => zx_ic (b := true) rfl rfl (decide_eq_true rfl) rfl q) ?_
  refine zl_of (fun _ q => zx_go 1 rfl q) ?_
  by_cases hk : k = 0
  · refine zl_of (fun _ q => zx_if (b := false) rfl rfl (by rw [hk]; rfl) rfl q) ?_
    refine zl_of (fun _ q => zx_go 2 rfl q) ?_
    refine zl_of (fun _ q => zx_lal rfl rfl e rfl q) ?_
    refine zl_of (fun _ q => zx_go 2 rfl q) ?_
    refine zl_of (fun _ q => zx_go 1 rfl q) ?_
    refine zl_of (fun _ q => zx_if (b := true) rfl rfl (decide_eq_true ((lg_cmp_eq _ _).mpr (hq hk))) rfl q) ?_
    refine zl_of (fun _ q => zx_go 1 rfl q) ?_
    exact zl_end
  · refine zl_of (fun _ q => zx_if (b := true) rfl rfl (decide_eq_true hk) rfl q) ?_
    refine zl_of (fun _ q => zx_go 1 rfl q) ?_
    exact zl_end
set_option maxRecDepth 100000 in
theorem law_peek : zLw 7 xs 1387 zlo0 [] (zHx zF0 zG0 zL0) zn0 zs0 := by
  obtain ⟨k, b, h1, h2, h3, f, c1, c2, c3, e, hq, ⟨fs1, r1⟩, ⟨fs2, r2⟩⟩ := r_peek (L := zL0) zF0_k zG0_k (xs 1) (xs 2)
  refine zl_of (fun _ q => zx_go 12 rfl q) ?_
  refine zl_of (fun _ q => zx_c rfl rfl rfl rfl c1 q) ?_
  refine zl_of (fun _ q => zx_go 12 rfl q) ?_
  refine zl_of (fun _ q => zx_c rfl rfl rfl (zinv_of (h2 := zHn) rfl (zrec_of (b := 113) r1 rfl)) c2 q) ?_
  refine zl_of (fun _ q => zx_go 2 rfl q) ?_
  refine zl_of (fun _ q => zx_c rfl rfl rfl (zinv_of (h2 := zHn) rfl (zrec_of (b := 113) r2 rfl)) c3 q) ?_
  refine zl_of (fun _ q => zx_go 1 rfl q) ?_
  refine zl_of (fun _ q => zx_ic (b := true) rfl rfl (decide_eq_true rfl) rfl q) ?_
  refine zl_of (fun _ q => zx_go 1 rfl q) ?_
  by_cases hk : k = 0
  · refine zl_of (fun _ q => zx_if (b := false) rfl rfl (by rw [hk]; rfl) rfl q) ?_
    refine zl_of (fun _ q => zx_go 2 rfl q) ?_
    refine zl_of (fun _ q => zx_lal rfl rfl e rfl q) ?_
    refine zl_of (fun _ q => zx_go 2 rfl q) ?_
    refine zl_of (fun _ q => zx_go 1 rfl q) ?_
    refine zl_of (fun _ q => zx_if (b := true) rfl rfl (decide_eq_true ((lg_cmp_eq _ _).mpr (hq hk))) rfl q) ?_
    refine zl_of (fun _ q => zx_go 1 rfl q) ?_
    exact zl_end
  · refine zl_of (fun _ q => zx_if (b := true) rfl rfl (decide_eq_true hk) rfl q) ?_
    refine zl_of (fun _ q => zx_go 1 rfl q) ?_
    exact zl_end
set_option maxRecDepth 100000 in
theorem law_frame : zLw 7 xs 1455 zlo0 [] (zHx zF0 zG0 zL0) zn0 zs0 := by
  obtain ⟨k, b, h1, h2, h3, f, c1, c2, c3, e, hq, ⟨fs1, r1⟩, ⟨fs2, r2⟩⟩ := r_frame (G := zG0) (L := zL0) zF0_z (xs 1) (xs 2)
  refine zl_of (fun _ q => zx_go 12 rfl q) ?_
  refine zl_of (fun _ q => zx_c rfl rfl rfl rfl c1 q) ?_
  refine zl_of (fun _ q => zx_go 12 rfl q) ?_
  refine zl_of (fun _ q => zx_c rfl rfl rfl (zinv_of (h2 := zHn) rfl (zrec_of (b := 113) r1 rfl)) c2 q) ?_
  refine zl_of (fun _ q => zx_go 2 rfl q) ?_
  refine zl_of (fun _ q => zx_c rfl rfl rfl (zinv_of (h2 := zHn) rfl (zrec_of (b := 113) r2 rfl)) c3 q) ?_
  refine zl_of (fun _ q => zx_go 1 rfl q) ?_
  refine zl_of (fun _ q => zx_ic (b := true) rfl rfl (decide_eq_true rfl) rfl q) ?_
  refine zl_of (fun _ q => zx_go 1 rfl q) ?_
  by_cases hk : k = 0
  · refine zl_of (fun _ q => zx_if (b := false) rfl rfl (by rw [hk]; rfl) rfl q) ?_
    refine zl_of (fun _ q => zx_go 2 rfl q) ?_
    refine zl_of (fun _ q => zx_lal rfl rfl e rfl q) ?_
    refine zl_of (fun _ q => zx_go 2 rfl q) ?_
    refine zl_of (fun _ q => zx_go 1 rfl q) ?_
    refine zl_of (fun _ q => zx_if (b := true) rfl rfl (decide_eq_true ((lg_cmp_eq _ _).mpr (hq hk))) rfl q) ?_
    refine zl_of (fun _ q => zx_go 1 rfl q) ?_
    exact zl_end
  · refine zl_of (fun _ q => zx_if (b := true) rfl rfl (decide_eq_true hk) rfl q) ?_
    refine zl_of (fun _ q => zx_go 1 rfl q) ?_
    exact zl_end
set_option maxRecDepth 100000 in
theorem law_owner : zLw 7 xs 1523 zlo0 [] (zHx zF0 zG0 zL0) zn0 zs0 := by
  obtain ⟨k, b, h1, h2, h3, f, c1, c2, c3, e, hq, ⟨fs1, r1⟩, ⟨fs2, r2⟩⟩ := r_owner (G := zG0) (L := zL0) zF0_z (xs 1) (xs 2)
  refine zl_of (fun _ q => zx_go 12 rfl q) ?_
  refine zl_of (fun _ q => zx_c rfl rfl rfl rfl c1 q) ?_
  refine zl_of (fun _ q => zx_go 12 rfl q) ?_
  refine zl_of (fun _ q => zx_c rfl rfl rfl (zinv_of (h2 := zHn) rfl (zrec_of (b := 113) r1 rfl)) c2 q) ?_
  refine zl_of (fun _ q => zx_go 2 rfl q) ?_
  refine zl_of (fun _ q => zx_c rfl rfl rfl (zinv_of (h2 := zHn) rfl (zrec_of (b := 113) r2 rfl)) c3 q) ?_
  refine zl_of (fun _ q => zx_go 1 rfl q) ?_
  refine zl_of (fun _ q => zx_ic (b := true) rfl rfl (decide_eq_true rfl) rfl q) ?_
  refine zl_of (fun _ q => zx_go 1 rfl q) ?_
  by_cases hk : k = 0
  · refine zl_of (fun _ q => zx_if (b := false) rfl rfl (by rw [hk]; rfl) rfl q) ?_
    refine zl_of (fun _ q => zx_go 2 rfl q) ?_
    refine zl_of (fun _ q => zx_lal rfl rfl e rfl q) ?_
    refine zl_of (fun _ q => zx_go 2 rfl q) ?_
    refine zl_of (fun _ q => zx_go 1 rfl q) ?_
    refine zl_of (fun _ q => zx_if (b := true) rfl rfl (decide_eq_true ((lg_cmp_eq _ _).mpr (hq hk))) rfl q) ?_
    refine zl_of (fun _ q => zx_go 1 rfl q) ?_
    exact zl_end
  · refine zl_of (fun _ q => zx_if (b := true) rfl rfl (decide_eq_true hk) rfl q) ?_
    refine zl_of (fun _ q => zx_go 1 rfl q) ?_
    exact zl_end
set_option maxRecDepth 100000 in
theorem law_count : zLw 7 xs 1591 zlo0 [] (zHx zF0 zG0 zL0) zn0 zs0 := by
  obtain ⟨k, b, h1, h2, h3, f, c1, c2, c3, e, hq, ⟨fs1, r1⟩, ⟨fs2, r2⟩⟩ := r_count (L := zL0) zF0_k zG0_k (xs 1) (xs 2)
  refine zl_of (fun _ q => zx_go 12 rfl q) ?_
  refine zl_of (fun _ q => zx_c rfl rfl rfl rfl c1 q) ?_
  refine zl_of (fun _ q => zx_go 12 rfl q) ?_
  refine zl_of (fun _ q => zx_c rfl rfl rfl (zinv_of (h2 := zHn) rfl (zrec_of (b := 113) r1 rfl)) c2 q) ?_
  refine zl_of (fun _ q => zx_go 2 rfl q) ?_
  refine zl_of (fun _ q => zx_c rfl rfl rfl (zinv_of (h2 := zHn) rfl (zrec_of (b := 113) r2 rfl)) c3 q) ?_
  refine zl_of (fun _ q => zx_go 1 rfl q) ?_
  refine zl_of (fun _ q => zx_ic (b := true) rfl rfl (decide_eq_true rfl) rfl q) ?_
  refine zl_of (fun _ q => zx_go 1 rfl q) ?_
  by_cases hk : k = 0
  · refine zl_of (fun _ q => zx_if (b := false) rfl rfl (by rw [hk]; rfl) rfl q) ?_
    refine zl_of (fun _ q => zx_go 2 rfl q) ?_
    refine zl_of (fun _ q => zx_lal rfl rfl e rfl q) ?_
    refine zl_of (fun _ q => zx_go 2 rfl q) ?_
    refine zl_of (fun _ q => zx_go 1 rfl q) ?_
    refine zl_of (fun _ q => zx_if (b := true) rfl rfl (decide_eq_true ((lg_cmp_eq _ _).mpr (hq hk))) rfl q) ?_
    refine zl_of (fun _ q => zx_go 1 rfl q) ?_
    exact zl_end
  · refine zl_of (fun _ q => zx_if (b := true) rfl rfl (decide_eq_true hk) rfl q) ?_
    refine zl_of (fun _ q => zx_go 1 rfl q) ?_
    exact zl_end
set_option maxRecDepth 100000 in
theorem law_printed : zLw 7 xs 1659 zlo0 [] (zHx zF0 zG0 zL0) zn0 zs0 := by
  obtain ⟨k, b, h1, h2, h3, f, c1, c2, c3, e, hq, ⟨fs1, r1⟩, ⟨fs2, r2⟩⟩ := r_printed (L := zL0) zF0_k zG0_k (xs 1) (xs 2)
  refine zl_of (fun _ q => zx_go 12 rfl q) ?_
  refine zl_of (fun _ q => zx_c rfl rfl rfl rfl c1 q) ?_
  refine zl_of (fun _ q => zx_go 12 rfl q) ?_
  refine zl_of (fun _ q => zx_c rfl rfl rfl (zinv_of (h2 := zHn) rfl (zrec_of (b := 113) r1 rfl)) c2 q) ?_
  refine zl_of (fun _ q => zx_go 2 rfl q) ?_
  refine zl_of (fun _ q => zx_c rfl rfl rfl (zinv_of (h2 := zHn) rfl (zrec_of (b := 113) r2 rfl)) c3 q) ?_
  refine zl_of (fun _ q => zx_go 1 rfl q) ?_
  refine zl_of (fun _ q => zx_ic (b := true) rfl rfl (decide_eq_true rfl) rfl q) ?_
  refine zl_of (fun _ q => zx_go 1 rfl q) ?_
  by_cases hk : k = 0
  · refine zl_of (fun _ q => zx_if (b := false) rfl rfl (by rw [hk]; rfl) rfl q) ?_
    refine zl_of (fun _ q => zx_go 2 rfl q) ?_
    refine zl_of (fun _ q => zx_lal rfl rfl e rfl q) ?_
    refine zl_of (fun _ q => zx_go 2 rfl q) ?_
    refine zl_of (fun _ q => zx_go 1 rfl q) ?_
    refine zl_of (fun _ q => zx_if (b := true) rfl rfl (decide_eq_true ((lg_cmp_eq _ _).mpr (hq hk))) rfl q) ?_
    refine zl_of (fun _ q => zx_go 1 rfl q) ?_
    exact zl_end
  · refine zl_of (fun _ q => zx_if (b := true) rfl rfl (decide_eq_true hk) rfl q) ?_
    refine zl_of (fun _ q => zx_go 1 rfl q) ?_
    exact zl_end
set_option maxRecDepth 100000 in
theorem law_host : zLw 7 xs 1727 zlo0 [] (zHx zF0 zG0 zL0) zn0 zs0 := by
  obtain ⟨k, b, h1, h2, h3, f, c1, c2, c3, e, hq, ⟨fs1, r1⟩, ⟨fs2, r2⟩⟩ := r_host  (xs 1)
  refine zl_of (fun _ q => zx_go 7 rfl q) ?_
  refine zl_of (fun _ q => zx_c rfl rfl rfl rfl c1 q) ?_
  refine zl_of (fun _ q => zx_go 7 rfl q) ?_
  refine zl_of (fun _ q => zx_c rfl rfl rfl (zinv_of (h2 := zHn) rfl (zrec_of (b := 113) r1 rfl)) c2 q) ?_
  refine zl_of (fun _ q => zx_go 2 rfl q) ?_
  refine zl_of (fun _ q => zx_c rfl rfl rfl (zinv_of (h2 := zHn) rfl (zrec_of (b := 113) r2 rfl)) c3 q) ?_
  refine zl_of (fun _ q => zx_go 1 rfl q) ?_
  refine zl_of (fun _ q => zx_ic (b := true) rfl rfl (decide_eq_true rfl) rfl q) ?_
  refine zl_of (fun _ q => zx_go 1 rfl q) ?_
  by_cases hk : k = 0
  · refine zl_of (fun _ q => zx_if (b := false) rfl rfl (by rw [hk]; rfl) rfl q) ?_
    refine zl_of (fun _ q => zx_go 2 rfl q) ?_
    refine zl_of (fun _ q => zx_lal rfl rfl e rfl q) ?_
    refine zl_of (fun _ q => zx_go 2 rfl q) ?_
    refine zl_of (fun _ q => zx_go 1 rfl q) ?_
    refine zl_of (fun _ q => zx_if (b := true) rfl rfl (decide_eq_true ((lg_cmp_eq _ _).mpr (hq hk))) rfl q) ?_
    refine zl_of (fun _ q => zx_go 1 rfl q) ?_
    exact zl_end
  · refine zl_of (fun _ q => zx_if (b := true) rfl rfl (decide_eq_true hk) rfl q) ?_
    refine zl_of (fun _ q => zx_go 1 rfl q) ?_
    exact zl_end
end ZLW
