/-! ROWS for symbolic walks -/
section ZR
variable {Pg : List zM} {FT : zFT} {FN : Nat → Nat} {X : zX} {cr : Nat → List Value → zH → zO → zH → Prop} {M : zM} {o : zO} {h h' : zH} {pc nc ns : Nat} {lo : zL} {r : List Value} {en : zN}
theorem zx_ald {q n : Nat} {f : Nat → Int32} {j : Int32} (hf : zfind (zIns M) pc = some en) (hi : en.2.1 = .iaload) (hq : h[q]? = some (.inl (0, n, .inl f))) (hz : zin j n = true) (k : zBx Pg FT FN X cr M o h' (pc + 1) lo (.int (f j.toNatClampNeg) :: r) h nc ns) : zBx Pg FT FN X cr M o h' pc lo (.int j :: .ref q :: r) h nc ns := by
  have hpc := (zfind_eq hf).2
  have hal : zal .iaload X (.int j :: .ref q :: r) h = some (.int (f j.toNatClampNeg), r) := by
    unfold zal
    dsimp only [zir]
    rw [hq]
    show (bif zin j n then some (_, r) else none) = _
    rw [hz]
    rfl
  refine zx_s hf (by rw [hi]; rfl) ?_ k
  unfold zstep
  rw [hi]
  dsimp only [zpush, zlod, zsto, zjmp]
  rw [hal]
  dsimp only
  rw [hpc]
theorem zx_in {z d : Nat} {a : List Value} (hM : Pg[z]? = some M) (hb : (Nat.ble a.length (zMaxL M) && a.all (fun v => Nat.beq v.category 1)) = true) (k : zBx Pg FT FN X (zCR Pg FT FN X d) M o h' 0 (zargs 0 a) [] h 0 0) : zCR Pg FT FN X (d + 1) z a h o h' := ⟨M, hM, hb, k⟩
end ZR
/-- whether v lies in lo .. hi -/
def zwi (v lo hi : Int32) : Int32 := bif zc2 .lt v lo then 0 else bif zc2 .gt v hi then 0 else 1
theorem zwi_01 (v lo hi : Int32) : zwi v lo hi = 0 ∨ zwi v lo hi = 1 := by
  unfold zwi
  cases zc2 .lt v lo <;> cases zc2 .gt v hi <;> first | exact Or.inl rfl | exact Or.inr rfl
theorem w_within (v lo hi : Int32) (h : zH) (d : Nat) : zCr (d + 1) 12 [.int v, .int lo, .int hi] h (.inl (some (.int (zwi v lo hi)))) h := by
  refine zx_in rfl rfl ?_
  refine zx_go 3 rfl ?_
  unfold zwi
  cases zc2 .lt v lo with
  | true => refine zx_go 4 rfl ?_; exact zx_r rfl rfl
  | false =>
    refine zx_go 3 rfl ?_
    cases zc2 .gt v hi with
    | true => refine zx_go 4 rfl ?_; exact zx_r rfl rfl
    | false => refine zx_go 4 rfl ?_; exact zx_r rfl rfl
theorem w_isIn (v lo hi : Int32) (h : zH) (d : Nat) : zCr (d + 1) 20 [.int v, .int lo, .int hi] h (.inl (some (.int (zwi v lo hi)))) h := by
  refine zx_in rfl rfl ?_
  refine zx_go 3 rfl ?_
  unfold zwi
  cases zc2 .lt v lo with
  | true => refine zx_go 4 rfl ?_; exact zx_r rfl rfl
  | false =>
    refine zx_go 3 rfl ?_
    cases zc2 .gt v hi with
    | true => refine zx_go 4 rfl ?_; exact zx_r rfl rfl
    | false => refine zx_go 4 rfl ?_; exact zx_r rfl rfl
section ZR2
variable {Pg : List zM} {FT : zFT} {FN : Nat → Nat} {X : zX} {cr : Nat → List Value → zH → zO → zH → Prop} {M : zM} {o : zO} {h h' : zH} {pc nc ns : Nat} {lo : zL} {r : List Value} {en : zN}
theorem zx_aal3 {q n k : Nat} {f : Nat → Option Nat} {j : Int32} (hf : zfind (zIns M) pc = some en) (hi : en.2.1 = .aaload) (hq : h[q]? = some (.inl (3, n, .inr (.inr (.inr (.inr f)))))) (hz : zin j n = true) (hv : f j.toNatClampNeg = some k) (kk : zBx Pg FT FN X cr M o h' (pc + 1) lo (.ref k :: r) h nc ns) : zBx Pg FT FN X cr M o h' pc lo (.int j :: .ref q :: r) h nc ns := by
  have hpc := (zfind_eq hf).2
  have hal : zal .aaload X (.int j :: .ref q :: r) h = some (.ref k, r) := by
    unfold zal
    dsimp only [zir]
    rw [hq]
    show (bif zin j n then some (_, r) else none) = _
    rw [hz, hv]
    rfl
  refine zx_s hf (by rw [hi]; rfl) ?_ kk
  unfold zstep
  rw [hi]
  dsimp only [zpush, zlod, zsto, zjmp]
  rw [hal]
  dsimp only
  rw [hpc]
theorem zx_aal4 {q n k : Nat} {f : Nat → Option Nat} {j : Int32} (hf : zfind (zIns M) pc = some en) (hi : en.2.1 = .aaload) (hq : h[q]? = some (.inl (4, n, .inr (.inr (.inr (.inr f)))))) (hz : zin j n = true) (hv : f j.toNatClampNeg = some k) (kk : zBx Pg FT FN X cr M o h' (pc + 1) lo (.ref k :: r) h nc ns) : zBx Pg FT FN X cr M o h' pc lo (.int j :: .ref q :: r) h nc ns := by
  have hpc := (zfind_eq hf).2
  have hal : zal .aaload X (.int j :: .ref q :: r) h = some (.ref k, r) := by
    unfold zal
    dsimp only [zir]
    rw [hq]
    show (bif zin j n then some (_, r) else none) = _
    rw [hz, hv]
    rfl
  refine zx_s hf (by rw [hi]; rfl) ?_ kk
  unfold zstep
  rw [hi]
  dsimp only [zpush, zlod, zsto, zjmp]
  rw [hal]
  dsimp only
  rw [hpc]
theorem zx_bal {q n : Nat} {f : Nat → Int32} {j x : Int32} (hf : zfind (zIns M) pc = some en) (hi : en.2.1 = .baload) (hq : h[q]? = some (.inl (1, n, .inl f))) (hz : zin j n = true) (hv : f j.toNatClampNeg = x) (k : zBx Pg FT FN X cr M o h' (pc + 1) lo (.int x :: r) h nc ns) : zBx Pg FT FN X cr M o h' pc lo (.int j :: .ref q :: r) h nc ns := by
  have hpc := (zfind_eq hf).2
  have hal : zal .baload X (.int j :: .ref q :: r) h = some (.int x, r) := by
    unfold zal
    dsimp only [zir]
    rw [hq]
    show (bif zin j n then some (_, r) else none) = _
    rw [hz, hv]
    rfl
  refine zx_s hf (by rw [hi]; rfl) ?_ k
  unfold zstep
  rw [hi]
  dsimp only [zpush, zlod, zsto, zjmp]
  rw [hal]
  dsimp only
  rw [hpc]
theorem zx_ial {q n : Nat} {f : Nat → Int32} {j x : Int32} (hf : zfind (zIns M) pc = some en) (hi : en.2.1 = .iaload) (hq : h[q]? = some (.inl (0, n, .inl f))) (hz : zin j n = true) (hv : f j.toNatClampNeg = x) (k : zBx Pg FT FN X cr M o h' (pc + 1) lo (.int x :: r) h nc ns) : zBx Pg FT FN X cr M o h' pc lo (.int j :: .ref q :: r) h nc ns := by
  subst hv
  exact zx_ald hf hi hq hz k
end ZR2
/-- the world of the start: the class's object is cell 0, the model's cell 113, the law's own array cell 148 -/
def zHx (F : Nat → Nat → Int32) (G : Nat → Nat → Option Nat) (L : Nat → Int64) : zH := zrls F G 0 zsh ++ [.inl (2, 1, .inr (.inl L))]
def zGk (G : Nat → Nat → Option Nat) : Prop := G 10 0 = some 13 ∧ G 10 1 = some 19 ∧ G 10 2 = some 25 ∧ G 10 3 = some 31 ∧ G 11 0 = some 37 ∧ G 11 1 = some 46 ∧ G 11 2 = some 55 ∧ G 11 3 = some 64 ∧ G 11 4 = some 73 ∧ G 11 5 = some 82 ∧ G 11 6 = some 91 ∧ G 11 7 = some 100
section ZR3
variable {Pg : List zM} {FT : zFT} {FN : Nat → Nat} {X : zX} {cr : Nat → List Value → zH → zO → zH → Prop} {M : zM} {o : zO} {h h' : zH} {pc nc ns ix : Nat} {lo : zL} {st : List Value} {en : zN}
/-- a throw of one's own -/
theorem zx_t (hf : zfind (zIns M) pc = some en) (hn : en.2.1 = .new ix) (hb1 : en.2.2.2.2.1 = 1) (hb : (Nat.ble (nc + 1) (zRoom M).2.2.1 && (Nat.ble (ns + 6) (zRoom M).2.2.2 && Nat.ble (zWt st) 8)) = true) (ho : o = .inr en.2.2.2.1) : zBx Pg FT FN X cr M o h pc lo st h nc ns := by
  subst ho
  refine ⟨1, ?_⟩
  unfold zBR
  rw [hf]
  dsimp only
  have e1 : zend en.2.1 (zRet M) st = none := by
    rw [hn]; unfold zend; split <;> first | rfl | contradiction
  have e2 : zmak FT FN en st = none := by
    unfold zmak; rw [hn]; dsimp only; rw [hb1]; rfl
  have e3 : zown M en st = none := by
    unfold zown; rw [hn]
  have e4 : zcl en.2.1 = none := by rw [hn]; rfl
  rw [e1]
  dsimp only
  rw [e2]
  dsimp only
  rw [e3]
  dsimp only
  rw [e4]
  dsimp only
  rw [hn]
  exact ⟨hb, rfl, rfl⟩
end ZR3
theorem w_within' {v lo hi r : Int32} (hr : zwi v lo hi = r) (h : zH) (d : Nat) : zCr (d + 1) 12 [.int v, .int lo, .int hi] h (.inl (some (.int r))) h := by
  subst hr; exact w_within v lo hi h d
theorem w_isIn' {v lo hi r : Int32} (hr : zwi v lo hi = r) (h : zH) (d : Nat) : zCr (d + 1) 20 [.int v, .int lo, .int hi] h (.inl (some (.int r))) h := by
  subst hr; exact w_isIn v lo hi h d
theorem w_arg1 (h : zH) (d : Nat) : zCr (d + 1) 13 [.int 1] h (.inl none) h := by
  refine zx_in rfl rfl ?_
  refine zx_go 9 rfl ?_
  exact zx_r rfl rfl
theorem w_arg0 (h : zH) (d : Nat) : zCr (d + 1) 13 [.int 0] h (.inr 0) h := by
  refine zx_in rfl rfl ?_
  refine zx_go 9 rfl ?_
  exact zx_t rfl rfl rfl rfl rfl
theorem w_st1 (h : zH) (d : Nat) : zCr (d + 1) 26 [.int 1] h (.inl none) h := by
  refine zx_in rfl rfl ?_
  refine zx_go 9 rfl ?_
  exact zx_r rfl rfl
theorem w_st0 (h : zH) (d : Nat) : zCr (d + 1) 26 [.int 0] h (.inr 1) h := by
  refine zx_in rfl rfl ?_
  refine zx_go 9 rfl ?_
  exact zx_t rfl rfl rfl rfl rfl
/-- many steps, up to a load from an array -/
def zpl2 (i : Instr) : Bool := match i with
  | .iaload => false
  | .baload => false
  | .aaload => false
  | .laload => false
  | _ => zplain i
theorem zpl2_ok {i : Instr} (h : zpl2 i = true) : zplain i = true := by
  unfold zpl2 at h
  split at h <;> first | cases h | exact h
def zgp (M : zM) (FT : zFT) (X : zX) : Nat → Nat → zL → List Value → zH → zS
  | 0, pc, lo, st, h => (pc, lo, st, h)
  | k + 1, pc, lo, st, h => match zfind (zIns M) pc with
    | some en => bif zpl2 en.2.1 then (match zstep M FT X en lo st h with
      | some (pc', lo', st', h1) => zgp M FT X k pc' lo' st' h1
      | none => (pc, lo, st, h)) else (pc, lo, st, h)
    | none => (pc, lo, st, h)
section ZR4
variable {Pg : List zM} {FT : zFT} {FN : Nat → Nat} {X : zX} {cr : Nat → List Value → zH → zO → zH → Prop} {M : zM} {o : zO} {h1 h' : zH} {nc ns : Nat}
theorem zx_gp {pc' : Nat} {lo' : zL} {st' : List Value} : ∀ (k : Nat) {pc : Nat} {lo : zL} {st : List Value} {h : zH}, zgp M FT X k pc lo st h = (pc', lo', st', h1) → zBx Pg FT FN X cr M o h' pc' lo' st' h1 nc ns → zBx Pg FT FN X cr M o h' pc lo st h nc ns := by
  intro k
  induction k with
  | zero => intro pc lo st h hg kk; unfold zgp at hg; cases hg; exact kk
  | succ k ih =>
    intro pc lo st h hg kk
    unfold zgp at hg
    split at hg
    · rename_i en hf
      cases hp : zpl2 en.2.1 with
      | false => rw [hp, cond_false] at hg; cases hg; exact kk
      | true =>
      rw [hp, cond_true] at hg
      split at hg
      · rename_i p2 l2 s2 h2 hs
        exact zx_s hf (zpl2_ok hp) hs (ih hg kk)
      · cases hg; exact kk
    · cases hg; exact kk
end ZR4
theorem zwi_in {v lo hi : Int32} (h : zwi v lo hi = 1) : lo ≤ v ∧ v ≤ hi := by
  unfold zwi zc2 at h
  dsimp only at h
  cases h1 : decide (v < lo) with
  | true => rw [h1, cond_true] at h; exact absurd h (by decide)
  | false =>
  rw [h1, cond_false] at h
  cases h2 : decide (hi < v) with
  | true => rw [h2, cond_true] at h; exact absurd h (by decide)
  | false =>
  have a1 := of_decide_eq_false h1
  have a2 := of_decide_eq_false h2
  exact ⟨Int32.not_lt.mp a1, Int32.not_lt.mp a2⟩
theorem zwi_3 {v : Int32} (h : zwi v 0 3 = 1) : v = 0 ∨ v = 1 ∨ v = 2 ∨ v = 3 := by
  obtain ⟨h1, h2⟩ := zwi_in h
  obtain ⟨j, hj, e⟩ := nI_of2 (x := v) (M := 3) (n := 3) rfl (Int32.not_lt.mpr h1) h2
  subst e
  match j, hj with
  | 0, _ => exact Or.inl rfl
  | 1, _ => exact Or.inr (Or.inl rfl)
  | 2, _ => exact Or.inr (Or.inr (Or.inl rfl))
  | 3, _ => exact Or.inr (Or.inr (Or.inr rfl))
theorem zwi_7 {v : Int32} (h : zwi v 0 7 = 1) : v = 0 ∨ v = 1 ∨ v = 2 ∨ v = 3 ∨ v = 4 ∨ v = 5 ∨ v = 6 ∨ v = 7 := by
  obtain ⟨h1, h2⟩ := zwi_in h
  obtain ⟨j, hj, e⟩ := nI_of2 (x := v) (M := 7) (n := 7) rfl (Int32.not_lt.mpr h1) h2
  subst e
  match j, hj with
  | 0, _ => exact Or.inl rfl
  | 1, _ => exact Or.inr (Or.inl rfl)
  | 2, _ => exact Or.inr (Or.inr (Or.inl rfl))
  | 3, _ => exact Or.inr (Or.inr (Or.inr (Or.inl rfl)))
  | 4, _ => exact Or.inr (Or.inr (Or.inr (Or.inr (Or.inl rfl))))
  | 5, _ => exact Or.inr (Or.inr (Or.inr (Or.inr (Or.inr (Or.inl rfl)))))
  | 6, _ => exact Or.inr (Or.inr (Or.inr (Or.inr (Or.inr (Or.inr (Or.inl rfl))))))
  | 7, _ => exact Or.inr (Or.inr (Or.inr (Or.inr (Or.inr (Or.inr (Or.inr rfl))))))
