/-! guest: its loops by induction -/
section ZR6
variable {Pg : List zM} {FT : zFT} {FN : Nat → Nat} {X : zX} {cr : Nat → List Value → zH → zO → zH → Prop} {M : zM} {o : zO} {h h' : zH} {pc nc ns t : Nat} {lo : zL} {r : List Value} {en : zN} {x y : Int32}
theorem zx_ic {cd : ClassFile.Cond} {off : Int} {b : Bool} (hf : zfind (zIns M) pc = some en) (hi : en.2.1 = .if_icmp cd off) (hx : zc2 cd x y = b) (ht : ztgt en.1 off = some t) (k : zBx Pg FT FN X cr M o h' (bif b then t else pc + 3) lo r h nc ns) : zBx Pg FT FN X cr M o h' pc lo (.int y :: .int x :: r) h nc ns := by
  have hpc := (zfind_eq hf).2
  refine zx_s hf (by rw [hi]; rfl) ?_ k
  unfold zstep
  rw [hi]
  dsimp only [zpush, zlod, zsto, zjmp, z2]
  rw [ht]
  dsimp only
  rw [hx, hpc]
theorem zx_gf {q ci b ix : Nat} {fs : List Value} {v : Value} (hf : zfind (zIns M) pc = some en) (hi : en.2.1 = .getfield ix) (ha : en.2.2.2.1 = ci) (hb : en.2.2.2.2.1 = b) (hq : h[q]? = some (.inr (ci, fs))) (hv : fs[b]? = some v) (k : zBx Pg FT FN X cr M o h' (pc + 3) lo (v :: r) h nc ns) : zBx Pg FT FN X cr M o h' pc lo (.ref q :: r) h nc ns := by
  have hpc := (zfind_eq hf).2
  have e : zfld en.2.2.2.1 en.2.2.2.2.1 (.ref q :: r) h = some (v, r) := by
    unfold zfld
    dsimp only [zr1]
    rw [hq]
    dsimp only
    rw [ha, Nat.beq_refl, cond_true, hb, hv]
  refine zx_s hf (by rw [hi]; rfl) ?_ k
  unfold zstep
  rw [hi]
  dsimp only [zpush, zlod, zsto, zjmp]
  rw [e]
  dsimp only
  rw [hpc]
theorem zx_ias {q n : Nat} {f : Nat → Int32} {j : Int32} (hf : zfind (zIns M) pc = some en) (hi : en.2.1 = .iastore) (hq : h[q]? = some (.inl (0, n, .inl f))) (hz : zin j n = true) (k : zBx Pg FT FN X cr M o h' (pc + 1) lo r (h.set q (.inl (0, n, .inl (upd f j.toNatClampNeg x)))) nc ns) : zBx Pg FT FN X cr M o h' pc lo (.int x :: .int j :: .ref q :: r) h nc ns := by
  have hpc := (zfind_eq hf).2
  have e0 : zal .iastore X (.int x :: .int j :: .ref q :: r) h = none := rfl
  have e : zas .iastore (.int x :: .int j :: .ref q :: r) h = some (r, h.set q (.inl (0, n, .inl (upd f j.toNatClampNeg x)))) := by
    unfold zas
    dsimp only [zvir]
    rw [hq]
    show (bif zin j n then some (r, _) else none) = _
    rw [hz]
    rfl
  refine zx_s hf (by rw [hi]; rfl) ?_ k
  unfold zstep
  rw [hi]
  dsimp only [zpush, zlod, zsto, zjmp]
  rw [e0]
  dsimp only
  rw [e]
  dsimp only
  rw [hpc]
end ZR6
/-- n zeros from place k on -/
def zfil : Nat → Nat → (Nat → Int32) → Nat → Int32
  | 0, _, f => f
  | n + 1, k, f => zfil n (k + 1) (upd f k 0)
theorem zset_same {h : zH} {a : Nat} {c : zE} (e : h[a]? = some c) : h.set a c = h := by
  apply List.ext_getElem?
  intro i
  rw [List.getElem?_set]
  split
  · rename_i hi
    subst hi
    split
    · exact e.symm
    · rename_i hl
      rw [List.getElem?_eq_none (Nat.le_of_not_lt hl)] at e
      cases e
  · rfl
theorem zset_at {h : zH} {a : Nat} {c c' : zE} (e : h[a]? = some c) : (h.set a c')[a]? = some c' := by
  rw [List.getElem?_set]
  obtain ⟨hl, -⟩ := List.getElem?_eq_some_iff.mp e
  rw [if_pos rfl, if_pos hl]
theorem zset_ne {h : zH} {a b : Nat} {c : zE} (e : ¬ a = b) : (h.set a c)[b]? = h[b]? := by
  rw [List.getElem?_set, if_neg e]
section ZLP
variable {cr : Nat → List Value → zH → zO → zH → Prop} {o : zO} {h' : zH} {nc ns : Nat}
abbrev zBz (cr : Nat → List Value → zH → zO → zH → Prop) (M : zM) (o : zO) (h' : zH) (pc : Nat) (lo : zL) (st : List Value) (h : zH) (nc ns : Nat) : Prop := zBx zPg zft zfn zX0 cr M o h' pc lo st h nc ns
theorem b_loop {dk a : Nat} {fs : List Value} (hda : ¬ a = dk) : ∀ (n k : Nat) (f : Nat → Int32) (h : zH), k + n = 256 → h[dk]? = some (.inr (1, .ref a :: fs)) → h[a]? = some (.inl (0, 256, .inl f)) → zBz cr zm_16 o h' 22 [(1, .int (nI 256)), (0, .ref dk)] [] (h.set a (.inl (0, 256, .inl (zfil n k f)))) nc ns → zBz cr zm_16 o h' 2 [(1, .int (nI k)), (0, .ref dk)] [] h nc ns := by
  intro n
  induction n with
  | zero =>
    intro k f h hk hd ha kk
    obtain rfl : k = 256 := hk
    refine zx_go 2 rfl ?_
    refine zx_ic (b := true) rfl rfl (by decide) rfl ?_
    rw [show (zfil 0 256 f) = f from rfl, zset_same ha] at kk
    exact kk
  | succ n ih =>
    intro k f h hk hd ha kk
    have hk1 : k < 256 := by omega
    refine zx_go 2 rfl ?_
    refine zx_ic (b := false) rfl rfl (decide_eq_false (nI_ge hk1 (by decide))) rfl ?_
    refine zx_go 1 rfl ?_
    refine zx_gf rfl rfl rfl rfl hd rfl ?_
    refine zx_go 2 rfl ?_
    refine zx_ias rfl rfl ha (zin_nI hk1 (by decide)) ?_
    refine zx_go 2 rfl ?_
    rw [nI_clamp (by omega)]
    have e : nI k + Int32.ofInt 1 = nI (k + 1) := nI_1 k
    show zBz cr zm_16 o h' 2 [(1, .int (nI k + Int32.ofInt 1)), (0, .ref dk)] [] _ nc ns
    rw [e]
    refine ih (k + 1) (upd f k 0) _ (by omega) (by rw [zset_ne hda]; exact hd) (zset_at ha) ?_
    rw [List.set_set]
    exact kk
theorem m_loop {p : Int32} {w1 w3 : Value} {fs : List Value} {a : Nat} (hf : fs[20]? = some (.ref a)) (hda : ¬ a = 113) : ∀ (n k : Nat) (f : Nat → Int32) (h : zH), k + n = 256 → h[113]? = some (.inr (11, fs)) → h[a]? = some (.inl (0, 1024, .inl f)) → zBz cr zm_23 o h' 216 [(4, .int (nI 256)), (3, w3), (2, .int 0), (0, .ref 113), (1, w1)] [] (h.set a (.inl (0, 1024, .inl (zfil n k f)))) nc ns → zBz cr zm_23 o h' 188 [(4, .int (nI k)), (3, w3), (2, .int 0), (0, .ref 113), (1, w1)] [] h nc ns := by
  intro n
  induction n with
  | zero =>
    intro k f h hk hd ha kk
    obtain rfl : k = 256 := hk
    refine zx_go 2 rfl ?_
    refine zx_ic (b := true) rfl rfl (by decide) rfl ?_
    rw [show (zfil 0 256 f) = f from rfl, zset_same ha] at kk
    exact kk
  | succ n ih =>
    intro k f h hk hd ha kk
    have hk1 : k < 256 := by omega
    refine zx_go 2 rfl ?_
    refine zx_ic (b := false) rfl rfl (decide_eq_false (nI_ge hk1 (by decide))) rfl ?_
    refine zx_go 1 rfl ?_
    refine zx_gf rfl rfl rfl rfl hd hf ?_
    refine zx_go 6 rfl ?_
    have e0 : (256 : Int32) * 0 + nI k = nI k := by rw [show (256 : Int32) * 0 = nI 0 from rfl, nI_add, Nat.zero_add]
    show zBz cr zm_23 o h' 209 [(4, .int (nI k)), (3, w3), (2, .int 0), (0, .ref 113), (1, w1)] [.int 0, .int (256 * 0 + nI k), .ref a] h nc ns
    rw [e0]
    refine zx_ias rfl rfl ha (zin_nI (n := 1024) (by omega) (by decide)) ?_
    refine zx_go 2 rfl ?_
    rw [nI_clamp (by omega)]
    have e : nI k + Int32.ofInt 1 = nI (k + 1) := nI_1 k
    show zBz cr zm_23 o h' 188 [(4, .int (nI k + Int32.ofInt 1)), (3, w3), (2, .int 0), (0, .ref 113), (1, w1)] [] _ nc ns
    rw [e]
    refine ih (k + 1) (upd f k 0) _ (by omega) (by rw [zset_ne hda]; exact hd) (zset_at ha) ?_
    rw [List.set_set]
    exact kk
end ZLP
