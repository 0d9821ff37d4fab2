/-! WALKS whose end is told by a property; guest on the fresh object -/
section ZQ
variable {cr : Nat → List Value → zH → zO → zH → Prop} {M M' : zM} {Q : zO → zH → Prop} {h : zH} {pc nc ns : Nat} {lo : zL} {st : List Value} {en : zN}
theorem zx_pf {Pg : List zM} {FT : zFT} {FN : Nat → Nat} {X : zX} {o : zO} {h' : zH} {r : List Value} {q ci ix : Nat} {fs : List Value} {v : Value} (hf : zfind (zIns M) pc = some en) (hi : en.2.1 = .putfield ix) (hq : h[q]? = some (.inr (ci, fs))) (hok : (Nat.beq ci en.2.2.2.1 && zfits (FT en.2.2.2.1 en.2.2.2.2.1).1 v && Nat.blt en.2.2.2.2.1 fs.length && (!(FT en.2.2.2.1 en.2.2.2.2.1).2 || (Nat.beq (zKind M).1 2 && Nat.beq (zKind M).2.1 en.2.2.2.1))) = true) (k : zBx Pg FT FN X cr M o h' (pc + 3) lo r (h.set q (.inr (ci, fs.set en.2.2.2.2.1 v))) nc ns) : zBx Pg FT FN X cr M o h' pc lo (v :: .ref q :: r) h nc ns := by
  have hpc := (zfind_eq hf).2
  have e : zpf M FT en.2.2.2.1 en.2.2.2.2.1 (v :: .ref q :: r) h = some (r, h.set q (.inr (ci, fs.set en.2.2.2.2.1 v))) := by
    unfold zpf
    dsimp only [zvr]
    rw [hq]
    dsimp only
    rw [hok, cond_true]
  refine zx_s hf (by rw [hi]; rfl) ?_ k
  unfold zstep
  rw [hi]
  dsimp only [zpush, zlod, zsto, zjmp]
  rw [e]
  dsimp only
  rw [hpc]
def zBq (cr : Nat → List Value → zH → zO → zH → Prop) (M : zM) (Q : zO → zH → Prop) (pc : Nat) (lo : zL) (st : List Value) (h : zH) (nc ns : Nat) : Prop := ∃ (o : zO) (h' : zH), zBz cr M o h' pc lo st h nc ns ∧ Q o h'
def zCq (d z : Nat) (a : List Value) (h : zH) (Q : zO → zH → Prop) : Prop := ∃ (o : zO) (h' : zH), zCr d z a h o h' ∧ Q o h'
theorem zq_of {pc2 nc2 ns2 : Nat} {lo2 : zL} {st2 : List Value} {h2 : zH} (f : ∀ (o : zO) (h' : zH), zBz cr M o h' pc2 lo2 st2 h2 nc2 ns2 → zBz cr M o h' pc lo st h nc ns) (k : zBq cr M Q pc2 lo2 st2 h2 nc2 ns2) : zBq cr M Q pc lo st h nc ns := by
  obtain ⟨o, h', k1, k2⟩ := k
  exact ⟨o, h', f o h' k1, k2⟩
theorem zq_in {z d : Nat} {a : List Value} (hM : zPg[z]? = some M) (hb : (Nat.ble a.length (zMaxL M) && a.all (fun v => Nat.beq v.category 1)) = true) (k : zBq (zCR zPg zft zfn zX0 d) M Q 0 (zargs 0 a) [] h 0 0) : zCq (d + 1) z a h Q := by
  obtain ⟨o, h', k1, k2⟩ := k
  exact ⟨o, h', zx_in hM hb k1, k2⟩
theorem zq_r {r : Option Value} (hf : zfind (zIns M) pc = some en) (he : zend en.2.1 (zRet M) st = some r) (hq : Q (.inl r) h) : zBq cr M Q pc lo st h nc ns := ⟨_, _, zx_r hf he, hq⟩
/-- a call, walked in place -/
theorem zq_c {d kd : Nat} {a r : List Value} (hf : zfind (zIns M) pc = some en) (hc : zcl en.2.1 = some kd) (ho : zown M en st = none) (hi : zinv zPg M en kd st h nc ns = some (M', a, r)) (k : zCq d en.2.2.2.1 a h (fun o h1 => ∃ v, o = .inl v ∧ zBq (zCR zPg zft zfn zX0 d) M Q (pc + 3) lo (v.toList ++ r) h1 (nc + (zRoom M').2.2.1) (ns + (zRoom M').2.2.2))) : zBq (zCR zPg zft zfn zX0 d) M Q pc lo st h nc ns := by
  obtain ⟨o1, h1, k1, v, rfl, o, h', k2, k3⟩ := k
  exact ⟨o, h', zx_c hf hc ho hi k1 k2, k3⟩
theorem b_loopq {dk a : Nat} {fs : List Value} {f : Nat → Int32} (hda : ¬ a = dk) (hd : h[dk]? = some (.inr (1, .ref a :: fs))) (ha : h[a]? = some (.inl (0, 256, .inl f))) (k : ∀ f' : Nat → Int32, zBq cr zm_16 Q 22 [(1, .int 256), (0, .ref dk)] [] (h.set a (.inl (0, 256, .inl f'))) nc ns) : zBq cr zm_16 Q 2 [(1, .int 0), (0, .ref dk)] [] h nc ns :=
  zq_of (fun _ _ q => b_loop hda 256 0 f h rfl hd ha q) (k _)
theorem m_loopq {w1 w3 : Value} {fs : List Value} {a : Nat} {f : Nat → Int32} (hda : ¬ a = 113) (hd : h[113]? = some (.inr (11, fs))) (hf : fs[20]? = some (.ref a)) (ha : h[a]? = some (.inl (0, 1024, .inl f))) (k : ∀ f' : Nat → Int32, zBq cr zm_23 Q 216 [(4, .int 256), (3, w3), (2, .int 0), (0, .ref 113), (1, w1)] [] (h.set a (.inl (0, 1024, .inl f'))) nc ns) : zBq cr zm_23 Q 188 [(4, .int 0), (3, w3), (2, .int 0), (0, .ref 113), (1, w1)] [] h nc ns :=
  zq_of (fun _ _ q => m_loop (p := 0) hf hda 256 0 f h rfl hd ha q) (k _)
theorem zq_pf {r : List Value} {q ci ix : Nat} {c0 : zE} {fs : List Value} {v : Value} (h0 : h[q]? = some c0) (hf : zfind (zIns M) pc = some en) (hi : en.2.1 = .putfield ix) (hok : (Nat.beq ci en.2.2.2.1 && zfits (zft en.2.2.2.1 en.2.2.2.2.1).1 v && Nat.blt en.2.2.2.2.1 fs.length && (!(zft en.2.2.2.1 en.2.2.2.2.1).2 || (Nat.beq (zKind M).1 2 && Nat.beq (zKind M).2.1 en.2.2.2.1))) = true) (k : zBq cr M Q (pc + 3) lo r (h.set q (.inr (ci, fs.set en.2.2.2.2.1 v))) nc ns) : zBq cr M Q pc lo (v :: .ref q :: r) (h.set q (.inr (ci, fs))) nc ns := by
  refine zq_of (fun _ _ k => zx_pf hf hi (zset_at h0) hok k) ?_
  rw [List.set_set]
  exact k
theorem q_dbegin {d : Nat} {f : Nat → Int32} (h15 : h[15]? = some (.inr (1, [.ref 16, .int 0, .int 0, .int 0]))) (h16 : h[16]? = some (.inl (0, 256, .inl f))) (k : ∀ c15 c16 : zE, Q (.inl none) ((h.set 16 c16).set 15 c15)) : zCq (d + 1) 16 [.ref 15] h Q := by
  refine zq_in rfl rfl ?_
  refine zq_of (fun _ _ k => zx_go 2 rfl k) ?_
  refine b_loopq (dk := 15) (a := 16) (by decide) h15 h16 (fun f1 => ?_)
  have h15' : (h.set 16 (.inl (0, 256, .inl f1)))[15]? = some (.inr (1, [.ref 16, .int 0, .int 0, .int 0])) := by rw [zset_ne (by decide)]; exact h15
  rw [← zset_same h15']
  refine zq_of (fun _ _ k => zx_go 2 rfl k) ?_
  refine zq_pf h15' rfl rfl rfl ?_
  refine zq_of (fun _ _ k => zx_go 2 rfl k) ?_
  refine zq_pf h15' rfl rfl rfl ?_
  refine zq_of (fun _ _ k => zx_go 2 rfl k) ?_
  refine zq_pf h15' rfl rfl rfl ?_
  exact zq_r rfl rfl (k _ _)
theorem zinv_of {Pg : List zM} {kd : Nat} {a r : List Value} {h2 : zH} (e : zinv Pg M en kd st h2 nc ns = some (M', a, r)) (hr : zrec kd M' a h = true) : zinv Pg M en kd st h nc ns = some (M', a, r) := by
  unfold zinv at e ⊢
  cases h1 : Pg[en.2.2.2.1]? with
  | none => rw [h1] at e; cases e
  | some m =>
  rw [h1] at e
  dsimp only at e ⊢
  cases h3 : zpk (en.2.2.2.2.2 + (bif Nat.beq kd 1 then 0 else 1)) st with
  | none => rw [h3] at e; cases e
  | some q =>
  obtain ⟨a', r'⟩ := q
  rw [h3] at e
  dsimp only at e ⊢
  cases hb : a'.all zpl && Nat.ble en.2.2.2.2.1 1 && (Nat.beq (zKind m).1 kd && (Nat.ble (zWt r') 8 && (zfitr M m nc ns && zrec kd m a' h2))) with
  | false => rw [hb, cond_false] at e; cases e
  | true =>
  rw [hb, cond_true] at e
  cases e
  simp only [Bool.and_eq_true] at hb
  rw [hb.1.1, hb.1.2, hb.2.1, hb.2.2.1, hb.2.2.2.1, hr]
  rfl
theorem zrec_of {kd b ci : Nat} {l : List Value} {fs : List Value} (e : h[b]? = some (.inr (ci, fs))) (hk : (Nat.beq kd 1 || Nat.beq ci (zKind M').2.1) = true) : zrec kd M' (.ref b :: l) h = true := by
  unfold zrec
  dsimp only
  rw [e]
  exact hk
theorem q_gbegin {d : Nat} {p : Int32} {f : Nat → Int32} (h13 : h[13]? = some (.inr (2, [.int 0, .int 0, .int 0, .int 0, .int 0, .int 0, .int 0, .int 0, .int 0, .int 0, .int 0, .ref 14, .ref 15, .ref 17]))) (h15 : h[15]? = some (.inr (1, [.ref 16, .int 0, .int 0, .int 0]))) (h16 : h[16]? = some (.inl (0, 256, .inl f))) (h17 : h[17]? = some (.inr (4, [.ref 18, .int 0]))) (k : ∀ c13 c15 c16 c17 : zE, Q (.inl none) ((((h.set 13 c13).set 16 c16).set 15 c15).set 17 c17)) : zCq (d + 2) 17 [.ref 13, .int p, .int 0] h Q := by
  refine zq_in rfl rfl ?_
  rw [← zset_same h13]
  refine zq_of (fun _ _ k => zx_go 2 rfl k) ?_
  refine zq_pf h13 rfl rfl rfl ?_
  refine zq_of (fun _ _ k => zx_go 2 rfl k) ?_
  refine zq_pf h13 rfl rfl rfl ?_
  refine zq_of (fun _ _ k => zx_go 2 rfl k) ?_
  refine zq_pf h13 rfl rfl rfl ?_
  refine zq_of (fun _ _ k => zx_go 2 rfl k) ?_
  refine zq_pf h13 rfl rfl rfl ?_
  refine zq_of (fun _ _ k => zx_go 2 rfl k) ?_
  refine zq_pf h13 rfl rfl rfl ?_
  refine zq_of (fun _ _ k => zx_go 2 rfl k) ?_
  refine zq_pf h13 rfl rfl rfl ?_
  refine zq_of (fun _ _ k => zx_go 2 rfl k) ?_
  refine zq_pf h13 rfl rfl rfl ?_
  refine zq_of (fun _ _ k => zx_go 2 rfl k) ?_
  refine zq_pf h13 rfl rfl rfl ?_
  refine zq_of (fun _ _ k => zx_go 2 rfl k) ?_
  refine zq_pf h13 rfl rfl rfl ?_
  refine zq_of (fun _ _ k => zx_go 2 rfl k) ?_
  refine zq_pf h13 rfl rfl rfl ?_
  refine zq_of (fun _ _ k => zx_go 1 rfl k) ?_
  refine zq_of (fun _ _ k => zx_gf rfl rfl rfl rfl (zset_at h13) rfl k) ?_
  refine zq_c rfl rfl rfl (zinv_of (h2 := zrls (fun _ _ => 0) (fun _ _ => none) 0 zsh) rfl (zrec_of (b := 15) (l := []) ((zset_ne (by decide)).trans h15) rfl)) ?_
  refine q_dbegin (by rw [zset_ne (by decide)]; exact h15) (by rw [zset_ne (by decide)]; exact h16) (fun c15 c16 => ?_)
  refine ⟨_, rfl, ?_⟩
  refine zq_of (fun _ _ k => zx_go 1 rfl k) ?_
  refine zq_of (fun _ _ k => zx_gf rfl rfl rfl rfl (by rw [zset_ne (by decide), zset_ne (by decide)]; exact zset_at h13) rfl k) ?_
  refine zq_of (fun _ _ k => zx_go 1 rfl k) ?_
  have h17' : ∀ c13 : zE, (((h.set 13 c13).set 16 c16).set 15 c15)[17]? = some (.inr (4, [.ref 18, .int 0])) := fun c13 => by rw [zset_ne (by decide), zset_ne (by decide), zset_ne (by decide)]; exact h17
  refine zq_of (fun _ _ k => zx_pf rfl rfl (h17' _) rfl k) ?_
  exact zq_r rfl rfl (k _ _ _ _)

/-- the model's cells are as ever *by their shapes* -/
def zP (c : zE) (h : zH) : Prop := h[113]? = some (.inr (11, zmf)) ∧ h[148]? = some c ∧ ∀ (q : Nat) (s : Nat × Nat), zsh[q]? = some (.inl s) → 114 ≤ q → s.1 ≤ 1 → ∃ f, h[q]? = some (.inl (s.1, s.2, .inl f))
theorem zsh_len : zsh.length = 148 := by decide +kernel
theorem zP_lo {c c' : zE} {q : Nat} (hq : q < 113) (hP : zP c h) : zP c (h.set q c') := by
  refine ⟨?_, ?_, ?_⟩
  · rw [zset_ne (by omega)]; exact hP.1
  · rw [zset_ne (by omega)]; exact hP.2.1
  · intro q' s h1 h2 h3
    rw [zset_ne (by omega)]; exact hP.2.2 q' s h1 h2 h3
theorem zP_out {c c' : zE} (hP : zP c h) : zP c' (h.set 148 c') := by
  refine ⟨?_, zset_at hP.2.1, ?_⟩
  · rw [zset_ne (by omega)]; exact hP.1
  · intro q' s h1 h2 h3
    have hl : q' < 148 := by
      have := (List.getElem?_eq_some_iff.mp h1).1
      rw [zsh_len] at this; exact this
    rw [zset_ne (by omega)]; exact hP.2.2 q' s h1 h2 h3
theorem zP_set {c : zE} {q n kd : Nat} {f g : Nat → Int32} (hq : zsh[q]? = some (.inl (kd, n))) (h114 : 114 ≤ q) (he : h[q]? = some (.inl (kd, n, .inl f))) (hP : zP c h) : zP c (h.set q (.inl (kd, n, .inl g))) := by
  have hl : q < 148 := by
    have := (List.getElem?_eq_some_iff.mp hq).1
    rw [zsh_len] at this; exact this
  refine ⟨?_, ?_, ?_⟩
  · rw [zset_ne (by omega)]; exact hP.1
  · rw [zset_ne (by omega)]; exact hP.2.1
  · intro q' s h1 h2 h3
    by_cases hqq : q = q'
    · subst hqq
      rw [hq] at h1
      cases h1
      exact ⟨g, zset_at he⟩
    · rw [zset_ne hqq]; exact hP.2.2 q' s h1 h2 h3
theorem zrls_at {F : Nat → Nat → Int32} {G : Nat → Nat → Option Nat} : ∀ (l : List zSh) (k i : Nat) (s : zSh), l[i]? = some s → (zrls F G k l)[i]? = some (zrl F G (k + i) s) := by
  intro l
  induction l with
  | nil => intro k i s h; cases h
  | cons a l ih =>
    intro k i s h
    cases i with
    | zero => cases h; rfl
    | succ i =>
      have := ih (k + 1) i s h
      rw [show k + (i + 1) = k + 1 + i by omega]
      exact this
theorem zP_x {F : Nat → Nat → Int32} {G : Nat → Nat → Option Nat} {L : Nat → Int64} : zP (.inl (2, 1, .inr (.inl L))) (zHx F G L) := by
  refine ⟨rfl, rfl, ?_⟩
  intro q s h1 h2 h3
  have e := zrls_at (F := F) (G := G) zsh 0 q (.inl s) h1
  refine ⟨F (0 + q), ?_⟩
  unfold zHx
  rw [List.getElem?_append_left (List.getElem?_eq_some_iff.mp e).1, e]
  obtain ⟨kd, n⟩ := s
  unfold zrl
  dsimp only
  rw [Nat.ble_eq_true_of_le h3]
  rfl
theorem zq_ast {c : zE} {q n : Nat} {j x : Int32} {r : List Value} (hP : zP c h) (hq : zsh[q]? = some (.inl (0, n))) (h114 : 114 ≤ q) (hf : zfind (zIns M) pc = some en) (hi : en.2.1 = .iastore) (hz : zin j n = true) (k : ∀ h2 : zH, zP c h2 → zBq cr M Q (pc + 1) lo r h2 nc ns) : zBq cr M Q pc lo (.int x :: .int j :: .ref q :: r) h nc ns := by
  obtain ⟨f, e⟩ := hP.2.2 q (0, n) hq h114 (Nat.zero_le 1)
  refine zq_of (fun _ _ k => zx_ias hf hi e hz k) ?_
  exact k _ (zP_set hq h114 e hP)
theorem zq_bst {c : zE} {q n : Nat} {j x : Int32} {r : List Value} (hP : zP c h) (hq : zsh[q]? = some (.inl (1, n))) (h114 : 114 ≤ q) (hf : zfind (zIns M) pc = some en) (hi : en.2.1 = .bastore) (hz : zin j n = true) (k : ∀ h2 : zH, zP c h2 → zBq cr M Q (pc + 1) lo r h2 nc ns) : zBq cr M Q pc lo (.int x :: .int j :: .ref q :: r) h nc ns := by
  obtain ⟨f, e⟩ := hP.2.2 q (1, n) hq h114 (Nat.le_refl 1)
  have hpc := (zfind_eq hf).2
  have e0 : zal .bastore zX0 (.int x :: .int j :: .ref q :: r) h = none := rfl
  have e1 : zas .bastore (.int x :: .int j :: .ref q :: r) h = some (r, h.set q (.inl (1, n, .inl (upd f j.toNatClampNeg (vp_nar .boolean x))))) := by
    unfold zas
    dsimp only [zvir]
    rw [e]
    show (bif zin j n then some (r, _) else none) = _
    rw [hz]
    rfl
  refine zq_of (fun _ _ k => zx_s hf (by rw [hi]; rfl) ?_ k) (k _ (zP_set (g := upd f j.toNatClampNeg (vp_nar .boolean x)) hq h114 e hP))
  unfold zstep
  rw [hi]
  dsimp only [zpush, zlod, zsto, zjmp]
  rw [e0]
  dsimp only
  rw [e1]
  dsimp only
  rw [hpc]
theorem q_mguest {c : zE} {p : Int32} (hP : zP c h) (h0 : zwi p 1 128 = 1) (e120 : ∃ f, h[120]? = some (.inl (1, 4, .inl f)) ∧ f 0 = 0) (e115 : ∃ f, h[115]? = some (.inl (0, 128, .inl f)) ∧ f 0 = 0) (k : ∀ h2 : zH, zP c h2 → Q (.inl (some (.int 0))) h2) : zCq 8 23 [.ref 113, .int p] h Q := by
  obtain ⟨f120, a1, a2⟩ := e120
  obtain ⟨f115, b1, b2⟩ := e115
  refine zq_in rfl rfl ?_
  refine zq_of (fun _ _ k => zx_go 4 rfl k) ?_
  refine zq_of (fun _ _ k => zx_c rfl rfl rfl rfl (w_isIn' (lo := 1) (hi := 128) h0 _ _) k) ?_
  refine zq_of (fun _ _ k => zx_go 3 rfl k) ?_
  refine zq_c rfl rfl rfl (zinv_of (h2 := zHx (fun _ _ => 0) (fun _ _ => none) (fun _ => 0)) rfl (zrec_of (b := 113) hP.1 rfl)) ?_
  refine zq_in rfl rfl ?_
  refine zq_of (fun _ _ k => zx_go 2 rfl k) ?_
  refine zq_of (fun _ _ k => zx_pf rfl rfl hP.1 rfl k) ?_
  have es : h.set 113 (.inr (11, zmf.set 0 (.int 0))) = h := zset_same hP.1
  refine zq_of (fun o h' k => (show zBz _ _ o h' _ _ _ (h.set 113 (.inr (11, zmf.set 0 (.int 0)))) _ _ from (by rw [es]; exact k))) ?_
  refine zq_of (fun _ _ k => zx_go 9 rfl k) ?_
  refine zq_r rfl rfl ?_
  refine ⟨_, rfl, ?_⟩
  refine zq_of (fun _ _ k => zx_go 7 rfl k) ?_
  refine zq_of (fun _ _ k => zx_gf rfl rfl rfl rfl hP.1 rfl k) ?_
  refine zq_of (fun _ _ k => zx_go 1 rfl k) ?_
  refine zq_of (fun _ _ k => zx_bal rfl rfl a1 rfl a2 k) ?_
  refine zq_of (fun _ _ k => zx_go 2 rfl k) ?_
  refine zq_c rfl rfl rfl (zinv_of (h2 := zHx (fun _ _ => 0) (fun _ _ => none) (fun _ => 0)) rfl (zrec_of (b := 113) hP.1 rfl)) ?_
  refine zq_in rfl rfl ?_
  refine zq_of (fun _ _ k => zx_go 6 rfl k) ?_
  refine zq_of (fun _ _ k => zx_gf rfl rfl rfl rfl hP.1 rfl k) ?_
  refine zq_of (fun _ _ k => zx_go 1 rfl k) ?_
  refine zq_of (fun _ _ k => zx_ial rfl rfl b1 rfl b2 k) ?_
  refine zq_of (fun _ _ k => zx_go 2 rfl k) ?_
  refine zq_r rfl rfl ?_
  refine ⟨_, rfl, ?_⟩
  refine zq_of (fun _ _ k => zx_go 6 rfl k) ?_
  refine zq_of (fun _ _ k => zx_go 1 rfl k) ?_
  refine zq_of (fun _ _ k => zx_gf rfl rfl rfl rfl hP.1 rfl k) ?_
  refine zq_of (fun _ _ k => zx_go 2 rfl k) ?_
  refine zq_bst hP rfl (by decide) rfl rfl rfl (fun g0 P0 => ?_)
  refine zq_of (fun _ _ k => zx_go 1 rfl k) ?_
  refine zq_of (fun _ _ k => zx_gf rfl rfl rfl rfl P0.1 rfl k) ?_
  refine zq_of (fun _ _ k => zx_go 2 rfl k) ?_
  refine zq_ast P0 rfl (by decide) rfl rfl rfl (fun g1 P1 => ?_)
  refine zq_of (fun _ _ k => zx_go 1 rfl k) ?_
  refine zq_of (fun _ _ k => zx_gf rfl rfl rfl rfl P1.1 rfl k) ?_
  refine zq_of (fun _ _ k => zx_go 2 rfl k) ?_
  refine zq_ast P1 rfl (by decide) rfl rfl rfl (fun g2 P2 => ?_)
  refine zq_of (fun _ _ k => zx_go 1 rfl k) ?_
  refine zq_of (fun _ _ k => zx_gf rfl rfl rfl rfl P2.1 rfl k) ?_
  refine zq_of (fun _ _ k => zx_go 2 rfl k) ?_
  refine zq_ast P2 rfl (by decide) rfl rfl rfl (fun g3 P3 => ?_)
  refine zq_of (fun _ _ k => zx_go 1 rfl k) ?_
  refine zq_of (fun _ _ k => zx_gf rfl rfl rfl rfl P3.1 rfl k) ?_
  refine zq_of (fun _ _ k => zx_go 2 rfl k) ?_
  refine zq_ast P3 rfl (by decide) rfl rfl rfl (fun g4 P4 => ?_)
  refine zq_of (fun _ _ k => zx_go 1 rfl k) ?_
  refine zq_of (fun _ _ k => zx_gf rfl rfl rfl rfl P4.1 rfl k) ?_
  refine zq_of (fun _ _ k => zx_go 2 rfl k) ?_
  refine zq_ast P4 rfl (by decide) rfl rfl rfl (fun g5 P5 => ?_)
  refine zq_of (fun _ _ k => zx_go 1 rfl k) ?_
  refine zq_of (fun _ _ k => zx_gf rfl rfl rfl rfl P5.1 rfl k) ?_
  refine zq_of (fun _ _ k => zx_go 2 rfl k) ?_
  refine zq_ast P5 rfl (by decide) rfl rfl rfl (fun g6 P6 => ?_)
  refine zq_of (fun _ _ k => zx_go 1 rfl k) ?_
  refine zq_of (fun _ _ k => zx_gf rfl rfl rfl rfl P6.1 rfl k) ?_
  refine zq_of (fun _ _ k => zx_go 2 rfl k) ?_
  refine zq_ast P6 rfl (by decide) rfl rfl rfl (fun g7 P7 => ?_)
  refine zq_of (fun _ _ k => zx_go 1 rfl k) ?_
  refine zq_of (fun _ _ k => zx_gf rfl rfl rfl rfl P7.1 rfl k) ?_
  refine zq_of (fun _ _ k => zx_go 2 rfl k) ?_
  refine zq_ast P7 rfl (by decide) rfl rfl rfl (fun g8 P8 => ?_)
  refine zq_of (fun _ _ k => zx_go 1 rfl k) ?_
  refine zq_of (fun _ _ k => zx_gf rfl rfl rfl rfl P8.1 rfl k) ?_
  refine zq_of (fun _ _ k => zx_go 2 rfl k) ?_
  refine zq_ast P8 rfl (by decide) rfl rfl rfl (fun g9 P9 => ?_)
  refine zq_of (fun _ _ k => zx_go 1 rfl k) ?_
  refine zq_of (fun _ _ k => zx_gf rfl rfl rfl rfl P9.1 rfl k) ?_
  refine zq_of (fun _ _ k => zx_go 2 rfl k) ?_
  refine zq_ast P9 rfl (by decide) rfl rfl rfl (fun g10 P10 => ?_)
  refine zq_of (fun _ _ k => zx_go 1 rfl k) ?_
  refine zq_of (fun _ _ k => zx_gf rfl rfl rfl rfl P10.1 rfl k) ?_
  refine zq_of (fun _ _ k => zx_go 2 rfl k) ?_
  refine zq_ast P10 rfl (by decide) rfl rfl rfl (fun g11 P11 => ?_)
  refine zq_of (fun _ _ k => zx_go 1 rfl k) ?_
  refine zq_of (fun _ _ k => zx_gf rfl rfl rfl rfl P11.1 rfl k) ?_
  refine zq_of (fun _ _ k => zx_go 2 rfl k) ?_
  refine zq_ast P11 rfl (by decide) rfl rfl rfl (fun g12 P12 => ?_)
  refine zq_of (fun _ _ k => zx_go 1 rfl k) ?_
  refine zq_of (fun _ _ k => zx_gf rfl rfl rfl rfl P12.1 rfl k) ?_
  refine zq_of (fun _ _ k => zx_go 2 rfl k) ?_
  refine zq_ast P12 rfl (by decide) rfl rfl rfl (fun g13 P13 => ?_)
  refine zq_of (fun _ _ k => zx_go 1 rfl k) ?_
  refine zq_of (fun _ _ k => zx_gf rfl rfl rfl rfl P13.1 rfl k) ?_
  refine zq_of (fun _ _ k => zx_go 2 rfl k) ?_
  refine zq_ast P13 rfl (by decide) rfl rfl rfl (fun g14 P14 => ?_)
  refine zq_of (fun _ _ k => zx_go 1 rfl k) ?_
  refine zq_of (fun _ _ k => zx_gf rfl rfl rfl rfl P14.1 rfl k) ?_
  refine zq_of (fun _ _ k => zx_go 2 rfl k) ?_
  refine zq_ast P14 rfl (by decide) rfl rfl rfl (fun g15 P15 => ?_)
  refine zq_of (fun _ _ k => zx_go 1 rfl k) ?_
  refine zq_of (fun _ _ k => zx_gf rfl rfl rfl rfl P15.1 rfl k) ?_
  refine zq_of (fun _ _ k => zx_go 2 rfl k) ?_
  refine zq_ast P15 rfl (by decide) rfl rfl rfl (fun g16 P16 => ?_)
  refine zq_of (fun _ _ k => zx_go 2 rfl k) ?_
  obtain ⟨fw, ew⟩ := P16.2.2 132 (0, 1024) rfl (by decide) (by decide)
  refine m_loopq (fs := zmf) (a := 132) (by decide) P16.1 rfl ew (fun f2 => ?_)
  refine zq_of (fun _ _ k => zx_go 1 rfl k) ?_
  exact zq_r rfl rfl (k _ (zP_set rfl (by decide) ew P16))
end ZQ
section ZGU
variable {F : Nat → Nat → Int32} {G : Nat → Nat → Option Nat} {L : Nat → Int64}
theorem w_ff (hF : zFz F) (d : Nat) : zCr (d + 1) 14 [.ref 1] (zHx F G L) (.inl (some (.int 0))) (zHx F G L) := by
  refine zx_in rfl rfl ?_
  refine zx_gp 19 rfl ?_
  refine zx_ial (x := 0) rfl rfl rfl rfl (hF.2.1 0 (by decide)) ?_
  refine zx_gp 19 rfl ?_
  exact zx_r rfl rfl
theorem zRs_q {z m : Nat} {al am : List Value} {H : zH} (h : zCq 8 z al H (fun o h1 => ∃ k, o = .inl (some (.int k)) ∧ zR11 h1 ∧ zCq 8 m am h1 (fun o h2 => ∃ b, o = .inl (some (.int b)) ∧ zR11 h2 ∧ zCq 8 24 [.ref 113] h2 (fun o h3 => o = .inl (some (.int k)) ∧ ∃ f, h3[148]? = some (.inl (2, 1, .inr (.inl f))) ∧ (k = 0 → f 0 = b.toInt64))))) : zRs z m al am H := by
  obtain ⟨o1, h1, k1, k, rfl, r1, o2, h2, k2, b, rfl, r2, o3, h3, k3, rfl, f, e, q⟩ := h
  exact ⟨k, b, h1, h2, h3, f, k1, k2, k3, e, q, r1, r2⟩
theorem r_guest_1 (hF : zFz F) (hK : zFk F) (hG : zGk G) (p0 : Int32) (h0 : zwi p0 1 128 = 1) : zRs 19 23 [.ref 0, .int p0, .ref 148] [.ref 113, .int p0] (zHx F G L) := by
  refine zRs_q ?_
  refine zq_in rfl rfl ?_
  refine zq_of (fun _ _ k => zx_go 19 rfl k) ?_
  refine zq_c rfl rfl rfl rfl ?_
  refine zq_in rfl rfl ?_
  refine zq_of (fun _ _ k => zx_go 19 rfl k) ?_
  refine zq_of (fun _ _ k => zx_c rfl rfl rfl rfl (w_within' (lo := 1) (hi := 128) h0 _ _) k) ?_
  refine zq_of (fun _ _ k => zx_go 19 rfl k) ?_
  refine zq_of (fun _ _ k => zx_c rfl rfl rfl rfl (w_arg1 _ _) k) ?_
  refine zq_of (fun _ _ k => zx_go 19 rfl k) ?_
  refine zq_of (fun _ _ k => zx_c rfl rfl rfl rfl (w_ff hF _) k) ?_
  refine zq_of (fun _ _ k => zx_gp 19 rfl k) ?_
  refine zq_of (fun _ _ k => zx_aal3 rfl rfl rfl rfl hG.1 k) ?_
  refine zq_of (fun _ _ k => zx_gp 19 rfl k) ?_
  refine zq_c rfl rfl rfl rfl ?_
  refine zq_in rfl rfl ?_
  refine zq_of (fun _ _ k => zx_go 19 rfl k) ?_
  refine zq_r rfl rfl ?_
  refine ⟨_, rfl, ?_⟩
  refine zq_of (fun _ _ k => zx_gp 19 rfl k) ?_
  refine zq_of (fun _ _ k => zx_aal3 rfl rfl rfl rfl hG.1 k) ?_
  refine zq_of (fun _ _ k => zx_gp 19 rfl k) ?_
  refine zq_c rfl rfl rfl rfl ?_
  refine q_gbegin (by rfl) (by rfl) (by rfl) (by rfl) (fun c13 c15 c16 c17 => ?_)
  refine ⟨_, rfl, ?_⟩
  refine zq_of (fun _ _ k => zx_go 9 rfl k) ?_
  refine zq_r rfl rfl ?_
  refine ⟨_, rfl, ?_⟩
  refine zq_of (fun _ _ k => zx_go 9 rfl k) ?_
  refine zq_r rfl rfl ?_
  refine ⟨_, rfl, ⟨_, rfl⟩, ?_⟩
  refine q_mguest (c := .inl (2, 1, .inr (.inl (vp_updL L (Int32.ofInt 0).toNatClampNeg (Int32.ofInt 0).toInt64)))) ?_ h0 ⟨_, rfl, hK.1⟩ ⟨_, rfl, hF.2.2.2.2.2 0 (by decide)⟩ (fun h5 hP => ?_)
  · repeat (first | refine zP_out (c := .inl (2, 1, .inr (.inl L))) ?_ | refine zP_lo (by decide) ?_ | exact zP_x)
  refine ⟨_, rfl, ⟨_, hP.1⟩, ?_⟩
  refine zq_in rfl rfl ?_
  refine zq_of (fun _ _ k => zx_go 1 rfl k) ?_
  refine zq_of (fun _ _ k => zx_gf rfl rfl rfl rfl hP.1 rfl k) ?_
  refine zq_r rfl rfl ?_
  exact ⟨rfl, _, hP.2.1, fun _ => rfl⟩
end ZGU
