/-! THE BODY AS A RELATION: what calls come to is a relation, so a symbolic walk needs no fuel -/
def zBR (Pg : List zM) (FT : zFT) (FN : Nat → Nat) (X : zX) (cr : Nat → List Value → zH → zO → zH → Prop) (M : zM) (o : zO) (h' : zH) : Nat → Nat → zL → List Value → zH → Nat → Nat → Prop
  | 0, _, _, _, _, _, _ => False
  | f + 1, pc, lo, st, h, nc, ns => match zfind (zIns M) pc with
    | none => False
    | some en => match zend en.2.1 (zRet M) st with
      | some r => o = .inl r ∧ h' = h
      | none => match zmak FT FN en st with
        | some (n, r, c, k) => (Nat.blt nc (zRoom M).2.2.1 && Nat.ble (ns + k) (zRoom M).2.2.2) = true ∧ zBR Pg FT FN X cr M o h' f (pc + n) lo (.ref h.length :: r) (h ++ [c]) (nc + 1) (ns + k)
        | none => match zown M en st with
          | some st' => zBR Pg FT FN X cr M o h' f (pc + 3) lo st' h nc ns
          | none => match zcl en.2.1 with
            | some kd => (match zinv Pg M en kd st h nc ns with
              | some (M', a, r) => ∃ (o1 : zO) (h1 : zH), cr en.2.2.2.1 a h o1 h1 ∧ (match o1 with
                | .inl v => zBR Pg FT FN X cr M o h' f (pc + 3) lo (v.toList ++ r) h1 (nc + (zRoom M').2.2.1) (ns + (zRoom M').2.2.2)
                | .inr k => (Nat.beq kd 2 || (Nat.beq en.2.2.2.2.1 1 || !(zTab M').isEmpty)) = false ∧ (match zTab M with
                  | [] => o = .inr k ∧ h' = h1
                  | _ => (match zhand (zTab M) pc k with
                    | some t => (match zfind (zIns M) t with
                      | some en2 => (match zsto en2.2.1 with
                        | some (j, n, true) => Nat.blt j (zMaxL M) = true ∧ zBR Pg FT FN X cr M o h' f (t + n) (lo.filter (fun q => !(Nat.beq q.1 j))) [] h1 (nc + (zRoom M').2.2.1) (ns + (zRoom M').2.2.2)
                        | _ => False)
                      | none => False)
                    | none => False)))
              | none => False)
            | none => (match en.2.1 with
              | .new _ => (Nat.ble (nc + 1) (zRoom M).2.2.1 && (Nat.ble (ns + 6) (zRoom M).2.2.2 && Nat.ble (zWt st) 8)) = true ∧ o = .inr en.2.2.2.1 ∧ h' = h
              | _ => (match zstep M FT X en lo st h with
                | some (pc', lo', st', h1) => zBR Pg FT FN X cr M o h' f pc' lo' st' h1 nc ns
                | none => False))
/-- what a call comes to, by its depth -/
def zCR (Pg : List zM) (FT : zFT) (FN : Nat → Nat) (X : zX) : Nat → Nat → List Value → zH → zO → zH → Prop
  | 0, _, _, _, _, _ => False
  | d + 1, z, a, h, o, h' => ∃ M : zM, Pg[z]? = some M ∧ (Nat.ble a.length (zMaxL M) && a.all (fun v => Nat.beq v.category 1)) = true ∧ ∃ f : Nat, zBR Pg FT FN X (zCR Pg FT FN X d) M o h' f 0 (zargs 0 a) [] h 0 0
/-! THE BODY, by its fuel -/
section ZWB
variable {p : Program} {l : Launch} {e : Env} {R : Room} {s : State} {m : MethodId} {args : Array Value} {below : List Frame} {meth : Method} {c : Code} {Q : State → Prop}
variable {Ts Nw : List Cond} {Nc : List (String × String)} {Pg : List zM} {cl : List vw_C} {FT : zFT} {FN : Nat → Nat} {X Xc : zX} {xa xac : List Nat} {sf : Nat → String × String × String} {n0 : Nat} {M : zM} {D : va_G}
/-- an instruction is known in all its ways -/
def zNok (Ts Nw : List Cond) (Pg : List zM) (cl : List vw_C) (FT : zFT) (FN : Nat → Nat) (sf : Nat → String × String × String) (M : zM) (en : zN) : Prop :=
  zEok Ts cl sf M en ∧ zIok Ts Nw Pg M en ∧ zKok Ts cl FT FN M en ∧ ∀ k : Nat, en.2.1 = .getstatic k → (sf en.2.2.2.1).1 ≠ ""
theorem zfind_eq {en : zN} {pc : Nat} : ∀ {L : List zN}, zfind L pc = some en → en ∈ L ∧ en.1 = pc
  | [], h => by cases h
  | x :: L, h => by
    unfold zfind at h
    cases hb : Nat.beq x.1 pc with
    | true => rw [hb, cond_true] at h; cases h; exact ⟨List.mem_cons_self, Nat.eq_of_beq_eq_true hb⟩
    | false => rw [hb, cond_false] at h; obtain ⟨h1, h2⟩ := zfind_eq h; exact ⟨List.mem_cons_of_mem _ h1, h2⟩
/-- how a body may end: with an answer; by its own throw; by a callee's -/
def zOut (p : Program) (l : Launch) (e : Env) (R : Room) (s : State) (m : MethodId) (args : Array Value) (below : List Frame) (meth : Method) (c : Code) (Q : State → Prop) (D : va_G) (cl : List vw_C) (xa : List Nat) (n0 : Nat) (M : zM) (tys0 : List (ClassId × FieldType)) (as0 : List Nat) (o : zO) (h' : zH) : Prop :=
  ∀ (tys : List (ClassId × FieldType)) (as : List Nat) (ws : va_W) (H : Heap) (locs : List Loc) (nc ns : Nat) (ls : Array Slot) (lv : zL), as0 <+: as → tys0 <+: tys → zI D cl xa n0 s tys as ws h' H locs → lv_has ls (zMaxL M) lv → nc ≤ (zRoom M).2.2.1 → ns ≤ (zRoom M).2.2.2 →
    (∀ (r : Option Value) (en : zN) (st sc : List Value), o = .inl r → en ∈ zIns M → zend en.2.1 (zRet M) st = some r → zF xa as st sc → W p l e R s m args below meth c H locs nc ns Q (F0 m en.1 ls sc)) ∧
    (∀ (k : Nat) (en : zN) (ix : Nat) (sc : List Value), o = .inr k → en ∈ zIns M → en.2.1 = .new ix → en.2.2.2.1 = k → en.2.2.2.2.1 = 1 → nc + 1 ≤ (zRoom M).2.2.1 → ns + 6 ≤ (zRoom M).2.2.2 → (sc.map fun v => v.category).sum ≤ 8 → W p l e R s m args below meth c H locs nc ns Q (F0 m en.1 ls sc)) ∧
    (∀ (k pc : Nat) (ce : Cell) (q9 : Addr) (sc : List Value), o = .inr k → zTab M = [] → H[q9]? = some ce → ce.vm = .none → s.vm.findClass (zEn k) = some ce.cls → vx_W p l e R s m args below meth c H locs nc ns Q (F0 m pc ls sc) q9)
/-- an exception is caught where the table says so -/
def zCat (p : Program) (l : Launch) (e : Env) (R : Room) (s : State) (m : MethodId) (args : Array Value) (below : List Frame) (meth : Method) (c : Code) (Q : State → Prop) (M : zM) : Prop :=
  ∀ (k pc t : Nat) (ce : Cell) (q9 : Addr) (H : Heap) (locs : List Loc) (nc ns : Nat) (ls : Array Slot) (sc : List Value), zTab M ≠ [] → zhand (zTab M) pc k = some t → H[q9]? = some ce → ce.vm = .none → s.vm.findClass (zEn k) = some ce.cls → W p l e R s m args below meth c H locs nc ns Q (F0 m t ls [.ref q9]) → vx_W p l e R s m args below meth c H locs nc ns Q (F0 m pc ls sc) q9
theorem zbody_ok (hN : zNwOk Nw) (hG : GoodIn Ts Ts) (S : zSy Ts cl FT M) (C : zCx p s m args meth c Ts X xa sf n0 M) (hE : zEnv Xc xac sf n0 Nw Nc s) (hI : ∀ en ∈ zIns M, zNok Ts Nw Pg cl FT FN sf M en) (hPg : ∀ (z : Nat) (M' : zM), Pg[z]? = some M' → zMok Ts cl M')
    (hR1 : (zRoom M).1 ≤ R.frames) (hR2 : (zRoom M).2.1 ≤ R.locals) (hR3 : (zRoom M).2.2.1 ≤ R.cells) (hR4 : (zRoom M).2.2.2 ≤ R.slots) (hCat : zCat p l e R s m args below meth c Q M)
    {cr : Nat → List Value → zH → zO → zH → Prop} (hcall : ∀ (z : Nat) (M' : zM) (a : List Value) (h : zH) (o : zO) (h' : zH), Pg[z]? = some M' → cr z a h o h' → ∀ (tys : List (ClassId × FieldType)) (as : List Nat) (ws : va_W) (a' : List Value), zF [] as a a' → zW xa tys as h ws → zMt l Ts Xc xac sf n0 Nw Nc D cl M' tys as ws a' o h')
    {tys0 : List (ClassId × FieldType)} {as0 : List Nat} {o : zO} {h' : zH} (hO : zOut p l e R s m args below meth c Q D cl xa n0 M tys0 as0 o h') :
    ∀ (f pc : Nat) (lo : zL) (st : List Value) (h : zH) (nc ns : Nat), zBR Pg FT FN X cr M o h' f pc lo st h nc ns → nc ≤ (zRoom M).2.2.1 → ns ≤ (zRoom M).2.2.2 → ∀ (tys : List (ClassId × FieldType)) (as : List Nat) (ws : va_W) (H : Heap) (locs : List Loc) (ls : Array Slot) (lv : zL) (sc : List Value), as0 <+: as → tys0 <+: tys → zI D cl xa n0 s tys as ws h H locs → zF xa as st sc → lv_has ls (zMaxL M) lv → zG xa as lo lv →
      W p l e R s m args below meth c H locs nc ns Q (F0 m pc ls sc) := by
  intro f
  induction f with
  | zero => intro pc lo st h nc ns hb; exact hb.elim
  | succ f ih =>
    intro pc lo st h nc ns hb hnc hns tys as ws H locs ls lv sc has htys I hf hl hg
    unfold zBR at hb
    split at hb
    · exact hb.elim
    rename_i en hfind
    obtain ⟨hmem, hpc⟩ := zfind_eq hfind
    subst hpc
    obtain ⟨he, hii, hkk, hsf⟩ := hI en hmem
    split at hb
    · rename_i r hend
      obtain ⟨rfl, rfl⟩ := hb
      exact (hO tys as ws H locs nc ns ls lv has htys I hl hnc hns).1 r en st sc rfl hmem hend hf
    split at hb
    · rename_i n r cc k hmak
      obtain ⟨hbb, hb⟩ := hb
      rw [Bool.and_eq_true] at hbb
      have b1 : nc + 1 ≤ (zRoom M).2.2.1 := Nat.le_of_ble_eq_true hbb.1
      have b2 := Nat.le_of_ble_eq_true hbb.2
      exact zs_mak S.1 C hE he hkk hmak I hf (Nat.le_trans b1 hR3) (Nat.le_trans b2 hR4) (fun tys' as' ws' H' sc' g1 g2 I' hf' => ih _ _ _ _ _ _ hb b1 b2 tys' as' ws' H' locs ls lv sc' (has.trans g1) (htys.trans g2) I' hf' hl (zG_mono g1 hg))
    split at hb
    · rename_i st' hown
      exact zs_own C he hii hR1 hR2 (Nat.le_trans hnc hR3) (Nat.le_trans hns hR4) hown hl hf (fun sc' hf' => ih _ _ _ _ _ _ hb hnc hns tys as ws H locs ls lv sc' has htys I hf' hl hg)
    split at hb
    · rename_i kd hcl
      split at hb
      · rename_i M' a r hinv
        obtain ⟨i1, i2, i3, i4, i5, i6, i7, i8, i9, i10, i11, i12⟩ := zinv_eq hinv
        rw [i2] at hf
        obtain ⟨x', y', rfl, hx', hy'⟩ := zF_app hf
        have ha' := zF_rev hx'
        rw [List.reverse_reverse] at ha'
        have hsc : x' ++ y' = x'.reverse.reverse ++ y' := by rw [List.reverse_reverse]
        rw [hsc]
        obtain ⟨o1, h1, hcl1, hb⟩ := hb
        have hc := hcall _ M' a h _ h1 i1 hcl1 tys as ws x'.reverse (zF_pl i12 ha') I.2.2.2.2
        split at hb
        · rename_i v
          exact z_callR (xa := xa) (zs_run hN hG C hE he hii (hPg _ M' i1) hcl hinv hR1 hR2 hR3 hR4 I hl ha' hy' hc) I.2.2.2.1 (fun v' tys' as' ws' H1 locs1 hF g1 g2 I' => ih _ _ _ _ _ _ hb i9 i10 tys' as' ws' H1 locs1 ls lv _ (has.trans g1) (htys.trans g2) I' (zF_join (zF_nil hF) (zF_mono g1 hy')) hl (zG_mono g1 hg))
        · rename_i k
          obtain ⟨hbb, hb⟩ := hb
          rw [Bool.or_eq_false_iff, Bool.or_eq_false_iff, Bool.not_eq_false'] at hbb
          have q1 : kd ≠ 2 := Nat.ne_of_beq_eq_false hbb.1
          have q2 : en.2.2.2.2.1 ≠ 1 := Nat.ne_of_beq_eq_false hbb.2.1
          have q3 : zTab M' = [] := List.isEmpty_iff.mp hbb.2.2
          refine z_callX (xa := xa) (zs_runX hN hG C hE he hii (hPg _ M' i1) hcl q1 q2 q3 hinv hR1 hR2 hR3 hR4 I hl ha' hy' hc) I.2.2.2.1 (fun ce q9 tys' as' ws' H1 locs1 g1 g2 I' k1 k2 k3 => ?_)
          split at hb
          · rename_i htab
            obtain ⟨rfl, rfl⟩ := hb
            exact (hO tys' as' ws' H1 locs1 _ _ ls lv (has.trans g1) (htys.trans g2) I' hl i9 i10).2.2 k en.1 ce q9 _ rfl htab k1 k2 k3
          · rename_i htab
            split at hb
            · rename_i t hhd
              split at hb
              · rename_i en2 hf2
                obtain ⟨hm2, hp2⟩ := zfind_eq hf2
                subst hp2
                split at hb
                · rename_i j n hst2
                  obtain ⟨hbj, hb⟩ := hb
                  refine hCat k en.1 en2.1 ce q9 H1 locs1 _ _ ls y' htab hhd k1 k2 k3 ?_
                  obtain ⟨⟨⟨hd2, hn2⟩, -⟩, -⟩ := hI en2 hm2
                  have hgf := zG_filter (i := j) (zG_mono g1 hg)
                  have hj := Nat.le_of_ble_eq_true hbj
                  obtain ⟨hx, hb8, -⟩ := id C
                  obtain ⟨p2, ins2, len2, x2, y2, z2⟩ := en2
                  dsimp only at hst2 hd2 hn2 hb ⊢
                  rw [hn2] at hd2
                  unfold zsto at hst2
                  split at hst2
                  · cases hst2
                  · cases hst2
                  · cases hst2
                    exact lv_astore hx hb8 hd2 hl hj rfl (fun ls' hl' => ih _ _ _ _ _ _ hb i9 i10 tys' as' ws' H1 locs1 ls' _ [] (has.trans g1) (htys.trans g2) I' trivial ⟨hl'.1, hl'.2.1, fun q hq => hl'.2.2 q (List.mem_cons_of_mem _ hq)⟩ hgf)
                  · cases hst2
                    exact lv_astore_n hx hb8 hd2 rfl hl hj rfl (fun ls' hl' => ih _ _ _ _ _ _ hb i9 i10 tys' as' ws' H1 locs1 ls' _ [] (has.trans g1) (htys.trans g2) I' trivial ⟨hl'.1, hl'.2.1, fun q hq => hl'.2.2 q (List.mem_cons_of_mem _ hq)⟩ hgf)
                  · cases hst2
                · exact hb.elim
              · exact hb.elim
            · exact hb.elim
      · exact hb.elim
    split at hb
    · rename_i ix hnew
      obtain ⟨hbb, rfl, rfl⟩ := hb
      simp only [Bool.and_eq_true] at hbb
      obtain ⟨b1, b2, b3⟩ := hbb
      refine (hO tys as ws H locs nc ns ls lv has htys I hl hnc hns).2.1 _ en ix sc rfl hmem hnew rfl ?_ (Nat.le_of_ble_eq_true b1) (Nat.le_of_ble_eq_true b2) (by rw [zF_wt hf]; exact Nat.le_of_ble_eq_true b3)
      have hmk : zmak FT FN en st = none := by assumption
      unfold zmak at hmk
      rw [hnew] at hmk
      dsimp only at hmk
      cases hb9 : Nat.beq en.2.2.2.2.1 1 with
      | true => exact Nat.eq_of_beq_eq_true hb9
      | false => rw [hb9, cond_false] at hmk; cases hmk
    · split at hb
      · rename_i pc' lo' st' h1 hst
        exact zstep_ok S C he hsf hst I hf hl hg (fun ws' H' locs' ls' lv' sc' I' hf' hl' hg' => ih _ _ _ _ _ _ hb hnc hns tys as ws' H' locs' ls' lv' sc' has htys I' hf' hl' hg')
      · exact hb.elim
end ZWB
