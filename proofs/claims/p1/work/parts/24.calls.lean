/-! CALLS -/
section ZCA
variable {p : Program} {l : Launch} {e : Env} {R : Room} {s : State} {m : MethodId} {args : Array Value} {below : List Frame} {meth : Method} {c : Code} {H : Heap} {locs : List Loc} {cells slots : Nat} {Q : State → Prop}
variable {Ts Nw : List Cond} {Nc : List (String × String)} {Pg : List zM} {cl : List vw_C} {FT : zFT} {FN : Nat → Nat} {X Xc : zX} {xa xac : List Nat} {sf : Nat → String × String × String} {n0 : Nat} {M M' : zM} {D : va_G} {tys : List (ClassId × FieldType)} {as : List Nat} {ws : va_W} {h h' : zH} {ls : Array Slot} {sc : List Value} {lo lv : zL} {st : List Value} {en : zN}
/-- what a call site has checked -/
theorem zinv_eq {kd : Nat} {a r : List Value} (hp : zinv Pg M en kd st h cells slots = some (M', a, r)) : Pg[en.2.2.2.1]? = some M' ∧ st = a.reverse ++ r ∧ a.length = en.2.2.2.2.2 + (bif Nat.beq kd 1 then 0 else 1) ∧ en.2.2.2.2.1 ≤ 1 ∧ (zKind M').1 = kd ∧ zWt r ≤ 8 ∧ (zRoom M').1 + 1 ≤ (zRoom M).1 ∧ 8 + (zMaxL M' + 11) + (zRoom M').2.1 ≤ (zRoom M).2.1 ∧ cells + (zRoom M').2.2.1 ≤ (zRoom M).2.2.1 ∧ slots + (zRoom M').2.2.2 ≤ (zRoom M).2.2.2 ∧ zrec kd M' a h = true ∧ a.all zpl = true := by
  unfold zinv at hp
  split at hp
  · rename_i M9 h1
    split at hp
    · rename_i a9 r9 h2
      cases hbb : a9.all zpl && Nat.ble en.2.2.2.2.1 1 && (Nat.beq (zKind M9).1 kd && (Nat.ble (zWt r9) 8 && (zfitr M M9 cells slots && zrec kd M9 a9 h))) with
      | false => rw [hbb, cond_false] at hp; cases hp
      | true =>
        rw [hbb, cond_true] at hp
        cases hp
        unfold zfitr at hbb
        simp only [Bool.and_eq_true] at hbb
        obtain ⟨⟨b8, b0⟩, b1, b2, ⟨b3, b4, b5, b6⟩, b7⟩ := hbb
        obtain ⟨g1, g2⟩ := zpk_eq h2
        exact ⟨h1, g1, g2, Nat.le_of_ble_eq_true b0, Nat.eq_of_beq_eq_true b1, Nat.le_of_ble_eq_true b2, Nat.le_of_ble_eq_true b3, Nat.le_of_ble_eq_true b4, Nat.le_of_ble_eq_true b5, Nat.le_of_ble_eq_true b6, b7, b8⟩
    · cases hp
  · cases hp
/-- what all calls of one method need -/
theorem zCallB (hts : ∀ w ∈ Ts, w.before args s = true) (hG : GoodIn Ts Ts) (hM : zMok Ts cl M') (ht : zTab M' = []) {own : String} {ix n : Nat} (hlk : Cond.methodLink own ix (zName M') ∈ Ts) (hpn : (parseMethodDescriptor (zName M').desc).map (fun d => d.parameters.length) = some n)
    (h1 : (zRoom M').1 + 1 ≤ R.frames) (h2 : 8 + (zMaxL M' + 11) + (zRoom M').2.1 ≤ R.locals) : CallB R s args own ix (zName M') (zCode M') (zMaxL M') (zRet M') (zHd M' :: Ts) (zRm M') (zRoom M').2.2.1 (zRoom M').2.2.2 n := by
  have hhd : zHd M' = Cond.code (zName M') (zCode M') (zMaxL M') (zRet M') := by unfold zHd; rw [ht]
  refine ⟨rfl, rfl, h1, h2, pay_in hts (fun w hw => ?_), by rw [hhd]; exact List.mem_cons_self, by rw [← hhd]; exact hts _ hM.1, hts _ hM.2.1, hM.2.2.1, fun sig hs => ?_, hts _ hlk⟩
  · rcases List.mem_cons.mp hw with rfl | hw
    · exact hG _ hM.1
    · exact hG _ hw
  · rw [hs] at hpn
    exact (Option.some.inj hpn).symm
theorem zGoodW (hG : GoodIn Ts Ts) (hM : zMok Ts cl M') : GoodIn Ts (zHd M' :: Ts) := fun w hw => by
  rcases List.mem_cons.mp hw with rfl | hw
  · exact hG _ hM.1
  · exact hG _ hw
theorem zPre (hN : zNwOk Nw) (hE : zEnv Xc xac sf n0 Nw Nc s) (I : zI D cl xa n0 s tys as ws h H locs) (a' : List Value) : PreS s H (zPc Xc xac sf n0 Nw Nc D cl tys ws a') a' := by
  obtain ⟨hK, hP, hD, hS, hW⟩ := I
  exact ⟨zPc_blind hN, fun U hU hWm => ⟨rfl, zEnv_to hN hE hS hU hWm, by rw [hU]; exact hP, va_K.moved hWm.alike hK, hD⟩⟩
theorem zrec_eq {kd : Nat} {a : List Value} (hr : zrec kd M' a h = true) (hk : kd ≠ 1) : ∃ (b : Nat) (As : List Value) (fs : List Value), a = .ref b :: As ∧ h[b]? = some (.inr ((zKind M').2.1, fs)) := by
  have hk1 : Nat.beq kd 1 = false := by
    cases hb : Nat.beq kd 1 with
    | false => rfl
    | true => exact absurd (Nat.eq_of_beq_eq_true hb) hk
  unfold zrec at hr
  split at hr
  · rename_i b As
    split at hr
    · rename_i ci fs h1
      rw [hk1, Bool.false_or] at hr
      rw [Nat.eq_of_beq_eq_true hr] at h1
      exact ⟨b, As, fs, rfl, h1⟩
    · rw [hk1] at hr; cases hr
  · rw [hk1] at hr; cases hr
/-- the machine at a call that returns: va_Run -/
theorem zs_run (hN : zNwOk Nw) (hG : GoodIn Ts Ts) (C : zCx p s m args meth c Ts X xa sf n0 M) (hE : zEnv Xc xac sf n0 Nw Nc s) (he : zEok Ts cl sf M en) (hk : zIok Ts Nw Pg M en) (hM : zMok Ts cl M') {kd : Nat} (hcl : zcl en.2.1 = some kd) {a r : List Value} (hp : zinv Pg M en kd st h cells slots = some (M', a, r))
    (hR1 : (zRoom M).1 ≤ R.frames) (hR2 : (zRoom M).2.1 ≤ R.locals) (hR3 : (zRoom M).2.2.1 ≤ R.cells) (hR4 : (zRoom M).2.2.2 ≤ R.slots) (I : zI D cl xa n0 s tys as ws h H locs) (hl : lv_has ls (zMaxL M) lv) {a' r' : List Value} (ha : zF xa as a a') (hr : zF xa as r r') {v : Option Value}
    (hc : zMt l Ts Xc xac sf n0 Nw Nc D cl M' tys as ws a' (.inl v) h') :
    va_Run p l e R s m args below meth c H locs cells slots (zRoom M').2.2.1 (zRoom M').2.2.2 (F0 m en.1 ls (a'.reverse ++ r')) r' (zQc xac n0 D cl tys as (.inl v) h' a'.toArray) (zA n0) := by
  obtain ⟨hx, hb, hml, hown, hts, -⟩ := C
  obtain ⟨i1, i2, i3, i4, i5, i6, i7, i8, i9, i10, i11, -⟩ := zinv_eq hp
  obtain ⟨pc, ins, len, a0, b0, w0⟩ := en
  obtain ⟨⟨hd, hn⟩, he⟩ := he
  dsimp only at hd hn he hcl i1 i3 i4 ⊢
  rw [hn] at hd
  have hMet := zMet_of hc (by rintro E st t ⟨k, _, _, _, h1, -⟩; cases h1)
  have hf : cells + (zRoom M').2.2.1 ≤ R.cells ∧ slots + (zRoom M').2.2.2 ≤ R.slots := ⟨Nat.le_trans i9 hR3, Nat.le_trans i10 hR4⟩
  have hwt : 2 * (F0 m pc ls (a'.reverse ++ r')).monitorRoom + (r'.map fun v => v.category).sum ≤ 8 := lv_room (by rw [zF_wt hr]; exact i6)
  have hS9 : CallFix p m c (zCode M) (zMaxL M) s args Ts (zName M).cls := ⟨hx, hb, hml, hown, hts⟩
  have hq : (zRoom M').1 + 1 ≤ R.frames := Nat.le_trans i7 hR1
  have hq2 : 8 + (zMaxL M' + 11) + (zRoom M').2.1 ≤ R.locals := Nat.le_trans i8 hR2
  have hla : a'.length = a.length := (zF_len ha).symm
  obtain ⟨m1, m2, m3, m4, m5, m6, m7⟩ := id hM
  have hb01 : b0 = 0 ∨ b0 = 1 := by omega
  have hlk : ((kd ≠ 0 ∧ b0 = 1 ∧ zTab M' = [] ∧ ∃ host : String, Cond.methodLinkNest (zName M).cls (zIx ins) (zName M') host ∈ Nw) ∨ Cond.methodLink (zName M).cls (zIx ins) (zName M') ∈ Ts) ∧ (parseMethodDescriptor (zName M').desc).map (fun d => d.parameters.length) = some w0 := by
    have h9 := hk kd hcl
    dsimp only at h9
    rcases hb01 with rfl | rfl <;> exact h9 M' i1
  obtain ⟨hlk, hpn⟩ := hlk
  unfold zcl at hcl
  split at hcl
  · rename_i ix
    cases hcl
    obtain ⟨n1, n2, ⟨q, n3, n4⟩, n5⟩ := m5 i5
    obtain ⟨b, As, fs, rfl, hrb⟩ := zrec_eq i11 (by decide)
    obtain ⟨hK, hP, hD, hS, hW⟩ := id I
    obtain ⟨ab, db, k1, k2, k3⟩ := hW.2.2 _ _ hrb
    cases a' with
    | nil => exact ha.elim
    | cons w As' =>
    obtain ⟨⟨a9, k4, k5⟩, ha2⟩ := ha
    subst k5
    cases k1.symm.trans k4
    have hn9 : As'.length = w0 := by
      have i3' : As.length + 1 = w0 + 1 := i3
      have hla' : As'.length + 1 = As.length + 1 := hla
      omega
    match db, k3, k2 with
    | .inr (ci, fs'), k3, k2 =>
    have k6 : (zKind M').2.1 = ci := k3.1
    subst k6
    have hl2 : Cond.methodLink (zName M).cls ix (zName M') ∈ Ts := by
      rcases hlk with ⟨h0, -⟩ | h1
      · exact absurd rfl h0
      · exact h1
    have hrecv := va_recv hK hP n3 k2
    rw [n4] at hrecv
    have hpre := zPre (locs := locs) hN hE I (.ref ab :: As')
    exact va_runV (C := (zName M').cls) (As := As') (rest := r') (n := w0) hS9 hMet ⟨zCallB hts hG hM n5 hl2 hpn hq hq2, hts _ n1, hts _ n2⟩ ⟨hpre.1, hrecv, hpre.2⟩ rfl hn9 hl.1 (by simp) hwt hd hf
  · rename_i ix
    cases hcl
    have hpre := zPre (locs := locs) hN hE I a'
    have hst := m6 i5
    have hn9 : a'.length = w0 := by rw [hla, i3]; simp
    cases htab : zTab M' with
    | nil =>
      rcases hlk with ⟨-, -, hnt, host, hnw⟩ | hl2
      · exact va_runSN (As := a') (rest := r') (n := w0) (host := host) hS9 hMet ⟨va_cnB w0 hts (zGoodW hG hM) (by unfold zHd; rw [htab]) rfl rfl (hE.2.2.2.2.2.1 _ hnw) (hts _ m2) ⟨m3.1, m3.2, hpn⟩ ⟨hq, hq2⟩, hts _ hst, trivial⟩ hpre rfl hn9 hl.1 rfl hwt hd hf
      · exact va_runS (As := a') (rest := r') (n := w0) hS9 hMet ⟨zCallB hts hG hM htab hl2 hpn hq hq2, hts _ hst⟩ hpre rfl hn9 hl.1 rfl hwt hd hf
    | cons t0 tab0 =>
      rcases hlk with ⟨-, -, hnt, host, hnw⟩ | hl2
      · rw [htab] at hnt; cases hnt
      · exact vx_runSW (As := a') (rest := r') (n := w0) (hh := zTab M') hS9 hMet (vx_cwSW w0 hts (fun w hw => by
          rcases List.mem_append.mp hw with hw | hw
          · simp only [List.mem_cons, List.not_mem_nil, or_false] at hw
            rcases hw with rfl | rfl | rfl
            · exact hG _ hl2
            · exact hG _ hst
            · exact hG _ m2
          · exact zGoodW hG hM _ hw) (by unfold zHd; rw [htab]) rfl rfl ⟨m3.1, m3.2, hpn⟩ ⟨hq, hq2⟩) hpre rfl hn9 hl.1 rfl hwt hd hf
  · rename_i ix
    cases hcl
    obtain ⟨n1, n2, n3, n5⟩ := m7 i5
    obtain ⟨b, As, fs, rfl, hrb⟩ := zrec_eq i11 (by decide)
    cases a' with
    | nil => exact ha.elim
    | cons w As' =>
    obtain ⟨⟨a9, k4, k5⟩, ha2⟩ := ha
    subst k5
    have hpre := zPre (locs := locs) hN hE I (.ref a9 :: As')
    have hn9 : As'.length = w0 := by
      have i3' : As.length + 1 = w0 + 1 := i3
      have hla' : As'.length + 1 = As.length + 1 := hla
      omega
    rcases hlk with ⟨-, -, hnt, host, hnw⟩ | hl2
    · exact va_runIN (As := As') (rest := r') (n := w0) (host := host) hS9 hMet ⟨va_cnB w0 hts (zGoodW hG hM) (by unfold zHd; rw [n5, n3]) rfl rfl (hE.2.2.2.2.2.1 _ hnw) (hts _ m2) ⟨m3.1, m3.2, hpn⟩ ⟨hq, hq2⟩, n2, hts _ n1⟩ hpre rfl hn9 hl.1 (by simp) hwt hd hf
    · have hcb := zCallB (R := R) hts hG hM n5 hl2 hpn hq hq2
      rw [n3] at hcb
      exact va_runI (As := As') (rest := r') (n := w0) hS9 hMet ⟨hcb, n2, hts _ n1⟩ hpre rfl hn9 hl.1 (by simp) hwt hd hf
  · cases hcl
/-- the machine at a call that throws: vx_Run -/
theorem zs_runX (hN : zNwOk Nw) (hG : GoodIn Ts Ts) (C : zCx p s m args meth c Ts X xa sf n0 M) (hE : zEnv Xc xac sf n0 Nw Nc s) (he : zEok Ts cl sf M en) (hk : zIok Ts Nw Pg M en) (hM : zMok Ts cl M') {kd : Nat} (hcl : zcl en.2.1 = some kd) (hk2 : kd ≠ 2) (hb1 : en.2.2.2.2.1 ≠ 1) (htab : zTab M' = []) {a r : List Value} (hp : zinv Pg M en kd st h cells slots = some (M', a, r))
    (hR1 : (zRoom M).1 ≤ R.frames) (hR2 : (zRoom M).2.1 ≤ R.locals) (hR3 : (zRoom M).2.2.1 ≤ R.cells) (hR4 : (zRoom M).2.2.2 ≤ R.slots) (I : zI D cl xa n0 s tys as ws h H locs) (hl : lv_has ls (zMaxL M) lv) {a' r' : List Value} (ha : zF xa as a a') (hr : zF xa as r r') {o : zO}
    (hc : zMt l Ts Xc xac sf n0 Nw Nc D cl M' tys as ws a' o h') :
    vx_Run p l e R s m args below meth c H locs cells slots (zRoom M').2.2.1 (zRoom M').2.2.2 (F0 m en.1 ls (a'.reverse ++ r')) r' (zQc xac n0 D cl tys as o h' a'.toArray) (zXC xac n0 D cl tys as o h') (zA n0) := by
  obtain ⟨hx, hb, hml, hown, hts, -⟩ := C
  obtain ⟨i1, i2, i3, i4, i5, i6, i7, i8, i9, i10, i11, -⟩ := zinv_eq hp
  obtain ⟨pc, ins, len, a0, b0, w0⟩ := en
  obtain ⟨⟨hd, hn⟩, he⟩ := he
  dsimp only at hd hn he hcl i1 i3 i4 hb1 ⊢
  rw [hn] at hd
  have hf : cells + (zRoom M').2.2.1 ≤ R.cells ∧ slots + (zRoom M').2.2.2 ≤ R.slots := ⟨Nat.le_trans i9 hR3, Nat.le_trans i10 hR4⟩
  have hwt : 2 * (F0 m pc ls (a'.reverse ++ r')).monitorRoom + (r'.map fun v => v.category).sum ≤ 8 := lv_room (by rw [zF_wt hr]; exact i6)
  have hS9 : CallFix p m c (zCode M) (zMaxL M) s args Ts (zName M).cls := ⟨hx, hb, hml, hown, hts⟩
  have hq : (zRoom M').1 + 1 ≤ R.frames := Nat.le_trans i7 hR1
  have hq2 : 8 + (zMaxL M' + 11) + (zRoom M').2.1 ≤ R.locals := Nat.le_trans i8 hR2
  have hla : a'.length = a.length := (zF_len ha).symm
  obtain ⟨m1, m2, m3, m4, m5, m6, m7⟩ := id hM
  have hb0 : b0 = 0 := by omega
  subst hb0
  have h9 := hk kd hcl
  dsimp only at h9
  obtain ⟨hlk, hpn⟩ := h9 M' i1
  have hl2 : Cond.methodLink (zName M).cls (zIx ins) (zName M') ∈ Ts := by
    rcases hlk with ⟨-, h0, -⟩ | h1
    · cases h0
    · exact h1
  unfold zcl at hcl
  split at hcl
  · rename_i ix
    cases hcl
    obtain ⟨n1, n2, ⟨q, n3, n4⟩, n5⟩ := m5 i5
    obtain ⟨b, As, fs, rfl, hrb⟩ := zrec_eq i11 (by decide)
    obtain ⟨hK, hP, hD, hS, hW⟩ := id I
    obtain ⟨ab, db, k1, k2, k3⟩ := hW.2.2 _ _ hrb
    cases a' with
    | nil => exact ha.elim
    | cons w As' =>
    obtain ⟨⟨a9, k4, k5⟩, ha2⟩ := ha
    subst k5
    cases k1.symm.trans k4
    have hn9 : As'.length = w0 := by
      have i3' : As.length + 1 = w0 + 1 := i3
      have hla' : As'.length + 1 = As.length + 1 := hla
      omega
    match db, k3, k2 with
    | .inr (ci, fs'), k3, k2 =>
    have k6 : (zKind M').2.1 = ci := k3.1
    subst k6
    have hrecv := va_recv hK hP n3 k2
    rw [n4] at hrecv
    have hpre := zPre (locs := locs) hN hE I (.ref ab :: As')
    exact vx_runV (C := (zName M').cls) (As := As') (rest := r') (n := w0) hS9 hc ⟨zCallB hts hG hM n5 hl2 hpn hq hq2, hts _ n1, hts _ n2⟩ ⟨hpre.1, hrecv, hpre.2⟩ rfl hn9 hl.1 (by simp) hwt hd hf
  · rename_i ix
    cases hcl
    have hpre := zPre (locs := locs) hN hE I a'
    have hst := m6 i5
    have hn9 : a'.length = w0 := by rw [hla, i3]; simp
    exact vx_runS (As := a') (rest := r') (n := w0) hS9 hc ⟨zCallB hts hG hM htab hl2 hpn hq hq2, hts _ hst⟩ hpre rfl hn9 hl.1 rfl hwt hd hf
  · cases hcl; exact absurd rfl hk2
  · cases hcl
end ZCA
