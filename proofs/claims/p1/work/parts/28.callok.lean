/-! EVERY CALL of the abstract machine that comes to an end is a contract -/
def zNm : List String := ["java/lang/RuntimeException", "java/lang/Exception"]
/-- 'throw new E()' at this place -/
def zThr (Ts Nw : List Cond) (M : zM) (en : zN) (ik : Nat) : Prop := ∃ ic : Nat, decode (zCode M) en.1 = .ok (.new ik, 3) ∧ decode (zCode M) (en.1 + 3) = .ok (.dup, 1) ∧ decode (zCode M) (en.1 + 4) = .ok (.invokespecial ic, 3) ∧ decode (zCode M) (en.1 + 7) = .ok (.athrow, 1) ∧
  Cond.classLink (zName M).cls ik (zEn en.2.2.2.1) ∈ Ts ∧ Cond.initialized (zEn en.2.2.2.1) ∈ Ts ∧ (∀ w ∈ vx_at0 (zName M).cls ic (zEn en.2.2.2.1) zNm, w ∈ Ts ∨ w ∈ Nw) ∧ (∀ w ∈ Cond.classLink (zName M).cls ik (zEn en.2.2.2.1) :: Cond.initialized (zEn en.2.2.2.1) :: vx_at0 (zName M).cls ic (zEn en.2.2.2.1) zNm, vx_ot w = true) ∧
  Bundle.fit (zEn en.2.2.2.1) = true ∧ (∀ n ∈ zNm, Bundle.fit n = true) ∧ 5 < (zRoom M).1 ∧ 8 + 81 ≤ (zRoom M).2.1 ∧ zTab M = []
/-- the whole program is known -/
def zGd (l : Launch) (Ts Nw : List Cond) (Pg : List zM) (cl : List vw_C) (FT : zFT) (FN : Nat → Nat) (sf : Nat → String × String × String) : Prop :=
  l.stackTraces = false ∧ zNwOk Nw ∧ GoodIn Ts Ts ∧ ∀ (z : Nat) (M : zM), Pg[z]? = some M → zSy Ts cl FT M ∧ (∀ en ∈ zIns M, zNok Ts Nw Pg cl FT FN sf M en) ∧ zMok Ts cl M ∧ ∀ en ∈ zIns M, ∀ ik : Nat, en.2.1 = .new ik → en.2.2.2.2.1 = 1 → zThr Ts Nw M en ik
theorem lg_sl_len : ∀ {vs : List Value}, vs.all (fun v => Nat.beq v.category 1) = true → (lg_sl vs).length = vs.length
  | [], _ => rfl
  | v :: vs, h => by
    rw [List.all_cons, Bool.and_eq_true] at h
    have h1 := Nat.eq_of_beq_eq_true h.1
    have ih := lg_sl_len h.2
    unfold lg_sl at ih ⊢
    rw [List.flatMap_cons, List.length_append, ih, if_neg (by rw [h1]; decide)]
    simp; omega
theorem zargs_G {xa as : List Nat} : ∀ {vs ws : List Value} (i : Nat), zF xa as vs ws → vs.all (fun v => Nat.beq v.category 1) = true → zG xa as (zargs i vs) (lv_args i ws)
  | [], [], _, _, _ => trivial
  | [], _ :: _, _, h, _ => h.elim
  | _ :: _, [], _, h, _ => h.elim
  | v :: vs, w :: ws, i, h, ha => by
    rw [List.all_cons, Bool.and_eq_true] at ha
    have h1 := Nat.eq_of_beq_eq_true ha.1
    have h2 : w.category = 1 := (zV_catEq h.1).trans h1
    unfold zargs lv_args
    rw [if_neg (by rw [h2]; decide)]
    exact ⟨⟨rfl, h.1, h2⟩, zargs_G (i + 1) h.2 ha.2⟩
theorem zall_F {xa as : List Nat} : ∀ {vs ws : List Value}, zF xa as vs ws → vs.all (fun v => Nat.beq v.category 1) = true → ws.all (fun v => Nat.beq v.category 1) = true
  | [], [], _, _ => rfl
  | [], _ :: _, h, _ => h.elim
  | _ :: _, [], h, _ => h.elim
  | v :: vs, w :: ws, h, ha => by
    rw [List.all_cons, Bool.and_eq_true] at ha ⊢
    exact ⟨by rw [zV_catEq h.1]; exact ha.1, zall_F h.2 ha.2⟩
section ZCO
variable {p : Program} {l : Launch} {e : Env} {R : Room} {s : State} {m : MethodId} {args : Array Value} {below : List Frame} {meth : Method} {c : Code}
variable {Ts Nw : List Cond} {Nc : List (String × String)} {Pg : List zM} {cl : List vw_C} {FT : zFT} {FN : Nat → Nat} {X : zX} {xa : List Nat} {sf : Nat → String × String × String} {n0 : Nat} {M : zM} {D : va_G} {tys : List (ClassId × FieldType)} {as : List Nat} {o : zO} {h' : zH}
/-- a body's ends, as a contract wants them -/
theorem zOut_of (hst : l.stackTraces = false) (hN : zNwOk Nw) (C : zCx p s m args meth c Ts X xa sf n0 M) (hE : zEnv X xa sf n0 Nw Nc s) (hr : meth.sig.returnType = zRet M) (hlocks : meth.locks = false) (hR1 : (zRoom M).1 ≤ R.frames) (hR2 : (zRoom M).2.1 ≤ R.locals) (hR3 : (zRoom M).2.2.1 ≤ R.cells) (hR4 : (zRoom M).2.2.2 ≤ R.slots)
    (hI : ∀ en ∈ zIns M, zEok Ts cl sf M en) (hT : ∀ en ∈ zIns M, ∀ ik : Nat, en.2.1 = .new ik → en.2.2.2.2.1 = 1 → zThr Ts Nw M en ik) (htb : zTab M = [] → ∀ x ∈ c.exceptionTable.toList, False) :
    zOut p l e R s m args below meth c (vx_MQ below (zQc xa n0 D cl tys as o h') (zXC xa n0 D cl tys as o h') args s (zRoom M).2.2.1 (zRoom M).2.2.2 (zA n0)) D cl xa n0 M tys as o h' := by
  obtain ⟨hx, hb, hml, hown, hts, -⟩ := C
  intro tys1 as1 ws H locs nc ns ls lv has htys I hl hnc hns
  obtain ⟨hK, hP, hD, hS, hW⟩ := I
  refine ⟨fun r en st sc ho hmem hend hf => ?_, fun k en ik sc ho hmem hnew hk hb1 hc1 hs1 hwt => ?_, fun k pc ce q9 sc ho htab h1 h2 h3 => ?_⟩
  · obtain ⟨⟨hd, hn⟩, -⟩ := hI en hmem
    have hQ : ∀ (v : Option Value), zF [] as1 r.toList v.toList → ∀ t : State, t.heap = H → s.WarmedH t.vm → zQc xa n0 D cl tys as o h' args s (.returned v) t := fun v hv t ht hWm =>
      ⟨r, v, tys1, as1, ws, ho, rfl, hv, has, htys, hW, by rw [ht]; exact hP, va_K.moved hWm.alike hK, hD, hS.F ht⟩
    refine W.widen hnc hns (vx_ret ?_)
    obtain ⟨pc, ins, len, a0, b0, w0⟩ := en
    dsimp only at hend hd hn ⊢
    rw [hn] at hd
    unfold zend at hend
    split at hend
    · rename_i x hret
      cases hend
      match sc, hf with
      | [w], hf =>
      rw [show w = .int x from hf.1]
      exact W.iret hx hb (hr.trans hret) (hQ (some (.int x)) ⟨rfl, trivial⟩) hS.2.2 hd hlocks
    · rename_i x hret
      cases hbb : decide (x = 0) || decide (x = 1) with
      | false => rw [hbb, cond_false] at hend; cases hend
      | true =>
      rw [hbb, cond_true] at hend
      cases hend
      match sc, hf with
      | [w], hf =>
      rw [show w = .int x from hf.1]
      rw [Bool.or_eq_true, decide_eq_true_eq, decide_eq_true_eq] at hbb
      exact W.zret hx hb (hr.trans hret) (by rcases hbb with rfl | rfl <;> decide) (hQ (some (.int x)) ⟨rfl, trivial⟩) hS.2.2 hd hlocks
    · rename_i nm kk hret
      cases hend
      match sc, hf with
      | [w], hf =>
      obtain ⟨⟨a9, g1, g2⟩, -⟩ := hf
      subst g2
      exact W.aret hx hb (hr.trans hret) (Or.inl ⟨_, rfl⟩) (Or.inr ⟨a9, rfl⟩) (hQ (some (.ref a9)) ⟨⟨a9, g1, rfl⟩, trivial⟩) hS.2.2 hd hlocks
    · rename_i hret
      cases hend
      match sc, hf with
      | [], hf => exact W.vret hx hb (hr.trans hret) (hQ none trivial) hS.2.2 hd hlocks
    · cases hend
  · obtain ⟨ic, d0, d3, d4, d7, w1, w2, w3, w4, w5, w6, w7, w8, w9⟩ := hT en hmem ik hnew hb1
    rw [hk] at w1 w2 w3 w4 w5
    refine vx_throw0 hx hb hst hown w5 w6 (hts _ w1) (hts _ w2) (fun w hw => ?_) w4 hE.2.2.2.1 hE.2.2.2.2.1 hS (hl.1.trans hml.symm) d0 d3 d4 d7 (fun x hx9 => (htb w9 x hx9).elim) (by show 2 + 3 < _; omega) (by show _ + (13 * (2 + 1) + 42) ≤ _; omega) (Nat.le_trans hc1 hR3) (Nat.le_trans hs1 hR4) hlocks (fun t hal hsz hkeep => ?_) hS.2.2 hc1 hs1
    · rcases w3 w hw with h | h
      · exact hts _ h
      · exact va_Nw.use (by rcases hN w h with ⟨a, i, x, h, rfl⟩ | ⟨C, T, rfl⟩ | ⟨x, rfl⟩ <;> rfl) (hE.2.2.2.2.2.1 w h)
    · refine ⟨k, tys1, as1, ws, ho, rfl, has, htys, hW, hP.kept (fun j q hj => hkeep _ (hP j q hj).lt), va_K.moved hal hK, hD, Nat.le_trans hS.1 hsz, fun q hq1 hq2 => ?_⟩
      rw [hkeep q (Nat.lt_of_lt_of_le hq1 hS.1)]
      exact hS.2.1 q hq1 hq2
  · exact vx_out (fun x hx9 => (htb htab x hx9).elim) hlocks h1 h2 h3 (fun t ht hal => ⟨k, tys1, as1, ws, ho, rfl, has, htys, hW, by rw [ht]; exact hP, va_K.moved hal hK, hD, hS.F ht⟩) hS.2.2 hnc hns
/-- how the catching is known: for the methods with a table -/
def zCatAll (l : Launch) (Ts Nw : List Cond) (Nc : List (String × String)) (X : zX) (xa : List Nat) (sf : Nat → String × String × String) (n0 : Nat) (Pg : List zM) : Prop :=
  ∀ (z : Nat) (M : zM), Pg[z]? = some M → zTab M ≠ [] → ∀ (p : Program) (e : Env) (R : Room) (s : State) (m : MethodId) (args : Array Value) (below : List Frame) (meth : Method) (c : Code) (Q : State → Prop), zCx p s m args meth c Ts X xa sf n0 M → zEnv X xa sf n0 Nw Nc s → c.exceptionTable.toList = tableOf (zTab M) → zCat p l e R s m args below meth c Q M
theorem zcall_ok (G : zGd l Ts Nw Pg cl FT FN sf) (hCat : zCatAll l Ts Nw Nc X xa sf n0 Pg) : ∀ (d z : Nat) (M : zM) (a : List Value) (h : zH) (o : zO) (h' : zH), Pg[z]? = some M → zCR Pg FT FN X d z a h o h' → ∀ (tys : List (ClassId × FieldType)) (as : List Nat) (ws : va_W) (a' : List Value), zF [] as a a' → zW xa tys as h ws → zMt l Ts X xa sf n0 Nw Nc D cl M tys as ws a' o h' := by
  obtain ⟨hst, hN, hG, hAll⟩ := id G
  intro d
  induction d with
  | zero => intro z M a h o h' _ hc; exact hc.elim
  | succ d ih =>
    intro z M a h o h' hz hc tys as ws a' ha hW
    obtain ⟨M9, hz9, hbb, fuel, hc⟩ := hc
    cases hz.symm.trans hz9
    obtain ⟨hSy, hI, hMo, hT⟩ := hAll z M hz
    rw [Bool.and_eq_true] at hbb
    have hle := Nat.le_of_ble_eq_true hbb.1
    have hall := zall_F ha hbb.2
    have key : ∀ (p : Program) (e : Env) (s : State) (m : MethodId) (args : Array Value) (below : List Frame) (meth : Method) (c : Code) (s₁ : State), BodyLoose p l (zName M) (headSpec (zHd M :: Ts) (zRm M)) (zCode M) (zMaxL M) (zRet M) e s m args below meth c s₁ → c.maxLocals = zMaxL M → (zTab M = [] → ∀ x ∈ c.exceptionTable.toList, False) → (zTab M ≠ [] → c.exceptionTable.toList = tableOf (zTab M)) → zPc X xa sf n0 Nw Nc D cl tys ws a' args s →
        W p l e (headSpec (zHd M :: Ts) (zRm M)).room s m args below meth c s.heap [] 0 0 (vx_MQ below (zQc xa n0 D cl tys as o h') (zXC xa n0 D cl tys as o h') args s (zRoom M).2.2.1 (zRoom M).2.2.2 (zA n0)) (entryFrame m args (zMaxL M)) := by
      intro p e s m args below meth c s₁ B hml htb htb2 hv
      obtain ⟨rfl, hE, hP, hK, hD⟩ := hv
      have hts := atoms_spec (ws := zHd M :: Ts) B.pre
      have C : zCx p s m a'.toArray meth c Ts X xa sf n0 M := ⟨B.exec, B.bytes, hml, findClass_of_methodNamed B.named, fun w hw => hts w (List.mem_cons_of_mem _ hw), hE.2.1, hE.2.2.1, fun hk => ((name_of_methodNamed B.named B.method).1).trans (hMo.2.2.2.2.2.2 hk).2.1, hE.1⟩
      have hl := lv_entry a' (n := zMaxL M) (by rw [lg_sl_len hall, ← zF_len ha]; exact hle)
      rw [lg_entry_eq]
      have hO := zOut_of (e := e) (R := (headSpec (zHd M :: Ts) (zRm M)).room) (below := below) (D := D) (cl := cl) (tys := tys) (as := as) (o := o) (h' := h') hst hN C hE B.returns B.notSynchronized (Nat.le_refl _) (Nat.le_refl _) (Nat.le_refl _) (Nat.le_refl _) (fun en hen => (hI en hen).1) hT htb
      have hCt : zCat p l e (headSpec (zHd M :: Ts) (zRm M)).room s m a'.toArray below meth c (vx_MQ below (zQc xa n0 D cl tys as o h') (zXC xa n0 D cl tys as o h') a'.toArray s (zRoom M).2.2.1 (zRoom M).2.2.2 (zA n0)) M := by
        by_cases ht : zTab M = []
        · intro k pc t ce q9 H locs nc ns ls sc hne
          exact absurd ht hne
        · exact hCat z M hz ht p e _ s m _ below meth c _ C hE (htb2 ht)
      exact zbody_ok hN hG hSy C hE hI (fun z' M' hz' => (hAll z' M' hz').2.2.1) (Nat.le_refl _) (Nat.le_refl _) (Nat.le_refl _) (Nat.le_refl _) hCt ih hO fuel 0 (zargs 0 a) [] h 0 0 hc (Nat.zero_le _) (Nat.zero_le _) tys as ws s.heap [] _ _ [] (List.prefix_refl as) (List.prefix_refl tys) ⟨hK, hP, hD, va_S.rf, hW⟩ trivial hl (zargs_G 0 (zF_nil ha) hbb.2)
    unfold zMt
    cases htab : zTab M with
    | nil =>
      refine vx_ofW (cc := zCode M) (maxL := zMaxL M) (ret := zRet M) (ws' := Ts) hMo.2.2.2.1 (by unfold zHd; rw [htab]) (fun p e s m args below meth c s₁ B hml hno hv => key p e s m args below meth c s₁ B hml (fun _ => hno) (fun hne => absurd htab hne) hv)
    | cons t0 tb =>
      refine vx_ofWH (cc := zCode M) (maxL := zMaxL M) (ret := zRet M) (hh := zTab M) (ws' := Ts) hMo.2.2.2.1 (by unfold zHd; rw [htab]) (fun p e s m args below meth c s₁ B hml hv => key p e s m args below meth c s₁ B hml (fun h0 => by rw [h0] at htab; cases htab) (fun _ => ?_) hv)
      have hts := atoms_spec (ws := zHd M :: Ts) B.pre
      have h9 := hts _ List.mem_cons_self
      have e9 : zHd M = Cond.codeWith (zName M) (zCode M) (zMaxL M) (zRet M) (zTab M) := by unfold zHd; rw [htab]
      rw [e9] at h9
      exact vx_table (x := zName M) B h9
end ZCO
