/-! A STEP IS TRUE OF THE MACHINE -/
abbrev zA (n0 : Nat) : Nat → Prop := fun q => n0 ≤ q
/-- what is known of the classes that the world holds -/
def zCl (Ts : List Cond) (cl : List vw_C) (FT : zFT) : Prop := ∀ (ci : Nat) (q : vw_C), cl[ci]? = some q →
  (∀ w ∈ u_ws q.1 q.2.1 q.2.2, w ∈ Ts) ∧ (∀ k, k < q.2.2 → parseFieldDescriptor (q.2.1 k).2.2.1 = some (FT ci k).1) ∧ (∀ a, a < q.2.2 → ∀ b, b < q.2.2 → a ≠ b → (q.2.1 a).2.1 ≠ (q.2.1 b).2.1) ∧ ∀ k, k < q.2.2 → (q.2.1 k).2.2.2 = (FT ci k).2 ∧ (q.2.1 k).1 = q.1
def zlen (i : Instr) (n : Nat) : Nat := match i with
  | .tableswitch .. => n
  | .lookupswitch .. => n
  | .sipush _ => 3
  | .ldc_w _ => 3
  | .getfield _ => 3
  | .putfield _ => 3
  | .getstatic _ => 3
  | .invokevirtual _ => 3
  | .invokespecial _ => 3
  | .invokestatic _ => 3
  | .new _ => 3
  | .anewarray _ => 3
  | .iinc _ _ => 3
  | .ifCond _ _ => 3
  | .if_icmp _ _ => 3
  | .goto _ => 3
  | .bipush _ => 2
  | .ldc _ => 2
  | .iload _ => 2
  | .istore _ => 2
  | .aload _ => 2
  | .astore _ => 2
  | .newarray _ => 2
  | _ => 1
/-- what is known of an instruction: its bytes, its link -/
def zEok (Ts : List Cond) (cl : List vw_C) (sf : Nat → String × String × String) (M : zM) (en : zN) : Prop :=
  (decode (zCode M) en.1 = .ok (en.2.1, en.2.2.1) ∧ en.2.2.1 = zlen en.2.1 en.2.2.1) ∧ match en.2.1 with
  | .ldc k => Jvm.Cond.constant (zName M).cls k (Int32.ofNat en.2.2.2.1) ∈ Ts
  | .ldc_w k => Jvm.Cond.constant (zName M).cls k (Int32.ofNat en.2.2.2.1) ∈ Ts
  | .getfield k => ∃ q : vw_C, cl[en.2.2.2.1]? = some q ∧ en.2.2.2.2.1 < q.2.2 ∧ Jvm.Cond.fieldLink (zName M).cls k q.1 (q.2.1 en.2.2.2.2.1).2.1 (q.2.1 en.2.2.2.2.1).2.2.1 ∈ Ts
  | .putfield k => ∃ q : vw_C, cl[en.2.2.2.1]? = some q ∧ en.2.2.2.2.1 < q.2.2 ∧ Jvm.Cond.fieldLink (zName M).cls k q.1 (q.2.1 en.2.2.2.2.1).2.1 (q.2.1 en.2.2.2.2.1).2.2.1 ∈ Ts
  | .getstatic k => Jvm.Cond.fieldLink (zName M).cls k (sf en.2.2.2.1).1 (sf en.2.2.2.1).2.1 (sf en.2.2.2.1).2.2 ∈ Ts
  | _ => True
/-- the method stands: the machine, its code, its words, the outside arrays -/
def zCx (p : Program) (s : State) (m : MethodId) (args : Array Value) (meth : Method) (c : Code) (Ts : List Cond) (X : zX) (xa : List Nat) (sf : Nat → String × String × String) (n0 : Nat) (M : zM) : Prop :=
  p.tables.exec = Jvm.exec ∧ c.code = zCode M ∧ c.maxLocals = zMaxL M ∧ s.vm.findClass (zName M).cls = some m.cls ∧ (∀ w ∈ Ts, w.before args s = true) ∧ (∀ (k a : Nat), xa[k]? = some a → va_T .int a (X k).1 (fun j => .int ((X k).2 j)) (zA n0) s s.heap) ∧
  (∀ k : Nat, (sf k).1 ≠ "" → ∃ t : Nat, xa[k]? = some t ∧ va_Z (sf k).1 (sf k).2.1 (sf k).2.2 (.ref t) (zA n0) s s.heap) ∧ ((zKind M).1 = 2 → meth.name = "<init>") ∧ n0 ≤ s.heap.size
/-- the world now -/
def zI (D : va_G) (cl : List vw_C) (xa : List Nat) (n0 : Nat) (s : State) (tys : List (ClassId × FieldType)) (as : List Nat) (ws : va_W) (h : zH) (H : Heap) (locs : List Loc) : Prop :=
  va_K D cl tys s ∧ va_P D cl ws H ∧ va_D (zA n0) ws ∧ va_S (zA n0) s.heap H locs ∧ zW xa tys as h ws
section ZST
variable {p : Program} {l : Launch} {e : Env} {R : Room} {s : State} {m : MethodId} {args : Array Value} {below : List Frame} {meth : Method} {c : Code} {H : Heap} {locs : List Loc} {cells slots : Nat} {Q : State → Prop}
variable {Ts : List Cond} {cl : List vw_C} {FT : zFT} {X : zX} {xa : List Nat} {sf : Nat → String × String × String} {n0 : Nat} {M : zM} {D : va_G} {tys : List (ClassId × FieldType)} {as : List Nat} {ws : va_W} {h : zH} {pc : Nat} {ls : Array Slot} {sc rest : List Value} {lo lv : zL} {st : List Value} {en : zN}
theorem zs_push (C : zCx p s m args meth c Ts X xa sf n0 M) (he : zEok Ts cl sf M en) {v : Int32} {n : Nat} (hp : zpush en.2.1 en.2.2.2.1 = some (v, n)) (k : W p l e R s m args below meth c H locs cells slots Q (F0 m (en.1 + n) ls (.int v :: sc))) : W p l e R s m args below meth c H locs cells slots Q (F0 m en.1 ls sc) := by
  obtain ⟨hx, hb, -, hown, hts, -⟩ := C
  obtain ⟨pc, i, len, a, b, w⟩ := en
  obtain ⟨⟨hd, hn⟩, he⟩ := he
  dsimp only at hd hn he hp k ⊢
  rw [hn] at hd
  unfold zpush at hp
  split at hp
  · cases hp; exact lv_iconst hx hb hd rfl k
  · cases hp; exact lv_bipush hx hb hd rfl k
  · cases hp; exact lv_sipush hx hb hd rfl k
  · cases hp; exact lv_ldc hx hb hown (hts _ he) hd k
  · cases hp; exact lv_ldcw hx hb hown (hts _ he) hd k
  · cases hp
theorem zV_r {v w : Value} (hr : zisr v = true) (hv : zV xa as v w) : ∃ a, w = .ref a := by
  cases v with
  | ref k => obtain ⟨a, -, h⟩ := hv; exact ⟨a, h⟩
  | retAddr k => obtain ⟨a, -, h⟩ := hv; exact ⟨a, h⟩
  | _ => cases hr
theorem zV_i {v w : Value} (hr : zisi v = true) (hv : zV xa as v w) : ∃ x, v = .int x ∧ w = .int x := by
  cases v with
  | int x => exact ⟨x, rfl, hv⟩
  | _ => cases hr
theorem zs_lod (C : zCx p s m args meth c Ts X xa sf n0 M) (he : zEok Ts cl sf M en) {i n : Nat} {b : Bool} (hp : zlod en.2.1 = some (i, n, b)) {v : Value} (hv : zget lo i = some v) (ht : (bif b then zisr v else zisi v) = true) (hl : lv_has ls (zMaxL M) lv) (hg : zG xa as lo lv)
    (k : ∀ w : Value, zV xa as v w → W p l e R s m args below meth c H locs cells slots Q (F0 m (en.1 + n) ls (w :: sc))) : W p l e R s m args below meth c H locs cells slots Q (F0 m en.1 ls sc) := by
  obtain ⟨hx, hb, -, hown, hts, -⟩ := C
  obtain ⟨pc, ins, len, a0, b0, w0⟩ := en
  obtain ⟨⟨hd, hn⟩, he⟩ := he
  dsimp only at hd hn he hp k ⊢
  rw [hn] at hd
  obtain ⟨j, w, h1, h2⟩ := zG_get hg hv
  have k := k w h2
  unfold zlod at hp
  split at hp
  · cases hp
    obtain ⟨x, -, rfl⟩ := zV_i ht h2
    exact lv_iload hx hb hd (lv_at hl j h1) k
  · cases hp
    obtain ⟨x, -, rfl⟩ := zV_i ht h2
    exact lv_iload_n hx hb hd rfl (lv_at hl j h1) k
  · cases hp
    obtain ⟨x, rfl⟩ := zV_r ht h2
    exact lv_aload hx hb hd (lv_at hl j h1) k
  · cases hp
    obtain ⟨x, rfl⟩ := zV_r ht h2
    exact lv_aload_n hx hb hd rfl (lv_at hl j h1) k
  · cases hp
theorem zs_sto (C : zCx p s m args meth c Ts X xa sf n0 M) (he : zEok Ts cl sf M en) {i n : Nat} {b : Bool} (hp : zsto en.2.1 = some (i, n, b)) {v w : Value} (hv : zV xa as v w) (hi : i < zMaxL M) (ht : (bif b then zisr v else zisi v) = true) (hl : lv_has ls (zMaxL M) lv) (hg : zG xa as lo lv)
    (k : ∀ (ls' : Array Slot) (lv' : zL), lv_has ls' (zMaxL M) lv' → zG xa as (zput lo i v) lv' → W p l e R s m args below meth c H locs cells slots Q (F0 m (en.1 + n) ls' sc)) : W p l e R s m args below meth c H locs cells slots Q (F0 m en.1 ls (w :: sc)) := by
  obtain ⟨hx, hb, -, hown, hts, -⟩ := C
  obtain ⟨pc, ins, len, a0, b0, w0⟩ := en
  obtain ⟨⟨hd, hn⟩, he⟩ := he
  dsimp only at hd hn he hp k ⊢
  rw [hn] at hd
  have hf := zG_filter (i := i) hg
  unfold zsto at hp
  split at hp
  · cases hp
    obtain ⟨x, -, rfl⟩ := zV_i ht hv
    exact lv_istore hx hb hd hl hi rfl (fun ls' hl' => k ls' _ hl' ⟨⟨rfl, hv, rfl⟩, hf⟩)
  · cases hp
    obtain ⟨x, -, rfl⟩ := zV_i ht hv
    exact lv_istore_n hx hb hd rfl hl hi rfl (fun ls' hl' => k ls' _ hl' ⟨⟨rfl, hv, rfl⟩, hf⟩)
  · cases hp
    obtain ⟨x, rfl⟩ := zV_r ht hv
    exact lv_astore hx hb hd hl hi rfl (fun ls' hl' => k ls' _ hl' ⟨⟨rfl, hv, rfl⟩, hf⟩)
  · cases hp
    obtain ⟨x, rfl⟩ := zV_r ht hv
    exact lv_astore_n hx hb hd rfl hl hi rfl (fun ls' hl' => k ls' _ hl' ⟨⟨rfl, hv, rfl⟩, hf⟩)
  · cases hp
theorem zF_1 {x : Int32} {r : List Value} (h1 : z1 st = some (x, r)) (hf : zF xa as st sc) : ∃ sc', sc = .int x :: sc' ∧ zF xa as r sc' := by
  unfold z1 at h1
  split at h1
  · cases h1
    cases sc with
    | nil => exact hf.elim
    | cons w sc' => exact ⟨sc', by rw [show w = .int x from hf.1], hf.2⟩
  · cases h1
theorem zF_2 {x y : Int32} {r : List Value} (h1 : z2 st = some (x, y, r)) (hf : zF xa as st sc) : ∃ sc', sc = .int y :: .int x :: sc' ∧ zF xa as r sc' := by
  unfold z2 at h1
  split at h1
  · cases h1
    match sc, hf with
    | w :: w2 :: sc', hf => exact ⟨sc', by rw [show w = .int y from hf.1, show w2 = .int x from hf.2.1], hf.2.2⟩
  · cases h1
theorem ztgt_eq {off : Int} {t : Nat} (ht : ztgt pc off = some t) : (pc : Int) + off = (t : Int) := by
  unfold ztgt at ht
  cases hd : decide (0 ≤ (pc : Int) + off) with
  | false => rw [hd] at ht; cases ht
  | true =>
    rw [hd] at ht
    have h0 := of_decide_eq_true hd
    have e1 : ((pc : Int) + off).toNat = t := Option.some.inj ht
    omega
theorem zs_jmp (C : zCx p s m args meth c Ts X xa sf n0 M) (he : zEok Ts cl sf M en) {t : Nat} {r : List Value} (hp : zjmp en.2.1 en.1 en.2.2.1 st = some (t, r)) (hf : zF xa as st sc)
    (k : ∀ sc' : List Value, zF xa as r sc' → W p l e R s m args below meth c H locs cells slots Q (F0 m t ls sc')) : W p l e R s m args below meth c H locs cells slots Q (F0 m en.1 ls sc) := by
  obtain ⟨hx, hb, -, hown, hts, -⟩ := C
  obtain ⟨pc, ins, len, a0, b0, w0⟩ := en
  obtain ⟨⟨hd, hn⟩, he⟩ := he
  dsimp only at hd hn he hp k ⊢
  unfold zjmp at hp
  split at hp
  · rw [hn] at hd
    split at hp
    · cases hp
      exact lv_goto hx hb hd (ztgt_eq (by assumption)) (k _ hf)
    · cases hp
  · rename_i cd off
    rw [hn] at hd
    split at hp
    · rename_i x r' t' h1 h2
      cases hp
      obtain ⟨sc', rfl, hf'⟩ := zF_1 h1 hf
      have k := k _ hf'
      have ht := ztgt_eq h2
      cases cd <;> unfold zc1 at k <;> dsimp only at k
      · exact lv_if_eq hx hb hd ht (fun q => by rw [decide_eq_true q] at k; exact k) (fun q => by rw [decide_eq_false q] at k; exact k)
      · exact lv_if_ne hx hb hd ht (fun q => by rw [decide_eq_true q] at k; exact k) (fun q => by rw [decide_eq_false (not_not_intro q)] at k; exact k)
      · exact lv_if_lt hx hb hd ht (fun q => by rw [decide_eq_true q] at k; exact k) (fun q => by rw [decide_eq_false q] at k; exact k)
      · exact lv_if_ge hx hb hd ht (fun q => by rw [decide_eq_true q] at k; exact k) (fun q => by rw [decide_eq_false q] at k; exact k)
      · exact lv_if_gt hx hb hd ht (fun q => by rw [decide_eq_true q] at k; exact k) (fun q => by rw [decide_eq_false q] at k; exact k)
      · exact lv_if_le hx hb hd ht (fun q => by rw [decide_eq_true q] at k; exact k) (fun q => by rw [decide_eq_false q] at k; exact k)
    · cases hp
  · rename_i cd off
    rw [hn] at hd
    split at hp
    · rename_i x y r' t' h1 h2
      cases hp
      obtain ⟨sc', rfl, hf'⟩ := zF_2 h1 hf
      have k := k _ hf'
      have ht := ztgt_eq h2
      cases cd <;> unfold zc2 at k <;> dsimp only at k
      · exact lv_icmp_eq hx hb hd ht (fun q => by rw [decide_eq_true q] at k; exact k) (fun q => by rw [decide_eq_false q] at k; exact k)
      · exact lv_icmp_ne hx hb hd ht (fun q => by rw [decide_eq_true q] at k; exact k) (fun q => by rw [decide_eq_false (not_not_intro q)] at k; exact k)
      · exact lv_icmp_lt hx hb hd ht (fun q => by rw [decide_eq_true q] at k; exact k) (fun q => by rw [decide_eq_false q] at k; exact k)
      · exact lv_icmp_ge hx hb hd ht (fun q => by rw [decide_eq_true q] at k; exact k) (fun q => by rw [decide_eq_false q] at k; exact k)
      · exact lv_icmp_gt hx hb hd ht (fun q => by rw [decide_eq_true q] at k; exact k) (fun q => by rw [decide_eq_false q] at k; exact k)
      · exact lv_icmp_le hx hb hd ht (fun q => by rw [decide_eq_true q] at k; exact k) (fun q => by rw [decide_eq_false q] at k; exact k)
    · cases hp
  · rename_i dflt lo9 hi9 offs
    split at hp
    · rename_i x r' h1
      obtain ⟨sc', rfl, hf'⟩ := zF_1 h1 hf
      cases hd9 : decide (x.toInt < lo9) || decide (hi9 < x.toInt) with
      | true =>
        rw [hd9, cond_true] at hp
        split at hp
        · rename_i t' h2
          cases hp
          rw [Bool.or_eq_true, decide_eq_true_eq, decide_eq_true_eq] at hd9
          exact lv_tableOut hx hb hd hd9 (ztgt_eq h2) (k _ hf')
        · cases hp
      | false =>
        rw [hd9, cond_false] at hp
        rw [Bool.or_eq_false_iff, decide_eq_false_iff_not, decide_eq_false_iff_not] at hd9
        split at hp
        · rename_i off ho
          split at hp
          · rename_i t' h2
            cases hp
            exact lv_tableIn hx hb hd hd9.1 hd9.2 ho (ztgt_eq h2) (k _ hf')
          · cases hp
        · cases hp
    · cases hp
  · rename_i dflt ps
    split at hp
    · rename_i x r' h1
      obtain ⟨sc', rfl, hf'⟩ := zF_1 h1 hf
      cases hd9 : (ps.toList.zip (ps.toList.drop 1)).all (fun (a, next) => a.1 < next.1) with
      | true =>
        rw [hd9, cond_true] at hp
        split at hp
        · rename_i t' h2
          cases hp
          exact lv_lookup hx hb hd hd9 rfl (ztgt_eq h2) (k _ hf')
        · cases hp
      | false =>
        rw [hd9, cond_false] at hp
        cases hp
    · cases hp
  · cases hp
theorem zF_len : ∀ {vs cs : List Value}, zF xa as vs cs → vs.length = cs.length
  | [], [], _ => rfl
  | _ :: _, _ :: _, hv => by rw [List.length_cons, List.length_cons, zF_len hv.2]
  | [], _ :: _, hv => hv.elim
  | _ :: _, [], hv => hv.elim
theorem zF_at {k : Nat} {v : Value} : ∀ {vs cs : List Value}, zF xa as vs cs → vs[k]? = some v → ∃ w, cs[k]? = some w ∧ zV xa as v w
  | [], _, _, hk => by simp at hk
  | _ :: _, [], hv, _ => hv.elim
  | x :: vs, y :: cs, hv, hk => by
    cases k with
    | zero => rw [List.getElem?_cons_zero] at hk; cases hk; exact ⟨y, by rw [List.getElem?_cons_zero], hv.1⟩
    | succ k => rw [List.getElem?_cons_succ] at hk; obtain ⟨w, h1, h2⟩ := zF_at hv.2 hk; exact ⟨w, by rw [List.getElem?_cons_succ]; exact h1, h2⟩
theorem zF_set {k : Nat} {v w : Value} (hvw : zV xa as v w) : ∀ {vs cs : List Value}, zF xa as vs cs → zF xa as (vs.set k v) (cs.set k w)
  | [], [], _ => by trivial
  | _ :: _, [], hv => hv.elim
  | [], _ :: _, hv => hv.elim
  | x :: vs, y :: cs, hv => by
    cases k with
    | zero => exact ⟨hvw, hv.2⟩
    | succ k => exact ⟨hv.1, zF_set hvw hv.2⟩
theorem zr1_eq {q : Nat} {r : List Value} (h1 : zr1 st = some (q, r)) : st = .ref q :: r := by
  unfold zr1 at h1; split at h1 <;> cases h1; rfl
theorem zvr_eq {v : Value} {q : Nat} {r : List Value} (h1 : zvr st = some (v, q, r)) : st = v :: .ref q :: r := by
  unfold zvr at h1; split at h1 <;> cases h1; rfl
theorem zir_eq {i : Int32} {q : Nat} {r : List Value} (h1 : zir st = some (i, q, r)) : st = .int i :: .ref q :: r := by
  unfold zir at h1; split at h1 <;> cases h1; rfl
theorem zix_eq {i : Int32} {q : Nat} {r : List Value} (h1 : zix st = some (i, q, r)) : st = .int i :: .retAddr q :: r := by
  unfold zix at h1; split at h1 <;> cases h1; rfl
theorem zvir_eq {v : Value} {i : Int32} {q : Nat} {r : List Value} (h1 : zvir st = some (v, i, q, r)) : st = v :: .int i :: .ref q :: r := by
  unfold zvir at h1; split at h1 <;> cases h1; rfl
theorem zin_in {i : Int32} {n : Nat} (hz : zin i n = true) : vp_in i n := by unfold zin at hz; unfold vp_in; exact of_decide_eq_true hz
theorem zs_get (hcl : zCl Ts cl FT) (C : zCx p s m args meth c Ts X xa sf n0 M) (he : zEok Ts cl sf M en) {ix : Nat} (hi : en.2.1 = .getfield ix) {v : Value} {r : List Value} (hp : zfld en.2.2.2.1 en.2.2.2.2.1 st h = some (v, r)) (I : zI D cl xa n0 s tys as ws h H locs) (hf : zF xa as st sc)
    (k : ∀ (w : Value) (sc' : List Value), zV xa as v w → zF xa as r sc' → W p l e R s m args below meth c H locs cells slots Q (F0 m (en.1 + 3) ls (w :: sc'))) : W p l e R s m args below meth c H locs cells slots Q (F0 m en.1 ls sc) := by
  obtain ⟨hx, hb, -, hown, hts, -⟩ := C
  obtain ⟨hK, hP, hD, hS, hW⟩ := I
  obtain ⟨pc, ins, len, a0, b0, w0⟩ := en
  obtain ⟨⟨hd, hn⟩, he⟩ := he
  dsimp only at hd hn he hp k hi ⊢
  subst hi
  rw [hn] at hd
  obtain ⟨q, hq, hbq, hlk⟩ := he
  obtain ⟨g1, g2, g3, g4⟩ := hcl a0 q hq
  unfold zfld at hp
  split at hp
  · cases hp
  · rename_i q1 r1 h1
    have e1 := zr1_eq h1
    subst e1
    split at hp
    · rename_i ci fs h2
      cases hbb : Nat.beq ci a0 with
      | false => rw [hbb, cond_false] at hp; cases hp
      | true =>
        rw [hbb, cond_true] at hp
        have e2 := Nat.eq_of_beq_eq_true hbb
        subst e2
        split at hp
        · rename_i v1 h3
          cases hp
          obtain ⟨a1, d1, h4, h5, h6⟩ := hW.2.2 _ _ h2
          cases d1 with
          | inl x => exact h6.elim
          | inr o =>
            obtain ⟨oc, ofs⟩ := o
            obtain ⟨h7, h8⟩ := h6
            dsimp only at h7 h8
            subst h7
            obtain ⟨w, h9, h10⟩ := zF_at h8 h3
            match sc, hf with
            | w1 :: sc', hf =>
              obtain ⟨⟨a2, h11, h12⟩, hf2⟩ := hf
              cases h4.symm.trans h11
              subst h12
              exact va_get (C := q.1) (T := q.2.1) (N := q.2.2) hx hb hts g1 hown hK hP q1 h5 hq b0 hbq (hts _ hlk) (fun x hx9 => by rw [← (g4 b0 hbq).2]; exact hx9) h9 hd (k w sc' (zV_nil h10) hf2)
        · cases hp
    · cases hp
theorem zfits_ok {ty : FieldType} {v w : Value} (hz : zfits ty v = true) (hv : zV xa as v w) : narrow ty w = w ∧ fits ty w = true := by
  unfold zfits at hz
  split at hz
  · rw [show w = .int _ from hv]; exact ⟨rfl, rfl⟩
  · rename_i x
    rw [show w = .int _ from hv]
    rw [Bool.or_eq_true, decide_eq_true_eq, decide_eq_true_eq] at hz
    rcases hz with rfl | rfl <;> exact ⟨by decide, by decide⟩
  · obtain ⟨a, -, rfl⟩ := hv; exact ⟨rfl, rfl⟩
  · obtain ⟨a, -, rfl⟩ := hv; exact ⟨rfl, rfl⟩
  · cases hz
theorem zfits_pl {ty : FieldType} {v : Value} (hz : zfits ty v = true) : zpl v = true := by
  unfold zfits at hz
  split at hz <;> first | rfl | cases hz
theorem zs_put (hcl : zCl Ts cl FT) (C : zCx p s m args meth c Ts X xa sf n0 M) (hMc : (zKind M).1 = 2 → ∀ q : vw_C, cl[(zKind M).2.1]? = some q → q.1 = (zName M).cls) (he : zEok Ts cl sf M en) {ix : Nat} (hi : en.2.1 = .putfield ix) {r : List Value} {h' : zH} (hp : zpf M FT en.2.2.2.1 en.2.2.2.2.1 st h = some (r, h')) (I : zI D cl xa n0 s tys as ws h H locs) (hf : zF xa as st sc)
    (k : ∀ (ws' : va_W) (H' : Heap) (locs' : List Loc) (sc' : List Value), zI D cl xa n0 s tys as ws' h' H' locs' → zF xa as r sc' → W p l e R s m args below meth c H' locs' cells slots Q (F0 m (en.1 + 3) ls sc')) : W p l e R s m args below meth c H locs cells slots Q (F0 m en.1 ls sc) := by
  obtain ⟨hx, hb, -, hown, hts, -, -, hini, -⟩ := C
  obtain ⟨hK, hP, hD, hS, hW⟩ := I
  obtain ⟨pc, ins, len, a0, b0, w0⟩ := en
  obtain ⟨⟨hd, hn⟩, he⟩ := he
  dsimp only at hd hn he hp k hi ⊢
  subst hi
  rw [hn] at hd
  obtain ⟨q, hq, hbq, hlk⟩ := he
  obtain ⟨g1, g2, g3, g4⟩ := hcl a0 q hq
  unfold zpf at hp
  split at hp
  · cases hp
  · rename_i v q1 r1 h1
    have e1 := zvr_eq h1
    subst e1
    split at hp
    · rename_i ci fs h2
      cases hbb : Nat.beq ci a0 && zfits (FT a0 b0).1 v && Nat.blt b0 fs.length && (!(FT a0 b0).2 || (Nat.beq (zKind M).1 2 && Nat.beq (zKind M).2.1 a0)) with
      | false => rw [hbb, cond_false] at hp; cases hp
      | true =>
        rw [hbb, cond_true] at hp
        cases hp
        rw [Bool.and_eq_true, Bool.and_eq_true, Bool.and_eq_true] at hbb
        obtain ⟨⟨⟨b1, b2⟩, b3⟩, b4⟩ := hbb
        have e2 := Nat.eq_of_beq_eq_true b1
        subst e2
        have b5 : b0 < fs.length := Nat.le_of_ble_eq_true b3
        obtain ⟨a1, d1, h4, h5, h6⟩ := hW.2.2 _ _ h2
        cases d1 with
        | inl x => exact h6.elim
        | inr o =>
          obtain ⟨oc, ofs⟩ := o
          obtain ⟨h7, h8⟩ := h6
          dsimp only at h7 h8
          subst h7
          match sc, hf with
          | w :: w1 :: sc', hf =>
            obtain ⟨hv, ⟨a2, h11, h12⟩, hf2⟩ := hf
            cases h4.symm.trans h11
            subst h12
            obtain ⟨z1, z2⟩ := zfits_ok b2 hv
            have hl9 : b0 < ofs.length := by rw [← zF_len h8]; exact b5
            have hW' : zW xa tys as (h.set q1 (.inr (ci, fs.set b0 v))) (ws.set q1 (a1, .inr (ci, ofs.set b0 w))) := zW_set hW h4 ⟨rfl, zF_set (zV_pl (zfits_pl b2) hv) h8⟩
            cases hfin : (FT ci b0).2 with
            | false =>
              exact va_put (C := q.1) (T := q.2.1) (N := q.2.2) hx hb hts g1 (FT ci · |>.1) g2 g3 hown hK hP hD hS q1 h5 hq b0 hbq (hts _ hlk) (fun x hx9 => by rw [← (g4 b0 hbq).2]; exact hx9) ((g4 b0 hbq).1.trans hfin) (g2 b0 hbq) z1 z2 hl9 hd
                (fun H1 locs1 hP1 hD1 hS1 => k _ H1 locs1 sc' ⟨hK, hP1, hD1, hS1, hW'⟩ hf2)
            | true =>
              rw [hfin, Bool.not_true, Bool.false_or, Bool.and_eq_true] at b4
              have c1 := Nat.eq_of_beq_eq_true b4.1
              have c2 := Nat.eq_of_beq_eq_true b4.2
              exact va_putF (C := q.1) (T := q.2.1) (N := q.2.2) hx hb hts g1 (FT ci · |>.1) g2 g3 hown hK hP hD hS q1 h5 hq b0 hbq (hts _ hlk) (fun x hx9 => by rw [← (g4 b0 hbq).2]; exact hx9) ((g4 b0 hbq).1.trans hfin) (hini c1) ((g4 b0 hbq).2.trans (hMc c1 q (by rw [c2]; exact hq))) (g2 b0 hbq) z1 z2 hl9 hd
                (fun H1 locs1 hP1 hD1 hS1 => k _ H1 locs1 sc' ⟨hK, hP1, hD1, hS1, hW'⟩ hf2)
    · cases hp
theorem zs_al (C : zCx p s m args meth c Ts X xa sf n0 M) (he : zEok Ts cl sf M en) {v : Value} {r : List Value} (hp : zal en.2.1 X st h = some (v, r)) (I : zI D cl xa n0 s tys as ws h H locs) (hf : zF xa as st sc)
    (k : ∀ (w : Value) (sc' : List Value), zV xa as v w → zF xa as r sc' → W p l e R s m args below meth c H locs cells slots Q (F0 m (en.1 + 1) ls (w :: sc'))) : W p l e R s m args below meth c H locs cells slots Q (F0 m en.1 ls sc) := by
  obtain ⟨hx, hb, -, hown, hts, hXa, -⟩ := C
  obtain ⟨hK, hP, hD, hS, hW⟩ := I
  obtain ⟨pc, ins, len, a0, b0, w0⟩ := en
  obtain ⟨⟨hd, hn⟩, he⟩ := he
  dsimp only at hd hn he hp k ⊢
  rw [hn] at hd
  unfold zal at hp
  split at hp
  · rename_i j q1 r1 h1
    have e1 := zir_eq h1
    subst e1
    match sc, hf with
    | w1 :: w2 :: sc', hf =>
    obtain ⟨hw1, ⟨a2, h11, h12⟩, hf2⟩ := hf
    have hw1 : w1 = .int j := hw1
    subst hw1; subst h12
    split at hp
    · rename_i n f h2
      cases hz : zin j n with
      | false => rw [hz, cond_false] at hp; cases hp
      | true =>
      rw [hz, cond_true] at hp; cases hp
      obtain ⟨a1, d1, h4, h5, h6⟩ := hW.2.2 _ _ h2
      cases h4.symm.trans h11
      match d1, h6 with
      | .inl (cA, n9, .inl g), h6 =>
        obtain ⟨h7, ⟨t0, h8⟩, h9⟩ := h6
        have h7 : n = n9 := h7
        have h9 : f = g := h9
        subst h7; subst h9
        exact va_iald hx hb hK hP q1 t0 h5 h8 (zin_in hz) hd (k _ sc' rfl hf2)
    · rename_i n f h2
      cases hz : zin j n with
      | false => rw [hz, cond_false] at hp; cases hp
      | true =>
      rw [hz, cond_true] at hp; cases hp
      obtain ⟨a1, d1, h4, h5, h6⟩ := hW.2.2 _ _ h2
      cases h4.symm.trans h11
      match d1, h6 with
      | .inl (cA, n9, .inl g), h6 =>
        obtain ⟨h7, ⟨t0, h8⟩, h9⟩ := h6
        have h7 : n = n9 := h7
        have h9 : f = g := h9
        subst h7; subst h9
        exact va_zald hx hb hK hP q1 t0 h5 h8 (zin_in hz) hd (k _ sc' rfl hf2)
    · rename_i n f h2
      cases hz : zin j n with
      | false => rw [hz, cond_false] at hp; cases hp
      | true =>
      rw [hz, cond_true] at hp; cases hp
      obtain ⟨a1, d1, h4, h5, h6⟩ := hW.2.2 _ _ h2
      cases h4.symm.trans h11
      match d1, h6 with
      | .inl (cA, n9, .inr (.inl g)), h6 =>
        obtain ⟨h7, ⟨t0, h8⟩, h9⟩ := h6
        have h7 : n = n9 := h7
        have h9 : f = g := h9
        subst h7; subst h9
        exact va_lald hx hb hK hP q1 t0 h5 h8 (zin_in hz) hd (k _ sc' rfl hf2)
    · rename_i n f h2
      cases hz : zin j n with
      | false => rw [hz, cond_false] at hp; cases hp
      | true =>
      rw [hz, cond_true] at hp; cases hp
      obtain ⟨a1, d1, h4, h5, h6⟩ := hW.2.2 _ _ h2
      cases h4.symm.trans h11
      match d1, h6 with
      | .inl (cA, n9, .inr (.inr (.inr (.inr g)))), h6 =>
        obtain ⟨h7, ⟨t0, h8⟩, h9⟩ := h6
        have h7 : n = n9 := h7
        have h99 : zR as (f j.toNatClampNeg) (g j.toNatClampNeg) := h9 _
        subst h7
        refine va_aldq hx hb hK hP q1 t0 h5 h8 (zin_in hz) hd (k _ sc' ?_ hf2)
        cases hfj : f j.toNatClampNeg with
        | none => rw [hfj] at h99; rw [show g j.toNatClampNeg = none from h99]; rfl
        | some kk => rw [hfj] at h99; obtain ⟨a3, h13, h14⟩ := h99; rw [h14]; exact ⟨a3, h13, rfl⟩
    · rename_i n f h2
      cases hz : zin j n with
      | false => rw [hz, cond_false] at hp; cases hp
      | true =>
      rw [hz, cond_true] at hp; cases hp
      obtain ⟨a1, d1, h4, h5, h6⟩ := hW.2.2 _ _ h2
      cases h4.symm.trans h11
      match d1, h6 with
      | .inl (cA, n9, .inr (.inr (.inr (.inr g)))), h6 =>
        obtain ⟨h7, ⟨t0, h8⟩, h9⟩ := h6
        have h7 : n = n9 := h7
        have h99 : zR as (f j.toNatClampNeg) (g j.toNatClampNeg) := h9 _
        subst h7
        refine va_aldq hx hb hK hP q1 t0 h5 h8 (zin_in hz) hd (k _ sc' ?_ hf2)
        cases hfj : f j.toNatClampNeg with
        | none => rw [hfj] at h99; rw [show g j.toNatClampNeg = none from h99]; rfl
        | some kk => rw [hfj] at h99; obtain ⟨a3, h13, h14⟩ := h99; rw [h14]; exact ⟨a3, h13, rfl⟩
    · cases hp
  · split at hp
    · rename_i j q1 r1 h1
      have e1 := zix_eq h1
      subst e1
      match sc, hf with
      | w1 :: w2 :: sc', hf =>
      obtain ⟨hw1, ⟨a2, h11, h12⟩, hf2⟩ := hf
      have hw1 : w1 = .int j := hw1
      subst hw1; subst h12
      split at hp
      · cases hz : zin j (X q1).1 with
        | false => rw [hz, cond_false] at hp; cases hp
        | true =>
        rw [hz, cond_true] at hp; cases hp
        exact va_ti hx hb (hXa q1 a2 h11) hS (zin_in hz) rfl hd (k _ sc' rfl hf2)
      · cases hp
    · cases hp
theorem zs_as (hcl2 : ∃ q : vw_C, cl[2]? = some q ∧ q.1 = "NestedPager$Guest") (hcl9 : ∃ q : vw_C, cl[9]? = some q ∧ q.1 = "NestedPager$Vcpu") (C : zCx p s m args meth c Ts X xa sf n0 M) (he : zEok Ts cl sf M en) {r : List Value} {h' : zH} (hp : zas en.2.1 st h = some (r, h')) (I : zI D cl xa n0 s tys as ws h H locs) (hf : zF xa as st sc)
    (k : ∀ (ws' : va_W) (H' : Heap) (locs' : List Loc) (sc' : List Value), zI D cl xa n0 s tys as ws' h' H' locs' → zF xa as r sc' → W p l e R s m args below meth c H' locs' cells slots Q (F0 m (en.1 + 1) ls sc')) : W p l e R s m args below meth c H locs cells slots Q (F0 m en.1 ls sc) := by
  obtain ⟨hx, hb, -, hown, hts, hXa, -⟩ := C
  obtain ⟨hK, hP, hD, hS, hW⟩ := I
  obtain ⟨pc, ins, len, a0, b0, w0⟩ := en
  obtain ⟨⟨hd, hn⟩, he⟩ := he
  dsimp only at hd hn he hp k ⊢
  rw [hn] at hd
  unfold zas at hp
  split at hp
  · cases hp
  rename_i v j q1 r1 h1
  have e1 := zvir_eq h1
  subst e1
  match sc, hf with
  | w0 :: w1 :: w2 :: sc', hf =>
  obtain ⟨hw0, hw1, ⟨a2, h11, h12⟩, hf2⟩ := hf
  have hw1 : w1 = .int j := hw1
  subst hw1; subst h12
  split at hp
  · rename_i x n f h2
    have hw0 : w0 = .int x := hw0
    subst hw0
    cases hz : zin j n with
    | false => rw [hz, cond_false] at hp; cases hp
    | true =>
    rw [hz, cond_true] at hp; cases hp
    obtain ⟨a1, d1, h4, h5, h6⟩ := hW.2.2 _ _ h2
    cases h4.symm.trans h11
    match d1, h6 with
    | .inl (cA, n9, .inl g), h6 =>
      obtain ⟨h7, ⟨t0, h8⟩, h9⟩ := h6
      have h7 : n = n9 := h7
      have h9 : f = g := h9
      subst h7; subst h9
      exact va_iast hx hb hK hP hD hS q1 t0 h5 h8 (zin_in hz) hd (fun H1 locs1 hP1 hD1 hS1 => k _ H1 locs1 sc' ⟨hK, hP1, hD1, hS1, zW_set hW h4 ⟨rfl, ⟨t0, h8⟩, rfl⟩⟩ hf2)
  · rename_i x n f h2
    have hw0 : w0 = .int x := hw0
    subst hw0
    cases hz : zin j n with
    | false => rw [hz, cond_false] at hp; cases hp
    | true =>
    rw [hz, cond_true] at hp; cases hp
    obtain ⟨a1, d1, h4, h5, h6⟩ := hW.2.2 _ _ h2
    cases h4.symm.trans h11
    match d1, h6 with
    | .inl (cA, n9, .inl g), h6 =>
      obtain ⟨h7, ⟨t0, h8⟩, h9⟩ := h6
      have h7 : n = n9 := h7
      have h9 : f = g := h9
      subst h7; subst h9
      exact va_zast hx hb hK hP hD hS q1 t0 h5 h8 (zin_in hz) hd (fun H1 locs1 hP1 hD1 hS1 => k _ H1 locs1 sc' ⟨hK, hP1, hD1, hS1, zW_set hW h4 ⟨rfl, ⟨t0, h8⟩, rfl⟩⟩ hf2)
  · rename_i w n f h2
    split at hp
    · rename_i fs h3
      cases hz : zin j n with
      | false => rw [hz, cond_false] at hp; cases hp
      | true =>
      rw [hz, cond_true] at hp; cases hp
      obtain ⟨a1, d1, h4, h5, h6⟩ := hW.2.2 _ _ h2
      obtain ⟨a9, d9, k4, k5, k6⟩ := hW.2.2 _ _ h3
      obtain ⟨a8, k7, k8⟩ := hw0
      subst k8
      cases k4.symm.trans k7
      cases h4.symm.trans h11
      match d1, h6, d9, k6, k5 with
      | .inl (cA, n9, .inr (.inr (.inr (.inr g)))), h6, .inr (ci9, vs9), k6, k5 =>
        obtain ⟨h7, ⟨t0, h8⟩, h9⟩ := h6
        have h7 : n = n9 := h7
        have k9 : 2 = ci9 := k6.1
        subst h7; subst k9
        obtain ⟨cq, c1, c2⟩ := hcl2
        exact va_astq hx hb hK hP hD hS q1 t0 w 2 h5 (by rw [c2]; exact h8) k5 c1 (zin_in hz) hd (fun H1 locs1 hP1 hD1 hS1 => k _ H1 locs1 sc' ⟨hK, hP1, hD1, hS1, zW_set hW h4 ⟨rfl, ⟨t0, h8⟩, fun jj => by
          unfold va_up
          by_cases ej : jj = j.toNatClampNeg
          · rw [if_pos ej, if_pos ej]; exact ⟨a9, k4, rfl⟩
          · rw [if_neg ej, if_neg ej]; exact h9 jj⟩⟩ hf2)
    · cases hp
  · rename_i w n f h2
    split at hp
    · rename_i fs h3
      cases hz : zin j n with
      | false => rw [hz, cond_false] at hp; cases hp
      | true =>
      rw [hz, cond_true] at hp; cases hp
      obtain ⟨a1, d1, h4, h5, h6⟩ := hW.2.2 _ _ h2
      obtain ⟨a9, d9, k4, k5, k6⟩ := hW.2.2 _ _ h3
      obtain ⟨a8, k7, k8⟩ := hw0
      subst k8
      cases k4.symm.trans k7
      cases h4.symm.trans h11
      match d1, h6, d9, k6, k5 with
      | .inl (cA, n9, .inr (.inr (.inr (.inr g)))), h6, .inr (ci9, vs9), k6, k5 =>
        obtain ⟨h7, ⟨t0, h8⟩, h9⟩ := h6
        have h7 : n = n9 := h7
        have k9 : 9 = ci9 := k6.1
        subst h7; subst k9
        obtain ⟨cq, c1, c2⟩ := hcl9
        exact va_astq hx hb hK hP hD hS q1 t0 w 9 h5 (by rw [c2]; exact h8) k5 c1 (zin_in hz) hd (fun H1 locs1 hP1 hD1 hS1 => k _ H1 locs1 sc' ⟨hK, hP1, hD1, hS1, zW_set hW h4 ⟨rfl, ⟨t0, h8⟩, fun jj => by
          unfold va_up
          by_cases ej : jj = j.toNatClampNeg
          · rw [if_pos ej, if_pos ej]; exact ⟨a9, k4, rfl⟩
          · rw [if_neg ej, if_neg ej]; exact h9 jj⟩⟩ hf2)
    · cases hp
  · rename_i x n f h2
    have hw0 : w0 = .long x := hw0
    subst hw0
    cases hz : zin j n with
    | false => rw [hz, cond_false] at hp; cases hp
    | true =>
    rw [hz, cond_true] at hp; cases hp
    obtain ⟨a1, d1, h4, h5, h6⟩ := hW.2.2 _ _ h2
    cases h4.symm.trans h11
    match d1, h6 with
    | .inl (cA, n9, .inr (.inl g)), h6 =>
      obtain ⟨h7, ⟨t0, h8⟩, h9⟩ := h6
      have h7 : n = n9 := h7
      have h9 : f = g := h9
      subst h7; subst h9
      exact va_last hx hb hK hP hD hS q1 t0 h5 h8 (zin_in hz) hd (fun H1 locs1 hP1 hD1 hS1 => k _ H1 locs1 sc' ⟨hK, hP1, hD1, hS1, zW_set hW h4 ⟨rfl, ⟨t0, h8⟩, rfl⟩⟩ hf2)
  · cases hp
theorem zs_op2 (C : zCx p s m args meth c Ts X xa sf n0 M) (he : zEok Ts cl sf M en) {x y v : Int32} (hp : zop2 en.2.1 x y = some v)
    (k : W p l e R s m args below meth c H locs cells slots Q (F0 m (en.1 + 1) ls (.int v :: sc))) : W p l e R s m args below meth c H locs cells slots Q (F0 m en.1 ls (.int y :: .int x :: sc)) := by
  obtain ⟨hx, hb, -, hown, hts, hXa, -⟩ := C
  obtain ⟨pc, ins, len, a0, b0, w0⟩ := en
  obtain ⟨⟨hd, hn⟩, he⟩ := he
  dsimp only at hd hn he hp k ⊢
  rw [hn] at hd
  unfold zop2 at hp
  split at hp
  · cases hp; exact lv_iadd hx hb hd k
  · cases hp; exact lv_isub hx hb hd k
  · cases hp; exact lv_imul hx hb hd k
  · cases hp; exact lv_iand hx hb hd k
  · cases hp; exact lv_ior hx hb hd k
  · cases hp; exact lv_ishl hx hb hd k
  · cases hp; exact lv_ishr hx hb hd k
  · cases hz : decide (y = 0) with
    | true => rw [hz, cond_true] at hp; cases hp
    | false => rw [hz, cond_false] at hp; cases hp; exact lv_idiv hx hb hd (of_decide_eq_false hz) k
  · cases hz : decide (y = 0) with
    | true => rw [hz, cond_true] at hp; cases hp
    | false => rw [hz, cond_false] at hp; cases hp; exact lv_irem hx hb hd (of_decide_eq_false hz) k
  · cases hp
theorem zV_cat {v w : Value} (hv : zV xa as v w) (hc : v.category = 1) : w.category = 1 := by
  cases v with
  | int x => rw [show w = .int x from hv]; rfl
  | long x => cases hc
  | null => rw [show w = .null from hv]; rfl
  | ref k => obtain ⟨a, -, rfl⟩ := hv; rfl
  | retAddr k => obtain ⟨a, -, rfl⟩ := hv; rfl
  | float b => exact hv.elim
  | double b => exact hv.elim
theorem zs_stk (C : zCx p s m args meth c Ts X xa sf n0 M) (he : zEok Ts cl sf M en) {r : List Value} (hp : zstk en.2.1 X st = some r) (hS : va_S (zA n0) s.heap H locs) (hf : zF xa as st sc)
    (k : ∀ sc' : List Value, zF xa as r sc' → W p l e R s m args below meth c H locs cells slots Q (F0 m (en.1 + 1) ls sc')) : W p l e R s m args below meth c H locs cells slots Q (F0 m en.1 ls sc) := by
  obtain ⟨hx, hb, -, hown, hts, hXa, -⟩ := C
  obtain ⟨pc, ins, len, a0, b0, w0⟩ := en
  obtain ⟨⟨hd, hn⟩, he⟩ := he
  dsimp only at hd hn he hp k ⊢
  rw [hn] at hd
  unfold zstk at hp
  split at hp
  · rename_i v r1
    match sc, hf with
    | w :: sc', hf =>
    cases hz : Nat.beq v.category 1 with
    | false => rw [hz, cond_false] at hp; cases hp
    | true =>
    rw [hz, cond_true] at hp; cases hp
    exact lv_dup hx hb hd (zV_cat hf.1 (Nat.eq_of_beq_eq_true hz)) (k _ ⟨hf.1, hf.1, hf.2⟩)
  · rename_i v v2 r1
    match sc, hf with
    | w :: w2 :: sc', hf =>
    cases hz : Nat.beq v.category 1 && Nat.beq v2.category 1 with
    | false => rw [hz, cond_false] at hp; cases hp
    | true =>
    rw [hz, cond_true] at hp; cases hp
    rw [Bool.and_eq_true] at hz
    exact lv_dup2_11 hx hb hd (zV_cat hf.1 (Nat.eq_of_beq_eq_true hz.1)) (zV_cat hf.2.1 (Nat.eq_of_beq_eq_true hz.2)) (k _ ⟨hf.1, hf.2.1, hf.1, hf.2.1, hf.2.2⟩)
  · rename_i v r1
    match sc, hf with
    | w :: sc', hf =>
    cases hz : Nat.beq v.category 1 with
    | false => rw [hz, cond_false] at hp; cases hp
    | true =>
    rw [hz, cond_true] at hp; cases hp
    exact lv_pop hx hb hd (zV_cat hf.1 (Nat.eq_of_beq_eq_true hz)) (k _ hf.2)
  · rename_i x r1
    match sc, hf with
    | w :: sc', hf =>
    cases hp
    rw [show w = .int x from hf.1]
    exact lv_i2l hx hb hd rfl (k _ ⟨rfl, hf.2⟩)
  · rename_i x r1
    match sc, hf with
    | w :: sc', hf =>
    cases hp
    rw [show w = .int x from hf.1]
    exact lv_ineg hx hb hd (k _ ⟨rfl, hf.2⟩)
  · rename_i y x r1
    match sc, hf with
    | w :: w2 :: sc', hf =>
    cases hp
    rw [show w = .long y from hf.1, show w2 = .long x from hf.2.1]
    exact W.lcmp hx hb hd (k _ ⟨rfl, hf.2.2⟩)
  · rename_i q r1
    match sc, hf with
    | w :: sc', hf =>
    cases hp
    obtain ⟨⟨a2, h11, h12⟩, hf2⟩ := hf
    subst h12
    exact va_tlen hx hb (hXa q a2 h11) hS rfl hd (k _ ⟨rfl, hf2⟩)
  · cases hp
end ZST
