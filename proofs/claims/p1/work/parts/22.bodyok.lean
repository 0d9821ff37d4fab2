/-! A BODY IS TRUE OF THE MACHINE, if its calls are -/
def zIx : Instr → Nat
  | .invokevirtual k => k
  | .invokestatic k => k
  | .invokespecial k => k
  | _ => 0
def zIok (Ts Nw : List Cond) (Pg : List zM) (M : zM) (en : zN) : Prop := ∀ kd : Nat, zcl en.2.1 = some kd → match en.2.2.2.2.1 with
  | 2 => Cond.methodLink (zName M).cls (zIx en.2.1) Lib.objectInit ∈ Ts ∧ Cond.instanceMethod Lib.objectInit ∈ Ts ∧ Cond.code Lib.objectInit ⟨#[0xb1]⟩ 1 none ∈ Ts
  | 3 => Cond.methodLink (zName M).cls (zIx en.2.1) Lib.Math.min.name ∈ Ts ∧ Cond.static Lib.Math.min.name ∈ Ts ∧ Cond.initialized "java/lang/Math" ∈ Ts ∧ Cond.code Lib.Math.min.name Lib.Math.min.code 2 (some .int) ∈ Ts
  | b => ∀ M' : zM, Pg[en.2.2.2.1]? = some M' → ((kd ≠ 0 ∧ b = 1 ∧ zTab M' = [] ∧ ∃ host : String, Cond.methodLinkNest (zName M).cls (zIx en.2.1) (zName M') host ∈ Nw) ∨ Cond.methodLink (zName M).cls (zIx en.2.1) (zName M') ∈ Ts) ∧ (parseMethodDescriptor (zName M').desc).map (fun d => d.parameters.length) = some en.2.2.2.2.2
def zMok (Ts : List Cond) (cl : List vw_C) (M : zM) : Prop := zHd M ∈ Ts ∧ Cond.initialized (zName M).cls ∈ Ts ∧ ((zName M).cls ≠ "java/lang/invoke/MethodHandle" ∧ (zName M).cls ≠ "java/lang/invoke/VarHandle") ∧ plainName (zName M).cls = true ∧
  ((zKind M).1 = 0 → Cond.instanceMethod (zName M) ∈ Ts ∧ Cond.selects (zName M).cls (zName M) (zName M) ∈ Ts ∧ (∃ q : vw_C, cl[(zKind M).2.1]? = some q ∧ q.1 = (zName M).cls) ∧ zTab M = []) ∧ ((zKind M).1 = 1 → Cond.static (zName M) ∈ Ts) ∧
  ((zKind M).1 = 2 → Cond.instanceMethod (zName M) ∈ Ts ∧ (zName M).name = "<init>" ∧ zRet M = none ∧ zTab M = [])
def zKok (Ts : List Cond) (cl : List vw_C) (FT : zFT) (FN : Nat → Nat) (M : zM) (en : zN) : Prop := match en.2.1 with
  | .new ix => en.2.2.2.2.1 ≠ 1 → ∃ q : vw_C, cl[en.2.2.2.1]? = some q ∧ q.2.2 = FN en.2.2.2.1 ∧ Cond.classLink (zName M).cls ix q.1 ∈ Ts ∧ Cond.instantiable q.1 (FN en.2.2.2.1) ∈ Ts ∧ Cond.initialized q.1 ∈ Ts ∧ ∀ j, j < FN en.2.2.2.1 → defaultValue (FT en.2.2.2.1 j).1 = zdv (FT en.2.2.2.1 j).1
  | .newarray t => Cond.arrayClass (newarray.typeOf t) ∈ Ts
  | .anewarray ix => Cond.classLink (zName M).cls ix (zAn en.2.2.2.1) ∈ Ts
  | _ => True
theorem zdv_V {xa as : List Nat} (ty : FieldType) : zV xa as (zdv ty) (zdv ty) := by
  cases ty <;> exact rfl
theorem zdv_F {xa as : List Nat} (g : Nat → FieldType) : ∀ l : List Nat, zF xa as (l.map fun k => zdv (g k)) (l.map fun k => zdv (g k))
  | [] => trivial
  | k :: l => by
    exact ⟨zdv_V (g k), zdv_F g l⟩
theorem zdef_V {FT : zFT} {FN : Nat → Nat} {a j : Nat} (hj : j < FN a) : vp_V (zdef FT FN a) j = zdv (FT a j).1 := by
  unfold vp_V zdef
  simp [List.getD, hj]
theorem zF_app {xa as : List Nat} : ∀ {x y sc : List Value}, zF xa as (x ++ y) sc → ∃ x' y', sc = x' ++ y' ∧ zF xa as x x' ∧ zF xa as y y'
  | [], y, sc, h => ⟨[], sc, rfl, trivial, h⟩
  | v :: x, y, [], h => h.elim
  | v :: x, y, w :: sc, h => by
    obtain ⟨x', y', rfl, h1, h2⟩ := zF_app h.2
    exact ⟨w :: x', y', rfl, ⟨h.1, h1⟩, h2⟩
theorem zF_join {xa as : List Nat} : ∀ {x y x' y' : List Value}, zF xa as x x' → zF xa as y y' → zF xa as (x ++ y) (x' ++ y')
  | [], _, [], _, _, h => h
  | [], _, _ :: _, _, h, _ => h.elim
  | _ :: _, _, [], _, h, _ => h.elim
  | _ :: _, _, _ :: _, _, h, h2 => ⟨h.1, zF_join h.2 h2⟩
theorem zF_rev {xa as : List Nat} : ∀ {x x' : List Value}, zF xa as x x' → zF xa as x.reverse x'.reverse
  | [], [], _ => trivial
  | [], _ :: _, h => h.elim
  | _ :: _, [], h => h.elim
  | v :: x, w :: x', h => by
    rw [List.reverse_cons, List.reverse_cons]
    exact zF_join (zF_rev h.2) ⟨h.1, trivial⟩
theorem zV_catEq {xa as : List Nat} {v w : Value} (hv : zV xa as v w) : w.category = v.category := by
  cases v with
  | int x => rw [show w = .int x from hv]
  | long x => rw [show w = .long x from hv]
  | null => rw [show w = .null from hv]
  | ref k => obtain ⟨a, -, rfl⟩ := hv; rfl
  | retAddr k => obtain ⟨a, -, rfl⟩ := hv; rfl
  | float b => exact hv.elim
  | double b => exact hv.elim
theorem zF_wt {xa as : List Nat} : ∀ {x x' : List Value}, zF xa as x x' → (x'.map fun v => v.category).sum = zWt x
  | [], [], _ => rfl
  | [], _ :: _, h => h.elim
  | _ :: _, [], h => h.elim
  | v :: x, w :: x', h => by
    unfold zWt
    rw [List.map_cons, List.map_cons, List.sum_cons, List.sum_cons, zV_catEq h.1, zF_wt h.2]
    rfl
theorem zpk_eq {n : Nat} {st a r : List Value} (h : zpk n st = some (a, r)) : st = a.reverse ++ r ∧ a.length = n := by
  unfold zpk at h
  cases hb : Nat.ble n st.length with
  | false => rw [hb, cond_false] at h; cases h
  | true =>
    rw [hb, cond_true] at h
    cases h
    have hl := Nat.le_of_ble_eq_true hb
    exact ⟨by rw [List.reverse_reverse, List.take_append_drop], by rw [List.length_reverse, List.length_take]; omega⟩
section ZBO
variable {p : Program} {l : Launch} {e : Env} {R : Room} {s : State} {m : MethodId} {args : Array Value} {below : List Frame} {meth : Method} {c : Code} {H : Heap} {locs : List Loc} {cells slots : Nat} {Q : State → Prop}
variable {Ts Nw : List Cond} {Nc : List (String × String)} {Pg : List zM} {cl : List vw_C} {FT : zFT} {FN : Nat → Nat} {X Xc : zX} {xa xac : List Nat} {sf : Nat → String × String × String} {n0 : Nat} {M : zM} {D : va_G} {tys : List (ClassId × FieldType)} {as : List Nat} {ws : va_W} {h : zH} {ls : Array Slot} {sc : List Value} {lo lv : zL} {st : List Value} {en : zN}
/-- a making -/
theorem zs_mak (hcl : zCl Ts cl FT) (C : zCx p s m args meth c Ts X xa sf n0 M) (hE : zEnv Xc xac sf n0 Nw Nc s) (he : zEok Ts cl sf M en) (hk : zKok Ts cl FT FN M en) {n : Nat} {r : List Value} {cc : zE} {k : Nat} (hp : zmak FT FN en st = some (n, r, cc, k)) (I : zI D cl xa n0 s tys as ws h H locs) (hf : zF xa as st sc) (hc : cells + 1 ≤ R.cells) (hs : slots + k ≤ R.slots)
    (kk : ∀ (tys' : List (ClassId × FieldType)) (as' : List Nat) (ws' : va_W) (H' : Heap) (sc' : List Value), as <+: as' → tys <+: tys' → zI D cl xa n0 s tys' as' ws' (h ++ [cc]) H' locs → zF xa as' (.ref h.length :: r) sc' → W p l e R s m args below meth c H' locs (cells + 1) (slots + k) Q (F0 m (en.1 + n) ls sc')) : W p l e R s m args below meth c H locs cells slots Q (F0 m en.1 ls sc) := by
  obtain ⟨hx, hb, -, hown, hts, -, -, -, hn0⟩ := C
  obtain ⟨hK, hP, hD, hS, hW⟩ := I
  obtain ⟨pc, ins, len, a0, b0, w0⟩ := en
  obtain ⟨⟨hd, hn⟩, he⟩ := he
  dsimp only at hd hn he hp kk ⊢
  rw [hn] at hd
  have hA : ∀ q, s.heap.size ≤ q → zA n0 q := fun q hq => Nat.le_trans hn0 hq
  have hlen : as.length = h.length := hW.1
  unfold zmak at hp
  dsimp only at hp
  split at hp
  · rename_i ix
    cases hbb : Nat.beq b0 1 with
    | true => rw [hbb, cond_true] at hp; cases hp
    | false =>
    rw [hbb, cond_false] at hp
    cases hp
    obtain ⟨q, h1, h2, h3, h4, h5, h6⟩ := hk (Nat.ne_of_beq_eq_false hbb)
    dsimp only at h1 h2 h3 h4 h5 h6
    obtain ⟨g1, g2, g3, g4⟩ := hcl a0 q h1
    refine va_new (C := q.1) (T := q.2.1) (N := q.2.2) hx hb hts g1 (fun j => (FT a0 j).1) g2 hown (hts _ h3) (by rw [h2]; exact hts _ h4) (hts _ h5) hK hP hD hS hA h1 (fs := zdef FT FN a0) (fun j hj => by rw [h2] at hj; rw [zdef_V hj]; exact h6 j hj) hc (by rw [h2]; exact hs) hd (fun q0 H1 hP1 hD1 hS1 => ?_)
    rw [h2]
    have hp1 : as <+: as ++ [q0] := ⟨[q0], rfl⟩
    exact kk tys (as ++ [q0]) _ H1 (.ref q0 :: sc) hp1 (List.prefix_refl tys) ⟨hK, hP1, hD1, hS1, zW_push hW (List.prefix_refl tys) ⟨rfl, zdv_F _ _⟩⟩ ⟨⟨q0, by rw [← hlen]; simp, rfl⟩, zF_mono hp1 hf⟩
  · rename_i t
    split at hp
    · rename_i n9 r9 kd h1 h2
      cases hbb : decide (¬ n9 < 0) && Nat.ble n9.toNatClampNeg 65536 with
      | false => rw [hbb, cond_false] at hp; cases hp
      | true =>
      rw [hbb, cond_true] at hp
      cases hp
      rw [Bool.and_eq_true, decide_eq_true_eq] at hbb
      have hle := Nat.le_of_ble_eq_true hbb.2
      obtain ⟨sc', rfl, hf'⟩ := zF_1 h1 hf
      have hk : Cond.arrayClass (newarray.typeOf t) ∈ Ts := hk
      cases t <;> cases h2
      · refine va_newa (atype := .boolean) (ty := .boolean) (a0 := (n9.toNatClampNeg, zini 1)) hx hb (hts _ hk) rfl hK hP hD hS hA (fun cA => rfl) hbb.1 rfl (by show _ * 1 ≤ _; omega) hc hs hd (fun q0 cA H1 hK1 hP1 hD1 hS1 => ?_)
        have hp1 : as <+: as ++ [q0] := ⟨[q0], rfl⟩
        have ht1 : tys <+: tys ++ [(cA, .boolean)] := ⟨_, rfl⟩
        exact kk _ (as ++ [q0]) _ H1 (.ref q0 :: sc') hp1 ht1 ⟨hK1, hP1, hD1, hS1, zW_push hW ht1 ⟨rfl, ⟨tys.length, by simp; rfl⟩, rfl⟩⟩ ⟨⟨q0, by rw [← hlen]; simp, rfl⟩, zF_mono hp1 hf'⟩
      · refine va_newa (atype := .int) (ty := .int) (a0 := (n9.toNatClampNeg, zini 0)) hx hb (hts _ hk) rfl hK hP hD hS hA (fun cA => rfl) hbb.1 rfl (by show _ * 4 ≤ _; omega) hc hs hd (fun q0 cA H1 hK1 hP1 hD1 hS1 => ?_)
        have hp1 : as <+: as ++ [q0] := ⟨[q0], rfl⟩
        have ht1 : tys <+: tys ++ [(cA, .int)] := ⟨_, rfl⟩
        exact kk _ (as ++ [q0]) _ H1 (.ref q0 :: sc') hp1 ht1 ⟨hK1, hP1, hD1, hS1, zW_push hW ht1 ⟨rfl, ⟨tys.length, by simp; rfl⟩, rfl⟩⟩ ⟨⟨q0, by rw [← hlen]; simp, rfl⟩, zF_mono hp1 hf'⟩
      · refine va_newa (atype := .long) (ty := .long) (a0 := (n9.toNatClampNeg, zini 2)) hx hb (hts _ hk) rfl hK hP hD hS hA (fun cA => rfl) hbb.1 rfl (by show _ * 8 ≤ _; omega) hc hs hd (fun q0 cA H1 hK1 hP1 hD1 hS1 => ?_)
        have hp1 : as <+: as ++ [q0] := ⟨[q0], rfl⟩
        have ht1 : tys <+: tys ++ [(cA, .long)] := ⟨_, rfl⟩
        exact kk _ (as ++ [q0]) _ H1 (.ref q0 :: sc') hp1 ht1 ⟨hK1, hP1, hD1, hS1, zW_push hW ht1 ⟨rfl, ⟨tys.length, by simp; rfl⟩, rfl⟩⟩ ⟨⟨q0, by rw [← hlen]; simp, rfl⟩, zF_mono hp1 hf'⟩
    · cases hp
  · rename_i ix
    split at hp
    · rename_i n9 r9 h1
      cases hbb : decide (¬ n9 < 0) && (Nat.ble n9.toNatClampNeg 65536 && (Nat.beq a0 3 || Nat.beq a0 4)) with
      | false => rw [hbb, cond_false] at hp; cases hp
      | true =>
      rw [hbb, cond_true] at hp
      cases hp
      rw [Bool.and_eq_true, Bool.and_eq_true, decide_eq_true_eq, Bool.or_eq_true] at hbb
      obtain ⟨b1, b2, b3⟩ := hbb
      have hle := Nat.le_of_ble_eq_true b2
      obtain ⟨sc', rfl, hf'⟩ := zF_1 h1 hf
      have hk : Cond.classLink (zName M).cls ix (zAn a0) ∈ Ts := hk
      have hao : va_AO (zAn a0) s ∧ zty a0 = .object (zAn a0) := by
        rcases b3 with b3 | b3 <;> (rw [Nat.eq_of_beq_eq_true b3])
        · exact ⟨hE.2.2.2.2.2.2.2.1, rfl⟩
        · exact ⟨hE.2.2.2.2.2.2.2.2, rfl⟩
      refine va_newq hx hb hown (hts _ hk) hao.1 hK hP hD hS hA b1 rfl (by omega) hc hs hd (fun q0 cA H1 hK1 hP1 hD1 hS1 => ?_)
      have hp1 : as <+: as ++ [q0] := ⟨[q0], rfl⟩
      have ht1 : tys <+: tys ++ [(cA, .object (zAn a0))] := ⟨_, rfl⟩
      exact kk _ (as ++ [q0]) _ H1 (.ref q0 :: sc') hp1 ht1 ⟨hK1, hP1, hD1, hS1, zW_push hW ht1 ⟨rfl, ⟨tys.length, by simp [hao.2]⟩, fun _ => rfl⟩⟩ ⟨⟨q0, by rw [← hlen]; simp, rfl⟩, zF_mono hp1 hf'⟩
    · cases hp
  · cases hp
/-- Object's constructor, Math.min -/
theorem zs_own (C : zCx p s m args meth c Ts X xa sf n0 M) (he : zEok Ts cl sf M en) (hk : zIok Ts Nw Pg M en) (hR1 : (zRoom M).1 ≤ R.frames) (hR2 : (zRoom M).2.1 ≤ R.locals) (hc : cells ≤ R.cells) (hs : slots ≤ R.slots) {r : List Value} (hp : zown M en st = some r) (hl : lv_has ls (zMaxL M) lv) (hf : zF xa as st sc)
    (k : ∀ sc' : List Value, zF xa as r sc' → W p l e R s m args below meth c H locs cells slots Q (F0 m (en.1 + 3) ls sc')) : W p l e R s m args below meth c H locs cells slots Q (F0 m en.1 ls sc) := by
  obtain ⟨hx, hb, hml, hown, hts, -⟩ := C
  obtain ⟨pc, ins, len, a0, b0, w0⟩ := en
  obtain ⟨⟨hd, hn⟩, he⟩ := he
  dsimp only at hd hn he hp k ⊢
  rw [hn] at hd
  unfold zown at hp
  dsimp only at hp
  split at hp
  · rename_i ix
    split at hp
    · rename_i q r9 h1
      cases hbb : Nat.ble 1 (zRoom M).1 && Nat.ble (zWt r9 + 12) (zRoom M).2.1 with
      | false => rw [hbb, cond_false] at hp; cases hp
      | true =>
      rw [hbb, cond_true] at hp
      cases hp
      rw [Bool.and_eq_true] at hbb
      have b1 := Nat.le_of_ble_eq_true hbb.1
      have b2 := Nat.le_of_ble_eq_true hbb.2
      have e1 := zr1_eq h1
      subst e1
      match sc, hf with
      | w :: sc', hf =>
      obtain ⟨⟨a2, h11, h12⟩, hf2⟩ := hf
      subst h12
      obtain ⟨k1, k2, k3⟩ := hk 2 rfl
      have hw := zF_wt hf2
      refine W.objInit hx hb hown (hts _ k1) (hts _ k2) (hts _ k3) rfl (by rw [hml]; exact hl.1) rfl hd (Nat.le_trans b1 hR1) (by show 2 * 0 + _ + 12 ≤ _; rw [hw]; omega) ?_
      exact k _ hf2
    · cases hp
  · rename_i ix
    split at hp
    · rename_i x y r9 h1
      cases hbb : Nat.ble 1 (zRoom M).1 && Nat.ble (zWt r9 + 13) (zRoom M).2.1 with
      | false => rw [hbb, cond_false] at hp; cases hp
      | true =>
      rw [hbb, cond_true] at hp
      cases hp
      rw [Bool.and_eq_true] at hbb
      have b1 := Nat.le_of_ble_eq_true hbb.1
      have b2 := Nat.le_of_ble_eq_true hbb.2
      obtain ⟨sc', rfl, hf2⟩ := zF_2 h1 hf
      obtain ⟨k1, k2, k3, k4⟩ := hk 1 rfl
      have hw := zF_wt hf2
      exact va_mmin hx hb (by rw [hml]; exact hl.1.symm) hown (hts _ k1) (hts _ k2) (hts _ k3) (hts _ k4) (Nat.le_trans b1 hR1) (by rw [hw]; omega) hc hs hd (k _ ⟨rfl, hf2⟩)
    · cases hp
  · cases hp
end ZBO
