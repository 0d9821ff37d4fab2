/-! ONE STEP of the abstract machine: what neither calls, makes, nor ends -/
def zfld (a b : Nat) (st : List Value) (h : zH) : Option (Value × List Value) := match zr1 st with
  | none => none
  | some (q, r) => match h[q]? with
    | some (.inr (ci, fs)) => bif Nat.beq ci a then (match fs[b]? with
      | some v => some (v, r)
      | none => none) else none
    | _ => none
/-- the fields' types, by class and place -/
abbrev zFT : Type := Nat → Nat → FieldType × Bool
def zpf (M : zM) (FT : zFT) (a b : Nat) (st : List Value) (h : zH) : Option (List Value × zH) := match zvr st with
  | none => none
  | some (v, q, r) => match h[q]? with
    | some (.inr (ci, fs)) => bif Nat.beq ci a && zfits (FT a b).1 v && Nat.blt b fs.length && (!(FT a b).2 || (Nat.beq (zKind M).1 2 && Nat.beq (zKind M).2.1 a)) then some (r, h.set q (.inr (ci, fs.set b v))) else none
    | _ => none
def zal (i : Instr) (X : zX) (st : List Value) (h : zH) : Option (Value × List Value) := match zir st with
  | some (j, q, r) => (match i, h[q]? with
    | .iaload, some (.inl (0, n, .inl f)) => bif zin j n then some (.int (f j.toNatClampNeg), r) else none
    | .baload, some (.inl (1, n, .inl f)) => bif zin j n then some (.int (f j.toNatClampNeg), r) else none
    | .laload, some (.inl (2, n, .inr (.inl f))) => bif zin j n then some (.long (f j.toNatClampNeg), r) else none
    | .aaload, some (.inl (3, n, .inr (.inr (.inr (.inr f))))) => bif zin j n then some (va_rf (f j.toNatClampNeg), r) else none
    | .aaload, some (.inl (4, n, .inr (.inr (.inr (.inr f))))) => bif zin j n then some (va_rf (f j.toNatClampNeg), r) else none
    | _, _ => none)
  | none => (match zix st with
    | some (j, k, r) => (match i with
      | .iaload => bif zin j (X k).1 then some (.int ((X k).2 j.toNatClampNeg), r) else none
      | _ => none)
    | none => none)
def zas (i : Instr) (st : List Value) (h : zH) : Option (List Value × zH) := match zvir st with
  | none => none
  | some (v, j, q, r) => match i, v, h[q]? with
    | .iastore, .int x, some (.inl (0, n, .inl f)) => bif zin j n then some (r, h.set q (.inl (0, n, .inl (upd f j.toNatClampNeg x)))) else none
    | .bastore, .int x, some (.inl (1, n, .inl f)) => bif zin j n then some (r, h.set q (.inl (1, n, .inl (upd f j.toNatClampNeg (vp_nar .boolean x))))) else none
    | .aastore, .ref w, some (.inl (3, n, .inr (.inr (.inr (.inr f))))) => (match h[w]? with
      | some (.inr (2, _)) => bif zin j n then some (r, h.set q (.inl (3, n, .inr (.inr (.inr (.inr (va_up f j.toNatClampNeg (some w)))))))) else none
      | _ => none)
    | .aastore, .ref w, some (.inl (4, n, .inr (.inr (.inr (.inr f))))) => (match h[w]? with
      | some (.inr (9, _)) => bif zin j n then some (r, h.set q (.inl (4, n, .inr (.inr (.inr (.inr (va_up f j.toNatClampNeg (some w)))))))) else none
      | _ => none)
    | .lastore, .long x, some (.inl (2, n, .inr (.inl f))) => bif zin j n then some (r, h.set q (.inl (2, n, .inr (.inl (vp_updL f j.toNatClampNeg x))))) else none
    | _, _, _ => none
/-- where a jump goes: the place, the stack behind it -/
def zjmp (i : Instr) (pc len : Nat) (st : List Value) : Option (Nat × List Value) := match i with
  | .goto off => (match ztgt pc off with
    | some t => some (t, st)
    | none => none)
  | .ifCond c off => (match z1 st, ztgt pc off with
    | some (x, r), some t => some (bif zc1 c x then t else pc + 3, r)
    | _, _ => none)
  | .if_icmp c off => (match z2 st, ztgt pc off with
    | some (x, y, r), some t => some (bif zc2 c x y then t else pc + 3, r)
    | _, _ => none)
  | .tableswitch d lo hi offs => (match z1 st with
    | some (x, r) => bif decide (x.toInt < lo) || decide (hi < x.toInt) then (match ztgt pc d with
        | some t => some (t, r)
        | none => none)
      else (match offs[(x.toInt - lo).toNat]? with
        | some off => (match ztgt pc off with
          | some t => some (t, r)
          | none => none)
        | none => none)
    | none => none)
  | .lookupswitch d ps => (match z1 st with
    | some (x, r) => bif (ps.toList.zip (ps.toList.drop 1)).all (fun (a, next) => a.1 < next.1) then (match ztgt pc (Op.lookupswitch.offset ps.toList d x.toInt) with
        | some t => some (t, r)
        | none => none)
      else none
    | none => none)
  | _ => none
/-- what shifts values on the stack -/
def zstk (i : Instr) (X : zX) (st : List Value) : Option (List Value) := match i, st with
  | .dup, v :: r => bif Nat.beq v.category 1 then some (v :: v :: r) else none
  | .dup2, v :: w :: r => bif Nat.beq v.category 1 && Nat.beq w.category 1 then some (v :: w :: v :: w :: r) else none
  | .pop, v :: r => bif Nat.beq v.category 1 then some r else none
  | .i2l, .int x :: r => some (.long x.toInt64 :: r)
  | .ineg, .int x :: r => some (.int (-x) :: r)
  | .lcmp, .long y :: .long x :: r => some (.int (lg_cmp x y) :: r)
  | .arraylength, .retAddr k :: r => some (.int (Int32.ofNat (X k).1) :: r)
  | _, _ => none
def zstep (M : zM) (FT : zFT) (X : zX) (en : zN) (lo : zL) (st : List Value) (h : zH) : Option zS :=
  match zpush en.2.1 en.2.2.2.1 with
  | some (v, n) => some (en.1 + n, lo, .int v :: st, h)
  | none => match zlod en.2.1 with
  | some (k, n, b) => (match zget lo k with
    | some v => bif (bif b then zisr v else zisi v) then some (en.1 + n, lo, v :: st, h) else none
    | none => none)
  | none => match zsto en.2.1 with
  | some (k, n, b) => (match st with
    | v :: r => bif Nat.blt k (zMaxL M) && (bif b then zisr v else zisi v) then some (en.1 + n, zput lo k v, r, h) else none
    | [] => none)
  | none => match zjmp en.2.1 en.1 en.2.2.1 st with
  | some (t, r) => some (t, lo, r, h)
  | none => match en.2.1 with
  | .iinc k c => (match zget lo k with
    | some (.int x) => bif Nat.blt k (zMaxL M) then some (en.1 + 3, zput lo k (.int (x + Int32.ofInt c)), st, h) else none
    | _ => none)
  | .getfield _ => (match zfld en.2.2.2.1 en.2.2.2.2.1 st h with
    | some (v, r) => some (en.1 + 3, lo, v :: r, h)
    | none => none)
  | .putfield _ => (match zpf M FT en.2.2.2.1 en.2.2.2.2.1 st h with
    | some (r, h') => some (en.1 + 3, lo, r, h')
    | none => none)
  | .getstatic _ => some (en.1 + 3, lo, .retAddr en.2.2.2.1 :: st, h)
  | i => match zal i X st h with
    | some (v, r) => some (en.1 + 1, lo, v :: r, h)
    | none => match zas i st h with
      | some (r, h') => some (en.1 + 1, lo, r, h')
      | none => match z2 st with
        | some (x, y, r) => (match zop2 i x y with
          | some v => some (en.1 + 1, lo, .int v :: r, h)
          | none => (match zstk i X st with
            | some st' => some (en.1 + 1, lo, st', h)
            | none => none))
        | none => (match zstk i X st with
          | some st' => some (en.1 + 1, lo, st', h)
          | none => none)
/-! HOW IT STANDS TO THE MACHINE: xa where the outside arrays lie, as where the cells lie -/
def zV (xa as : List Nat) (v w : Value) : Prop := match v with
  | .int x => w = .int x
  | .long x => w = .long x
  | .null => w = .null
  | .ref k => ∃ a, as[k]? = some a ∧ w = .ref a
  | .retAddr k => ∃ a, xa[k]? = some a ∧ w = .ref a
  | _ => False
def zF (xa as : List Nat) : List Value → List Value → Prop
  | [], [] => True
  | v :: vs, w :: ws => zV xa as v w ∧ zF xa as vs ws
  | _, _ => False
def zG (xa as : List Nat) : zL → zL → Prop
  | [], [] => True
  | v :: vs, w :: ws => (v.1 = w.1 ∧ zV xa as v.2 w.2 ∧ w.2.category = 1) ∧ zG xa as vs ws
  | _, _ => False
def zR (as : List Nat) (r r' : Option Nat) : Prop := match r with
  | none => r' = none
  | some k => ∃ a, as[k]? = some a ∧ r' = some a
def zB (as : List Nat) (x y : (Nat → Int32) ⊕ (Nat → Int64) ⊕ (Nat → UInt32) ⊕ (Nat → UInt64) ⊕ (Nat → Option Nat)) : Prop := match x, y with
  | .inl f, .inl g => f = g
  | .inr (.inl f), .inr (.inl g) => f = g
  | .inr (.inr (.inr (.inr f))), .inr (.inr (.inr (.inr g))) => ∀ j, zR as (f j) (g j)
  | _, _ => False
def zC (xa : List Nat) (tys : List (ClassId × FieldType)) (as : List Nat) (c : zE) (d : va_E) : Prop := match c, d with
  | .inr o, .inr o' => o.1 = o'.1 ∧ zF [] as o.2 o'.2
  | .inl a, .inl a' => a.2.1 = a'.2.1 ∧ (∃ t0 : Nat, tys[t0]? = some (a'.1, zty a.1)) ∧ zB as a.2.2 a'.2.2
  | _, _ => False
def zW (xa : List Nat) (tys : List (ClassId × FieldType)) (as : List Nat) (h : zH) (ws : va_W) : Prop :=
  as.length = h.length ∧ ws.length = h.length ∧ ∀ (k : Nat) (c : zE), h[k]? = some c → ∃ (a : Nat) (d : va_E), as[k]? = some a ∧ ws[k]? = some (a, d) ∧ zC xa tys as c d
theorem zpre {α : Type} {l l' : List α} (h : l <+: l') {k : Nat} {a : α} (hk : l[k]? = some a) : l'[k]? = some a := by
  obtain ⟨t, rfl⟩ := h
  rw [List.getElem?_append_left (List.getElem?_eq_some_iff.mp hk).1]
  exact hk
theorem zV_mono {xa as as' : List Nat} (h : as <+: as') {v w : Value} (hv : zV xa as v w) : zV xa as' v w := by
  cases v with
  | ref k => obtain ⟨a, h1, h2⟩ := hv; exact ⟨a, zpre h h1, h2⟩
  | _ => exact hv
theorem zF_mono {xa as as' : List Nat} (h : as <+: as') : ∀ {vs ws : List Value}, zF xa as vs ws → zF xa as' vs ws
  | [], [], _ => trivial
  | _ :: _, _ :: _, hv => ⟨zV_mono h hv.1, zF_mono h hv.2⟩
  | [], _ :: _, hv => hv.elim
  | _ :: _, [], hv => hv.elim
theorem zG_mono {xa as as' : List Nat} (h : as <+: as') : ∀ {vs ws : zL}, zG xa as vs ws → zG xa as' vs ws
  | [], [], _ => trivial
  | _ :: _, _ :: _, hv => ⟨⟨hv.1.1, zV_mono h hv.1.2.1, hv.1.2.2⟩, zG_mono h hv.2⟩
  | [], _ :: _, hv => hv.elim
  | _ :: _, [], hv => hv.elim
theorem zC_mono {xa as as' : List Nat} {tys tys' : List (ClassId × FieldType)} (h : as <+: as') (ht : tys <+: tys') {c : zE} {d : va_E} (hc : zC xa tys as c d) : zC xa tys' as' c d := by
  cases c with
  | inr o =>
    cases d with
    | inr o' => exact ⟨hc.1, zF_mono h hc.2⟩
    | inl a' => exact hc.elim
  | inl a =>
    cases d with
    | inr o' => exact hc.elim
    | inl a' =>
      obtain ⟨h1, ⟨t0, h2⟩, h3⟩ := hc
      refine ⟨h1, ⟨t0, zpre ht h2⟩, ?_⟩
      obtain ⟨kd, n, x⟩ := a
      obtain ⟨cA, n', y⟩ := a'
      rcases x with f | f | f | f | f <;> rcases y with g | g | g | g | g <;> first | exact h3 | exact h3.elim | skip
      intro j
      have h4 := h3 j
      cases hf : f j with
      | none => rw [hf] at h4; exact h4
      | some k => rw [hf] at h4; obtain ⟨a, h5, h6⟩ := h4; exact ⟨a, zpre h h5, h6⟩
theorem zW_get {xa : List Nat} {tys : List (ClassId × FieldType)} {as : List Nat} {h : zH} {ws : va_W} (H : zW xa tys as h ws) {k : Nat} {c : zE} (hk : h[k]? = some c) : ∃ (a : Nat) (d : va_E), as[k]? = some a ∧ ws[k]? = some (a, d) ∧ zC xa tys as c d := H.2.2 k c hk
theorem zW_set {xa : List Nat} {tys : List (ClassId × FieldType)} {as : List Nat} {h : zH} {ws : va_W} (H : zW xa tys as h ws) {k a : Nat} {c : zE} {d : va_E} (ha : as[k]? = some a) (hc : zC xa tys as c d) : zW xa tys as (h.set k c) (ws.set k (a, d)) := by
  refine ⟨by rw [List.length_set]; exact H.1, by rw [List.length_set, List.length_set]; exact H.2.1, fun j x hj => ?_⟩
  by_cases e : k = j
  · subst e
    have hl : k < h.length := by
      rcases Nat.lt_or_ge k h.length with q | q
      · exact q
      · rw [List.getElem?_eq_none (by rw [List.length_set]; exact q)] at hj; cases hj
    rw [List.getElem?_set_self hl] at hj
    cases hj
    exact ⟨a, d, ha, by rw [List.getElem?_set_self (by rw [H.2.1]; exact hl)], hc⟩
  · rw [List.getElem?_set_ne e] at hj
    obtain ⟨b, d', h1, h2, h3⟩ := H.2.2 j x hj
    exact ⟨b, d', h1, by rw [List.getElem?_set_ne e]; exact h2, h3⟩
theorem zW_push {xa : List Nat} {tys tys' : List (ClassId × FieldType)} {as : List Nat} {h : zH} {ws : va_W} (H : zW xa tys as h ws) (ht : tys <+: tys') {q : Nat} {c : zE} {d : va_E} (hc : zC xa tys' (as ++ [q]) c d) : zW xa tys' (as ++ [q]) (h ++ [c]) (ws ++ [(q, d)]) := by
  refine ⟨by simp [H.1], by simp [H.2.1], fun j x hj => ?_⟩
  by_cases e : j < h.length
  · rw [List.getElem?_append_left e] at hj
    obtain ⟨b, d', h1, h2, h3⟩ := H.2.2 j x hj
    have hp : as <+: as ++ [q] := ⟨[q], rfl⟩
    exact ⟨b, d', zpre hp h1, zpre ⟨[(q, d)], rfl⟩ h2, zC_mono hp ht h3⟩
  · rw [List.getElem?_append_right (by omega)] at hj
    have hz : j - h.length < 1 := (List.getElem?_eq_some_iff.mp hj).1
    have e2 : j = h.length := by omega
    subst e2
    rw [Nat.sub_self] at hj
    cases hj
    refine ⟨q, d, ?_, ?_, hc⟩
    · rw [← H.1]; simp
    · rw [← H.2.1]; simp
theorem zG_get {xa as : List Nat} {i : Nat} {v : Value} : ∀ {lo lv : zL}, zG xa as lo lv → zget lo i = some v → ∃ (k : Nat) (w : Value), lv[k]? = some (i, w) ∧ zV xa as v w
  | [], _, _, hg => by cases hg
  | q :: lo, [], h, _ => h.elim
  | q :: lo, q' :: lv, h, hg => by
    obtain ⟨⟨h1, h2, -⟩, h3⟩ := h
    unfold zget at hg
    cases hb : Nat.beq q.1 i with
    | true =>
      rw [hb] at hg
      cases hg
      have e := Nat.eq_of_beq_eq_true hb
      exact ⟨0, q'.2, by rw [List.getElem?_cons_zero, ← e, h1], h2⟩
    | false =>
      rw [hb] at hg
      obtain ⟨k, w, h4, h5⟩ := zG_get h3 hg
      exact ⟨k + 1, w, by rw [List.getElem?_cons_succ]; exact h4, h5⟩
theorem zG_filter {xa as : List Nat} {i : Nat} : ∀ {lo lv : zL}, zG xa as lo lv → zG xa as (lo.filter (fun q => !(Nat.beq q.1 i))) (lv.filter (fun q => !(q.1 == i) && !(q.1 + 1 == i && q.2.category == 2)))
  | [], [], _ => trivial
  | [], _ :: _, h => h.elim
  | _ :: _, [], h => h.elim
  | q :: lo, q' :: lv, h => by
    obtain ⟨⟨h1, h2, h4⟩, h3⟩ := h
    have ih := zG_filter (i := i) h3
    have e2 : (q'.2.category == 2) = false := by rw [h4]; rfl
    have e1 : (q'.1 == i) = Nat.beq q.1 i := by
      rw [h1]
      cases hb : Nat.beq q'.1 i with
      | true => simp [Nat.eq_of_beq_eq_true hb]
      | false => simp [Nat.ne_of_beq_eq_false hb]
    have e3 : (!(q'.1 == i) && !(q'.1 + 1 == i && q'.2.category == 2)) = !(Nat.beq q.1 i) := by rw [e2, Bool.and_false, Bool.not_false, Bool.and_true, e1]
    rw [List.filter_cons, List.filter_cons, e3]
    cases hb : Nat.beq q.1 i with
    | true => exact ih
    | false => exact ⟨⟨h1, h2, h4⟩, ih⟩
theorem zV_nil {xa as : List Nat} {v w : Value} (hv : zV [] as v w) : zV xa as v w := by
  cases v with
  | retAddr k => obtain ⟨a, h, -⟩ := hv; simp at h
  | _ => exact hv
theorem zF_nil {xa as : List Nat} : ∀ {vs ws : List Value}, zF [] as vs ws → zF xa as vs ws
  | [], [], _ => trivial
  | _ :: _, _ :: _, hv => ⟨zV_nil hv.1, zF_nil hv.2⟩
  | [], _ :: _, hv => hv.elim
  | _ :: _, [], hv => hv.elim
/-- no outside array -/
def zpl : Value → Bool
  | .retAddr _ => false
  | _ => true
theorem zV_pl {xa as : List Nat} {v w : Value} (hp : zpl v = true) (hv : zV xa as v w) : zV [] as v w := by
  cases v with
  | retAddr k => cases hp
  | _ => exact hv
theorem zF_pl {xa as : List Nat} : ∀ {vs ws : List Value}, vs.all zpl = true → zF xa as vs ws → zF [] as vs ws
  | [], [], _, _ => trivial
  | _ :: _, _ :: _, hp, hv => by
    rw [List.all_cons, Bool.and_eq_true] at hp
    exact ⟨zV_pl hp.1 hv.1, zF_pl hp.2 hv.2⟩
  | [], _ :: _, _, hv => hv.elim
  | _ :: _, [], _, hv => hv.elim
