/-! ONE STEP, WHOLE -/
section ZSO
variable {p : Program} {l : Launch} {e : Env} {R : Room} {s : State} {m : MethodId} {args : Array Value} {below : List Frame} {meth : Method} {c : Code} {H : Heap} {locs : List Loc} {cells slots : Nat} {Q : State → Prop}
variable {Ts : List Cond} {cl : List vw_C} {FT : zFT} {X : zX} {xa : List Nat} {sf : Nat → String × String × String} {n0 : Nat} {M : zM} {D : va_G} {tys : List (ClassId × FieldType)} {as : List Nat} {ws : va_W} {h : zH} {ls : Array Slot} {sc : List Value} {lo lv : zL} {st : List Value} {en : zN}
/-- what is known of the system: its classes, its static arrays' names -/
def zSy (Ts : List Cond) (cl : List vw_C) (FT : zFT) (M : zM) : Prop := zCl Ts cl FT ∧ (∃ q : vw_C, cl[2]? = some q ∧ q.1 = "NestedPager$Guest") ∧ (∃ q : vw_C, cl[9]? = some q ∧ q.1 = "NestedPager$Vcpu") ∧ ((zKind M).1 = 2 → ∀ q : vw_C, cl[(zKind M).2.1]? = some q → q.1 = (zName M).cls)
theorem zstep_ok (S : zSy Ts cl FT M) (C : zCx p s m args meth c Ts X xa sf n0 M) (he : zEok Ts cl sf M en) (hsf : ∀ k : Nat, en.2.1 = .getstatic k → (sf en.2.2.2.1).1 ≠ "") {pc' : Nat} {lo' : zL} {st' : List Value} {h' : zH} (hp : zstep M FT X en lo st h = some (pc', lo', st', h'))
    (I : zI D cl xa n0 s tys as ws h H locs) (hf : zF xa as st sc) (hl : lv_has ls (zMaxL M) lv) (hg : zG xa as lo lv)
    (k : ∀ (ws' : va_W) (H' : Heap) (locs' : List Loc) (ls' : Array Slot) (lv' : zL) (sc' : List Value), zI D cl xa n0 s tys as ws' h' H' locs' → zF xa as st' sc' → lv_has ls' (zMaxL M) lv' → zG xa as lo' lv' → W p l e R s m args below meth c H' locs' cells slots Q (F0 m pc' ls' sc')) :
    W p l e R s m args below meth c H locs cells slots Q (F0 m en.1 ls sc) := by
  obtain ⟨hcl, hc2, hc9, hMc⟩ := S
  have hS : va_S (zA n0) s.heap H locs := I.2.2.2.1
  unfold zstep at hp
  split at hp
  · rename_i v n h1
    cases hp
    exact zs_push C he h1 (k ws H locs ls lv _ I ⟨rfl, hf⟩ hl hg)
  split at hp
  · rename_i i n b h1
    split at hp
    · rename_i v h2
      cases hb : (bif b then zisr v else zisi v) with
      | false => rw [hb, cond_false] at hp; cases hp
      | true =>
        rw [hb, cond_true] at hp; cases hp
        exact zs_lod C he h1 h2 hb hl hg (fun w hw => k ws H locs ls lv _ I ⟨hw, hf⟩ hl hg)
    · cases hp
  split at hp
  · rename_i i n b h1
    split at hp
    · rename_i v r
      match sc, hf with
      | w :: sc', hf =>
      cases hb : Nat.blt i (zMaxL M) && (bif b then zisr v else zisi v) with
      | false => rw [hb, cond_false] at hp; cases hp
      | true =>
        rw [hb, cond_true] at hp; cases hp
        rw [Bool.and_eq_true] at hb
        exact zs_sto C he h1 hf.1 (Nat.le_of_ble_eq_true hb.1) hb.2 hl hg (fun ls' lv' hl' hg' => k ws H locs ls' lv' _ I hf.2 hl' hg')
    · cases hp
  split at hp
  · rename_i t r h1
    cases hp
    exact zs_jmp C he h1 hf (fun sc' hf' => k ws H locs ls lv _ I hf' hl hg)
  split at hp
  · rename_i i n h1
    split at hp
    · rename_i x h2
      cases hb : Nat.blt i (zMaxL M) with
      | false => rw [hb, cond_false] at hp; cases hp
      | true =>
        rw [hb, cond_true] at hp; cases hp
        obtain ⟨j, w, g1, g2⟩ := zG_get hg h2
        have g2 : w = .int x := g2
        subst g2
        obtain ⟨hx, hb9, -⟩ := C
        obtain ⟨⟨hd, hn⟩, -⟩ := he
        rw [h1] at hd hn
        rw [hn] at hd
        exact lv_iinc hx hb9 hd hl g1 rfl (Nat.le_of_ble_eq_true hb) rfl (fun ls' hl' => k ws H locs ls' _ _ I hf hl' ⟨⟨rfl, rfl, rfl⟩, zG_filter hg⟩)
    · cases hp
  · rename_i ix h1
    split at hp
    · rename_i v r h2
      cases hp
      exact zs_get hcl C he h1 h2 I hf (fun w sc' hw hf' => k ws H locs ls lv _ I ⟨hw, hf'⟩ hl hg)
    · cases hp
  · rename_i ix h1
    split at hp
    · rename_i r h2 hq
      cases hp
      exact zs_put hcl C hMc he h1 hq I hf (fun ws' H' locs' sc' I' hf' => k ws' H' locs' ls lv _ I' hf' hl hg)
    · cases hp
  · rename_i ix h1
    cases hp
    have hne := hsf ix h1
    obtain ⟨⟨hd, hn⟩, hlk⟩ := he
    rw [h1] at hd hn hlk
    rw [hn] at hd
    obtain ⟨hx, hb9, -, hown, hts, hXa, hst, -⟩ := C
    obtain ⟨t, g1, g2⟩ := hst _ hne
    exact va_gets hx hb9 g2 hS hown (hts _ hlk) (fun _ h9 => h9) hd (k ws H locs ls lv _ I ⟨⟨t, g1, rfl⟩, hf⟩ hl hg)
  · split at hp
    · rename_i v r h2
      cases hp
      exact zs_al C he h2 I hf (fun w sc' hw hf' => k ws H locs ls lv _ I ⟨hw, hf'⟩ hl hg)
    · split at hp
      · rename_i r hh h2
        cases hp
        exact zs_as hc2 hc9 C he h2 I hf (fun ws' H' locs' sc' I' hf' => k ws' H' locs' ls lv _ I' hf' hl hg)
      · split at hp
        · rename_i x y r h2
          split at hp
          · rename_i v h3
            cases hp
            obtain ⟨sc', rfl, hf'⟩ := zF_2 h2 hf
            exact zs_op2 C he h3 (k ws H locs ls lv _ I ⟨rfl, hf'⟩ hl hg)
          · split at hp
            · rename_i st2 h3
              cases hp
              exact zs_stk C he h3 hS hf (fun sc' hf' => k ws H locs ls lv _ I hf' hl hg)
            · cases hp
        · split at hp
          · rename_i st2 h3
            cases hp
            exact zs_stk C he h3 hS hf (fun sc' hf' => k ws H locs ls lv _ I hf' hl hg)
          · cases hp
end ZSO
