/-! THE START: what lies outside, the classes, the law's body -/
section ZWS
variable {p : Program} {e : Env} {s : State} {m : MethodId} {below : List Frame} {meth : Method} {c : Code}
def zNcs : List (String × String) := [("java/lang/IllegalStateException", "java/lang/IllegalArgumentException")]
set_option maxRecDepth 100000 in
theorem zs_hi {b : Nat} (hs : ∀ w ∈ flatC (Jvm.Cond.and given_1 narrow_1), w.before #[Value.ref b] s = true) : ∀ j : Nat, j < 10 → (Cond.eq (.elem (.static "NestedPager" "HIGHEST" "[I") (.int (Int32.ofNat j))) (.int (zHi j))).before #[Value.ref b] s = true
  | 0, _ => hs _ (by decide +kernel)
  | 1, _ => hs _ (by decide +kernel)
  | 2, _ => hs _ (by decide +kernel)
  | 3, _ => hs _ (by decide +kernel)
  | 4, _ => hs _ (by decide +kernel)
  | 5, _ => hs _ (by decide +kernel)
  | 6, _ => hs _ (by decide +kernel)
  | 7, _ => hs _ (by decide +kernel)
  | 8, _ => hs _ (by decide +kernel)
  | 9, _ => hs _ (by decide +kernel)
  | _ + 10, h => absurd h (by omega)
set_option maxRecDepth 100000 in
/-- what lies outside the world at the law's entry -/
theorem zs_env {b L : Nat} {xs : Nat → Int32} (C0 : lw_At p s m meth c b L xs) : ∃ t : Nat, zEnv zX0 [t, t] zsf s.heap.size zNw zNcs s := by
  obtain ⟨hx, hb, hr, hml, hown, hts, hX, hbl, hlocks, hgv⟩ := id C0
  have hs := flat_of_before _ hgv
  have hA : ∀ a : Nat, a < s.heap.size → ¬ zA s.heap.size a := fun a h9 => Nat.not_le.mpr h9
  obtain ⟨t, ht, hT⟩ := va_Tof (tm := .static "NestedPager" "HIGHEST" "[I") (ty := .int) (f := fun j => .int (zHi j)) (N := 10) (A := zA s.heap.size) (by decide) (hs (.arrayOf (.static "NestedPager" "HIGHEST" "[I") .int) (by decide +kernel)) (va_eqt (z := Int32.ofNat 10) (hs (.eq (.length (.static "NestedPager" "HIGHEST" "[I")) (.int (Int32.ofNat 10))) (by decide +kernel))) (fun j hj => va_eqt (zs_hi hs j hj)) hA
  have hZ : va_Z "NestedPager" "HIGHEST" "[I" (.ref t) (zA s.heap.size) s s.heap := va_Zref (hts (.laysStatic "NestedPager" "HIGHEST" "[I") (by decide +kernel)) (hts (.initialized "NestedPager") (by decide +kernel)) ht hA
  refine ⟨t, Nat.le_refl _, ?_, ?_, vx_Zqof (hts (.laysStatic "java/lang/Throwable" "UNASSIGNED_STACK" "[Ljava/lang/StackTraceElement;") (by decide +kernel)) (hts (.initialized "java/lang/Throwable") (by decide +kernel)) (hs (.isRef (.static "java/lang/Throwable" "UNASSIGNED_STACK" "[Ljava/lang/StackTraceElement;")) (by decide +kernel)) hA,
    vx_Zqof (hts (.laysStatic "java/lang/Throwable" "SUPPRESSED_SENTINEL" "Ljava/util/List;") (by decide +kernel)) (hts (.initialized "java/lang/Throwable") (by decide +kernel)) (hs (.isRef (.static "java/lang/Throwable" "SUPPRESSED_SENTINEL" "Ljava/util/List;")) (by decide +kernel)) hA, ?_, ?_, va_AO.of (hts (.arrayOver (.object "NestedPager$Guest")) (by decide +kernel)), va_AO.of (hts (.arrayOver (.object "NestedPager$Vcpu")) (by decide +kernel))⟩
  · intro k a hk
    match k, hk with
    | 0, hk => cases hk; exact hT
    | 1, hk => cases hk; exact hT
    | k + 2, hk => cases hk
  · intro k hk
    match k, hk with
    | 0, hk => exact absurd rfl hk
    | 1, _ => exact ⟨t, rfl, hZ⟩
    | k + 2, hk => exact absurd rfl hk
  · intro w hw
    exact va_Nw.of (by rcases zNw_ok w hw with ⟨a, i, x, h, rfl⟩ | ⟨C, T, rfl⟩ | ⟨x, rfl⟩ <;> rfl) (hts w (List.mem_filter.mp hw).1)
  · intro q hq
    rcases List.mem_singleton.mp hq with rfl
    exact va_Nc.of (hs (.not (.castable "java/lang/IllegalStateException" "java/lang/IllegalArgumentException")) (by decide +kernel))
set_option maxRecDepth 100000 in
theorem zs_law : zSy zTs vwCl zft zm_221 := zSy_of (by decide +kernel)
set_option maxRecDepth 100000 in
theorem zs_inst : vwCl.all (fun q => lw_tbl.any (fun w => match w with | .instantiable C _ => decide (C = q.1) | _ => false)) = true := by decide +kernel
/-- the classes, as the tables have them -/
theorem zs_K {b L : Nat} {xs : Nat → Int32} (C0 : lw_At p s m meth c b L xs) : ∃ D : va_G, va_K D vwCl [] s := by
  obtain ⟨hx, hb, hr, hml, hown, hts, hX, hbl, hlocks, hgv⟩ := id C0
  have key : ∀ k : Nat, ∃ d : ClassId × (Nat → Nat), ∀ q : vw_C, vwCl[k]? = some q → u_Kn s q.1 q.2.1 q.2.2 d.1 d.2 := by
    intro k
    by_cases hq : ∃ q : vw_C, vwCl[k]? = some q
    · obtain ⟨q, hq⟩ := hq
      have hin : ∀ w ∈ u_ws q.1 q.2.1 q.2.2, w ∈ lw_tbl := fun w hw => (List.mem_filter.mp ((zs_law.1 k q hq).1 w hw)).1
      obtain ⟨w, hw, hbb⟩ := List.any_eq_true.mp (List.all_eq_true.mp zs_inst q (List.mem_of_getElem? hq))
      have hi : ∃ n : Nat, (Cond.instantiable q.1 n).before #[Value.ref b] s = true := by
        split at hbb
        · rename_i C n
          have e1 : C = q.1 := of_decide_eq_true hbb
          exact ⟨n, by rw [← e1]; exact hts _ hw⟩
        · cases hbb
      obtain ⟨n, hi⟩ := hi
      obtain ⟨cC, iS, h⟩ := u_known hts hin hi
      exact ⟨(cC, iS), fun q' h' => by cases hq.symm.trans h'; exact h⟩
    · exact ⟨(m.cls, fun _ => 0), fun q h => absurd ⟨q, h⟩ hq⟩
  exact ⟨(fun k => (Classical.choose (key k)).1, fun k => (Classical.choose (key k)).2), fun k q hq => Classical.choose_spec (key k) q hq, fun k q h => by simp at h⟩
/-- the law's end -/
theorem zs_out {l : Launch} {b L t : Nat} {xs : Nat → Int32} {D : va_G} {h' : zH} (C0 : lw_At p s m meth c b L xs) : zOut p l e room_1 s m #[Value.ref b] below meth c (lw_Z below #[Value.ref b] s) D vwCl [t, t, b] s.heap.size zm_221 [] [] (.inl (some (.int 1))) h' := by
  obtain ⟨hx, hb, hr, hml, hown, hts, hX, hbl, hlocks, hgv⟩ := id C0
  intro tys as ws H locs nc ns ls lv has htys I hl hnc hns
  refine ⟨fun r en st sc ho hmem hend hf => ?_, fun k en ik sc ho => (nomatch ho), fun k pc ce q9 sc ho => (nomatch ho)⟩
  cases ho
  obtain ⟨⟨hd, hn⟩, -⟩ := (zv_221 en hmem).1
  refine va_forget (fun q hq => I.2.2.2.1.2.2 q hq) (W.widen hnc hns ?_)
  obtain ⟨pc, ins, len, a0, b0, w0⟩ := en
  dsimp only at hend hd hn ⊢
  rw [hn] at hd
  generalize hrt : zRet zm_221 = rt at hend
  have hrt2 : some (FieldType.boolean) = rt := hrt
  unfold zend at hend
  split at hend
  · cases hrt2
  · rename_i x
    cases hbb : decide (x = 0) || decide (x = 1) with
    | false => rw [hbb, cond_false] at hend; cases hend
    | true =>
    rw [hbb, cond_true] at hend
    cases hend
    match sc, hf with
    | [w], hf =>
    rw [show w = .int 1 from hf.1]
    exact lw_ret hx hb hr hlocks hd
  · cases hrt2
  · cases hrt2
  · cases hend
set_option maxHeartbeats 4000000 in
set_option maxRecDepth 100000 in
theorem whole_start {p : Program} {e : Env} {s : State} {m : MethodId} {below : List Frame} {meth : Method} {c : Code} (l : Launch) (hl0 : l.stackTraces = false) {b L : Nat} {xs : Nat → Int32} (hL : L ≤ 7) (C0 : lw_At p s m meth c b L xs) : W p l e room_1 s m #[Value.ref b] below meth c s.heap [] 0 0 (lw_Z below #[Value.ref b] s) (entryFrame m ([Value.ref b] : List Value).toArray 7) := by
  obtain ⟨hx, hb, hr, hml, hown, hts, hX, hbl, hlocks, hgv⟩ := id C0
  obtain ⟨t, hE⟩ := zs_env C0
  obtain ⟨D, hK⟩ := zs_K C0
  obtain ⟨h', fuel, hB⟩ := law_all (xs := xs) L hL
  obtain ⟨hst, hN, hG, hMs⟩ := zgood hl0
  have hT0 := hE.2.1 0 t rfl
  have C : zCx p s m #[Value.ref b] meth c zTs (zXl L xs) [t, t, b] zsf s.heap.size zm_221 := by
    refine ⟨hx, hb, hml, hown, fun w hw => hts w (List.mem_filter.mp hw).1, fun k a hk => ?_, fun k hk => ?_, fun h => absurd h (by decide +kernel), Nat.le_refl _⟩
    · match k, hk with
      | 0, hk => cases hk; exact hT0
      | 1, hk => cases hk; exact hT0
      | 2, hk =>
        cases hk
        obtain ⟨scr, h1, h2, h3, h4, h5⟩ := hX
        show va_T .int b L (fun j => .int (xs j)) (zA s.heap.size) s s.heap
        exact ⟨scr, h1, h2, h3, Nat.le_of_eq h4.symm, by rw [h4], h5, Nat.not_le.mpr hbl⟩
      | k + 3, hk => cases hk
    · match k, hk, hE.2.2.1 k hk with
      | 0, hk, _ => exact absurd rfl hk
      | 1, _, ⟨t', g1, g2⟩ => cases g1; exact ⟨t, rfl, g2⟩
      | k + 2, hk, _ => exact absurd rfl hk
  have hCat : zCat p l e room_1 s m #[Value.ref b] below meth c (lw_Z below #[Value.ref b] s) zm_221 := by
    intro k pc t ce q9 H locs nc ns ls sc hne
    exact absurd rfl hne
  have hl := lv_entry ([.ref b]) (n := 7) (Nat.le_of_ble_eq_true rfl)
  rw [lg_entry_eq]
  generalize (lg_sl ([.ref b]) ++ List.replicate (7 - (lg_sl ([.ref b])).length) Slot.unset).toArray = ls at hl ⊢
  have hl : lv_has ls (zMaxL zm_221) [(0, .ref b)] := hl
  have hP : va_P D vwCl [] s.heap := fun k q h => by simp at h
  have hD : va_D (zA s.heap.size) [] := ⟨fun i j p q h => by simp at h, fun k q h => by simp at h⟩
  have hW : zW [t, t, b] [] [] [] [] := ⟨rfl, rfl, fun k c h => by simp at h⟩
  exact zbody_ok (R := room_1) (Xc := zX0) (xac := [t, t]) (Nc := zNcs) (D := D) hN hG zs_law C hE zv_221 (fun z M' h => (hMs z M' h).2.2.1) (Nat.le_of_ble_eq_true rfl) (Nat.le_of_ble_eq_true rfl) (Nat.le_of_ble_eq_true rfl) (Nat.le_of_ble_eq_true rfl) hCat
    (fun z M' a h o h1 hz hc tys as ws a' hF hW => zcall_ok (zgood hl0) (zcat_all (List.mem_singleton.mpr rfl)) 8 z M' a h o h1 hz hc tys as ws a' hF hW) (zs_out (t := t) (D := D) (h' := h') C0) fuel 0 [(0, .retAddr 2)] [] [] 0 0 hB (Nat.zero_le _) (Nat.zero_le _) [] [] [] s.heap [] ls [(0, .ref b)] [] (List.prefix_refl _) (List.prefix_refl _) ⟨hK, hP, hD, va_S.rf, hW⟩ trivial hl ⟨⟨rfl, ⟨b, rfl, rfl⟩, rfl⟩, trivial⟩
end ZWS
