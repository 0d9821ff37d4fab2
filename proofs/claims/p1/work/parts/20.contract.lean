/-! CONTRACTS out of the abstract machine's answers -/
def zEn : Nat → String
  | 0 => "java/lang/IllegalArgumentException"
  | _ => "java/lang/IllegalStateException"
def zAn (kd : Nat) : String := if kd = 3 then "NestedPager$Guest" else "NestedPager$Vcpu"
/-- what holds all the time of what lies outside the world -/
def zEnv (X : zX) (xa : List Nat) (sf : Nat → String × String × String) (n0 : Nat) (Nw : List Cond) (Nc : List (String × String)) (U : State) : Prop :=
  n0 ≤ U.heap.size ∧ (∀ (k a : Nat), xa[k]? = some a → va_T .int a (X k).1 (fun j => .int ((X k).2 j)) (zA n0) U U.heap) ∧
  (∀ k : Nat, (sf k).1 ≠ "" → ∃ t : Nat, xa[k]? = some t ∧ va_Z (sf k).1 (sf k).2.1 (sf k).2.2 (.ref t) (zA n0) U U.heap) ∧
  vx_Zq Bundle.tN "UNASSIGNED_STACK" Bundle.steD (zA n0) U U.heap ∧ vx_Zq Bundle.tN "SUPPRESSED_SENTINEL" Bundle.listD (zA n0) U U.heap ∧
  (∀ w ∈ Nw, va_Nw w U) ∧ (∀ q ∈ Nc, va_Nc q.1 q.2 U) ∧ va_AO "NestedPager$Guest" U ∧ va_AO "NestedPager$Vcpu" U
/-- the words that move only by laws of their own -/
def zNwOk (Nw : List Cond) : Prop := ∀ w ∈ Nw, (∃ a i x h, w = .methodLinkNest a i x h) ∨ (∃ C T, w = .castable C T) ∨ ∃ x, w = .declares x
theorem zNc_moved {C T : String} {u U : State} (hvm : u.vm.Alike U.vm) (h : va_Nc C T u) : va_Nc C T U := by
  obtain ⟨c, t, h1, h2, h3⟩ := h
  exact ⟨c, t, by rw [hvm.findClass]; exact h1, by rw [hvm.findClass]; exact h2, by rw [hvm.assignable]; exact h3⟩
theorem zEnv_to {X : zX} {xa : List Nat} {sf : Nat → String × String × String} {n0 : Nat} {Nw : List Cond} {Nc : List (String × String)} (hN : zNwOk Nw) {s U : State} {H : Heap} {locs : List Loc} (hE : zEnv X xa sf n0 Nw Nc s) (hS : va_S (zA n0) s.heap H locs) (hU : U.heap = H) (hW : s.WarmedH U.vm) : zEnv X xa sf n0 Nw Nc U := by
  obtain ⟨h1, h2, h3, h4, h5, h6, h7, h8, h9⟩ := hE
  subst hU
  have ha := hW.alike
  refine ⟨Nat.le_trans h1 hS.1, fun k a hk => (va_T.moved ha (h2 k a hk)).kept hS.2.1, fun k hk => ?_, (vx_Zq.moved ha h4).kept hS.2.1, (vx_Zq.moved ha h5).kept hS.2.1, fun w hw => ?_, fun q hq => zNc_moved ha (h7 q hq), va_AO.moved ha h8, va_AO.moved ha h9⟩
  · obtain ⟨t, g1, g2⟩ := h3 k hk
    exact ⟨t, g1, (va_Z.moved ha g2).kept hS.2.1⟩
  · rcases hN w hw with ⟨a, i, x, h, rfl⟩ | ⟨C, T, rfl⟩ | ⟨x, rfl⟩
    · exact va_Nw.warmM hW (h6 _ hw)
    · exact va_Nw.warmC hW (h6 _ hw)
    · exact va_Nw.warmD hW (h6 _ hw)
theorem zEnv_calling {X : zX} {xa : List Nat} {sf : Nat → String × String × String} {n0 : Nat} {Nw : List Cond} {Nc : List (String × String)} {U : State} (hN : zNwOk Nw) (hE : zEnv X xa sf n0 Nw Nc U) (g : JFrame) (mk : MethodId) (a : Array Value) : zEnv X xa sf n0 Nw Nc (U.calling g mk a) := by
  obtain ⟨h1, h2, h3, h4, h5, h6, h7, h8, h9⟩ := hE
  have ha : U.vm.Alike (U.calling g mk a).vm := Vm.Alike.refl U.vm
  refine ⟨h1, fun k a hk => va_T.moved ha (h2 k a hk), fun k hk => ?_, vx_Zq.moved ha h4, vx_Zq.moved ha h5, fun w hw => va_Nw.same (u := U) (by rcases hN w hw with ⟨a, i, x, h, rfl⟩ | ⟨C, T, rfl⟩ | ⟨x, rfl⟩ <;> rfl) rfl (h6 w hw), fun q hq => zNc_moved ha (h7 q hq), va_AO.moved ha h8, va_AO.moved ha h9⟩
  obtain ⟨t, g1, g2⟩ := h3 k hk
  exact ⟨t, g1, va_Z.moved ha g2⟩
def zRm (M : zM) : Room := { frames := (zRoom M).1, cells := (zRoom M).2.2.1, slots := (zRoom M).2.2.2, locals := (zRoom M).2.1 }
def zHd (M : zM) : Cond := match zTab M with
  | [] => .code (zName M) (zCode M) (zMaxL M) (zRet M)
  | t => .codeWith (zName M) (zCode M) (zMaxL M) (zRet M) t
section ZCT
variable (X : zX) (xa : List Nat) (sf : Nat → String × String × String) (n0 : Nat) (Nw : List Cond) (Nc : List (String × String)) (D : va_G) (cl : List vw_C) (tys : List (ClassId × FieldType)) (as : List Nat) (ws : va_W) (a' : List Value) (o : zO) (h' : zH)
def zPc : Array Value → State → Prop := va_Pc a' (fun U => zEnv X xa sf n0 Nw Nc U ∧ va_P D cl ws U.heap ∧ va_K D cl tys U ∧ va_D (zA n0) ws)
/-- the world behind a method -/
def zBe (st t : State) (tys' : List (ClassId × FieldType)) (as' : List Nat) (ws' : va_W) : Prop := as <+: as' ∧ tys <+: tys' ∧ zW xa tys' as' h' ws' ∧ va_P D cl ws' t.heap ∧ va_K D cl tys' t ∧ va_D (zA n0) ws' ∧ va_F (zA n0) st t
def zQc : Array Value → State → Outcome → State → Prop := fun _ st oc t => ∃ (r v : Option Value) (tys' : List (ClassId × FieldType)) (as' : List Nat) (ws' : va_W), o = .inl r ∧ oc = .returned v ∧ zF [] as' r.toList v.toList ∧ zBe xa n0 D cl tys as h' st t tys' as' ws'
def zXC : String → State → State → Prop := fun E st t => ∃ (k : Nat) (tys' : List (ClassId × FieldType)) (as' : List Nat) (ws' : va_W), o = .inr k ∧ E = zEn k ∧ zBe xa n0 D cl tys as h' st t tys' as' ws'
end ZCT
/-- the contract of a method at these arguments in this world -/
def zMt (l : Launch) (Ts : List Cond) (X : zX) (xa : List Nat) (sf : Nat → String × String × String) (n0 : Nat) (Nw : List Cond) (Nc : List (String × String)) (D : va_G) (cl : List vw_C) (M : zM) (tys : List (ClassId × FieldType)) (as : List Nat) (ws : va_W) (a' : List Value) (o : zO) (h' : zH) : Prop :=
  vx_Met l (zName M) (zHd M :: Ts) (zRm M) (zPc X xa sf n0 Nw Nc D cl tys ws a') (zQc xa n0 D cl tys as o h') (zXC xa n0 D cl tys as o h') (zRoom M).2.2.1 (zRoom M).2.2.2 (zA n0)
theorem zMet_of {l : Launch} {y : MethodName} {ws : List Cond} {rm : Room} {Pc : Array Value → State → Prop} {Qc : Array Value → State → Outcome → State → Prop} {XC : String → State → State → Prop} {mc ms : Nat} {free : Addr → Prop} (hM : vx_Met l y ws rm Pc Qc XC mc ms free) (hX : ∀ E st t, ¬ XC E st t) : Met l y ws rm Pc Qc mc ms free := by
  intro p e h1 h2 h3 s m args below h4 h5 h6 h7
  obtain ⟨n, o, g1, g2, g3, g4⟩ := hM p e h1 h2 h3 s m args below h4 h5 h6 h7
  refine ⟨n, o, g1, g2, g3, ?_⟩
  rcases g4 with g4 | ⟨q, -, E, ce, L, g5, -⟩
  · exact g4
  · exact absurd g5 (hX _ _ _)
theorem zPc_blind {X : zX} {xa : List Nat} {sf : Nat → String × String × String} {n0 : Nat} {Nw : List Cond} {Nc : List (String × String)} {D : va_G} {cl : List vw_C} {tys : List (ClassId × FieldType)} {ws : va_W} {a' : List Value} (hN : zNwOk Nw) : FrameBlind (zPc X xa sf n0 Nw Nc D cl tys ws a') := by
  intro a U g mk q
  obtain ⟨q0, q1, qP, qK, qD⟩ := q
  exact ⟨q0, zEnv_calling hN q1 g mk a, qP, va_K.moved (u := U) (U := U.calling g mk a) (Vm.Alike.refl U.vm) qK, qD⟩
section ZCR
variable {p : Program} {l : Launch} {e : Env} {R : Room} {s : State} {m : MethodId} {args : Array Value} {below : List Frame} {meth : Method} {c : Code} {H : Heap} {locs : List Loc} {cells slots : Nat} {Q : State → Prop}
variable {X : zX} {xa xac : List Nat} {sf : Nat → String × String × String} {n0 : Nat} {Nw : List Cond} {Nc : List (String × String)} {D : va_G} {cl : List vw_C} {tys : List (ClassId × FieldType)} {as : List Nat} {ws : va_W} {a' : Array Value} {h' : zH} {mc ms pc : Nat} {ls : Array Slot} {st0 rest : List Value}
/-- behind a call that returns -/
theorem z_callR {r : Option Value} (hr : va_Run p l e R s m args below meth c H locs cells slots mc ms (F0 m pc ls st0) rest (zQc xac n0 D cl tys as (.inl r) h' a') (zA n0)) (hS : va_S (zA n0) s.heap H locs)
    (kk : ∀ (v : Option Value) (tys' : List (ClassId × FieldType)) (as' : List Nat) (ws' : va_W) (H1 : Heap) (locs1 : List Loc), zF [] as' r.toList v.toList → as <+: as' → tys <+: tys' → zI D cl xa n0 s tys' as' ws' h' H1 locs1 → W p l e R s m args below meth c H1 locs1 (cells + mc) (slots + ms) Q (F0 m (pc + 3) ls (v.toList ++ rest))) : W p l e R s m args below meth c H locs cells slots Q (F0 m pc ls st0) := by
  intro T hT X9
  obtain ⟨v, st₀, t, T', L, h0, X', hL, e1, e2, ⟨r', v', tys', as', ws', hr1, hv, hF, g1, g2, g3, g4, g5, g6, g7⟩, st⟩ := hr T hT X9
  cases hr1
  cases hv
  obtain ⟨k1, k2, k3⟩ := vx_keep h0 e1 hS (fun _ _ h => h) (fun _ h => h) hL g7
  have hal : s.vm.Alike t.vm := by rw [← e2]; exact X'.warmed.alike
  obtain ⟨t2, a1, b1⟩ := kk v tys' as' ws' T'.heap (locs ++ L) hF g1 g2 ⟨va_K.moved hal.symm g5, by rw [e1]; exact g4, g6, k3, g3⟩ T' rfl X'
  exact ⟨t2, st t2 a1, b1⟩
/-- behind a call that throws -/
theorem z_callX {k : Nat} (hr : vx_Run p l e R s m args below meth c H locs cells slots mc ms (F0 m pc ls st0) rest (zQc xac n0 D cl tys as (.inr k) h' a') (zXC xac n0 D cl tys as (.inr k) h') (zA n0)) (hS : va_S (zA n0) s.heap H locs)
    (kx : ∀ (ce : Cell) (q9 : Addr) (tys' : List (ClassId × FieldType)) (as' : List Nat) (ws' : va_W) (H1 : Heap) (locs1 : List Loc), as <+: as' → tys <+: tys' → zI D cl xa n0 s tys' as' ws' h' H1 locs1 → H1[q9]? = some ce → ce.vm = .none → s.vm.findClass (zEn k) = some ce.cls → vx_W p l e R s m args below meth c H1 locs1 (cells + mc) (slots + ms) Q (F0 m pc ls rest) q9) : W p l e R s m args below meth c H locs cells slots Q (F0 m pc ls st0) := by
  intro T hT X9
  rcases hr T hT X9 with ⟨v, st₀, t, T', L, h0, X', hL, e1, e2, ⟨r', v', tys', as', ws', hr1, -⟩, st⟩ | ⟨q, st₀, t, T', L, E, ce, h0, X', hL, e1, e2, ⟨k', tys', as', ws', hk1, hE, g1, g2, g3, g4, g5, g6, g7⟩, hce, hcv, hcl, st⟩
  · cases hr1
  · cases hk1
    subst hE
    obtain ⟨k1, k2, k3⟩ := vx_keep h0 e1 hS (fun _ _ h => h) (fun _ h => h) hL g7
    have hal : s.vm.Alike t.vm := by rw [← e2]; exact X'.warmed.alike
    obtain ⟨t2, a1, b1⟩ := kx ce q tys' as' ws' T'.heap (locs ++ L) g1 g2 ⟨va_K.moved hal.symm g5, by rw [e1]; exact g4, g6, k3, g3⟩ (by rw [e1]; exact hce) hcv hcl T' rfl X'
    exact ⟨t2, st.trans a1, b1⟩
end ZCR
