section
-- pasted from claim/NAMES.whole.lean.txt (a starting text): words of a list, exceptions
/-! ===== BEGIN words of one list among another's, by their places ===== -/
theorem goodIn_r {big : List Cond} (ws : List Cond) (ps : List Nat) (hp : ws = ps.filterMap (fun i => big[i]?)) (h : ws.all goodWord = true) : GoodIn big ws := by
  intro w hw
  have h1 := List.all_eq_true.mp h w hw
  rw [hp] at hw
  obtain ⟨i, -, hi⟩ := List.mem_filterMap.mp hw
  have hm : w ∈ big := by first | exact List.mem_of_getElem? hi | exact List.getElem?_mem hi
  exact ⟨hm, good_of_word h1⟩
theorem goodIn_app {big a b : List Cond} (ha : GoodIn big a) (hb : GoodIn big b) : GoodIn big (a ++ b) := fun w h => (List.mem_append.mp h).elim (ha w) (hb w)
theorem goodIn_ca {big a b : List Cond} {c : Cond} (ha : GoodIn big (c :: a)) (hb : GoodIn big b) : GoodIn big (c :: (a ++ b)) := fun w h => (List.mem_cons.mp h).elim (fun e => ha w (List.mem_cons.mpr (Or.inl e))) (fun h => (List.mem_append.mp h).elim (fun h => ha w (List.mem_cons.mpr (Or.inr h))) (hb w))
theorem goodIn_sub {big ws : List Cond} (hm : ∀ w ∈ ws, w ∈ big) (h : ws.all goodWord = true) : GoodIn big ws := fun w hw => ⟨hm w hw, good_of_word (List.all_eq_true.mp h w hw)⟩
/-! ===== END ===== -/
/-! ===== BEGIN exceptions that leave a method, and their catching by the caller (launches without stack traces) ===== -/
section VXA
/-! The laws vx_back, vx_callV, vx_callS, vx_callSW, vx_throw0, vx_throwS follow proofs of the library, with one case more: JvmDerived/Free/Laws.lean (Back.of_free), Shelf42/LK1.lean (callV, callS), Shelf/KitTraced.lean (throwNew0V, throwNewS). -/
/-- where a method has thrown q: the class by its name, the cell, what was written, the world -/
def vx_T (XC : String → State → State → Prop) (st : State) (q : Addr) (t : State) (mc ms : Nat) (free : Addr → Prop) : Prop :=
  ∃ (E : String) (ce : Cell) (L : List Loc), XC E st t ∧ t.heap[q]? = some ce ∧ ce.vm = .none ∧ st.vm.findClass E = some ce.cls ∧ st.WarmedH t.vm ∧ st.sameButNew ({ t with vm := st.vm } : State) L mc ms ∧ ∀ z ∈ L, free z.base
def vx_Q (Qc : Array Value → State → Outcome → State → Prop) (XC : String → State → State → Prop) (mc ms : Nat) (free : Addr → Prop) : Array Value → State → Outcome → State → Prop := fun a st o t =>
  (Qc a st o t ∧ ∃ L, FrameEnd st o t L mc ms ∧ ∀ q ∈ L, free q.base) ∨ ∃ q, o = .threw q ∧ vx_T XC st q t mc ms free
/-- a callee that returns or throws -/
def vx_Met (l : Launch) (y : MethodName) (ws : List Cond) (rm : Room) (Pc : Array Value → State → Prop) (Qc : Array Value → State → Outcome → State → Prop) (XC : String → State → State → Prop) (mc ms : Nat) (free : Addr → Prop) : Prop :=
  MetFree l y (headSpec ws rm) Pc (fun _ _ _ _ _ => True) (vx_Q Qc XC mc ms free)
def vx_Post (XC : String → State → State → Prop) (mc ms : Nat) (free : Addr → Prop) : Pt → Array Value → Addr → Pt → Prop := fun A a q B =>
  ∃ (g : JFrame) (mk : MethodId) (t : State) (L : List Loc) (E : String) (ce : Cell), B.U.heap = t.heap ∧ B.U.vm = t.vm ∧ XC E (A.U.calling g mk a) t ∧ t.heap[q]? = some ce ∧ ce.vm = .none ∧ A.U.vm.findClass E = some ce.cls ∧ B.locs = A.locs ++ L ∧ (∀ z ∈ L, free z.base) ∧ B.cells = A.cells + mc ∧ B.slots = A.slots + ms
def vx_Back (l : Launch) (R : Room) (p : Program) (e : Env) (below : List Frame) (s : State) (sargs : Array Value) (y : MethodName) (len W9 : Nat)
    (Pre : Pt → Array Value → Prop) (Post : Pt → Array Value → Option Value → Pt → Prop) (PostX : Pt → Array Value → Addr → Pt → Prop) : Prop :=
  ∀ (m : MethodId) (meth : Method) (c : Code) (A : Pt) (g : JFrame) (ig : Instr) (mk : MethodId) (a : Array Value),
    Stand p l e R s m sargs below meth c A.U A.locs A.cells A.slots → g.method = m → g.locals.size = c.maxLocals → decode c.code g.pc = .ok (ig, len) →
    2 * g.monitorRoom + (g.stack.map fun v => v.category).sum ≤ W9 → A.U.methodNamed? y = some mk → Pre A a →
    (∃ (v : Option Value) (B : Pt), Stand p l e R s m sargs below meth c B.U B.locs B.cells B.slots ∧ Post A a v B ∧
      Steps p.tables e below (doInvoke e (A.U.setTop g) [] mk a).1 (B.U.setTop { g with pc := g.pc + len, stack := v.toList ++ g.stack })) ∨
    (∃ (q : Addr) (B : Pt), Stand p l e R s m sargs below meth c B.U B.locs B.cells B.slots ∧ PostX A a q B ∧
      Steps p.tables e below (doInvoke e (A.U.setTop g) [] mk a).1 ((B.U.setTop g).pushFrame (.throwing q)))
section Payer
variable {l : Launch} {R : Room} {p : Program} {e : Env} {below : List Frame} {s : State} {sargs : Array Value} {y : MethodName} {len W9 : Nat}
theorem vx_back {ws : List Cond} {rm : Room} {Pc : Array Value → State → Prop} {Qc : Array Value → State → Outcome → State → Prop} {XC : String → State → State → Prop} {mc ms : Nat} {free : Addr → Prop} {bytes : ByteArray} {maxL : Nat} {ret : Option FieldType}
    (hM : vx_Met l y ws rm Pc Qc XC mc ms free) (hblind : FrameBlind Pc) (hrc : rm.cells = mc) (hrs : rm.slots = ms)
    (hframes : rm.frames + 1 ≤ R.frames) (hlocals : W9 + (maxL + 11) + rm.locals ≤ R.locals)
    (hws : ∀ w ∈ ws, ∀ a' U, s.WarmedH U.vm → w.before a' U = true) (hcode : Cond.code y bytes maxL ret ∈ ws) (hinit : ∀ a' U, s.WarmedH U.vm → (Cond.initialized y.cls).before a' U = true) :
    vx_Back l R p e below s sargs y len W9 (PreOf R mc ms Pc) (PostOf Qc mc ms free) (vx_Post XC mc ms free) := by
  intro m meth c A g ig mk a X hg hsize hdg hW hn hp
  have h1 : (headSpec ws rm).pre.before a A.U = true := atoms_intro fun w hw => hws w hw _ _ X.warmed
  have h2 : (Cond.code y bytes maxL ret).before a A.U = true := hws _ hcode _ _ X.warmed
  have h3 : (Cond.initialized y.cls).before a A.U = true := hinit _ _ X.warmed
  have h4 : A.cells + (headSpec ws rm).room.cells ≤ R.cells := by rw [show (headSpec ws rm).room.cells = mc from hrc]; exact hp.1
  have h5 : A.slots + (headSpec ws rm).room.slots ≤ R.slots := by rw [show (headSpec ws rm).room.slots = ms from hrs]; exact hp.2.1
  have hPc : Pc a (A.U.calling g mk a) := hblind _ _ _ _ hp.2.2
  obtain ⟨U, Ls, c0, s0⟩ := A
  dsimp only [Pt.U, Pt.locs, Pt.cells, Pt.slots] at h1 h2 h3 h4 h5 X hn hPc ⊢
  obtain ⟨methY, cY, hmY, hcY, -, hlY, -, -, -, -⟩ := Cond.code_spec hn h2
  obtain ⟨kY, hkY, -⟩ := className_of_methodNamed hn
  have hinitY : kY.init = .initialized := Cond.initialized_spec (findClass_of_methodNamed hn) hkY h3
  have h : At U g.method c below := by rw [hg]; exact X.here
  have hlocals9 : W9 + (maxL + 11) + (headSpec ws rm).room.locals ≤ R.locals := hlocals
  have happ : (headSpec ws rm).appliesLoose y e.platform (U.calling g mk a) = true :=
    Spec.appliesLoose_calling (g := g) h hdg hn hkY hinitY
      (X.room_calling (g := g) (R' := (headSpec ws rm).room) hsize hmY hcY hframes (by rw [hlY]; omega) h4 h5) h1
  obtain ⟨mid, hmid⟩ := h.above
  have hfr : (U.setTop g).frames = (.java g :: mid) ++ below := by rw [State.frames_setTop' g h.top, hmid]; rfl
  obtain ⟨o, s₂, hsteps, -, hend, hq⟩ := Steps.callFree hM p X.admits X.cas X.clock (acts := []) hfr happ hPc trivial
  have hq' : vx_Q Qc XC mc ms free a (U.calling g mk a) o s₂ := hq
  rw [State.frames_setTop' g h.top] at hend
  obtain ⟨g₀, hg0⟩ := Option.isSome_iff_exists.mp h.top
  obtain ⟨r, hr⟩ := State.topJava?_eq_some.mp hg0
  have hr' : (({ U with heap := s₂.heap, slotsUsed := s₂.slotsUsed } : State).setVm s₂.vm).frames = .java g₀ :: r := hr
  rcases hq' with ⟨hqc, L, hfe, hL⟩ | ⟨q, rfl, E, ce, L, hx, hce, hcv, hcl, hW₂, hsm, hL⟩
  · obtain ⟨⟨v, rfl⟩, hW₂, e2, q2, q3, q4, q5, q6⟩ := id hfe
    have e3 : s₂ = ({ (U.calling g mk a).setFrames s₂.frames with heap := s₂.heap, slotsUsed := s₂.slotsUsed } : State).setVm s₂.vm := by
      have : s₂ = ({ s₂ with vm := (U.calling g mk a).vm } : State).setVm s₂.vm := rfl
      rw [e2] at this
      exact this
    obtain ⟨c₂, i₂, len₂, hc₂, hd₂, hf₂⟩ := hend
    have hW' : U.WarmedH s₂.vm := hW₂
    have hcc : c₂ = c := by
      have h1 : s₂.code? g.method = U.code? g.method := by
        rw [State.code?_eq, State.code?_eq, hW'.alike.method?]
      exact Option.some.inj (hc₂.symm.trans (h1.trans h.code))
    subst hcc
    have hlen : len₂ = len := by rw [hdg] at hd₂; cases hd₂; rfl
    subst hlen
    have hs₂ : s₂ = (({ U with heap := s₂.heap, slotsUsed := s₂.slotsUsed } : State).setVm s₂.vm).setTop { g with pc := g.pc + len₂, stack := v.toList ++ g.stack } := by
      refine e3.trans ?_
      rw [hf₂, State.calling_eq h.top, State.setFrames_setFrames, State.setTop_of_frames _ hr', hr]
      rfl
    have hsame : U.sameButNew ({ U with heap := s₂.heap, slotsUsed := s₂.slotsUsed } : State) L mc ms := by
      refine ⟨?_, q2, q3, q4, q5, q6⟩
      obtain ⟨t, ht, -⟩ := State.frames_cons hr
      show ({ U with heap := s₂.heap, slotsUsed := s₂.slotsUsed } : State) = { U.setFrames U.frames with heap := s₂.heap, slotsUsed := s₂.slotsUsed }
      rw [State.setFrames_self ht]
    subst hg
    refine Or.inl ⟨v, ⟨(({ U with heap := s₂.heap, slotsUsed := s₂.slotsUsed } : State).setVm s₂.vm), Ls ++ L, c0 + mc, s0 + ms⟩,
      ⟨X.admits, X.cas, X.clock, X.frames, X.room, X.hears, X.method, X.code, (X.here.setHeapUsed s₂.heap s₂.slotsUsed).setVm hW'.alike, X.tail, State.WarmedH.trans X.warmed hW', X.limits, X.bytes, X.same.trans (hsame.setVm s.vm)⟩,
      ⟨g, mk, s₂, L, rfl, rfl, hqc, rfl, hL, rfl, rfl⟩, ?_⟩
    show Steps p.tables e below _ ((({ U with heap := s₂.heap, slotsUsed := s₂.slotsUsed } : State).setVm s₂.vm).setTop { g with pc := g.pc + len₂, stack := v.toList ++ g.stack })
    rw [← hs₂]
    exact hsteps
  · obtain ⟨e2, q2, q3, q4, q5, q6⟩ := id hsm
    have e3 : s₂ = ({ (U.calling g mk a).setFrames s₂.frames with heap := s₂.heap, slotsUsed := s₂.slotsUsed } : State).setVm s₂.vm := by
      have : s₂ = ({ s₂ with vm := (U.calling g mk a).vm } : State).setVm s₂.vm := rfl
      rw [e2] at this
      exact this
    have hf₂ : s₂.frames = .throwing q :: .java g :: U.frames.tail := hend
    have hW' : U.WarmedH s₂.vm := hW₂
    have hs₂ : s₂ = ((({ U with heap := s₂.heap, slotsUsed := s₂.slotsUsed } : State).setVm s₂.vm).setTop g).pushFrame (.throwing q) := by
      refine e3.trans ?_
      rw [hf₂, State.calling_eq h.top, State.setFrames_setFrames, State.pushFrame, State.frames_setTop _ hr', State.setTop_of_frames _ hr', State.setFrames_setFrames, hr]
      rfl
    have hsame : U.sameButNew ({ U with heap := s₂.heap, slotsUsed := s₂.slotsUsed } : State) L mc ms := by
      refine ⟨?_, q2, q3, q4, q5, q6⟩
      obtain ⟨t, ht, -⟩ := State.frames_cons hr
      show ({ U with heap := s₂.heap, slotsUsed := s₂.slotsUsed } : State) = { U.setFrames U.frames with heap := s₂.heap, slotsUsed := s₂.slotsUsed }
      rw [State.setFrames_self ht]
    subst hg
    refine Or.inr ⟨q, ⟨(({ U with heap := s₂.heap, slotsUsed := s₂.slotsUsed } : State).setVm s₂.vm), Ls ++ L, c0 + mc, s0 + ms⟩,
      ⟨X.admits, X.cas, X.clock, X.frames, X.room, X.hears, X.method, X.code, (X.here.setHeapUsed s₂.heap s₂.slotsUsed).setVm hW'.alike, X.tail, State.WarmedH.trans X.warmed hW', X.limits, X.bytes, X.same.trans (hsame.setVm s.vm)⟩,
      ⟨g, mk, s₂, L, E, ce, rfl, rfl, hx, hce, hcv, hcl, rfl, hL, rfl, rfl⟩, ?_⟩
    show Steps p.tables e below _ (((({ U with heap := s₂.heap, slotsUsed := s₂.slotsUsed } : State).setVm s₂.vm).setTop g).pushFrame (.throwing q))
    rw [← hs₂]
    exact hsteps
end Payer
section Calls
variable {p : Program} {l : Launch} {e : Env} {R : Room} {s : State} {m : MethodId} {args : Array Value} {below : List Frame} {meth : Method} {c : Code} {T : State} {locs : List Loc} {cells slots : Nat}
theorem vx_callV (X : Stand p l e R s m args below meth c T locs cells slots) (hexec : p.tables.exec = Jvm.exec) {own C : String} {index : Nat} {y : MethodName} {bytes : ByteArray} {maxL : Nat} {ret : Option FieldType}
    (hown : s.vm.findClass own = some m.cls) (hlink : (Cond.methodLink own index y).before args s = true) (hinst : (Cond.instanceMethod y).before args s = true) (hsel : (Cond.selects C y y).before args s = true)
    (hcode : (Cond.code y bytes maxL ret).before args s = true) (hy : y.cls ≠ "java/lang/invoke/MethodHandle" ∧ y.cls ≠ "java/lang/invoke/VarHandle")
    {W9 : Nat} {Pre : Pt → Array Value → Prop} {Post : Pt → Array Value → Option Value → Pt → Prop} {PostX : Pt → Array Value → Addr → Pt → Prop} (hK : vx_Back l R p e below s args y 3 W9 Pre Post PostX)
    {b : Addr} {cellB : Cell} (hcell : T.heap[b]? = some cellB) (hobj : cellB.vm.isStatics = false) (hcls : s.vm.findClass C = some cellB.cls)
    {g : JFrame} (hg : g.method = m) (hsize : g.locals.size = c.maxLocals) {argsL rest : List Value} (hlen : ∀ sig, parseMethodDescriptor y.desc = some sig → argsL.length = sig.parameters.length)
    (hstack : g.stack = argsL.reverse ++ .ref b :: rest) (hW : 2 * g.monitorRoom + (rest.map fun v => v.category).sum ≤ W9) (hdg : decode c.code g.pc = .ok (.invokevirtual index, 3))
    (hpre : ∀ vm₁, s.WarmedH vm₁ → Pre ⟨T.setVm vm₁, locs, cells, slots⟩ (Value.ref b :: argsL).toArray) :
    (∃ (v : Option Value) (vm₁ : Vm) (B : Pt), s.WarmedH vm₁ ∧ Stand p l e R s m args below meth c B.U B.locs B.cells B.slots ∧ Post ⟨T.setVm vm₁, locs, cells, slots⟩ (Value.ref b :: argsL).toArray v B ∧
      ∀ target, Steps p.tables e below (B.U.setTop { g with pc := g.pc + 3, stack := v.toList ++ rest }) target → Steps p.tables e below (T.setTop g) target) ∨
    (∃ (q : Addr) (vm₁ : Vm) (B : Pt), s.WarmedH vm₁ ∧ Stand p l e R s m args below meth c B.U B.locs B.cells B.slots ∧ PostX ⟨T.setVm vm₁, locs, cells, slots⟩ (Value.ref b :: argsL).toArray q B ∧
      Steps p.tables e below (T.setTop g) ((B.U.setTop { g with stack := rest }).pushFrame (.throwing q))) := by
  obtain ⟨mk, methM, hnamed, hmethM, hstM, habM⟩ := Cond.instanceMethod_spec hinst
  obtain ⟨methM', cM, hmethM', -, -, -, -, -, -, hsigM⟩ := Cond.code_spec hnamed hcode
  cases hmethM.symm.trans hmethM'
  obtain ⟨c2, r2, m2, q1, q2, q3, q4, kP, hkP, hkPi⟩ := Cond.selects_spec hsel
  cases hcls.symm.trans q1
  cases (State.methodFound?_of_named hnamed hy).symm.trans q2
  cases hnamed.symm.trans q3
  have hselP : selectMethod e.platform s.vm cellB.cls mk = .method mk := by rw [Launch.admits_selectMethod X.admits]; exact q4
  obtain ⟨vm₁, X₁, hstep₁⟩ := X.invokevirtual hexec hown hlink hnamed hmethM hstM hkP hkPi hy (a := b) (cell := cellB) hcell
    (fun z h => by rw [h] at hobj; cases hobj) hselP hmethM habM hkP hkPi (g := g) hg (argsL := argsL) (rest := rest) (hlen _ hsigM) hstack hdg
  rcases hK m meth c ⟨T.setVm vm₁, locs, cells, slots⟩ { g with stack := rest } (.invokevirtual index) mk (Value.ref b :: argsL).toArray X₁ hg hsize hdg hW (X₁.named hnamed) (hpre vm₁ X₁.warmed) with ⟨v, B, X', hpost, hsteps⟩ | ⟨q, B, X', hpost, hsteps⟩
  · exact Or.inl ⟨v, vm₁, B, X₁.warmed, X', hpost, fun target h => hstep₁ _ fun acts => by rw [doInvoke_state]; exact hsteps.trans h⟩
  · exact Or.inr ⟨q, vm₁, B, X₁.warmed, X', hpost, hstep₁ _ fun acts => by rw [doInvoke_state]; exact hsteps⟩
theorem vx_callS (X : Stand p l e R s m args below meth c T locs cells slots) (hexec : p.tables.exec = Jvm.exec) {own : String} {index : Nat} {y : MethodName} {bytes : ByteArray} {maxL : Nat} {ret : Option FieldType}
    (hown : s.vm.findClass own = some m.cls) (hlink : (Cond.methodLink own index y).before args s = true) (hstat : (Cond.static y).before args s = true) (hinit : (Cond.initialized y.cls).before args s = true)
    (hcode : (Cond.code y bytes maxL ret).before args s = true) (hy : y.cls ≠ "java/lang/invoke/MethodHandle" ∧ y.cls ≠ "java/lang/invoke/VarHandle")
    {W9 : Nat} {Pre : Pt → Array Value → Prop} {Post : Pt → Array Value → Option Value → Pt → Prop} {PostX : Pt → Array Value → Addr → Pt → Prop} (hK : vx_Back l R p e below s args y 3 W9 Pre Post PostX)
    {g : JFrame} (hg : g.method = m) (hsize : g.locals.size = c.maxLocals) {argsL rest : List Value} (hlen : ∀ sig, parseMethodDescriptor y.desc = some sig → argsL.length = sig.parameters.length)
    (hstack : g.stack = argsL.reverse ++ rest) (hW : 2 * g.monitorRoom + (rest.map fun v => v.category).sum ≤ W9) (hdg : decode c.code g.pc = .ok (.invokestatic index, 3))
    (hpre : ∀ vm₁, s.WarmedH vm₁ → Pre ⟨T.setVm vm₁, locs, cells, slots⟩ argsL.toArray) :
    (∃ (v : Option Value) (vm₁ : Vm) (B : Pt), s.WarmedH vm₁ ∧ Stand p l e R s m args below meth c B.U B.locs B.cells B.slots ∧ Post ⟨T.setVm vm₁, locs, cells, slots⟩ argsL.toArray v B ∧
      ∀ target, Steps p.tables e below (B.U.setTop { g with pc := g.pc + 3, stack := v.toList ++ rest }) target → Steps p.tables e below (T.setTop g) target) ∨
    (∃ (q : Addr) (vm₁ : Vm) (B : Pt), s.WarmedH vm₁ ∧ Stand p l e R s m args below meth c B.U B.locs B.cells B.slots ∧ PostX ⟨T.setVm vm₁, locs, cells, slots⟩ argsL.toArray q B ∧
      Steps p.tables e below (T.setTop g) ((B.U.setTop { g with stack := rest }).pushFrame (.throwing q))) := by
  obtain ⟨mk, hnamed⟩ := Cond.code_named hcode
  obtain ⟨methM, cM, hmethM, -, -, -, -, -, -, hsigM⟩ := Cond.code_spec hnamed hcode
  have hstatic : methM.isStatic = true := Cond.static_spec hnamed hmethM hstat
  obtain ⟨kP, hkP, -⟩ := className_of_methodNamed hnamed
  have hinitP : kP.init = .initialized := Cond.initialized_spec (findClass_of_methodNamed hnamed) hkP hinit
  obtain ⟨vm₁, X₁, hstep₁⟩ := X.invokestatic hexec hown hlink hnamed hmethM hstatic hkP hinitP hy (g := g) hg (argsL := argsL) (rest := rest) (hlen _ hsigM) hstack hdg
  rcases hK m meth c ⟨T.setVm vm₁, locs, cells, slots⟩ { g with stack := rest } (.invokestatic index) mk argsL.toArray X₁ hg hsize hdg hW (X₁.named hnamed) (hpre vm₁ X₁.warmed) with ⟨v, B, X', hpost, hsteps⟩ | ⟨q, B, X', hpost, hsteps⟩
  · exact Or.inl ⟨v, vm₁, B, X₁.warmed, X', hpost, fun target h => hstep₁ _ fun acts => by rw [doInvoke_state]; exact hsteps.trans h⟩
  · exact Or.inr ⟨q, vm₁, B, X₁.warmed, X', hpost, hstep₁ _ fun acts => by rw [doInvoke_state]; exact hsteps⟩
end Calls
theorem vx_cls {s : State} {T : State} {vm₁ : Vm} {E : String} {k : ClassId} (hW : s.WarmedH vm₁) (h : (T.setVm vm₁).vm.findClass E = some k) : s.vm.findClass E = some k := by
  have h1 : vm₁.findClass E = some k := h
  rw [hW.alike.findClass] at h1
  exact h1
/-- the method's frame g, with q thrown over it -/
def vx_W (p : Program) (l : Launch) (e : Env) (R : Room) (s : State) (m : MethodId) (args : Array Value) (below : List Frame) (meth : Method) (c : Code) (H : Heap) (locs : List Loc) (cells slots : Nat) (Q : State → Prop) (g : JFrame) (q : Addr) : Prop :=
  ∀ T : State, T.heap = H → Stand p l e R s m args below meth c T locs cells slots → ∃ t, Steps p.tables e below ((T.setTop g).pushFrame (.throwing q)) t ∧ Q t
def vx_Run (p : Program) (l : Launch) (e : Env) (R : Room) (s : State) (m : MethodId) (args : Array Value) (below : List Frame) (meth : Method) (c : Code) (H : Heap) (locs : List Loc) (cells slots mc ms : Nat) (g : JFrame) (rest : List Value) (Qa : State → Outcome → State → Prop) (XC : String → State → State → Prop) (free : Addr → Prop) : Prop :=
  ∀ T : State, T.heap = H → Stand p l e R s m args below meth c T locs cells slots →
    (∃ (v : Option Value) (st₀ t T' : State) (L : List Loc), st₀.heap = H ∧ Stand p l e R s m args below meth c T' (locs ++ L) (cells + mc) (slots + ms) ∧ (∀ q ∈ L, free q.base) ∧ T'.heap = t.heap ∧ T'.vm = t.vm ∧ Qa st₀ (.returned v) t ∧
      Goes p e below T g T' { g with pc := g.pc + 3, stack := v.toList ++ rest }) ∨
    (∃ (q : Addr) (st₀ t T' : State) (L : List Loc) (E : String) (ce : Cell), st₀.heap = H ∧ Stand p l e R s m args below meth c T' (locs ++ L) (cells + mc) (slots + ms) ∧ (∀ z ∈ L, free z.base) ∧ T'.heap = t.heap ∧ T'.vm = t.vm ∧ XC E st₀ t ∧ t.heap[q]? = some ce ∧ ce.vm = .none ∧ s.vm.findClass E = some ce.cls ∧
      Steps p.tables e below (T.setTop g) ((T'.setTop { g with stack := rest }).pushFrame (.throwing q)))
def vx_X {S : Type} (px : S → Prop) (B : String → S → State → Prop) (A : Nat → Prop) : String → State → State → Prop := fun E st t => ∃ u : S, px u ∧ B E u t ∧ va_F A st t
section Runs
variable {p : Program} {l : Launch} {e : Env} {R : Room} {s : State} {m : MethodId} {args : Array Value} {below : List Frame} {meth : Method} {c : Code} {H : Heap} {locs : List Loc} {cells slots : Nat}
variable {y : MethodName} {bytes cc : ByteArray} {maxL nL mc ms n index : Nat} {ret : Option FieldType} {ws : List Cond} {rm : Room} {Pc : Array Value → State → Prop} {Qc : Array Value → State → Outcome → State → Prop} {XC : String → State → State → Prop} {free : Addr → Prop} {Ts : List Cond} {own C : String} {b : Addr} {As rest : List Value} {g : JFrame}
theorem vx_callBack (cb : CallB R s args own index y bytes maxL ret ws rm mc ms n) (hM : vx_Met l y ws rm Pc Qc XC mc ms free) (hbl : FrameBlind Pc) : vx_Back l R p e below s args y 3 8 (PreOf R mc ms Pc) (PostOf Qc mc ms free) (vx_Post XC mc ms free) := by
  obtain ⟨hrc, hrs, hfr, hlo, hws, hcw, -, hini, -⟩ := cb
  exact vx_back (bytes := bytes) (maxL := maxL) (ret := ret) hM hbl hrc hrs hfr hlo hws hcw (fun a' U hW => word_at hW (Or.inl (by first | rfl | simp [Cond.onTables, Cond.keeps, Cond.steady])) hini)
theorem vx_runV (S : CallFix p m c cc nL s args Ts own) (hM : vx_Met l y ws rm Pc Qc XC mc ms free) (cw : CallW R s args own C index y bytes maxL ret ws rm mc ms n) (hp : PreV s H C b Pc As)
    (hg : g.method = m) (hn : As.length = n) (hsize : g.locals.size = nL) (hstack : g.stack = As.reverse ++ .ref b :: rest) (hW : 2 * g.monitorRoom + (rest.map fun v => v.category).sum ≤ 8) (hdg : decode cc g.pc = .ok (.invokevirtual index, 3)) (hf : cells + mc ≤ R.cells ∧ slots + ms ≤ R.slots) :
    vx_Run p l e R s m args below meth c H locs cells slots mc ms g rest (Qc (Value.ref b :: As).toArray) XC free := by
  have hK : vx_Back l R p e below s args y 3 8 (PreOf R mc ms Pc) (PostOf Qc mc ms free) (vx_Post XC mc ms free) := vx_callBack cw.1 hM hp.1
  obtain ⟨⟨-, -, -, -, -, -, hcode, -, hy, hlen, hl⟩, hin, hse⟩ := cw
  obtain ⟨hx, hb, hml, ho, -⟩ := S
  obtain ⟨-, ⟨cellB, hcB, hoB, hclB⟩, hPc⟩ := hp
  intro T hT X
  rcases vx_callV X hx (C := C) (bytes := bytes) (maxL := maxL) (ret := ret) ho hl hin hse hcode hy hK (by rw [hT]; exact hcB) hoB hclB hg (hsize.trans hml.symm) (argsL := As) (rest := rest) (fun sig h => hn.trans (hlen sig h)) hstack hW (by rw [hb]; exact hdg)
    (fun vm₁ hW₁ => ⟨hf.1, hf.2, hPc (T.setVm vm₁) hT hW₁⟩) with ⟨v, vm₁, ⟨U', l2, c2, s2⟩, hW₁, X', ⟨g', mk, t, L, e1, e2, hq, h1, hL, h2, h3⟩, st⟩ | ⟨q, vm₁, ⟨U', l2, c2, s2⟩, hW₁, X', ⟨g', mk, t, L, E, ce, e1, e2, hq, hce, hcv, hcl, h1, hL, h2, h3⟩, st⟩
  · dsimp only [Pt.U, Pt.locs, Pt.cells, Pt.slots] at X' e1 e2 h1 h2 h3 st
    subst h1; subst h2; subst h3
    exact Or.inl ⟨v, (T.setVm vm₁).calling g' mk (Value.ref b :: As).toArray, t, U', L, hT, X', hL, e1, e2, hq, st⟩
  · dsimp only [Pt.U, Pt.locs, Pt.cells, Pt.slots] at X' e1 e2 h1 h2 h3 st hcl
    subst h1; subst h2; subst h3
    exact Or.inr ⟨q, (T.setVm vm₁).calling g' mk (Value.ref b :: As).toArray, t, U', L, E, ce, hT, X', hL, e1, e2, hq, hce, hcv, vx_cls hW₁ hcl, st⟩
theorem vx_runS (S : CallFix p m c cc nL s args Ts own) (hM : vx_Met l y ws rm Pc Qc XC mc ms free) (cw : CallB R s args own index y bytes maxL ret ws rm mc ms n ∧ (Cond.static y).before args s = true) (hp : PreS s H Pc As)
    (hg : g.method = m) (hn : As.length = n) (hsize : g.locals.size = nL) (hstack : g.stack = As.reverse ++ rest) (hW : 2 * g.monitorRoom + (rest.map fun v => v.category).sum ≤ 8) (hdg : decode cc g.pc = .ok (.invokestatic index, 3)) (hf : cells + mc ≤ R.cells ∧ slots + ms ≤ R.slots) :
    vx_Run p l e R s m args below meth c H locs cells slots mc ms g rest (Qc As.toArray) XC free := by
  have hK : vx_Back l R p e below s args y 3 8 (PreOf R mc ms Pc) (PostOf Qc mc ms free) (vx_Post XC mc ms free) := vx_callBack cw.1 hM hp.1
  obtain ⟨⟨-, -, -, -, -, -, hcode, hini, hy, hlen, hl⟩, hstt⟩ := cw
  obtain ⟨hx, hb, hml, ho, -⟩ := S
  intro T hT X
  rcases vx_callS X hx (bytes := bytes) (maxL := maxL) (ret := ret) ho hl hstt hini hcode hy hK hg (hsize.trans hml.symm) (argsL := As) (rest := rest) (fun sig h => hn.trans (hlen sig h)) hstack hW (by rw [hb]; exact hdg)
    (fun vm₁ hW₁ => ⟨hf.1, hf.2, hp.2 (T.setVm vm₁) hT hW₁⟩) with ⟨v, vm₁, ⟨U', l2, c2, s2⟩, hW₁, X', ⟨g', mk, t, L, e1, e2, hq, h1, hL, h2, h3⟩, st⟩ | ⟨q, vm₁, ⟨U', l2, c2, s2⟩, hW₁, X', ⟨g', mk, t, L, E, ce, e1, e2, hq, hce, hcv, hcl, h1, hL, h2, h3⟩, st⟩
  · dsimp only [Pt.U, Pt.locs, Pt.cells, Pt.slots] at X' e1 e2 h1 h2 h3 st
    subst h1; subst h2; subst h3
    exact Or.inl ⟨v, (T.setVm vm₁).calling g' mk As.toArray, t, U', L, hT, X', hL, e1, e2, hq, st⟩
  · dsimp only [Pt.U, Pt.locs, Pt.cells, Pt.slots] at X' e1 e2 h1 h2 h3 st hcl
    subst h1; subst h2; subst h3
    exact Or.inr ⟨q, (T.setVm vm₁).calling g' mk As.toArray, t, U', L, E, ce, hT, X', hL, e1, e2, hq, hce, hcv, vx_cls hW₁ hcl, st⟩
end Runs
section Rows
variable {p : Program} {l : Launch} {e : Env} {R : Room} {s : State} {m : MethodId} {args : Array Value} {below : List Frame} {meth : Method} {c : Code} {H : Heap} {locs : List Loc} {cells slots : Nat} {Q : State → Prop}
variable {mc ms : Nat} {free : Addr → Prop} {A0 A1 : Nat → Prop} {H0 : Heap} {a : Array Value} {pc : Nat} {ls : Array Slot} {st0 rest : List Value}
theorem vx_keep {st₀ t T' : State} {L : List Loc} (h0 : st₀.heap = H) (e1 : T'.heap = t.heap) (hS : va_S A0 H0 H locs) (hA : ∀ q, q < H.size → A1 q → A0 q) (hf : ∀ q, free q → A0 q) (hL : ∀ q ∈ L, free q.base) (hF : va_F A1 st₀ t) :
    H.size ≤ T'.heap.size ∧ (∀ q : Nat, q < H.size → ¬ A1 q → T'.heap[q]? = H[q]?) ∧ va_S A0 H0 T'.heap (locs ++ L) := by
  obtain ⟨hz, hk⟩ := hF
  rw [h0] at hz hk
  exact ⟨by rw [e1]; exact hz, fun q h1 h2 => by rw [e1]; exact hk q h1 h2,
    ⟨Nat.le_trans hS.1 (by rw [e1]; exact hz), fun q h1 h2 => by rw [e1, hk q (Nat.lt_of_lt_of_le h1 hS.1) (fun z => h2 (hA q (Nat.lt_of_lt_of_le h1 hS.1) z))]; exact hS.2.1 q h1 h2, fun q hq => by
      rcases List.mem_append.mp hq with h | h
      · exact hS.2.2 q h
      · exact hf _ (hL q h)⟩⟩
theorem vx_calli {S SX : Type} {post : Int32 → S → Prop} {px : SX → Prop} {B : S → State → Prop} {BX : String → SX → State → Prop} {AX : Nat → Prop} (hr : vx_Run p l e R s m args below meth c H locs cells slots mc ms (F0 m pc ls st0) rest (va_Qi post B A1 a) (vx_X px BX AX) free) (hS : va_S A0 H0 H locs) (hA : ∀ q, q < H.size → A1 q → A0 q) (hf : ∀ q, free q → A0 q) (hAX : ∀ q, q < H.size → AX q → A0 q)
    (kx : ∀ (E : String) (ce : Cell) (q9 : Addr) (u : SX) (t : State) (H1 : Heap) (locs1 : List Loc), t.heap = H1 → s.vm.Alike t.vm → px u → BX E u t → H.size ≤ H1.size → (∀ q : Nat, q < H.size → ¬ AX q → H1[q]? = H[q]?) → va_S A0 H0 H1 locs1 → H1[q9]? = some ce → ce.vm = .none → s.vm.findClass E = some ce.cls → vx_W p l e R s m args below meth c H1 locs1 (cells + mc) (slots + ms) Q (F0 m pc ls rest) q9)
    (kk : ∀ (r : Int32) (u : S) (t : State) (H1 : Heap) (locs1 : List Loc), t.heap = H1 → s.vm.Alike t.vm → post r u → B u t → H.size ≤ H1.size → (∀ q : Nat, q < H.size → ¬ A1 q → H1[q]? = H[q]?) → va_S A0 H0 H1 locs1 → W p l e R s m args below meth c H1 locs1 (cells + mc) (slots + ms) Q (F0 m (pc + 3) ls (.int r :: rest))) : W p l e R s m args below meth c H locs cells slots Q (F0 m pc ls st0) := by
  intro T hT X
  rcases hr T hT X with ⟨v, st₀, t, T', L, h0, X', hL, e1, e2, ⟨⟨r, u, hv, hp, hb⟩, hF⟩, st⟩ | ⟨q, st₀, t, T', L, E, ce, h0, X', hL, e1, e2, ⟨u, hp, hb, hF⟩, hce, hcv, hcl, st⟩
  · cases hv
    obtain ⟨k1, k2, k3⟩ := vx_keep h0 e1 hS hA hf hL hF
    obtain ⟨t2, a1, b1⟩ := kk r u t T'.heap (locs ++ L) e1.symm (by rw [← e2]; exact X'.warmed.alike) hp hb k1 k2 k3 T' rfl X'
    exact ⟨t2, st t2 a1, b1⟩
  · obtain ⟨k1, k2, k3⟩ := vx_keep h0 e1 hS hAX hf hL hF
    obtain ⟨t2, a1, b1⟩ := kx E ce q u t T'.heap (locs ++ L) e1.symm (by rw [← e2]; exact X'.warmed.alike) hp hb k1 k2 k3 (by rw [e1]; exact hce) hcv hcl T' rfl X'
    exact ⟨t2, st.trans a1, b1⟩
theorem vx_calll {S SX : Type} {post : Int64 → S → Prop} {px : SX → Prop} {B : S → State → Prop} {BX : String → SX → State → Prop} {AX : Nat → Prop} (hr : vx_Run p l e R s m args below meth c H locs cells slots mc ms (F0 m pc ls st0) rest (va_Ql post B A1 a) (vx_X px BX AX) free) (hS : va_S A0 H0 H locs) (hA : ∀ q, q < H.size → A1 q → A0 q) (hf : ∀ q, free q → A0 q) (hAX : ∀ q, q < H.size → AX q → A0 q)
    (kx : ∀ (E : String) (ce : Cell) (q9 : Addr) (u : SX) (t : State) (H1 : Heap) (locs1 : List Loc), t.heap = H1 → s.vm.Alike t.vm → px u → BX E u t → H.size ≤ H1.size → (∀ q : Nat, q < H.size → ¬ AX q → H1[q]? = H[q]?) → va_S A0 H0 H1 locs1 → H1[q9]? = some ce → ce.vm = .none → s.vm.findClass E = some ce.cls → vx_W p l e R s m args below meth c H1 locs1 (cells + mc) (slots + ms) Q (F0 m pc ls rest) q9)
    (kk : ∀ (r : Int64) (u : S) (t : State) (H1 : Heap) (locs1 : List Loc), t.heap = H1 → s.vm.Alike t.vm → post r u → B u t → H.size ≤ H1.size → (∀ q : Nat, q < H.size → ¬ A1 q → H1[q]? = H[q]?) → va_S A0 H0 H1 locs1 → W p l e R s m args below meth c H1 locs1 (cells + mc) (slots + ms) Q (F0 m (pc + 3) ls (.long r :: rest))) : W p l e R s m args below meth c H locs cells slots Q (F0 m pc ls st0) := by
  intro T hT X
  rcases hr T hT X with ⟨v, st₀, t, T', L, h0, X', hL, e1, e2, ⟨⟨r, u, hv, hp, hb⟩, hF⟩, st⟩ | ⟨q, st₀, t, T', L, E, ce, h0, X', hL, e1, e2, ⟨u, hp, hb, hF⟩, hce, hcv, hcl, st⟩
  · cases hv
    obtain ⟨k1, k2, k3⟩ := vx_keep h0 e1 hS hA hf hL hF
    obtain ⟨t2, a1, b1⟩ := kk r u t T'.heap (locs ++ L) e1.symm (by rw [← e2]; exact X'.warmed.alike) hp hb k1 k2 k3 T' rfl X'
    exact ⟨t2, st t2 a1, b1⟩
  · obtain ⟨k1, k2, k3⟩ := vx_keep h0 e1 hS hAX hf hL hF
    obtain ⟨t2, a1, b1⟩ := kx E ce q u t T'.heap (locs ++ L) e1.symm (by rw [← e2]; exact X'.warmed.alike) hp hb k1 k2 k3 (by rw [e1]; exact hce) hcv hcl T' rfl X'
    exact ⟨t2, st.trans a1, b1⟩
theorem vx_callf {S SX : Type} {post : UInt32 → S → Prop} {px : SX → Prop} {B : S → State → Prop} {BX : String → SX → State → Prop} {AX : Nat → Prop} (hr : vx_Run p l e R s m args below meth c H locs cells slots mc ms (F0 m pc ls st0) rest (va_Qf post B A1 a) (vx_X px BX AX) free) (hS : va_S A0 H0 H locs) (hA : ∀ q, q < H.size → A1 q → A0 q) (hf : ∀ q, free q → A0 q) (hAX : ∀ q, q < H.size → AX q → A0 q)
    (kx : ∀ (E : String) (ce : Cell) (q9 : Addr) (u : SX) (t : State) (H1 : Heap) (locs1 : List Loc), t.heap = H1 → s.vm.Alike t.vm → px u → BX E u t → H.size ≤ H1.size → (∀ q : Nat, q < H.size → ¬ AX q → H1[q]? = H[q]?) → va_S A0 H0 H1 locs1 → H1[q9]? = some ce → ce.vm = .none → s.vm.findClass E = some ce.cls → vx_W p l e R s m args below meth c H1 locs1 (cells + mc) (slots + ms) Q (F0 m pc ls rest) q9)
    (kk : ∀ (r : UInt32) (u : S) (t : State) (H1 : Heap) (locs1 : List Loc), t.heap = H1 → s.vm.Alike t.vm → post r u → B u t → H.size ≤ H1.size → (∀ q : Nat, q < H.size → ¬ A1 q → H1[q]? = H[q]?) → va_S A0 H0 H1 locs1 → W p l e R s m args below meth c H1 locs1 (cells + mc) (slots + ms) Q (F0 m (pc + 3) ls (.float r :: rest))) : W p l e R s m args below meth c H locs cells slots Q (F0 m pc ls st0) := by
  intro T hT X
  rcases hr T hT X with ⟨v, st₀, t, T', L, h0, X', hL, e1, e2, ⟨⟨r, u, hv, hp, hb⟩, hF⟩, st⟩ | ⟨q, st₀, t, T', L, E, ce, h0, X', hL, e1, e2, ⟨u, hp, hb, hF⟩, hce, hcv, hcl, st⟩
  · cases hv
    obtain ⟨k1, k2, k3⟩ := vx_keep h0 e1 hS hA hf hL hF
    obtain ⟨t2, a1, b1⟩ := kk r u t T'.heap (locs ++ L) e1.symm (by rw [← e2]; exact X'.warmed.alike) hp hb k1 k2 k3 T' rfl X'
    exact ⟨t2, st t2 a1, b1⟩
  · obtain ⟨k1, k2, k3⟩ := vx_keep h0 e1 hS hAX hf hL hF
    obtain ⟨t2, a1, b1⟩ := kx E ce q u t T'.heap (locs ++ L) e1.symm (by rw [← e2]; exact X'.warmed.alike) hp hb k1 k2 k3 (by rw [e1]; exact hce) hcv hcl T' rfl X'
    exact ⟨t2, st.trans a1, b1⟩
theorem vx_calld {S SX : Type} {post : UInt64 → S → Prop} {px : SX → Prop} {B : S → State → Prop} {BX : String → SX → State → Prop} {AX : Nat → Prop} (hr : vx_Run p l e R s m args below meth c H locs cells slots mc ms (F0 m pc ls st0) rest (va_Qd post B A1 a) (vx_X px BX AX) free) (hS : va_S A0 H0 H locs) (hA : ∀ q, q < H.size → A1 q → A0 q) (hf : ∀ q, free q → A0 q) (hAX : ∀ q, q < H.size → AX q → A0 q)
    (kx : ∀ (E : String) (ce : Cell) (q9 : Addr) (u : SX) (t : State) (H1 : Heap) (locs1 : List Loc), t.heap = H1 → s.vm.Alike t.vm → px u → BX E u t → H.size ≤ H1.size → (∀ q : Nat, q < H.size → ¬ AX q → H1[q]? = H[q]?) → va_S A0 H0 H1 locs1 → H1[q9]? = some ce → ce.vm = .none → s.vm.findClass E = some ce.cls → vx_W p l e R s m args below meth c H1 locs1 (cells + mc) (slots + ms) Q (F0 m pc ls rest) q9)
    (kk : ∀ (r : UInt64) (u : S) (t : State) (H1 : Heap) (locs1 : List Loc), t.heap = H1 → s.vm.Alike t.vm → post r u → B u t → H.size ≤ H1.size → (∀ q : Nat, q < H.size → ¬ A1 q → H1[q]? = H[q]?) → va_S A0 H0 H1 locs1 → W p l e R s m args below meth c H1 locs1 (cells + mc) (slots + ms) Q (F0 m (pc + 3) ls (.double r :: rest))) : W p l e R s m args below meth c H locs cells slots Q (F0 m pc ls st0) := by
  intro T hT X
  rcases hr T hT X with ⟨v, st₀, t, T', L, h0, X', hL, e1, e2, ⟨⟨r, u, hv, hp, hb⟩, hF⟩, st⟩ | ⟨q, st₀, t, T', L, E, ce, h0, X', hL, e1, e2, ⟨u, hp, hb, hF⟩, hce, hcv, hcl, st⟩
  · cases hv
    obtain ⟨k1, k2, k3⟩ := vx_keep h0 e1 hS hA hf hL hF
    obtain ⟨t2, a1, b1⟩ := kk r u t T'.heap (locs ++ L) e1.symm (by rw [← e2]; exact X'.warmed.alike) hp hb k1 k2 k3 T' rfl X'
    exact ⟨t2, st t2 a1, b1⟩
  · obtain ⟨k1, k2, k3⟩ := vx_keep h0 e1 hS hAX hf hL hF
    obtain ⟨t2, a1, b1⟩ := kx E ce q u t T'.heap (locs ++ L) e1.symm (by rw [← e2]; exact X'.warmed.alike) hp hb k1 k2 k3 (by rw [e1]; exact hce) hcv hcl T' rfl X'
    exact ⟨t2, st.trans a1, b1⟩
theorem vx_callv {S SX : Type} {post : S → Prop} {px : SX → Prop} {B : S → State → Prop} {BX : String → SX → State → Prop} {AX : Nat → Prop} (hr : vx_Run p l e R s m args below meth c H locs cells slots mc ms (F0 m pc ls st0) rest (va_Qv post B A1 a) (vx_X px BX AX) free) (hS : va_S A0 H0 H locs) (hA : ∀ q, q < H.size → A1 q → A0 q) (hf : ∀ q, free q → A0 q) (hAX : ∀ q, q < H.size → AX q → A0 q)
    (kx : ∀ (E : String) (ce : Cell) (q9 : Addr) (u : SX) (t : State) (H1 : Heap) (locs1 : List Loc), t.heap = H1 → s.vm.Alike t.vm → px u → BX E u t → H.size ≤ H1.size → (∀ q : Nat, q < H.size → ¬ AX q → H1[q]? = H[q]?) → va_S A0 H0 H1 locs1 → H1[q9]? = some ce → ce.vm = .none → s.vm.findClass E = some ce.cls → vx_W p l e R s m args below meth c H1 locs1 (cells + mc) (slots + ms) Q (F0 m pc ls rest) q9)
    (kk : ∀ (u : S) (t : State) (H1 : Heap) (locs1 : List Loc), t.heap = H1 → s.vm.Alike t.vm → post u → B u t → H.size ≤ H1.size → (∀ q : Nat, q < H.size → ¬ A1 q → H1[q]? = H[q]?) → va_S A0 H0 H1 locs1 → W p l e R s m args below meth c H1 locs1 (cells + mc) (slots + ms) Q (F0 m (pc + 3) ls (rest))) : W p l e R s m args below meth c H locs cells slots Q (F0 m pc ls st0) := by
  intro T hT X
  rcases hr T hT X with ⟨v, st₀, t, T', L, h0, X', hL, e1, e2, ⟨⟨u, hv, hp, hb⟩, hF⟩, st⟩ | ⟨q, st₀, t, T', L, E, ce, h0, X', hL, e1, e2, ⟨u, hp, hb, hF⟩, hce, hcv, hcl, st⟩
  · cases hv
    obtain ⟨k1, k2, k3⟩ := vx_keep h0 e1 hS hA hf hL hF
    obtain ⟨t2, a1, b1⟩ := kk u t T'.heap (locs ++ L) e1.symm (by rw [← e2]; exact X'.warmed.alike) hp hb k1 k2 k3 T' rfl X'
    exact ⟨t2, st t2 a1, b1⟩
  · obtain ⟨k1, k2, k3⟩ := vx_keep h0 e1 hS hAX hf hL hF
    obtain ⟨t2, a1, b1⟩ := kx E ce q u t T'.heap (locs ++ L) e1.symm (by rw [← e2]; exact X'.warmed.alike) hp hb k1 k2 k3 (by rw [e1]; exact hce) hcv hcl T' rfl X'
    exact ⟨t2, st.trans a1, b1⟩
end Rows
section Ends
variable {p : Program} {l : Launch} {e : Env} {R : Room} {s : State} {m : MethodId} {args : Array Value} {below : List Frame} {meth : Method} {c : Code} {H : Heap} {locs : List Loc} {cells slots : Nat} {Q : State → Prop}
variable {mc ms : Nat} {free : Addr → Prop} {A0 A1 : Nat → Prop} {H0 : Heap} {a : Array Value} {ls : Array Slot} {st0 rest : List Value}
variable {Qc : Array Value → State → Outcome → State → Prop} {XC : String → State → State → Prop}
/-- what a body that may throw owes at its end -/
def vx_MQ (below : List Frame) (Qc : Array Value → State → Outcome → State → Prop) (XC : String → State → State → Prop) (a : Array Value) (s : State) (mc ms : Nat) (free : Addr → Prop) : State → Prop := fun t =>
  ∃ o, t.status = .running ∧ Ended t below o ∧ vx_Q Qc XC mc ms free a s o t
theorem vx_ret {g : JFrame} {mc ms : Nat} (k : W p l e R s m args below meth c H locs cells slots (MQ below Qc args s mc ms free) g) : W p l e R s m args below meth c H locs cells slots (vx_MQ below Qc XC args s mc ms free) g := by
  intro T hT X
  obtain ⟨t, a1, o, b1, b2, b3, b4⟩ := k T hT X
  exact ⟨t, a1, o, b1, b2, Or.inl ⟨b3, b4⟩⟩
/-- not caught here: it goes on to the caller -/
theorem vx_widen {g : JFrame} {q : Addr} {k n : Nat} (h1 : cells ≤ k) (h2 : slots ≤ n) (kk : vx_W p l e R s m args below meth c H locs k n Q g q) : vx_W p l e R s m args below meth c H locs cells slots Q g q := fun T hT X => kk T hT (stand_widen X h1 h2)
theorem vx_out {pc : Nat} {E : String} {ce : Cell} {q : Addr} {mc ms : Nat} (hout : ∀ x ∈ c.exceptionTable.toList, covers x pc = false) (hlocks : meth.locks = false) (hcell : H[q]? = some ce) (hv : ce.vm = .none) (hcl : s.vm.findClass E = some ce.cls)
    (hx : ∀ t : State, t.heap = H → s.vm.Alike t.vm → XC E s t) (hf : ∀ z ∈ locs, free z.base) (hc : cells ≤ mc) (hs : slots ≤ ms) :
    vx_W p l e R s m args below meth c H locs cells slots (vx_MQ below Qc XC args s mc ms free) (F0 m pc ls rest) q := by
  intro T hT X
  obtain ⟨st1, hrun, hend, hW, hsm⟩ := X.leaveThrown q (g := F0 m pc ls rest) rfl rfl rfl hout hlocks
  have hcell9 : (T.setFrames (.throwing q :: below)).heap[q]? = some ce := by
    show T.heap[q]? = some ce
    rw [hT]; exact hcell
  exact ⟨_, st1, .threw q, hrun, hend, Or.inr ⟨q, rfl, E, ce, locs, hx _ hT hW.alike, hcell9, hv, hcl, hW, hsm.mono hc hs, hf⟩⟩
theorem vx_frame {U : State} {k n : Nat} (h : s.sameButNew ({ U with vm := s.vm } : State) locs k n) : s.heap.size ≤ U.heap.size ∧ ∀ q : Nat, q < s.heap.size → (∀ z ∈ locs, z.base ≠ q) → U.heap[q]? = s.heap[q]? := by
  obtain ⟨-, h2, -, -, -, h6⟩ := h
  refine ⟨h2, fun q hq hz => ?_⟩
  obtain ⟨c9, e1, e2, e3, e4⟩ := h6 q _ (Array.getElem?_eq_getElem hq)
  have hs : c9.slots = (s.heap[q]).slots := Array.ext_getElem? fun i => e4 i fun hm => hz _ hm rfl
  have h9 : c9 = s.heap[q] := by
    rw [hs] at e2
    exact e2
  have e5 : U.heap[q]? = some c9 := e1
  rw [e5, h9, Array.getElem?_eq_getElem hq]
/-- the words of a throw but the four that speak of the heap -/
def vx_no (w : Cond) : Bool := decide (w ≠ .isRef (.static Bundle.tN "UNASSIGNED_STACK" Bundle.steD)) && decide (w ≠ .isRef (.static Bundle.tN "SUPPRESSED_SENTINEL" Bundle.listD)) && decide (w ≠ .laysStatic Bundle.tN "UNASSIGNED_STACK" Bundle.steD) && decide (w ≠ .laysStatic Bundle.tN "SUPPRESSED_SENTINEL" Bundle.listD)
def vx_at0 (own : String) (ic : Nat) (X : String) (names : List String) : List Cond := (Bundle.ownAtoms0 own ic X names).filter vx_no
def vx_atS (own : String) (ic : Nat) (X : String) (names : List String) : List Cond := (Bundle.ownAtoms own ic X names).filter vx_no
/-- a word that the tables alone decide, or a good one -/
def vx_ot (w : Cond) : Bool := w.onTables || goodWord w
theorem vx_ot_at {args a' : Array Value} {s U : State} {w : Cond} (hW : s.WarmedH U.vm) (hvm : s.vm = U.vm) (hg : vx_ot w = true) (h : w.before args s = true) : w.before a' U = true := by
  simp only [vx_ot, Bool.or_eq_true] at hg
  rcases hg with hg | hg
  · exact va_tabs hg hvm h
  · exact word_at hW (good_of_word hg) h
/-- a list's words: the good ones out of the method's own list, the others by premises of their own -/
theorem vx_hat {args : Array Value} {s : State} {L B : List Cond} (h1 : ∀ w ∈ L.filter goodWord, w.before args s = true) (h2 : ∀ w ∈ L.filter (fun w => !goodWord w), w ∈ B) (h3 : ∀ w ∈ B, w.before args s = true) : ∀ w ∈ L, w.before args s = true := by
  intro w hw
  by_cases g : goodWord w = true
  · exact h1 w (List.mem_filter.mpr ⟨hw, g⟩)
  · refine h3 w (h2 w (List.mem_filter.mpr ⟨hw, ?_⟩))
    show (!goodWord w) = true
    cases hgw : goodWord w
    · rfl
    · exact absurd hgw g
theorem vx_c {args : Array Value} {s : State} {w : Cond} {B : List Cond} (h : w.before args s = true) (t : ∀ w ∈ B, w.before args s = true) : ∀ w' ∈ w :: B, w'.before args s = true := fun w' h' => (List.mem_cons.mp h').elim (fun e => by rw [e]; exact h) (t w')
theorem vx_n {args : Array Value} {s : State} : ∀ w ∈ ([] : List Cond), w.before args s = true := fun _ h => nomatch h
theorem vx_own {args : Array Value} {s : State} {L : List Cond} (h1 : ∀ w ∈ L.filter vx_no, w.before args s = true)
    (hU : (Cond.isRef (.static Bundle.tN "UNASSIGNED_STACK" Bundle.steD)).before args s = true) (hN : (Cond.isRef (.static Bundle.tN "SUPPRESSED_SENTINEL" Bundle.listD)).before args s = true)
    (lU : (Cond.laysStatic Bundle.tN "UNASSIGNED_STACK" Bundle.steD).before args s = true) (lN : (Cond.laysStatic Bundle.tN "SUPPRESSED_SENTINEL" Bundle.listD).before args s = true) : ∀ w ∈ L, w.before args s = true := by
  intro w hw
  by_cases e1 : w = .isRef (.static Bundle.tN "UNASSIGNED_STACK" Bundle.steD)
  · rw [e1]; exact hU
  · by_cases e2 : w = .isRef (.static Bundle.tN "SUPPRESSED_SENTINEL" Bundle.listD)
    · rw [e2]; exact hN
    · by_cases e3 : w = .laysStatic Bundle.tN "UNASSIGNED_STACK" Bundle.steD
      · rw [e3]; exact lU
      · by_cases e4 : w = .laysStatic Bundle.tN "SUPPRESSED_SENTINEL" Bundle.listD
        · rw [e4]; exact lN
        · exact h1 w (List.mem_filter.mpr ⟨hw, by unfold vx_no; rw [decide_eq_true e1, decide_eq_true e2, decide_eq_true e3, decide_eq_true e4]; rfl⟩)
/-- where a static field lies, its class's statics cell in H -/
def vx_L (C n d : String) (A : Nat → Prop) (U : State) (H : Heap) : Prop := ∃ (c : ClassId) (k : Class) (i : Nat) (f : Field) (a : Nat) (cell : Cell), U.vm.findClass C = some c ∧ U.fieldFound? C n d = some (c, k, i, f) ∧ f.isStatic = true ∧ k.statics = some a ∧ H[a]? = some cell ∧ cell.vm.isStatics = true ∧ cell.cls = c ∧ f.slot < cell.slots.size ∧ k.staticTypes[f.slot]? = some f.type ∧ ¬ A a
theorem vx_L.moved {C n d : String} {A : Nat → Prop} {u U : State} {H : Heap} (hvm : u.vm.Alike U.vm) (h : vx_L C n d A u H) : vx_L C n d A U H := by
  obtain ⟨c, k, i, f, a, cell, h1, h2, h3, h4, h5, h6, h7, h8, h9, h10⟩ := h
  obtain ⟨k', hi', he⟩ := State.fieldFound?_setVm hvm h2
  exact ⟨c, k', i, f, a, cell, by rw [hvm.findClass]; exact h1, hi', h3, by rw [he]; exact h4, h5, h6, h7, h8, by rw [he]; exact h9, h10⟩
theorem vx_L.kept {C n d : String} {A : Nat → Prop} {U : State} {H H1 : Heap} (h : vx_L C n d A U H) (hq : ∀ a : Nat, a < H.size → ¬ A a → H1[a]? = H[a]?) : vx_L C n d A U H1 := by
  obtain ⟨c, k, i, f, a, cell, h1, h2, h3, h4, h5, h6, h7, h8, h9, h10⟩ := h
  exact ⟨c, k, i, f, a, cell, h1, h2, h3, h4, by rw [hq a (Array.getElem?_eq_some_iff.mp h5).1 h10]; exact h5, h6, h7, h8, h9, h10⟩
theorem vx_L.narrow {C n d : String} {A B : Nat → Prop} {U : State} {H : Heap} (h : vx_L C n d A U H) (hAB : ∀ q, B q → A q) : vx_L C n d B U H := by
  obtain ⟨c, k, i, f, a, cell, h1, h2, h3, h4, h5, h6, h7, h8, h9, h10⟩ := h
  exact ⟨c, k, i, f, a, cell, h1, h2, h3, h4, h5, h6, h7, h8, h9, fun z => h10 (hAB _ z)⟩
theorem vx_L.word {C n d : String} {A : Nat → Prop} {s : State} {args : Array Value} (h : vx_L C n d A s s.heap) : (Cond.laysStatic C n d).before args s = true := by
  obtain ⟨c, k, i, f, a, cell, h1, h2, h3, h4, h5, h6, h7, h8, h9, -⟩ := h
  show (Cond.laysStatic C n d).holds args s none s [] = true
  exact Cond.laysStatic_of h1 h2 h3 h4 h5 h6 h7 h8 h9
/-- .. and what it holds: null or some reference -/
def vx_Zq (C n d : String) (A : Nat → Prop) (U : State) (H : Heap) : Prop := va_Zq C n d A U H ∧ vx_L C n d A U H
theorem vx_Zq.moved {C n d : String} {A : Nat → Prop} {u U : State} {H : Heap} (hvm : u.vm.Alike U.vm) (h : vx_Zq C n d A u H) : vx_Zq C n d A U H := ⟨va_Zq.moved hvm h.1, vx_L.moved hvm h.2⟩
theorem vx_Zq.kept {C n d : String} {A : Nat → Prop} {U : State} {H H1 : Heap} (h : vx_Zq C n d A U H) (hq : ∀ a : Nat, a < H.size → ¬ A a → H1[a]? = H[a]?) : vx_Zq C n d A U H1 := ⟨va_Zq.kept h.1 hq, vx_L.kept h.2 hq⟩
theorem vx_Zq.narrow {C n d : String} {A B : Nat → Prop} {U : State} {H : Heap} (h : vx_Zq C n d A U H) (hAB : ∀ q, B q → A q) : vx_Zq C n d B U H := ⟨va_Zq.narrow h.1 hAB, vx_L.narrow h.2 hAB⟩
theorem vx_Zqof {args : Array Value} {s : State} {C n d : String} {A : Nat → Prop} (hl : (Cond.laysStatic C n d).before args s = true) (hini : (Cond.initialized C).before args s = true) (h : (Cond.isRef (.static C n d)).before args s = true) (hA : ∀ a : Nat, a < s.heap.size → ¬ A a) : vx_Zq C n d A s s.heap := by
  refine ⟨va_Zqof hl hini h hA, ?_⟩
  obtain ⟨c, k, i, f, a, cell, h1, h2, h3, h4, h5, h6, h7, h8, h9⟩ := Cond.laysStatic_spec hl
  exact ⟨c, k, i, f, a, cell, h1, h2, h3, h4, h5, h6, h7, h8, h9, hA a (Array.getElem?_eq_some_iff.mp h5).1⟩
theorem vx_isRef {C n d : String} {v : Value} {A : Nat → Prop} {s : State} {args : Array Value} (h : va_Z C n d v A s s.heap) (hv : v.isRef = true) : (Cond.isRef (.static C n d)).before args s = true := by
  obtain ⟨cf, kf, fi, f, a, cell, h1, h2, h3, h4, h5, h6, h7, -⟩ := h
  have he : (Term.static C n d).eval args s none [] s = some v := by
    simp [Term.eval, State.fieldNamed?, h1, h2, h4, h5, h6, h7]
  simp only [Cond.before, Cond.holds, Cond.value, he]
  cases v <;> simp_all [Value.isRef]
theorem vx_isRefq {C n d : String} {A : Nat → Prop} {s : State} {args : Array Value} (h : va_Zq C n d A s s.heap) : (Cond.isRef (.static C n d)).before args s = true := by
  rcases h with h | ⟨t, h⟩
  · exact vx_isRef h rfl
  · exact vx_isRef h rfl
/-- the same frame, seen from here: as if the method were called anew in this heap -/
theorem vx_rebase {T : State} (X : Stand p l e R s m args below meth c T locs cells slots) {R' : Room} (hf : R'.frames ≤ R.frames) (hl : R'.locals ≤ R.locals) (hc : cells + R'.cells ≤ R.cells) (hs : slots + R'.slots ≤ R.slots) :
    Stand p l e R' ((T.setVm s.vm).setFrames (.invoking m args :: below)) m args below meth c T [] 0 0 := by
  have htop : (T.setVm s.vm).topJava?.isSome := X.here.top
  have hF : ((T.setVm s.vm).setFrames (.invoking m args :: below)).frames = .invoking m args :: below := State.frames_setFrames _ (State.cur_lt_of_top htop)
  obtain ⟨g₀, hg0⟩ := Option.isSome_iff_exists.mp htop
  obtain ⟨r, hr⟩ := State.topJava?_eq_some.mp hg0
  have hl9 : e.platform.stackLimits (T.setVm s.vm).me = e.platform.stackLimits s.me := X.limits
  have hb9 : (T.setVm s.vm).me.stackBytes = s.me.stackBytes := X.bytes
  refine ⟨X.admits, X.cas, X.clock, hF, ?_, X.hears, X.method, X.code, X.here, X.tail, X.warmed, ?_, ?_, ?_⟩
  · have h := X.room
    have hU : ((T.setVm s.vm).setFrames (.invoking m args :: below)).localsInUse = s.localsInUse := by
      rw [State.localsInUse_invoking hF (meth := meth) (c := c) X.method X.code, State.localsInUse_invoking X.frames X.method X.code]
    simp only [State.hasRoom, Bool.and_eq_true, decide_eq_true_eq] at h ⊢
    obtain ⟨⟨⟨⟨h1, h2, h3, h4, h5, h6⟩, h7⟩, h8⟩, h9⟩ := h
    rw [X.frames, List.length_cons] at h2 h3
    have q1 := X.heapSize
    have q2 := X.used
    simp only [hF, hU, List.length_cons, State.stackLimits_setFrames, State.stackBytes_setFrames, hl9, hb9]
    refine ⟨⟨⟨⟨by omega, by omega, by omega, by omega, by omega, h6⟩, ?_⟩, ?_⟩, X.book⟩
    · show T.heap.size + R'.cells ≤ e.platform.maxCells
      omega
    · show T.slotsUsed + R'.slots ≤ e.platform.maxSlots
      omega
  · rw [State.stackLimits_setFrames]; rfl
  · rw [State.stackBytes_setFrames]; rfl
  · refine ⟨?_, Nat.le_refl _, Nat.le_refl _, ?_, ?_, fun a c9 h9 => ⟨c9, h9, rfl, rfl, fun _ _ => rfl⟩⟩
    · obtain ⟨t, ht, -⟩ := State.frames_cons hr
      show T.setVm s.vm = { ((T.setVm s.vm).setFrames (.invoking m args :: below)).setFrames (T.setVm s.vm).frames with heap := T.heap, slotsUsed := T.slotsUsed }
      rw [State.setFrames_setFrames, State.setFrames_self ht]
      rfl
    · show T.slotsUsed = T.slotsUsed + ((T.heap.toList.drop T.heap.size).map (·.slots.size)).sum
      rw [List.drop_eq_nil_of_le (Nat.le_of_eq Array.length_toList)]
      rfl
    · show ((T.heap.toList.drop T.heap.size).map (·.slots.size)).sum ≤ 0
      rw [List.drop_eq_nil_of_le (Nat.le_of_eq Array.length_toList)]
      exact Nat.le_refl _
/-- 'throw new E()': new; dup; invokespecial; athrow -/
theorem vx_throw0 {cc : ByteArray} {pc : Nat} (hexec : p.tables.exec = Jvm.exec) (hb : c.code = cc) (hl : l.stackTraces = false) {own cls : String} {names : List String} {ik ic mc ms : Nat} {A : Nat → Prop}
    (hown : s.vm.findClass own = some m.cls) (hcls : Bundle.fit cls = true) (hnames : ∀ n ∈ names, Bundle.fit n = true)
    (hk : (Cond.classLink own ik cls).before args s = true) (hini : (Cond.initialized cls).before args s = true) (hat : ∀ w ∈ vx_at0 own ic cls names, w.before args s = true)
    (hgood : ∀ w ∈ Cond.classLink own ik cls :: Cond.initialized cls :: vx_at0 own ic cls names, vx_ot w = true)
    (hU : vx_Zq Bundle.tN "UNASSIGNED_STACK" Bundle.steD A s s.heap) (hN : vx_Zq Bundle.tN "SUPPRESSED_SENTINEL" Bundle.listD A s s.heap) (hS : va_S A s.heap H locs) (hsize : ls.size = c.maxLocals)
    (d0 : decode cc pc = .ok (.new ik, 3)) (d3 : decode cc (pc + 3) = .ok (.dup, 1)) (d4 : decode cc (pc + 4) = .ok (.invokespecial ic, 3)) (d7 : decode cc (pc + 7) = .ok (.athrow, 1))
    (hout : ∀ x ∈ c.exceptionTable.toList, covers x (pc + 7) = false)
    (hRframes : names.length + 3 < R.frames) (hRlocals : (rest.map fun v => v.category).sum + (13 * (names.length + 1) + 42) ≤ R.locals) (hRcells : cells + 1 ≤ R.cells) (hRslots : slots + 6 ≤ R.slots) (hlocks : meth.locks = false)
    (hx : ∀ t : State, s.vm.Alike t.vm → H.size ≤ t.heap.size → (∀ q : Nat, q < H.size → t.heap[q]? = H[q]?) → XC cls s t)
    (hf : ∀ z ∈ locs, free z.base) (hc : cells + 1 ≤ mc) (hs : slots + 6 ≤ ms) :
    W p l e R s m args below meth c H locs cells slots (vx_MQ below Qc XC args s mc ms free) (F0 m pc ls rest) := by
  intro T hT X
  have htr : e.platform.stackTraces = false := (show e.platform.stackTraces = l.stackTraces by rw [X.admits.platform]).trans hl
  have Y := vx_rebase X (R' := { frames := R.frames, locals := R.locals, cells := 1, slots := 6 }) (Nat.le_refl _) (Nat.le_refl _) hRcells hRslots
  obtain ⟨s', hA⟩ : ∃ z, z = (T.setVm s.vm).setFrames (.invoking m args :: below) := ⟨_, rfl⟩
  rw [← hA] at Y
  have hvm : s'.vm = s.vm := by rw [hA]; rfl
  have hhp : s'.heap = H := by rw [hA]; exact hT
  have hW0 : s.WarmedH s'.vm := by rw [hvm]; exact State.WarmedH.refl s
  have hat' : ∀ w ∈ vx_at0 own ic cls names, w.before args s' = true := fun w hw => vx_ot_at hW0 hvm.symm (hgood w (List.mem_cons_of_mem _ (List.mem_cons_of_mem _ hw))) (hat w hw)
  have hk' : (Cond.classLink own ik cls).before args s' = true := vx_ot_at hW0 hvm.symm (hgood _ List.mem_cons_self) hk
  have hini' : (Cond.initialized cls).before args s' = true := vx_ot_at hW0 hvm.symm (hgood _ (List.mem_cons_of_mem _ List.mem_cons_self)) hini
  have hU' : vx_Zq Bundle.tN "UNASSIGNED_STACK" Bundle.steD A s' s'.heap := by rw [hhp]; exact vx_Zq.moved hW0.alike (hU.kept hS.2.1)
  have hN' : vx_Zq Bundle.tN "SUPPRESSED_SENTINEL" Bundle.listD A s' s'.heap := by rw [hhp]; exact vx_Zq.moved hW0.alike (hN.kept hS.2.1)
  have h : ∀ w ∈ Bundle.ownAtoms0 own ic cls names, w.before args s' = true := vx_own hat' (vx_isRefq hU'.1) (vx_isRefq hN'.1) hU'.2.word hN'.2.word
  have hown' : s'.vm.findClass own = some m.cls := by rw [hvm]; exact hown
  have hins : (Cond.instantiable cls 6).before args s' = true := h _ (by simp [Bundle.ownAtoms0])
  obtain ⟨vm₁, cX, kX, hfX, hkX, -, -, X₁, st1⟩ := Y.newCold hexec (own := own) (C := cls) (index := ik) (n := 6) hown' hk' hins hini'
    (g := F0 m pc ls rest) rfl (by rw [hb]; exact d0) (Nat.le_refl _) (Nat.le_refl _)
  generalize hT1 : (T.setVm vm₁).pushCell { cls := cX, slots := kX.instanceTypes.map defaultValue, vm := .none } = T1 at X₁ st1
  have hcat : (Value.ref T.heap.size).category = 1 := rfl
  have hcellA : T1.heap[T.heap.size]? = some (freshCell cX kX) := by rw [← hT1]; exact State.heap_pushCell_size _ _
  have d3' : decode c.code (pc + 3) = .ok (.dup, 1) := by rw [hb]; exact d3
  obtain ⟨U, hsteps, hrun, hend, hW, hsame, ce, hce, hO⟩ := X₁.ctorThrow0 hexec htr (own := own) (cls := cls) (names := names) (ic := ic) hown' hcls hnames h (fun x hx => nomatch hx) hfX hkX hcellA (by rw [hhp, hT]; exact Nat.le_refl _)
    (g := { method := m, pc := pc + 4, locals := ls, stack := .ref T.heap.size :: .ref T.heap.size :: rest, locked := none }) rfl hsize rfl rfl (rest := rest) rfl
    (by rw [hb]; exact d4) (by rw [hb]; exact d7) hout hRframes (by simp only [List.map_cons, List.sum_cons, hcat]; omega) hlocks
  obtain ⟨f1, f2⟩ := vx_frame hsame
  rw [hhp] at f1 f2
  have hWs : s.WarmedH U.vm := State.WarmedH.trans hW0 hW
  have hcl : s.vm.findClass cls = some ce.cls := by
    have h9 := hO.cls
    rw [hvm] at h9
    exact h9
  have hall : s.sameButNew ({ U with vm := s.vm } : State) locs mc ms := by
    subst hA
    obtain ⟨e1, e2⟩ := hsame
    rw [State.setFrames_setFrames] at e1
    have h2 : (T.setVm s.vm).sameButNew ({ U with vm := s.vm } : State) [] (0 + 1) (0 + 6) := ⟨e1, e2⟩
    have h3 := X.same.trans h2
    rw [List.append_nil] at h3
    exact h3.mono hc hs
  refine ⟨U, ?_, .threw T.heap.size, hrun, hend, Or.inr ⟨T.heap.size, rfl, cls, ce, locs, hx U hWs.alike f1 (fun q hq => f2 q hq (fun z hz => nomatch hz)), hce, hO.vm, hcl, hWs, hall, hf⟩⟩
  refine st1 _ ?_
  show Steps p.tables e below (T1.setTop { method := m, pc := pc + 3, locals := ls, stack := .ref T.heap.size :: rest, locked := none }) _
  jvm_step X₁.here [X₁.here.top, hexec, d3', Value.category]
  exact hsteps
/-- 'throw new E("text")': new; dup; ldc; invokespecial; athrow -/
theorem vx_throwS {cc : ByteArray} {pc : Nat} (hexec : p.tables.exec = Jvm.exec) (hb : c.code = cc) (hl : l.stackTraces = false) {own cls text : String} {names : List String} {ik is ic mc ms sa : Nat} {A : Nat → Prop}
    (hown : s.vm.findClass own = some m.cls) (hcls : Bundle.fit cls = true) (hnames : ∀ n ∈ names, Bundle.fit n = true)
    (hk : (Cond.classLink own ik cls).before args s = true) (hini : (Cond.initialized cls).before args s = true) (hstr : vk_R own is text sa s) (hat : ∀ w ∈ vx_atS own ic cls names, w.before args s = true)
    (hgood : ∀ w ∈ Cond.classLink own ik cls :: Cond.initialized cls :: vx_atS own ic cls names, vx_ot w = true)
    (hU : vx_Zq Bundle.tN "UNASSIGNED_STACK" Bundle.steD A s s.heap) (hN : vx_Zq Bundle.tN "SUPPRESSED_SENTINEL" Bundle.listD A s s.heap) (hS : va_S A s.heap H locs) (hsize : ls.size = c.maxLocals)
    (d0 : decode cc pc = .ok (.new ik, 3)) (d3 : decode cc (pc + 3) = .ok (.dup, 1)) (d4 : decode cc (pc + 4) = .ok (.ldc is, 2)) (d6 : decode cc (pc + 6) = .ok (.invokespecial ic, 3)) (d9 : decode cc (pc + 9) = .ok (.athrow, 1))
    (hout : ∀ x ∈ c.exceptionTable.toList, covers x (pc + 9) = false)
    (hRframes : names.length + 3 < R.frames) (hRlocals : (rest.map fun v => v.category).sum + (13 * (names.length + 1) + 43) ≤ R.locals) (hRcells : cells + 1 ≤ R.cells) (hRslots : slots + 6 ≤ R.slots) (hlocks : meth.locks = false)
    (hx : ∀ t : State, s.vm.Alike t.vm → H.size ≤ t.heap.size → (∀ q : Nat, q < H.size → t.heap[q]? = H[q]?) → XC cls s t)
    (hf : ∀ z ∈ locs, free z.base) (hc : cells + 1 ≤ mc) (hs : slots + 6 ≤ ms) :
    W p l e R s m args below meth c H locs cells slots (vx_MQ below Qc XC args s mc ms free) (F0 m pc ls rest) := by
  intro T hT X
  have htr : e.platform.stackTraces = false := (show e.platform.stackTraces = l.stackTraces by rw [X.admits.platform]).trans hl
  have Y := vx_rebase X (R' := { frames := R.frames, locals := R.locals, cells := 1, slots := 6 }) (Nat.le_refl _) (Nat.le_refl _) hRcells hRslots
  obtain ⟨s', hA⟩ : ∃ z, z = (T.setVm s.vm).setFrames (.invoking m args :: below) := ⟨_, rfl⟩
  rw [← hA] at Y
  have hvm : s'.vm = s.vm := by rw [hA]; rfl
  have hhp : s'.heap = H := by rw [hA]; exact hT
  have hW0 : s.WarmedH s'.vm := by rw [hvm]; exact State.WarmedH.refl s
  have hat' : ∀ w ∈ vx_atS own ic cls names, w.before args s' = true := fun w hw => vx_ot_at hW0 hvm.symm (hgood w (List.mem_cons_of_mem _ (List.mem_cons_of_mem _ hw))) (hat w hw)
  have hk' : (Cond.classLink own ik cls).before args s' = true := vx_ot_at hW0 hvm.symm (hgood _ List.mem_cons_self) hk
  have hini' : (Cond.initialized cls).before args s' = true := vx_ot_at hW0 hvm.symm (hgood _ (List.mem_cons_of_mem _ List.mem_cons_self)) hini
  have hU' : vx_Zq Bundle.tN "UNASSIGNED_STACK" Bundle.steD A s' s'.heap := by rw [hhp]; exact vx_Zq.moved hW0.alike (hU.kept hS.2.1)
  have hN' : vx_Zq Bundle.tN "SUPPRESSED_SENTINEL" Bundle.listD A s' s'.heap := by rw [hhp]; exact vx_Zq.moved hW0.alike (hN.kept hS.2.1)
  have h : ∀ w ∈ Bundle.ownAtoms own ic cls names, w.before args s' = true := vx_own hat' (vx_isRefq hU'.1) (vx_isRefq hN'.1) hU'.2.word hN'.2.word
  have hown' : s'.vm.findClass own = some m.cls := by rw [hvm]; exact hown
  have hins : (Cond.instantiable cls 6).before args s' = true := h _ (by simp [Bundle.ownAtoms])
  obtain ⟨vm₁, cX, kX, hfX, hkX, -, -, X₁, st1⟩ := Y.newCold hexec (own := own) (C := cls) (index := ik) (n := 6) hown' hk' hins hini'
    (g := F0 m pc ls rest) rfl (by rw [hb]; exact d0) (Nat.le_refl _) (Nat.le_refl _)
  generalize hT1 : (T.setVm vm₁).pushCell { cls := cX, slots := kX.instanceTypes.map defaultValue, vm := .none } = T1 at X₁ st1
  have hcat : (Value.ref T.heap.size).category = 1 := rfl
  have hcellA : T1.heap[T.heap.size]? = some (freshCell cX kX) := by rw [← hT1]; exact State.heap_pushCell_size _ _
  have d3' : decode c.code (pc + 3) = .ok (.dup, 1) := by rw [hb]; exact d3
  have d4' : decode c.code (pc + 4) = .ok (.ldc is, 2) := by rw [hb]; exact d4
  have hstr' : vk_R own is text sa s' := vk_R.warm hW0 hstr
  obtain ⟨U, hsteps, hrun, hend, hW, hsame, ce, hce, hO⟩ := X₁.ctorThrowS hexec htr (own := own) (cls := cls) (names := names) (ic := ic) hown' hcls hnames h (fun x hx => nomatch hx) hfX hkX hcellA (by rw [hhp, hT]; exact Nat.le_refl _) (msg := .ref sa) rfl
    (g := { method := m, pc := pc + 6, locals := ls, stack := .ref sa :: .ref T.heap.size :: .ref T.heap.size :: rest, locked := none }) rfl hsize rfl rfl (rest := rest) rfl
    (by rw [hb]; exact d6) (by rw [hb]; exact d9) hout hRframes (by simp only [List.map_cons, List.sum_cons, hcat]; omega) hlocks
  obtain ⟨f1, f2⟩ := vx_frame hsame
  rw [hhp] at f1 f2
  have hWs : s.WarmedH U.vm := State.WarmedH.trans hW0 hW
  have hcl : s.vm.findClass cls = some ce.cls := by
    have h9 := hO.cls
    rw [hvm] at h9
    exact h9
  have hall : s.sameButNew ({ U with vm := s.vm } : State) locs mc ms := by
    subst hA
    obtain ⟨e1, e2⟩ := hsame
    rw [State.setFrames_setFrames] at e1
    have h2 : (T.setVm s.vm).sameButNew ({ U with vm := s.vm } : State) [] (0 + 1) (0 + 6) := ⟨e1, e2⟩
    have h3 := X.same.trans h2
    rw [List.append_nil] at h3
    exact h3.mono hc hs
  refine ⟨U, ?_, .threw T.heap.size, hrun, hend, Or.inr ⟨T.heap.size, rfl, cls, ce, locs, hx U hWs.alike f1 (fun q hq => f2 q hq (fun z hz => nomatch hz)), hce, hO.vm, hcl, hWs, hall, hf⟩⟩
  refine st1 _ ?_
  show Steps p.tables e below (T1.setTop { method := m, pc := pc + 3, locals := ls, stack := .ref T.heap.size :: rest, locked := none }) _
  jvm_step X₁.here [X₁.here.top, hexec, d3', Value.category]
  exact X₁.ldcString hexec (own := own) (text := text) (index := is) (a := sa) hown' hstr'.1 hstr'.2
    (g := { method := m, pc := pc + 4, locals := ls, stack := .ref T.heap.size :: .ref T.heap.size :: rest, locked := none }) rfl d4' _ hsteps
/-- 'throw new E("text")', the text by a wide index -/
theorem vx_throwSW {cc : ByteArray} {pc : Nat} (hexec : p.tables.exec = Jvm.exec) (hb : c.code = cc) (hl : l.stackTraces = false) {own cls text : String} {names : List String} {ik is ic mc ms sa : Nat} {A : Nat → Prop}
    (hown : s.vm.findClass own = some m.cls) (hcls : Bundle.fit cls = true) (hnames : ∀ n ∈ names, Bundle.fit n = true)
    (hk : (Cond.classLink own ik cls).before args s = true) (hini : (Cond.initialized cls).before args s = true) (hstr : vk_R own is text sa s) (hat : ∀ w ∈ vx_atS own ic cls names, w.before args s = true)
    (hgood : ∀ w ∈ Cond.classLink own ik cls :: Cond.initialized cls :: vx_atS own ic cls names, vx_ot w = true)
    (hU : vx_Zq Bundle.tN "UNASSIGNED_STACK" Bundle.steD A s s.heap) (hN : vx_Zq Bundle.tN "SUPPRESSED_SENTINEL" Bundle.listD A s s.heap) (hS : va_S A s.heap H locs) (hsize : ls.size = c.maxLocals)
    (d0 : decode cc pc = .ok (.new ik, 3)) (d3 : decode cc (pc + 3) = .ok (.dup, 1)) (d4 : decode cc (pc + 4) = .ok (.ldc_w is, 3)) (d7 : decode cc (pc + 7) = .ok (.invokespecial ic, 3)) (d10 : decode cc (pc + 10) = .ok (.athrow, 1))
    (hout : ∀ x ∈ c.exceptionTable.toList, covers x (pc + 10) = false)
    (hRframes : names.length + 3 < R.frames) (hRlocals : (rest.map fun v => v.category).sum + (13 * (names.length + 1) + 43) ≤ R.locals) (hRcells : cells + 1 ≤ R.cells) (hRslots : slots + 6 ≤ R.slots) (hlocks : meth.locks = false)
    (hx : ∀ t : State, s.vm.Alike t.vm → H.size ≤ t.heap.size → (∀ q : Nat, q < H.size → t.heap[q]? = H[q]?) → XC cls s t)
    (hf : ∀ z ∈ locs, free z.base) (hc : cells + 1 ≤ mc) (hs : slots + 6 ≤ ms) :
    W p l e R s m args below meth c H locs cells slots (vx_MQ below Qc XC args s mc ms free) (F0 m pc ls rest) := by
  intro T hT X
  have htr : e.platform.stackTraces = false := (show e.platform.stackTraces = l.stackTraces by rw [X.admits.platform]).trans hl
  have Y := vx_rebase X (R' := { frames := R.frames, locals := R.locals, cells := 1, slots := 6 }) (Nat.le_refl _) (Nat.le_refl _) hRcells hRslots
  obtain ⟨s', hA⟩ : ∃ z, z = (T.setVm s.vm).setFrames (.invoking m args :: below) := ⟨_, rfl⟩
  rw [← hA] at Y
  have hvm : s'.vm = s.vm := by rw [hA]; rfl
  have hhp : s'.heap = H := by rw [hA]; exact hT
  have hW0 : s.WarmedH s'.vm := by rw [hvm]; exact State.WarmedH.refl s
  have hat' : ∀ w ∈ vx_atS own ic cls names, w.before args s' = true := fun w hw => vx_ot_at hW0 hvm.symm (hgood w (List.mem_cons_of_mem _ (List.mem_cons_of_mem _ hw))) (hat w hw)
  have hk' : (Cond.classLink own ik cls).before args s' = true := vx_ot_at hW0 hvm.symm (hgood _ List.mem_cons_self) hk
  have hini' : (Cond.initialized cls).before args s' = true := vx_ot_at hW0 hvm.symm (hgood _ (List.mem_cons_of_mem _ List.mem_cons_self)) hini
  have hU' : vx_Zq Bundle.tN "UNASSIGNED_STACK" Bundle.steD A s' s'.heap := by rw [hhp]; exact vx_Zq.moved hW0.alike (hU.kept hS.2.1)
  have hN' : vx_Zq Bundle.tN "SUPPRESSED_SENTINEL" Bundle.listD A s' s'.heap := by rw [hhp]; exact vx_Zq.moved hW0.alike (hN.kept hS.2.1)
  have h : ∀ w ∈ Bundle.ownAtoms own ic cls names, w.before args s' = true := vx_own hat' (vx_isRefq hU'.1) (vx_isRefq hN'.1) hU'.2.word hN'.2.word
  have hown' : s'.vm.findClass own = some m.cls := by rw [hvm]; exact hown
  have hins : (Cond.instantiable cls 6).before args s' = true := h _ (by simp [Bundle.ownAtoms])
  obtain ⟨vm₁, cX, kX, hfX, hkX, -, -, X₁, st1⟩ := Y.newCold hexec (own := own) (C := cls) (index := ik) (n := 6) hown' hk' hins hini'
    (g := F0 m pc ls rest) rfl (by rw [hb]; exact d0) (Nat.le_refl _) (Nat.le_refl _)
  generalize hT1 : (T.setVm vm₁).pushCell { cls := cX, slots := kX.instanceTypes.map defaultValue, vm := .none } = T1 at X₁ st1
  have hcat : (Value.ref T.heap.size).category = 1 := rfl
  have hcellA : T1.heap[T.heap.size]? = some (freshCell cX kX) := by rw [← hT1]; exact State.heap_pushCell_size _ _
  have d3' : decode c.code (pc + 3) = .ok (.dup, 1) := by rw [hb]; exact d3
  have d4' : decode c.code (pc + 4) = .ok (.ldc_w is, 3) := by rw [hb]; exact d4
  have hstr' : vk_R own is text sa s' := vk_R.warm hW0 hstr
  obtain ⟨U, hsteps, hrun, hend, hW, hsame, ce, hce, hO⟩ := X₁.ctorThrowS hexec htr (own := own) (cls := cls) (names := names) (ic := ic) hown' hcls hnames h (fun x hx => nomatch hx) hfX hkX hcellA (by rw [hhp, hT]; exact Nat.le_refl _) (msg := .ref sa) rfl
    (g := { method := m, pc := pc + 7, locals := ls, stack := .ref sa :: .ref T.heap.size :: .ref T.heap.size :: rest, locked := none }) rfl hsize rfl rfl (rest := rest) rfl
    (by rw [hb]; exact d7) (by rw [hb]; exact d10) hout hRframes (by simp only [List.map_cons, List.sum_cons, hcat]; omega) hlocks
  obtain ⟨f1, f2⟩ := vx_frame hsame
  rw [hhp] at f1 f2
  have hWs : s.WarmedH U.vm := State.WarmedH.trans hW0 hW
  have hcl : s.vm.findClass cls = some ce.cls := by
    have h9 := hO.cls
    rw [hvm] at h9
    exact h9
  have hall : s.sameButNew ({ U with vm := s.vm } : State) locs mc ms := by
    subst hA
    obtain ⟨e1, e2⟩ := hsame
    rw [State.setFrames_setFrames] at e1
    have h2 : (T.setVm s.vm).sameButNew ({ U with vm := s.vm } : State) [] (0 + 1) (0 + 6) := ⟨e1, e2⟩
    have h3 := X.same.trans h2
    rw [List.append_nil] at h3
    exact h3.mono hc hs
  refine ⟨U, ?_, .threw T.heap.size, hrun, hend, Or.inr ⟨T.heap.size, rfl, cls, ce, locs, hx U hWs.alike f1 (fun q hq => f2 q hq (fun z hz => nomatch hz)), hce, hO.vm, hcl, hWs, hall, hf⟩⟩
  refine st1 _ ?_
  show Steps p.tables e below (T1.setTop { method := m, pc := pc + 3, locals := ls, stack := .ref T.heap.size :: rest, locked := none }) _
  jvm_step X₁.here [X₁.here.top, hexec, d3', Value.category]
  exact X₁.ldcStringW hexec (own := own) (text := text) (index := is) (a := sa) hown' hstr'.1 hstr'.2
    (g := { method := m, pc := pc + 4, locals := ls, stack := .ref T.heap.size :: .ref T.heap.size :: rest, locked := none }) rfl d4' _ hsteps
end Ends
section Bodies
variable {l : Launch}
theorem vx_ofW {y : MethodName} {ws ws' : List Cond} {rm : Room} {Pc : Array Value → State → Prop} {Qc : Array Value → State → Outcome → State → Prop} {XC : String → State → State → Prop} {mc ms : Nat} {free : Addr → Prop} {cc : ByteArray} {maxL : Nat} {ret : Option FieldType}
    (hy : plainName y.cls = true) (hw : ws = Cond.code y cc maxL ret :: ws')
    (body : ∀ p e s m args below meth c s₁, BodyLoose p l y (headSpec ws rm) cc maxL ret e s m args below meth c s₁ → c.maxLocals = maxL → (∀ x ∈ c.exceptionTable.toList, False) → Pc args s →
      W p l e (headSpec ws rm).room s m args below meth c s.heap [] 0 0 (vx_MQ below Qc XC args s mc ms free) (entryFrame m args maxL)) : vx_Met l y ws rm Pc Qc XC mc ms free := by
  refine MetFree.of_bodyS (code := cc) (maxLocals := maxL) (ret := ret) hy ?_ ?_
  · intro args s m h hn
    obtain ⟨meth, c, h1, h2, h3, h4, h5, h6, -, -⟩ := Cond.code_spec hn (atoms_spec (ws := ws) h _ (by rw [hw]; exact List.mem_cons_self))
    exact ⟨meth, c, h1, h2, h3, h4, h5, h6⟩
  · intro p e s m args below meth c s₁ B hml hP _
    have hh0 : s₁.heap = s.heap := by rw [B.state]; rfl
    have ht : ∀ x ∈ c.exceptionTable.toList, False := by
      obtain ⟨meth9, c9, h1, h2, -, -, -, -, h7, -⟩ := Cond.code_spec B.named (atoms_spec (ws := ws) B.pre _ (by rw [hw]; exact List.mem_cons_self))
      cases Option.some.inj (h1.symm.trans B.method)
      cases Option.some.inj (h2.symm.trans (Stand.of_body B).code)
      intro x hx
      rw [Array.isEmpty_iff.mp h7] at hx
      cases hx
    obtain ⟨t, a1, o, b1, b2, b3⟩ := body p e s m args below meth c s₁ B hml ht hP s₁ hh0 (Stand.of_body B)
    exact ⟨t, o, a1, b1, b2, b3⟩
/-- the table of a body with handlers -/
theorem vx_table {p : Program} {x y : MethodName} {S : Spec} {cc bytes : ByteArray} {maxL maxL' : Nat} {ret ret' : Option FieldType} {e : Env} {s s₁ : State} {m : MethodId} {args : Array Value} {below : List Frame} {meth : Method} {c : Code} {hh : List (Nat × Nat × Nat × Nat)}
    (B : BodyLoose p l y S cc maxL ret e s m args below meth c s₁) (h : (Cond.codeWith y bytes maxL' ret' hh).before args s = true) : c.exceptionTable.toList = tableOf hh := by
  obtain ⟨m9, meth9, c9, hn9, h1, h2, -, -, h6, -⟩ := Cond.codeWith_spec h
  cases Option.some.inj (hn9.symm.trans B.named)
  cases Option.some.inj (h1.symm.trans B.method)
  cases Option.some.inj (h2.symm.trans (Stand.of_body B).code)
  rw [← h6, table_eq]
end Bodies
end VXA
/-! ===== END ===== -/
/-! ===== BEGIN a static call of a method with an exception table ===== -/
section VXS
variable {p : Program} {l : Launch} {e : Env} {R : Room} {s : State} {m : MethodId} {args : Array Value} {below : List Frame} {meth : Method} {c : Code} {T : State} {H : Heap} {locs : List Loc} {cells slots : Nat}
abbrev vx_CSW (R : Room) (s : State) (args : Array Value) (own : String) (index : Nat) (y : MethodName) (bytes : ByteArray) (maxL : Nat) (ret : Option FieldType) (hh : List (Nat × Nat × Nat × Nat)) (ws : List Cond) (rm : Room) (mc ms n : Nat) : Prop :=
  (rm.cells = mc ∧ rm.slots = ms ∧ rm.frames + 1 ≤ R.frames ∧ 8 + (maxL + 11) + rm.locals ≤ R.locals ∧ (∀ w ∈ ws, ∀ (a' : Array Value) (U : State), s.WarmedH U.vm → w.before a' U = true) ∧ Cond.codeWith y bytes maxL ret hh ∈ ws) ∧
  (Cond.codeWith y bytes maxL ret hh).before args s = true ∧ (Cond.initialized y.cls).before args s = true ∧ (y.cls ≠ "java/lang/invoke/MethodHandle" ∧ y.cls ≠ "java/lang/invoke/VarHandle") ∧
  (∀ sig, parseMethodDescriptor y.desc = some sig → n = sig.parameters.length) ∧ (Cond.methodLink own index y).before args s = true ∧ (Cond.static y).before args s = true
theorem vx_cwSW {own : String} {index maxL mc ms : Nat} {y : MethodName} {bytes : ByteArray} {ret : Option FieldType} {hh : List (Nat × Nat × Nat × Nat)} {Ts ws ws' : List Cond} {rm : Room} (n : Nat) (ht : ∀ w ∈ Ts, w.before args s = true) (hT : GoodIn Ts (va_wsS own index y ws)) (hw : ws = Cond.codeWith y bytes maxL ret hh :: ws') (hrc : rm.cells = mc) (hrs : rm.slots = ms)
    (hd : y.cls ≠ "java/lang/invoke/MethodHandle" ∧ y.cls ≠ "java/lang/invoke/VarHandle" ∧ (parseMethodDescriptor y.desc).map (fun d => d.parameters.length) = some n) (hR : rm.frames + 1 ≤ R.frames ∧ 8 + (maxL + 11) + rm.locals ≤ R.locals) :
    vx_CSW R s args own index y bytes maxL ret hh ws rm mc ms n := by
  have ok : ∀ w ∈ va_wsS own index y ws, w.before args s = true := fun w h => ht w (hT w h).1
  have hG : GoodIn Ts ws := fun w h => hT w (by unfold va_wsS; exact List.mem_append_right _ h)
  have hc : Cond.codeWith y bytes maxL ret hh ∈ ws := by rw [hw]; exact List.mem_cons_self
  refine ⟨⟨hrc, hrs, hR.1, hR.2, pay_in ht hG, hc⟩, ht _ (hG _ hc).1, ok _ (by simp [va_wsS]), ⟨hd.1, hd.2.1⟩, fun sig h => ?_, ok _ (by simp [va_wsS]), ok _ (by simp [va_wsS])⟩
  have h2 := hd.2.2
  rw [h] at h2
  exact (Option.some.inj h2).symm
theorem vx_callSW (X : Stand p l e R s m args below meth c T locs cells slots) (hexec : p.tables.exec = Jvm.exec) {own : String} {index : Nat} {y : MethodName} {bytes : ByteArray} {maxL : Nat} {ret : Option FieldType} {hh : List (Nat × Nat × Nat × Nat)}
    (hown : s.vm.findClass own = some m.cls) (hlink : (Cond.methodLink own index y).before args s = true) (hstat : (Cond.static y).before args s = true) (hinit : (Cond.initialized y.cls).before args s = true)
    (hcode : (Cond.codeWith y bytes maxL ret hh).before args s = true) (hy : y.cls ≠ "java/lang/invoke/MethodHandle" ∧ y.cls ≠ "java/lang/invoke/VarHandle")
    {W9 : Nat} {Pre : Pt → Array Value → Prop} {Post : Pt → Array Value → Option Value → Pt → Prop} (hK : Back l R p e below s args y 3 W9 Pre Post)
    {g : JFrame} (hg : g.method = m) (hsize : g.locals.size = c.maxLocals) {argsL rest : List Value} (hlen : ∀ sig, parseMethodDescriptor y.desc = some sig → argsL.length = sig.parameters.length)
    (hstack : g.stack = argsL.reverse ++ rest) (hW : 2 * g.monitorRoom + (rest.map fun v => v.category).sum ≤ W9) (hdg : decode c.code g.pc = .ok (.invokestatic index, 3))
    (hpre : ∀ vm₁, s.WarmedH vm₁ → Pre ⟨T.setVm vm₁, locs, cells, slots⟩ argsL.toArray) :
    ∃ (v : Option Value) (vm₁ : Vm) (B : Pt), s.WarmedH vm₁ ∧ Stand p l e R s m args below meth c B.U B.locs B.cells B.slots ∧ Post ⟨T.setVm vm₁, locs, cells, slots⟩ argsL.toArray v B ∧
      ∀ target, Steps p.tables e below (B.U.setTop { g with pc := g.pc + 3, stack := v.toList ++ rest }) target → Steps p.tables e below (T.setTop g) target := by
  obtain ⟨mk, methM, cM, hnamed, hmethM, -, -, -, -, -, -, hsigM⟩ := Cond.codeWith_spec hcode
  have hstatic : methM.isStatic = true := Cond.static_spec hnamed hmethM hstat
  obtain ⟨kP, hkP, -⟩ := className_of_methodNamed hnamed
  have hinitP : kP.init = .initialized := Cond.initialized_spec (findClass_of_methodNamed hnamed) hkP hinit
  obtain ⟨vm₁, X₁, hstep₁⟩ := X.invokestatic hexec hown hlink hnamed hmethM hstatic hkP hinitP hy (g := g) hg (argsL := argsL) (rest := rest) (hlen _ hsigM) hstack hdg
  obtain ⟨v, B, X', hpost, hsteps⟩ := hK m meth c ⟨T.setVm vm₁, locs, cells, slots⟩ { g with stack := rest } (.invokestatic index) mk argsL.toArray X₁ hg hsize hdg hW (X₁.named hnamed) (hpre vm₁ X₁.warmed)
  exact ⟨v, vm₁, B, X₁.warmed, X', hpost, fun target h => hstep₁ _ fun acts => by rw [doInvoke_state]; exact hsteps.trans h⟩
theorem vx_runSW {y : MethodName} {bytes cc : ByteArray} {maxL nL mc ms n index : Nat} {ret : Option FieldType} {hh : List (Nat × Nat × Nat × Nat)} {ws : List Cond} {rm : Room} {Pc : Array Value → State → Prop} {Qc : Array Value → State → Outcome → State → Prop} {free : Addr → Prop} {Ts : List Cond} {own : String} {As rest : List Value} {g : JFrame}
    (S : CallFix p m c cc nL s args Ts own) (hM : Met l y ws rm Pc Qc mc ms free) (cw : vx_CSW R s args own index y bytes maxL ret hh ws rm mc ms n) (hp : PreS s H Pc As)
    (hg : g.method = m) (hn : As.length = n) (hsize : g.locals.size = nL) (hstack : g.stack = As.reverse ++ rest) (hW : 2 * g.monitorRoom + (rest.map fun v => v.category).sum ≤ 8) (hdg : decode cc g.pc = .ok (.invokestatic index, 3)) (hf : cells + mc ≤ R.cells ∧ slots + ms ≤ R.slots) :
    va_Run p l e R s m args below meth c H locs cells slots mc ms g rest (Qc As.toArray) (free) := by
  obtain ⟨⟨hrc, hrs, hfr, hlo, hws, hcw⟩, hcode, hini, hy, hlen, hl, hstt⟩ := cw
  have hK : Back l R p e below s args y 3 8 (PreOf R mc ms Pc) (PostOf Qc mc ms free) := va_backW (hh := hh) (bytes := bytes) (maxL := maxL) (ret := ret) hM hp.1 hrc hrs hfr hlo hws hcw (fun a' U hW => word_at hW (Or.inl (by first | rfl | simp [Cond.onTables, Cond.keeps, Cond.steady])) hini)
  obtain ⟨hx, hb, hml, ho, -⟩ := S
  intro T hT X
  obtain ⟨v, vm₁, ⟨U', l2, c2, s2⟩, hW₁, X', ⟨g', mk, t, L, e1, e2, hq, h1, hL, h2, h3⟩, st⟩ := vx_callSW X hx (hh := hh) (bytes := bytes) (maxL := maxL) (ret := ret) ho hl hstt hini hcode hy hK hg (hsize.trans hml.symm) (argsL := As) (rest := rest) (fun sig h => hn.trans (hlen sig h)) hstack hW (by rw [hb]; exact hdg)
    (fun vm₁ hW₁ => ⟨hf.1, hf.2, hp.2 (T.setVm vm₁) hT hW₁⟩)
  dsimp only [Pt.U, Pt.locs, Pt.cells, Pt.slots] at X' e1 e2 h1 h2 h3 st
  subst h1; subst h2; subst h3
  exact ⟨v, (T.setVm vm₁).calling g' mk As.toArray, t, U', L, hT, X', hL, e1, e2, hq, st⟩
/-- a thing of a world lies in the heap -/
theorem vx_lt {D : va_G} {cl : List vw_C} {ws : va_W} {H1 : Heap} (h : va_P D cl ws H1) {k : Nat} {q : Nat × va_E} (hk : ws[k]? = some q) : q.1 < H1.size := (h k q hk).lt
end VXS
/-! ===== END ===== -/
/-! ===== BEGIN methods with a table of their own: called by a name, returning or throwing ===== -/
section VXH
/-! vx_backW, vx_callVX, vx_callSX, vx_callVW, vx_runVW, vx_runVX, vx_runSX, vx_ofWH follow the same proofs as their sisters above (Free/Laws.lean, Shelf42/LK1.lean); vx_outP calls Shelf42/NT130.lean (outThrough). -/
section
variable {l : Launch} {R : Room} {p : Program} {e : Env} {below : List Frame} {s : State} {sargs : Array Value} {y : MethodName} {len W9 : Nat}
theorem vx_backW {ws : List Cond} {rm : Room} {Pc : Array Value → State → Prop} {Qc : Array Value → State → Outcome → State → Prop} {XC : String → State → State → Prop} {mc ms : Nat} {free : Addr → Prop} {bytes : ByteArray} {maxL : Nat} {ret : Option FieldType} {hh : List (Nat × Nat × Nat × Nat)}
    (hM : vx_Met l y ws rm Pc Qc XC mc ms free) (hblind : FrameBlind Pc) (hrc : rm.cells = mc) (hrs : rm.slots = ms)
    (hframes : rm.frames + 1 ≤ R.frames) (hlocals : W9 + (maxL + 11) + rm.locals ≤ R.locals)
    (hws : ∀ w ∈ ws, ∀ a' U, s.WarmedH U.vm → w.before a' U = true) (hcode : Cond.codeWith y bytes maxL ret hh ∈ ws) (hinit : ∀ a' U, s.WarmedH U.vm → (Cond.initialized y.cls).before a' U = true) :
    vx_Back l R p e below s sargs y len W9 (PreOf R mc ms Pc) (PostOf Qc mc ms free) (vx_Post XC mc ms free) := by
  intro m meth c A g ig mk a X hg hsize hdg hW hn hp
  have h1 : (headSpec ws rm).pre.before a A.U = true := atoms_intro fun w hw => hws w hw _ _ X.warmed
  have h2 : (Cond.codeWith y bytes maxL ret hh).before a A.U = true := hws _ hcode _ _ X.warmed
  have h3 : (Cond.initialized y.cls).before a A.U = true := hinit _ _ X.warmed
  have h4 : A.cells + (headSpec ws rm).room.cells ≤ R.cells := by rw [show (headSpec ws rm).room.cells = mc from hrc]; exact hp.1
  have h5 : A.slots + (headSpec ws rm).room.slots ≤ R.slots := by rw [show (headSpec ws rm).room.slots = ms from hrs]; exact hp.2.1
  have hPc : Pc a (A.U.calling g mk a) := hblind _ _ _ _ hp.2.2
  obtain ⟨U, Ls, c0, s0⟩ := A
  dsimp only [Pt.U, Pt.locs, Pt.cells, Pt.slots] at h1 h2 h3 h4 h5 X hn hPc ⊢
  obtain ⟨m9, methY, cY, hn9, hmY, hcY, -, hlY, -⟩ := Cond.codeWith_spec h2
  cases Option.some.inj (hn9.symm.trans hn)
  obtain ⟨kY, hkY, -⟩ := className_of_methodNamed hn
  have hinitY : kY.init = .initialized := Cond.initialized_spec (findClass_of_methodNamed hn) hkY h3
  have h : At U g.method c below := by rw [hg]; exact X.here
  have hlocals9 : W9 + (maxL + 11) + (headSpec ws rm).room.locals ≤ R.locals := hlocals
  have happ : (headSpec ws rm).appliesLoose y e.platform (U.calling g mk a) = true :=
    Spec.appliesLoose_calling (g := g) h hdg hn hkY hinitY
      (X.room_calling (g := g) (R' := (headSpec ws rm).room) hsize hmY hcY hframes (by rw [hlY]; omega) h4 h5) h1
  obtain ⟨mid, hmid⟩ := h.above
  have hfr : (U.setTop g).frames = (.java g :: mid) ++ below := by rw [State.frames_setTop' g h.top, hmid]; rfl
  obtain ⟨o, s₂, hsteps, -, hend, hq⟩ := Steps.callFree hM p X.admits X.cas X.clock (acts := []) hfr happ hPc trivial
  have hq' : vx_Q Qc XC mc ms free a (U.calling g mk a) o s₂ := hq
  rw [State.frames_setTop' g h.top] at hend
  obtain ⟨g₀, hg0⟩ := Option.isSome_iff_exists.mp h.top
  obtain ⟨r, hr⟩ := State.topJava?_eq_some.mp hg0
  have hr' : (({ U with heap := s₂.heap, slotsUsed := s₂.slotsUsed } : State).setVm s₂.vm).frames = .java g₀ :: r := hr
  rcases hq' with ⟨hqc, L, hfe, hL⟩ | ⟨q, rfl, E, ce, L, hx, hce, hcv, hcl, hW₂, hsm, hL⟩
  · obtain ⟨⟨v, rfl⟩, hW₂, e2, q2, q3, q4, q5, q6⟩ := id hfe
    have e3 : s₂ = ({ (U.calling g mk a).setFrames s₂.frames with heap := s₂.heap, slotsUsed := s₂.slotsUsed } : State).setVm s₂.vm := by
      have : s₂ = ({ s₂ with vm := (U.calling g mk a).vm } : State).setVm s₂.vm := rfl
      rw [e2] at this
      exact this
    obtain ⟨c₂, i₂, len₂, hc₂, hd₂, hf₂⟩ := hend
    have hW' : U.WarmedH s₂.vm := hW₂
    have hcc : c₂ = c := by
      have h1 : s₂.code? g.method = U.code? g.method := by
        rw [State.code?_eq, State.code?_eq, hW'.alike.method?]
      exact Option.some.inj (hc₂.symm.trans (h1.trans h.code))
    subst hcc
    have hlen : len₂ = len := by rw [hdg] at hd₂; cases hd₂; rfl
    subst hlen
    have hs₂ : s₂ = (({ U with heap := s₂.heap, slotsUsed := s₂.slotsUsed } : State).setVm s₂.vm).setTop { g with pc := g.pc + len₂, stack := v.toList ++ g.stack } := by
      refine e3.trans ?_
      rw [hf₂, State.calling_eq h.top, State.setFrames_setFrames, State.setTop_of_frames _ hr', hr]
      rfl
    have hsame : U.sameButNew ({ U with heap := s₂.heap, slotsUsed := s₂.slotsUsed } : State) L mc ms := by
      refine ⟨?_, q2, q3, q4, q5, q6⟩
      obtain ⟨t, ht, -⟩ := State.frames_cons hr
      show ({ U with heap := s₂.heap, slotsUsed := s₂.slotsUsed } : State) = { U.setFrames U.frames with heap := s₂.heap, slotsUsed := s₂.slotsUsed }
      rw [State.setFrames_self ht]
    subst hg
    refine Or.inl ⟨v, ⟨(({ U with heap := s₂.heap, slotsUsed := s₂.slotsUsed } : State).setVm s₂.vm), Ls ++ L, c0 + mc, s0 + ms⟩,
      ⟨X.admits, X.cas, X.clock, X.frames, X.room, X.hears, X.method, X.code, (X.here.setHeapUsed s₂.heap s₂.slotsUsed).setVm hW'.alike, X.tail, State.WarmedH.trans X.warmed hW', X.limits, X.bytes, X.same.trans (hsame.setVm s.vm)⟩,
      ⟨g, mk, s₂, L, rfl, rfl, hqc, rfl, hL, rfl, rfl⟩, ?_⟩
    show Steps p.tables e below _ ((({ U with heap := s₂.heap, slotsUsed := s₂.slotsUsed } : State).setVm s₂.vm).setTop { g with pc := g.pc + len₂, stack := v.toList ++ g.stack })
    rw [← hs₂]
    exact hsteps
  · obtain ⟨e2, q2, q3, q4, q5, q6⟩ := id hsm
    have e3 : s₂ = ({ (U.calling g mk a).setFrames s₂.frames with heap := s₂.heap, slotsUsed := s₂.slotsUsed } : State).setVm s₂.vm := by
      have : s₂ = ({ s₂ with vm := (U.calling g mk a).vm } : State).setVm s₂.vm := rfl
      rw [e2] at this
      exact this
    have hf₂ : s₂.frames = .throwing q :: .java g :: U.frames.tail := hend
    have hW' : U.WarmedH s₂.vm := hW₂
    have hs₂ : s₂ = ((({ U with heap := s₂.heap, slotsUsed := s₂.slotsUsed } : State).setVm s₂.vm).setTop g).pushFrame (.throwing q) := by
      refine e3.trans ?_
      rw [hf₂, State.calling_eq h.top, State.setFrames_setFrames, State.pushFrame, State.frames_setTop _ hr', State.setTop_of_frames _ hr', State.setFrames_setFrames, hr]
      rfl
    have hsame : U.sameButNew ({ U with heap := s₂.heap, slotsUsed := s₂.slotsUsed } : State) L mc ms := by
      refine ⟨?_, q2, q3, q4, q5, q6⟩
      obtain ⟨t, ht, -⟩ := State.frames_cons hr
      show ({ U with heap := s₂.heap, slotsUsed := s₂.slotsUsed } : State) = { U.setFrames U.frames with heap := s₂.heap, slotsUsed := s₂.slotsUsed }
      rw [State.setFrames_self ht]
    subst hg
    refine Or.inr ⟨q, ⟨(({ U with heap := s₂.heap, slotsUsed := s₂.slotsUsed } : State).setVm s₂.vm), Ls ++ L, c0 + mc, s0 + ms⟩,
      ⟨X.admits, X.cas, X.clock, X.frames, X.room, X.hears, X.method, X.code, (X.here.setHeapUsed s₂.heap s₂.slotsUsed).setVm hW'.alike, X.tail, State.WarmedH.trans X.warmed hW', X.limits, X.bytes, X.same.trans (hsame.setVm s.vm)⟩,
      ⟨g, mk, s₂, L, E, ce, rfl, rfl, hx, hce, hcv, hcl, rfl, hL, rfl, rfl⟩, ?_⟩
    show Steps p.tables e below _ (((({ U with heap := s₂.heap, slotsUsed := s₂.slotsUsed } : State).setVm s₂.vm).setTop g).pushFrame (.throwing q))
    rw [← hs₂]
    exact hsteps
end
variable {p : Program} {l : Launch} {e : Env} {R : Room} {s : State} {m : MethodId} {args : Array Value} {below : List Frame} {meth : Method} {c : Code} {T : State} {H : Heap} {locs : List Loc} {cells slots : Nat}
theorem vx_callVX (X : Stand p l e R s m args below meth c T locs cells slots) (hexec : p.tables.exec = Jvm.exec) {own C : String} {index : Nat} {y : MethodName} {bytes : ByteArray} {maxL : Nat} {ret : Option FieldType} {hh : List (Nat × Nat × Nat × Nat)}
    (hown : s.vm.findClass own = some m.cls) (hlink : (Cond.methodLink own index y).before args s = true) (hinst : (Cond.instanceMethod y).before args s = true) (hsel : (Cond.selects C y y).before args s = true)
    (hcode : (Cond.codeWith y bytes maxL ret hh).before args s = true) (hy : y.cls ≠ "java/lang/invoke/MethodHandle" ∧ y.cls ≠ "java/lang/invoke/VarHandle")
    {W9 : Nat} {Pre : Pt → Array Value → Prop} {Post : Pt → Array Value → Option Value → Pt → Prop} {PostX : Pt → Array Value → Addr → Pt → Prop} (hK : vx_Back l R p e below s args y 3 W9 Pre Post PostX)
    {b : Addr} {cellB : Cell} (hcell : T.heap[b]? = some cellB) (hobj : cellB.vm.isStatics = false) (hcls : s.vm.findClass C = some cellB.cls)
    {g : JFrame} (hg : g.method = m) (hsize : g.locals.size = c.maxLocals) {argsL rest : List Value} (hlen : ∀ sig, parseMethodDescriptor y.desc = some sig → argsL.length = sig.parameters.length)
    (hstack : g.stack = argsL.reverse ++ .ref b :: rest) (hW : 2 * g.monitorRoom + (rest.map fun v => v.category).sum ≤ W9) (hdg : decode c.code g.pc = .ok (.invokevirtual index, 3))
    (hpre : ∀ vm₁, s.WarmedH vm₁ → Pre ⟨T.setVm vm₁, locs, cells, slots⟩ (Value.ref b :: argsL).toArray) :
    (∃ (v : Option Value) (vm₁ : Vm) (B : Pt), s.WarmedH vm₁ ∧ Stand p l e R s m args below meth c B.U B.locs B.cells B.slots ∧ Post ⟨T.setVm vm₁, locs, cells, slots⟩ (Value.ref b :: argsL).toArray v B ∧
      ∀ target, Steps p.tables e below (B.U.setTop { g with pc := g.pc + 3, stack := v.toList ++ rest }) target → Steps p.tables e below (T.setTop g) target) ∨
    (∃ (q : Addr) (vm₁ : Vm) (B : Pt), s.WarmedH vm₁ ∧ Stand p l e R s m args below meth c B.U B.locs B.cells B.slots ∧ PostX ⟨T.setVm vm₁, locs, cells, slots⟩ (Value.ref b :: argsL).toArray q B ∧
      Steps p.tables e below (T.setTop g) ((B.U.setTop { g with stack := rest }).pushFrame (.throwing q))) := by
  obtain ⟨mk, methM, hnamed, hmethM, hstM, habM⟩ := Cond.instanceMethod_spec hinst
  obtain ⟨m8, methM', cM, hn8, hmethM', -, -, -, -, -, -, hsigM⟩ := Cond.codeWith_spec hcode
  cases Option.some.inj (hn8.symm.trans hnamed)
  cases hmethM.symm.trans hmethM'
  obtain ⟨c2, r2, m2, q1, q2, q3, q4, kP, hkP, hkPi⟩ := Cond.selects_spec hsel
  cases hcls.symm.trans q1
  cases (State.methodFound?_of_named hnamed hy).symm.trans q2
  cases hnamed.symm.trans q3
  have hselP : selectMethod e.platform s.vm cellB.cls mk = .method mk := by rw [Launch.admits_selectMethod X.admits]; exact q4
  obtain ⟨vm₁, X₁, hstep₁⟩ := X.invokevirtual hexec hown hlink hnamed hmethM hstM hkP hkPi hy (a := b) (cell := cellB) hcell
    (fun z h => by rw [h] at hobj; cases hobj) hselP hmethM habM hkP hkPi (g := g) hg (argsL := argsL) (rest := rest) (hlen _ hsigM) hstack hdg
  rcases hK m meth c ⟨T.setVm vm₁, locs, cells, slots⟩ { g with stack := rest } (.invokevirtual index) mk (Value.ref b :: argsL).toArray X₁ hg hsize hdg hW (X₁.named hnamed) (hpre vm₁ X₁.warmed) with ⟨v, B, X', hpost, hsteps⟩ | ⟨q, B, X', hpost, hsteps⟩
  · exact Or.inl ⟨v, vm₁, B, X₁.warmed, X', hpost, fun target h => hstep₁ _ fun acts => by rw [doInvoke_state]; exact hsteps.trans h⟩
  · exact Or.inr ⟨q, vm₁, B, X₁.warmed, X', hpost, hstep₁ _ fun acts => by rw [doInvoke_state]; exact hsteps⟩
theorem vx_callSX (X : Stand p l e R s m args below meth c T locs cells slots) (hexec : p.tables.exec = Jvm.exec) {own : String} {index : Nat} {y : MethodName} {bytes : ByteArray} {maxL : Nat} {ret : Option FieldType} {hh : List (Nat × Nat × Nat × Nat)}
    (hown : s.vm.findClass own = some m.cls) (hlink : (Cond.methodLink own index y).before args s = true) (hstat : (Cond.static y).before args s = true) (hinit : (Cond.initialized y.cls).before args s = true)
    (hcode : (Cond.codeWith y bytes maxL ret hh).before args s = true) (hy : y.cls ≠ "java/lang/invoke/MethodHandle" ∧ y.cls ≠ "java/lang/invoke/VarHandle")
    {W9 : Nat} {Pre : Pt → Array Value → Prop} {Post : Pt → Array Value → Option Value → Pt → Prop} {PostX : Pt → Array Value → Addr → Pt → Prop} (hK : vx_Back l R p e below s args y 3 W9 Pre Post PostX)
    {g : JFrame} (hg : g.method = m) (hsize : g.locals.size = c.maxLocals) {argsL rest : List Value} (hlen : ∀ sig, parseMethodDescriptor y.desc = some sig → argsL.length = sig.parameters.length)
    (hstack : g.stack = argsL.reverse ++ rest) (hW : 2 * g.monitorRoom + (rest.map fun v => v.category).sum ≤ W9) (hdg : decode c.code g.pc = .ok (.invokestatic index, 3))
    (hpre : ∀ vm₁, s.WarmedH vm₁ → Pre ⟨T.setVm vm₁, locs, cells, slots⟩ argsL.toArray) :
    (∃ (v : Option Value) (vm₁ : Vm) (B : Pt), s.WarmedH vm₁ ∧ Stand p l e R s m args below meth c B.U B.locs B.cells B.slots ∧ Post ⟨T.setVm vm₁, locs, cells, slots⟩ argsL.toArray v B ∧
      ∀ target, Steps p.tables e below (B.U.setTop { g with pc := g.pc + 3, stack := v.toList ++ rest }) target → Steps p.tables e below (T.setTop g) target) ∨
    (∃ (q : Addr) (vm₁ : Vm) (B : Pt), s.WarmedH vm₁ ∧ Stand p l e R s m args below meth c B.U B.locs B.cells B.slots ∧ PostX ⟨T.setVm vm₁, locs, cells, slots⟩ argsL.toArray q B ∧
      Steps p.tables e below (T.setTop g) ((B.U.setTop { g with stack := rest }).pushFrame (.throwing q))) := by
  obtain ⟨mk, methM, cM, hnamed, hmethM, -, -, -, -, -, -, hsigM⟩ := Cond.codeWith_spec hcode
  have hstatic : methM.isStatic = true := Cond.static_spec hnamed hmethM hstat
  obtain ⟨kP, hkP, -⟩ := className_of_methodNamed hnamed
  have hinitP : kP.init = .initialized := Cond.initialized_spec (findClass_of_methodNamed hnamed) hkP hinit
  obtain ⟨vm₁, X₁, hstep₁⟩ := X.invokestatic hexec hown hlink hnamed hmethM hstatic hkP hinitP hy (g := g) hg (argsL := argsL) (rest := rest) (hlen _ hsigM) hstack hdg
  rcases hK m meth c ⟨T.setVm vm₁, locs, cells, slots⟩ { g with stack := rest } (.invokestatic index) mk argsL.toArray X₁ hg hsize hdg hW (X₁.named hnamed) (hpre vm₁ X₁.warmed) with ⟨v, B, X', hpost, hsteps⟩ | ⟨q, B, X', hpost, hsteps⟩
  · exact Or.inl ⟨v, vm₁, B, X₁.warmed, X', hpost, fun target h => hstep₁ _ fun acts => by rw [doInvoke_state]; exact hsteps.trans h⟩
  · exact Or.inr ⟨q, vm₁, B, X₁.warmed, X', hpost, hstep₁ _ fun acts => by rw [doInvoke_state]; exact hsteps⟩
theorem vx_callVW (X : Stand p l e R s m args below meth c T locs cells slots) (hexec : p.tables.exec = Jvm.exec) {own C : String} {index : Nat} {y : MethodName} {bytes : ByteArray} {maxL : Nat} {ret : Option FieldType} {hh : List (Nat × Nat × Nat × Nat)}
    (hown : s.vm.findClass own = some m.cls) (hlink : (Cond.methodLink own index y).before args s = true) (hinst : (Cond.instanceMethod y).before args s = true) (hsel : (Cond.selects C y y).before args s = true)
    (hcode : (Cond.codeWith y bytes maxL ret hh).before args s = true) (hy : y.cls ≠ "java/lang/invoke/MethodHandle" ∧ y.cls ≠ "java/lang/invoke/VarHandle")
    {W9 : Nat} {Pre : Pt → Array Value → Prop} {Post : Pt → Array Value → Option Value → Pt → Prop} (hK : Back l R p e below s args y 3 W9 Pre Post)
    {b : Addr} {cellB : Cell} (hcell : T.heap[b]? = some cellB) (hobj : cellB.vm.isStatics = false) (hcls : s.vm.findClass C = some cellB.cls)
    {g : JFrame} (hg : g.method = m) (hsize : g.locals.size = c.maxLocals) {argsL rest : List Value} (hlen : ∀ sig, parseMethodDescriptor y.desc = some sig → argsL.length = sig.parameters.length)
    (hstack : g.stack = argsL.reverse ++ .ref b :: rest) (hW : 2 * g.monitorRoom + (rest.map fun v => v.category).sum ≤ W9) (hdg : decode c.code g.pc = .ok (.invokevirtual index, 3))
    (hpre : ∀ vm₁, s.WarmedH vm₁ → Pre ⟨T.setVm vm₁, locs, cells, slots⟩ (Value.ref b :: argsL).toArray) :
    ∃ (v : Option Value) (vm₁ : Vm) (B : Pt), s.WarmedH vm₁ ∧ Stand p l e R s m args below meth c B.U B.locs B.cells B.slots ∧ Post ⟨T.setVm vm₁, locs, cells, slots⟩ (Value.ref b :: argsL).toArray v B ∧
      ∀ target, Steps p.tables e below (B.U.setTop { g with pc := g.pc + 3, stack := v.toList ++ rest }) target → Steps p.tables e below (T.setTop g) target := by
  obtain ⟨mk, methM, hnamed, hmethM, hstM, habM⟩ := Cond.instanceMethod_spec hinst
  obtain ⟨m8, methM', cM, hn8, hmethM', -, -, -, -, -, -, hsigM⟩ := Cond.codeWith_spec hcode
  cases Option.some.inj (hn8.symm.trans hnamed)
  cases hmethM.symm.trans hmethM'
  obtain ⟨c2, r2, m2, q1, q2, q3, q4, kP, hkP, hkPi⟩ := Cond.selects_spec hsel
  cases hcls.symm.trans q1
  cases (State.methodFound?_of_named hnamed hy).symm.trans q2
  cases hnamed.symm.trans q3
  have hselP : selectMethod e.platform s.vm cellB.cls mk = .method mk := by rw [Launch.admits_selectMethod X.admits]; exact q4
  obtain ⟨vm₁, X₁, hstep₁⟩ := X.invokevirtual hexec hown hlink hnamed hmethM hstM hkP hkPi hy (a := b) (cell := cellB) hcell
    (fun z h => by rw [h] at hobj; cases hobj) hselP hmethM habM hkP hkPi (g := g) hg (argsL := argsL) (rest := rest) (hlen _ hsigM) hstack hdg
  obtain ⟨v, B, X', hpost, hsteps⟩ := hK m meth c ⟨T.setVm vm₁, locs, cells, slots⟩ { g with stack := rest } (.invokevirtual index) mk (Value.ref b :: argsL).toArray X₁ hg hsize hdg hW (X₁.named hnamed) (hpre vm₁ X₁.warmed)
  exact ⟨v, vm₁, B, X₁.warmed, X', hpost, fun target h => hstep₁ _ fun acts => by rw [doInvoke_state]; exact hsteps.trans h⟩
abbrev vx_CVW (R : Room) (s : State) (args : Array Value) (own C : String) (index : Nat) (y : MethodName) (bytes : ByteArray) (maxL : Nat) (ret : Option FieldType) (hh : List (Nat × Nat × Nat × Nat)) (ws : List Cond) (rm : Room) (mc ms n : Nat) : Prop :=
  (rm.cells = mc ∧ rm.slots = ms ∧ rm.frames + 1 ≤ R.frames ∧ 8 + (maxL + 11) + rm.locals ≤ R.locals ∧ (∀ w ∈ ws, ∀ (a' : Array Value) (U : State), s.WarmedH U.vm → w.before a' U = true) ∧ Cond.codeWith y bytes maxL ret hh ∈ ws) ∧
  (Cond.codeWith y bytes maxL ret hh).before args s = true ∧ (Cond.initialized y.cls).before args s = true ∧ (y.cls ≠ "java/lang/invoke/MethodHandle" ∧ y.cls ≠ "java/lang/invoke/VarHandle") ∧
  (∀ sig, parseMethodDescriptor y.desc = some sig → n = sig.parameters.length) ∧ (Cond.methodLink own index y).before args s = true ∧ (Cond.instanceMethod y).before args s = true ∧ (Cond.selects C y y).before args s = true
theorem vx_cwVW {own C : String} {index maxL mc ms : Nat} {y : MethodName} {bytes : ByteArray} {ret : Option FieldType} {hh : List (Nat × Nat × Nat × Nat)} {Ts ws ws' : List Cond} {rm : Room} (n : Nat) (ht : ∀ w ∈ Ts, w.before args s = true) (hT : GoodIn Ts (wsV own index C y ws)) (hw : ws = Cond.codeWith y bytes maxL ret hh :: ws') (hrc : rm.cells = mc) (hrs : rm.slots = ms)
    (hd : y.cls = C ∧ y.cls ≠ "java/lang/invoke/MethodHandle" ∧ y.cls ≠ "java/lang/invoke/VarHandle" ∧ (parseMethodDescriptor y.desc).map (fun d => d.parameters.length) = some n) (hR : rm.frames + 1 ≤ R.frames ∧ 8 + (maxL + 11) + rm.locals ≤ R.locals) :
    vx_CVW R s args own C index y bytes maxL ret hh ws rm mc ms n := by
  obtain ⟨hC, hd⟩ := hd
  subst hC
  have ok : ∀ w ∈ wsV own index y.cls y ws, w.before args s = true := fun w h => ht w (hT w h).1
  have hG : GoodIn Ts ws := fun w h => hT w (by unfold wsV; exact List.mem_append_right _ h)
  have hc : Cond.codeWith y bytes maxL ret hh ∈ ws := by rw [hw]; exact List.mem_cons_self
  refine ⟨⟨hrc, hrs, hR.1, hR.2, pay_in ht hG, hc⟩, ht _ (hG _ hc).1, ok _ (by simp [wsV]), ⟨hd.1, hd.2.1⟩, fun sig h => ?_, ok _ (by simp [wsV]), ok _ (by simp [wsV]), ok _ (by simp [wsV])⟩
  have h2 := hd.2.2
  rw [h] at h2
  exact (Option.some.inj h2).symm
theorem vx_runVW {y : MethodName} {bytes cc : ByteArray} {maxL nL mc ms n index : Nat} {ret : Option FieldType} {hh : List (Nat × Nat × Nat × Nat)} {ws : List Cond} {rm : Room} {Pc : Array Value → State → Prop} {Qc : Array Value → State → Outcome → State → Prop} {free : Addr → Prop} {Ts : List Cond} {own C : String} {b : Addr} {As rest : List Value} {g : JFrame}
    (S : CallFix p m c cc nL s args Ts own) (hM : Met l y ws rm Pc Qc mc ms free) (cw : vx_CVW R s args own C index y bytes maxL ret hh ws rm mc ms n) (hp : PreV s H C b Pc As)
    (hg : g.method = m) (hn : As.length = n) (hsize : g.locals.size = nL) (hstack : g.stack = As.reverse ++ .ref b :: rest) (hW : 2 * g.monitorRoom + (rest.map fun v => v.category).sum ≤ 8) (hdg : decode cc g.pc = .ok (.invokevirtual index, 3)) (hf : cells + mc ≤ R.cells ∧ slots + ms ≤ R.slots) :
    va_Run p l e R s m args below meth c H locs cells slots mc ms g rest (Qc (Value.ref b :: As).toArray) free := by
  obtain ⟨⟨hrc, hrs, hfr, hlo, hws, hcw⟩, hcode, hini, hy, hlen, hl, hin, hse⟩ := cw
  have hK : Back l R p e below s args y 3 8 (PreOf R mc ms Pc) (PostOf Qc mc ms free) := va_backW (hh := hh) (bytes := bytes) (maxL := maxL) (ret := ret) hM hp.1 hrc hrs hfr hlo hws hcw (fun a' U hW => word_at hW (Or.inl (by first | rfl | simp [Cond.onTables, Cond.keeps, Cond.steady])) hini)
  obtain ⟨hx, hb, hml, ho, -⟩ := S
  obtain ⟨-, ⟨cellB, hcB, hoB, hclB⟩, hPc⟩ := hp
  intro T hT X
  obtain ⟨v, vm₁, ⟨U', l2, c2, s2⟩, hW₁, X', ⟨g', mk, t, L, e1, e2, hq, h1, hL, h2, h3⟩, st⟩ := vx_callVW X hx (C := C) (hh := hh) (bytes := bytes) (maxL := maxL) (ret := ret) ho hl hin hse hcode hy hK (by rw [hT]; exact hcB) hoB hclB hg (hsize.trans hml.symm) (argsL := As) (rest := rest) (fun sig h => hn.trans (hlen sig h)) hstack hW (by rw [hb]; exact hdg)
    (fun vm₁ hW₁ => ⟨hf.1, hf.2, hPc (T.setVm vm₁) hT hW₁⟩)
  dsimp only [Pt.U, Pt.locs, Pt.cells, Pt.slots] at X' e1 e2 h1 h2 h3 st
  subst h1; subst h2; subst h3
  exact ⟨v, (T.setVm vm₁).calling g' mk (Value.ref b :: As).toArray, t, U', L, hT, X', hL, e1, e2, hq, st⟩
section
variable {y : MethodName} {bytes cc : ByteArray} {maxL nL mc ms n index : Nat} {ret : Option FieldType} {ws : List Cond} {rm : Room} {Pc : Array Value → State → Prop} {Qc : Array Value → State → Outcome → State → Prop} {XC : String → State → State → Prop} {free : Addr → Prop} {Ts : List Cond} {own C : String} {b : Addr} {As rest : List Value} {g : JFrame}
theorem vx_runVX {hh : List (Nat × Nat × Nat × Nat)} (S : CallFix p m c cc nL s args Ts own) (hM : vx_Met l y ws rm Pc Qc XC mc ms free) (cw : vx_CVW R s args own C index y bytes maxL ret hh ws rm mc ms n) (hp : PreV s H C b Pc As)
    (hg : g.method = m) (hn : As.length = n) (hsize : g.locals.size = nL) (hstack : g.stack = As.reverse ++ .ref b :: rest) (hW : 2 * g.monitorRoom + (rest.map fun v => v.category).sum ≤ 8) (hdg : decode cc g.pc = .ok (.invokevirtual index, 3)) (hf : cells + mc ≤ R.cells ∧ slots + ms ≤ R.slots) :
    vx_Run p l e R s m args below meth c H locs cells slots mc ms g rest (Qc (Value.ref b :: As).toArray) XC free := by
  obtain ⟨⟨hrc, hrs, hfr, hlo, hws, hcw⟩, hcode, hini, hy, hlen, hl, hin, hse⟩ := cw
  have hK : vx_Back l R p e below s args y 3 8 (PreOf R mc ms Pc) (PostOf Qc mc ms free) (vx_Post XC mc ms free) := vx_backW (hh := hh) (bytes := bytes) (maxL := maxL) (ret := ret) hM hp.1 hrc hrs hfr hlo hws hcw (fun a' U hW => word_at hW (Or.inl (by first | rfl | simp [Cond.onTables, Cond.keeps, Cond.steady])) hini)
  obtain ⟨hx, hb, hml, ho, -⟩ := S
  obtain ⟨-, ⟨cellB, hcB, hoB, hclB⟩, hPc⟩ := hp
  intro T hT X
  rcases vx_callVX X hx (C := C) (hh := hh) (bytes := bytes) (maxL := maxL) (ret := ret) ho hl hin hse hcode hy hK (by rw [hT]; exact hcB) hoB hclB hg (hsize.trans hml.symm) (argsL := As) (rest := rest) (fun sig h => hn.trans (hlen sig h)) hstack hW (by rw [hb]; exact hdg)
    (fun vm₁ hW₁ => ⟨hf.1, hf.2, hPc (T.setVm vm₁) hT hW₁⟩) with ⟨v, vm₁, ⟨U', l2, c2, s2⟩, hW₁, X', ⟨g', mk, t, L, e1, e2, hq, h1, hL, h2, h3⟩, st⟩ | ⟨q, vm₁, ⟨U', l2, c2, s2⟩, hW₁, X', ⟨g', mk, t, L, E, ce, e1, e2, hq, hce, hcv, hcl, h1, hL, h2, h3⟩, st⟩
  · dsimp only [Pt.U, Pt.locs, Pt.cells, Pt.slots] at X' e1 e2 h1 h2 h3 st
    subst h1; subst h2; subst h3
    exact Or.inl ⟨v, (T.setVm vm₁).calling g' mk (Value.ref b :: As).toArray, t, U', L, hT, X', hL, e1, e2, hq, st⟩
  · dsimp only [Pt.U, Pt.locs, Pt.cells, Pt.slots] at X' e1 e2 h1 h2 h3 st hcl
    subst h1; subst h2; subst h3
    exact Or.inr ⟨q, (T.setVm vm₁).calling g' mk (Value.ref b :: As).toArray, t, U', L, E, ce, hT, X', hL, e1, e2, hq, hce, hcv, vx_cls hW₁ hcl, st⟩
theorem vx_runSX {hh : List (Nat × Nat × Nat × Nat)} (S : CallFix p m c cc nL s args Ts own) (hM : vx_Met l y ws rm Pc Qc XC mc ms free) (cw : vx_CSW R s args own index y bytes maxL ret hh ws rm mc ms n) (hp : PreS s H Pc As)
    (hg : g.method = m) (hn : As.length = n) (hsize : g.locals.size = nL) (hstack : g.stack = As.reverse ++ rest) (hW : 2 * g.monitorRoom + (rest.map fun v => v.category).sum ≤ 8) (hdg : decode cc g.pc = .ok (.invokestatic index, 3)) (hf : cells + mc ≤ R.cells ∧ slots + ms ≤ R.slots) :
    vx_Run p l e R s m args below meth c H locs cells slots mc ms g rest (Qc As.toArray) XC free := by
  obtain ⟨⟨hrc, hrs, hfr, hlo, hws, hcw⟩, hcode, hini, hy, hlen, hl, hstt⟩ := cw
  have hK : vx_Back l R p e below s args y 3 8 (PreOf R mc ms Pc) (PostOf Qc mc ms free) (vx_Post XC mc ms free) := vx_backW (hh := hh) (bytes := bytes) (maxL := maxL) (ret := ret) hM hp.1 hrc hrs hfr hlo hws hcw (fun a' U hW => word_at hW (Or.inl (by first | rfl | simp [Cond.onTables, Cond.keeps, Cond.steady])) hini)
  obtain ⟨hx, hb, hml, ho, -⟩ := S
  intro T hT X
  rcases vx_callSX X hx (hh := hh) (bytes := bytes) (maxL := maxL) (ret := ret) ho hl hstt hini hcode hy hK hg (hsize.trans hml.symm) (argsL := As) (rest := rest) (fun sig h => hn.trans (hlen sig h)) hstack hW (by rw [hb]; exact hdg)
    (fun vm₁ hW₁ => ⟨hf.1, hf.2, hp.2 (T.setVm vm₁) hT hW₁⟩) with ⟨v, vm₁, ⟨U', l2, c2, s2⟩, hW₁, X', ⟨g', mk, t, L, e1, e2, hq, h1, hL, h2, h3⟩, st⟩ | ⟨q, vm₁, ⟨U', l2, c2, s2⟩, hW₁, X', ⟨g', mk, t, L, E, ce, e1, e2, hq, hce, hcv, hcl, h1, hL, h2, h3⟩, st⟩
  · dsimp only [Pt.U, Pt.locs, Pt.cells, Pt.slots] at X' e1 e2 h1 h2 h3 st
    subst h1; subst h2; subst h3
    exact Or.inl ⟨v, (T.setVm vm₁).calling g' mk As.toArray, t, U', L, hT, X', hL, e1, e2, hq, st⟩
  · dsimp only [Pt.U, Pt.locs, Pt.cells, Pt.slots] at X' e1 e2 h1 h2 h3 st hcl
    subst h1; subst h2; subst h3
    exact Or.inr ⟨q, (T.setVm vm₁).calling g' mk As.toArray, t, U', L, E, ce, hT, X', hL, e1, e2, hq, hce, hcv, vx_cls hW₁ hcl, st⟩
end
end VXH
theorem vx_ofWH {l : Launch} {y : MethodName} {ws ws' : List Cond} {rm : Room} {Pc : Array Value → State → Prop} {Qc : Array Value → State → Outcome → State → Prop} {XC : String → State → State → Prop} {mc ms : Nat} {free : Addr → Prop} {cc : ByteArray} {maxL : Nat} {ret : Option FieldType} {hh : List (Nat × Nat × Nat × Nat)}
    (hy : plainName y.cls = true) (hw : ws = Cond.codeWith y cc maxL ret hh :: ws')
    (body : ∀ p e s m args below meth c s₁, BodyLoose p l y (headSpec ws rm) cc maxL ret e s m args below meth c s₁ → c.maxLocals = maxL → Pc args s →
      W p l e (headSpec ws rm).room s m args below meth c s.heap [] 0 0 (vx_MQ below Qc XC args s mc ms free) (entryFrame m args maxL)) : vx_Met l y ws rm Pc Qc XC mc ms free := by
  refine MetFree.of_bodyS (code := cc) (maxLocals := maxL) (ret := ret) hy ?_ ?_
  · intro args s m h hn
    obtain ⟨m9, meth, c, hn9, h1, h2, h3, h4, -, h5, h6, -⟩ := Cond.codeWith_spec (atoms_spec (ws := ws) h _ (by rw [hw]; exact List.mem_cons_self))
    cases hn.symm.trans hn9
    exact ⟨meth, c, h1, h2, h3, h4, h5, h6⟩
  · intro p e s m args below meth c s₁ B hml hP _
    have hh0 : s₁.heap = s.heap := by rw [B.state]; rfl
    obtain ⟨t, a1, o, b1, b2, b3⟩ := body p e s m args below meth c s₁ B hml hP s₁ hh0 (Stand.of_body B)
    exact ⟨t, o, a1, b1, b2, b3⟩
/-! ===== END ===== -/
end
section
/-! THE ABSTRACT MACHINE: cells by their numbers, one instruction a step -/
abbrev zE : Type := (Nat × vp_A) ⊕ (Nat × List Value)
abbrev zH : Type := List zE
abbrev zO : Type := Option Value ⊕ Nat
abbrev zL : Type := List (Nat × Value)
/-- an instruction: its place, itself, its length, two numbers that it is resolved to, the place of its link among the words -/
abbrev zN : Type := Nat × Instr × Nat × Nat × Nat × Nat
/-- arrays of ints outside the world, that are only read -/
abbrev zX : Type := Nat → Nat × (Nat → Int32)
abbrev zS : Type := Nat × zL × List Value × zH
/-- a method: its name, code, how many locals, its answer's type; room (frames, locals, cells, slots); kind (0 of an object, 1 static, 2 a constructor), its class's number, places of its words (code, kind's, selects, initialized); instructions; table -/
abbrev zM : Type := MethodName × ByteArray × Nat × Option FieldType × (Nat × Nat × Nat × Nat) × (Nat × Nat × Nat × Nat × Nat × Nat) × List zN × List (Nat × Nat × Nat × Nat)
def zName (M : zM) : MethodName := M.1
def zCode (M : zM) : ByteArray := M.2.1
def zMaxL (M : zM) : Nat := M.2.2.1
def zRet (M : zM) : Option FieldType := M.2.2.2.1
def zRoom (M : zM) : Nat × Nat × Nat × Nat := M.2.2.2.2.1
def zKind (M : zM) : Nat × Nat × Nat × Nat × Nat × Nat := M.2.2.2.2.2.1
def zIns (M : zM) : List zN := M.2.2.2.2.2.2.1
def zTab (M : zM) : List (Nat × Nat × Nat × Nat) := M.2.2.2.2.2.2.2
def zget : zL → Nat → Option Value
  | [], _ => none
  | q :: l, i => bif Nat.beq q.1 i then some q.2 else zget l i
def zput (lo : zL) (i : Nat) (v : Value) : zL := (i, v) :: lo.filter (fun q => !(Nat.beq q.1 i))
def zfind : List zN → Nat → Option zN
  | [], _ => none
  | en :: l, pc => bif Nat.beq en.1 pc then some en else zfind l pc
def zin (i : Int32) (n : Nat) : Bool := decide (¬ (i < 0 ∨ n ≤ i.toNatClampNeg))
def zc1 (c : ClassFile.Cond) (x : Int32) : Bool := match c with
  | .eq => decide (x = 0)
  | .ne => decide (¬ x = 0)
  | .lt => decide (x < 0)
  | .ge => decide (0 ≤ x)
  | .gt => decide (0 < x)
  | .le => decide (x ≤ 0)
def zc2 (c : ClassFile.Cond) (x y : Int32) : Bool := match c with
  | .eq => decide (x = y)
  | .ne => decide (¬ x = y)
  | .lt => decide (x < y)
  | .ge => decide (y ≤ x)
  | .gt => decide (y < x)
  | .le => decide (x ≤ y)
def ztgt (pc : Nat) (off : Int) : Option Nat := bif decide (0 ≤ (pc : Int) + off) then some ((pc : Int) + off).toNat else none
def z1 : List Value → Option (Int32 × List Value)
  | .int x :: r => some (x, r)
  | _ => none
def z2 : List Value → Option (Int32 × Int32 × List Value)
  | .int y :: .int x :: r => some (x, y, r)
  | _ => none
def zr1 : List Value → Option (Nat × List Value)
  | .ref a :: r => some (a, r)
  | _ => none
def zir : List Value → Option (Int32 × Nat × List Value)
  | .int i :: .ref a :: r => some (i, a, r)
  | _ => none
def zix : List Value → Option (Int32 × Nat × List Value)
  | .int i :: .retAddr a :: r => some (i, a, r)
  | _ => none
def zvr : List Value → Option (Value × Nat × List Value)
  | v :: .ref a :: r => some (v, a, r)
  | _ => none
def zvir : List Value → Option (Value × Int32 × Nat × List Value)
  | v :: .int i :: .ref a :: r => some (v, i, a, r)
  | _ => none
/-- the pure instructions on two ints -/
def zop2 (i : Instr) (x y : Int32) : Option Int32 := match i with
  | .iadd => some (x + y)
  | .isub => some (x - y)
  | .imul => some (x * y)
  | .iand => some (x &&& y)
  | .ior => some (x ||| y)
  | .ishl => some (x <<< (y &&& 31))
  | .ishr => some (x >>> (y &&& 31))
  | .idiv => bif decide (y = 0) then none else some (x / y)
  | .irem => bif decide (y = 0) then none else some (x - x / y * y)
  | _ => none
def zpush (i : Instr) (a : Nat) : Option (Int32 × Nat) := match i with
  | .iconst k => some (Int32.ofInt k, 1)
  | .bipush k => some ((Int8.ofInt k).toInt32, 2)
  | .sipush k => some ((Int16.ofInt k).toInt32, 3)
  | .ldc _ => some (Int32.ofNat a, 2)
  | .ldc_w _ => some (Int32.ofNat a, 3)
  | _ => none
/-- loads and stores of locals: place, length, whether of a reference -/
def zlod (i : Instr) : Option (Nat × Nat × Bool) := match i with
  | .iload k => some (k, 2, false)
  | .iload_n k => some (k.val, 1, false)
  | .aload k => some (k, 2, true)
  | .aload_n k => some (k.val, 1, true)
  | _ => none
def zsto (i : Instr) : Option (Nat × Nat × Bool) := match i with
  | .istore k => some (k, 2, false)
  | .istore_n k => some (k.val, 1, false)
  | .astore k => some (k, 2, true)
  | .astore_n k => some (k.val, 1, true)
  | _ => none
def zisr : Value → Bool
  | .ref _ => true
  | .retAddr _ => true
  | _ => false
def zisi : Value → Bool
  | .int _ => true
  | _ => false
/-- what a field of a type takes -/
def zfits : FieldType → Value → Bool
  | .int, .int _ => true
  | .boolean, .int x => decide (x = 0) || decide (x = 1)
  | .object _, .ref _ => true
  | .array _, .ref _ => true
  | _, _ => false
def zty : Nat → FieldType
  | 0 => .int
  | 1 => .boolean
  | 2 => .long
  | 3 => .object "NestedPager$Guest"
  | _ => .object "NestedPager$Vcpu"
end
section
/-! ONE STEP of the abstract machine: what neither calls, makes, nor ends -/
def zfld (a b : Nat) (st : List Value) (h : zH) : Option (Value × List Value) := match zr1 st with
  | none => none
  | some (q, r) => match h[q]? with
    | some (.inr (ci, fs)) => bif Nat.beq ci a then (match fs[b]? with
      | some v => some (v, r)
      | none => none) else none
    | _ => none
/-- the fields' types, by class and place -/
abbrev zFT : Type := Nat → Nat → FieldType × Bool
def zpf (M : zM) (FT : zFT) (a b : Nat) (st : List Value) (h : zH) : Option (List Value × zH) := match zvr st with
  | none => none
  | some (v, q, r) => match h[q]? with
    | some (.inr (ci, fs)) => bif Nat.beq ci a && zfits (FT a b).1 v && Nat.blt b fs.length && (!(FT a b).2 || (Nat.beq (zKind M).1 2 && Nat.beq (zKind M).2.1 a)) then some (r, h.set q (.inr (ci, fs.set b v))) else none
    | _ => none
def zal (i : Instr) (X : zX) (st : List Value) (h : zH) : Option (Value × List Value) := match zir st with
  | some (j, q, r) => (match i, h[q]? with
    | .iaload, some (.inl (0, n, .inl f)) => bif zin j n then some (.int (f j.toNatClampNeg), r) else none
    | .baload, some (.inl (1, n, .inl f)) => bif zin j n then some (.int (f j.toNatClampNeg), r) else none
    | .laload, some (.inl (2, n, .inr (.inl f))) => bif zin j n then some (.long (f j.toNatClampNeg), r) else none
    | .aaload, some (.inl (3, n, .inr (.inr (.inr (.inr f))))) => bif zin j n then some (va_rf (f j.toNatClampNeg), r) else none
    | .aaload, some (.inl (4, n, .inr (.inr (.inr (.inr f))))) => bif zin j n then some (va_rf (f j.toNatClampNeg), r) else none
    | _, _ => none)
  | none => (match zix st with
    | some (j, k, r) => (match i with
      | .iaload => bif zin j (X k).1 then some (.int ((X k).2 j.toNatClampNeg), r) else none
      | _ => none)
    | none => none)
def zas (i : Instr) (st : List Value) (h : zH) : Option (List Value × zH) := match zvir st with
  | none => none
  | some (v, j, q, r) => match i, v, h[q]? with
    | .iastore, .int x, some (.inl (0, n, .inl f)) => bif zin j n then some (r, h.set q (.inl (0, n, .inl (upd f j.toNatClampNeg x)))) else none
    | .bastore, .int x, some (.inl (1, n, .inl f)) => bif zin j n then some (r, h.set q (.inl (1, n, .inl (upd f j.toNatClampNeg (vp_nar .boolean x))))) else none
    | .aastore, .ref w, some (.inl (3, n, .inr (.inr (.inr (.inr f))))) => (match h[w]? with
      | some (.inr (2, _)) => bif zin j n then some (r, h.set q (.inl (3, n, .inr (.inr (.inr (.inr (va_up f j.toNatClampNeg (some w)))))))) else none
      | _ => none)
    | .aastore, .ref w, some (.inl (4, n, .inr (.inr (.inr (.inr f))))) => (match h[w]? with
      | some (.inr (9, _)) => bif zin j n then some (r, h.set q (.inl (4, n, .inr (.inr (.inr (.inr (va_up f j.toNatClampNeg (some w)))))))) else none
      | _ => none)
    | .lastore, .long x, some (.inl (2, n, .inr (.inl f))) => bif zin j n then some (r, h.set q (.inl (2, n, .inr (.inl (vp_updL f j.toNatClampNeg x))))) else none
    | _, _, _ => none
/-- where a jump goes: the place, the stack behind it -/
def zjmp (i : Instr) (pc len : Nat) (st : List Value) : Option (Nat × List Value) := match i with
  | .goto off => (match ztgt pc off with
    | some t => some (t, st)
    | none => none)
  | .ifCond c off => (match z1 st, ztgt pc off with
    | some (x, r), some t => some (bif zc1 c x then t else pc + 3, r)
    | _, _ => none)
  | .if_icmp c off => (match z2 st, ztgt pc off with
    | some (x, y, r), some t => some (bif zc2 c x y then t else pc + 3, r)
    | _, _ => none)
  | .tableswitch d lo hi offs => (match z1 st with
    | some (x, r) => bif decide (x.toInt < lo) || decide (hi < x.toInt) then (match ztgt pc d with
        | some t => some (t, r)
        | none => none)
      else (match offs[(x.toInt - lo).toNat]? with
        | some off => (match ztgt pc off with
          | some t => some (t, r)
          | none => none)
        | none => none)
    | none => none)
  | .lookupswitch d ps => (match z1 st with
    | some (x, r) => bif (ps.toList.zip (ps.toList.drop 1)).all (fun (a, next) => a.1 < next.1) then (match ztgt pc (Op.lookupswitch.offset ps.toList d x.toInt) with
        | some t => some (t, r)
        | none => none)
      else none
    | none => none)
  | _ => none
/-- what shifts values on the stack -/
def zstk (i : Instr) (X : zX) (st : List Value) : Option (List Value) := match i, st with
  | .dup, v :: r => bif Nat.beq v.category 1 then some (v :: v :: r) else none
  | .dup2, v :: w :: r => bif Nat.beq v.category 1 && Nat.beq w.category 1 then some (v :: w :: v :: w :: r) else none
  | .pop, v :: r => bif Nat.beq v.category 1 then some r else none
  | .i2l, .int x :: r => some (.long x.toInt64 :: r)
  | .ineg, .int x :: r => some (.int (-x) :: r)
  | .lcmp, .long y :: .long x :: r => some (.int (lg_cmp x y) :: r)
  | .arraylength, .retAddr k :: r => some (.int (Int32.ofNat (X k).1) :: r)
  | _, _ => none
def zstep (M : zM) (FT : zFT) (X : zX) (en : zN) (lo : zL) (st : List Value) (h : zH) : Option zS :=
  match zpush en.2.1 en.2.2.2.1 with
  | some (v, n) => some (en.1 + n, lo, .int v :: st, h)
  | none => match zlod en.2.1 with
  | some (k, n, b) => (match zget lo k with
    | some v => bif (bif b then zisr v else zisi v) then some (en.1 + n, lo, v :: st, h) else none
    | none => none)
  | none => match zsto en.2.1 with
  | some (k, n, b) => (match st with
    | v :: r => bif Nat.blt k (zMaxL M) && (bif b then zisr v else zisi v) then some (en.1 + n, zput lo k v, r, h) else none
    | [] => none)
  | none => match zjmp en.2.1 en.1 en.2.2.1 st with
  | some (t, r) => some (t, lo, r, h)
  | none => match en.2.1 with
  | .iinc k c => (match zget lo k with
    | some (.int x) => bif Nat.blt k (zMaxL M) then some (en.1 + 3, zput lo k (.int (x + Int32.ofInt c)), st, h) else none
    | _ => none)
  | .getfield _ => (match zfld en.2.2.2.1 en.2.2.2.2.1 st h with
    | some (v, r) => some (en.1 + 3, lo, v :: r, h)
    | none => none)
  | .putfield _ => (match zpf M FT en.2.2.2.1 en.2.2.2.2.1 st h with
    | some (r, h') => some (en.1 + 3, lo, r, h')
    | none => none)
  | .getstatic _ => some (en.1 + 3, lo, .retAddr en.2.2.2.1 :: st, h)
  | i => match zal i X st h with
    | some (v, r) => some (en.1 + 1, lo, v :: r, h)
    | none => match zas i st h with
      | some (r, h') => some (en.1 + 1, lo, r, h')
      | none => match z2 st with
        | some (x, y, r) => (match zop2 i x y with
          | some v => some (en.1 + 1, lo, .int v :: r, h)
          | none => (match zstk i X st with
            | some st' => some (en.1 + 1, lo, st', h)
            | none => none))
        | none => (match zstk i X st with
          | some st' => some (en.1 + 1, lo, st', h)
          | none => none)
/-! HOW IT STANDS TO THE MACHINE: xa where the outside arrays lie, as where the cells lie -/
def zV (xa as : List Nat) (v w : Value) : Prop := match v with
  | .int x => w = .int x
  | .long x => w = .long x
  | .null => w = .null
  | .ref k => ∃ a, as[k]? = some a ∧ w = .ref a
  | .retAddr k => ∃ a, xa[k]? = some a ∧ w = .ref a
  | _ => False
def zF (xa as : List Nat) : List Value → List Value → Prop
  | [], [] => True
  | v :: vs, w :: ws => zV xa as v w ∧ zF xa as vs ws
  | _, _ => False
def zG (xa as : List Nat) : zL → zL → Prop
  | [], [] => True
  | v :: vs, w :: ws => (v.1 = w.1 ∧ zV xa as v.2 w.2 ∧ w.2.category = 1) ∧ zG xa as vs ws
  | _, _ => False
def zR (as : List Nat) (r r' : Option Nat) : Prop := match r with
  | none => r' = none
  | some k => ∃ a, as[k]? = some a ∧ r' = some a
def zB (as : List Nat) (x y : (Nat → Int32) ⊕ (Nat → Int64) ⊕ (Nat → UInt32) ⊕ (Nat → UInt64) ⊕ (Nat → Option Nat)) : Prop := match x, y with
  | .inl f, .inl g => f = g
  | .inr (.inl f), .inr (.inl g) => f = g
  | .inr (.inr (.inr (.inr f))), .inr (.inr (.inr (.inr g))) => ∀ j, zR as (f j) (g j)
  | _, _ => False
def zC (xa : List Nat) (tys : List (ClassId × FieldType)) (as : List Nat) (c : zE) (d : va_E) : Prop := match c, d with
  | .inr o, .inr o' => o.1 = o'.1 ∧ zF [] as o.2 o'.2
  | .inl a, .inl a' => a.2.1 = a'.2.1 ∧ (∃ t0 : Nat, tys[t0]? = some (a'.1, zty a.1)) ∧ zB as a.2.2 a'.2.2
  | _, _ => False
def zW (xa : List Nat) (tys : List (ClassId × FieldType)) (as : List Nat) (h : zH) (ws : va_W) : Prop :=
  as.length = h.length ∧ ws.length = h.length ∧ ∀ (k : Nat) (c : zE), h[k]? = some c → ∃ (a : Nat) (d : va_E), as[k]? = some a ∧ ws[k]? = some (a, d) ∧ zC xa tys as c d
theorem zpre {α : Type} {l l' : List α} (h : l <+: l') {k : Nat} {a : α} (hk : l[k]? = some a) : l'[k]? = some a := by
  obtain ⟨t, rfl⟩ := h
  rw [List.getElem?_append_left (List.getElem?_eq_some_iff.mp hk).1]
  exact hk
theorem zV_mono {xa as as' : List Nat} (h : as <+: as') {v w : Value} (hv : zV xa as v w) : zV xa as' v w := by
  cases v with
  | ref k => obtain ⟨a, h1, h2⟩ := hv; exact ⟨a, zpre h h1, h2⟩
  | _ => exact hv
theorem zF_mono {xa as as' : List Nat} (h : as <+: as') : ∀ {vs ws : List Value}, zF xa as vs ws → zF xa as' vs ws
  | [], [], _ => trivial
  | _ :: _, _ :: _, hv => ⟨zV_mono h hv.1, zF_mono h hv.2⟩
  | [], _ :: _, hv => hv.elim
  | _ :: _, [], hv => hv.elim
theorem zG_mono {xa as as' : List Nat} (h : as <+: as') : ∀ {vs ws : zL}, zG xa as vs ws → zG xa as' vs ws
  | [], [], _ => trivial
  | _ :: _, _ :: _, hv => ⟨⟨hv.1.1, zV_mono h hv.1.2.1, hv.1.2.2⟩, zG_mono h hv.2⟩
  | [], _ :: _, hv => hv.elim
  | _ :: _, [], hv => hv.elim
theorem zC_mono {xa as as' : List Nat} {tys tys' : List (ClassId × FieldType)} (h : as <+: as') (ht : tys <+: tys') {c : zE} {d : va_E} (hc : zC xa tys as c d) : zC xa tys' as' c d := by
  cases c with
  | inr o =>
    cases d with
    | inr o' => exact ⟨hc.1, zF_mono h hc.2⟩
    | inl a' => exact hc.elim
  | inl a =>
    cases d with
    | inr o' => exact hc.elim
    | inl a' =>
      obtain ⟨h1, ⟨t0, h2⟩, h3⟩ := hc
      refine ⟨h1, ⟨t0, zpre ht h2⟩, ?_⟩
      obtain ⟨kd, n, x⟩ := a
      obtain ⟨cA, n', y⟩ := a'
      rcases x with f | f | f | f | f <;> rcases y with g | g | g | g | g <;> first | exact h3 | exact h3.elim | skip
      intro j
      have h4 := h3 j
      cases hf : f j with
      | none => rw [hf] at h4; exact h4
      | some k => rw [hf] at h4; obtain ⟨a, h5, h6⟩ := h4; exact ⟨a, zpre h h5, h6⟩
theorem zW_get {xa : List Nat} {tys : List (ClassId × FieldType)} {as : List Nat} {h : zH} {ws : va_W} (H : zW xa tys as h ws) {k : Nat} {c : zE} (hk : h[k]? = some c) : ∃ (a : Nat) (d : va_E), as[k]? = some a ∧ ws[k]? = some (a, d) ∧ zC xa tys as c d := H.2.2 k c hk
theorem zW_set {xa : List Nat} {tys : List (ClassId × FieldType)} {as : List Nat} {h : zH} {ws : va_W} (H : zW xa tys as h ws) {k a : Nat} {c : zE} {d : va_E} (ha : as[k]? = some a) (hc : zC xa tys as c d) : zW xa tys as (h.set k c) (ws.set k (a, d)) := by
  refine ⟨by rw [List.length_set]; exact H.1, by rw [List.length_set, List.length_set]; exact H.2.1, fun j x hj => ?_⟩
  by_cases e : k = j
  · subst e
    have hl : k < h.length := by
      rcases Nat.lt_or_ge k h.length with q | q
      · exact q
      · rw [List.getElem?_eq_none (by rw [List.length_set]; exact q)] at hj; cases hj
    rw [List.getElem?_set_self hl] at hj
    cases hj
    exact ⟨a, d, ha, by rw [List.getElem?_set_self (by rw [H.2.1]; exact hl)], hc⟩
  · rw [List.getElem?_set_ne e] at hj
    obtain ⟨b, d', h1, h2, h3⟩ := H.2.2 j x hj
    exact ⟨b, d', h1, by rw [List.getElem?_set_ne e]; exact h2, h3⟩
theorem zW_push {xa : List Nat} {tys tys' : List (ClassId × FieldType)} {as : List Nat} {h : zH} {ws : va_W} (H : zW xa tys as h ws) (ht : tys <+: tys') {q : Nat} {c : zE} {d : va_E} (hc : zC xa tys' (as ++ [q]) c d) : zW xa tys' (as ++ [q]) (h ++ [c]) (ws ++ [(q, d)]) := by
  refine ⟨by simp [H.1], by simp [H.2.1], fun j x hj => ?_⟩
  by_cases e : j < h.length
  · rw [List.getElem?_append_left e] at hj
    obtain ⟨b, d', h1, h2, h3⟩ := H.2.2 j x hj
    have hp : as <+: as ++ [q] := ⟨[q], rfl⟩
    exact ⟨b, d', zpre hp h1, zpre ⟨[(q, d)], rfl⟩ h2, zC_mono hp ht h3⟩
  · rw [List.getElem?_append_right (by omega)] at hj
    have hz : j - h.length < 1 := (List.getElem?_eq_some_iff.mp hj).1
    have e2 : j = h.length := by omega
    subst e2
    rw [Nat.sub_self] at hj
    cases hj
    refine ⟨q, d, ?_, ?_, hc⟩
    · rw [← H.1]; simp
    · rw [← H.2.1]; simp
theorem zG_get {xa as : List Nat} {i : Nat} {v : Value} : ∀ {lo lv : zL}, zG xa as lo lv → zget lo i = some v → ∃ (k : Nat) (w : Value), lv[k]? = some (i, w) ∧ zV xa as v w
  | [], _, _, hg => by cases hg
  | q :: lo, [], h, _ => h.elim
  | q :: lo, q' :: lv, h, hg => by
    obtain ⟨⟨h1, h2, -⟩, h3⟩ := h
    unfold zget at hg
    cases hb : Nat.beq q.1 i with
    | true =>
      rw [hb] at hg
      cases hg
      have e := Nat.eq_of_beq_eq_true hb
      exact ⟨0, q'.2, by rw [List.getElem?_cons_zero, ← e, h1], h2⟩
    | false =>
      rw [hb] at hg
      obtain ⟨k, w, h4, h5⟩ := zG_get h3 hg
      exact ⟨k + 1, w, by rw [List.getElem?_cons_succ]; exact h4, h5⟩
theorem zG_filter {xa as : List Nat} {i : Nat} : ∀ {lo lv : zL}, zG xa as lo lv → zG xa as (lo.filter (fun q => !(Nat.beq q.1 i))) (lv.filter (fun q => !(q.1 == i) && !(q.1 + 1 == i && q.2.category == 2)))
  | [], [], _ => trivial
  | [], _ :: _, h => h.elim
  | _ :: _, [], h => h.elim
  | q :: lo, q' :: lv, h => by
    obtain ⟨⟨h1, h2, h4⟩, h3⟩ := h
    have ih := zG_filter (i := i) h3
    have e2 : (q'.2.category == 2) = false := by rw [h4]; rfl
    have e1 : (q'.1 == i) = Nat.beq q.1 i := by
      rw [h1]
      cases hb : Nat.beq q'.1 i with
      | true => simp [Nat.eq_of_beq_eq_true hb]
      | false => simp [Nat.ne_of_beq_eq_false hb]
    have e3 : (!(q'.1 == i) && !(q'.1 + 1 == i && q'.2.category == 2)) = !(Nat.beq q.1 i) := by rw [e2, Bool.and_false, Bool.not_false, Bool.and_true, e1]
    rw [List.filter_cons, List.filter_cons, e3]
    cases hb : Nat.beq q.1 i with
    | true => exact ih
    | false => exact ⟨⟨h1, h2, h4⟩, ih⟩
theorem zV_nil {xa as : List Nat} {v w : Value} (hv : zV [] as v w) : zV xa as v w := by
  cases v with
  | retAddr k => obtain ⟨a, h, -⟩ := hv; simp at h
  | _ => exact hv
theorem zF_nil {xa as : List Nat} : ∀ {vs ws : List Value}, zF [] as vs ws → zF xa as vs ws
  | [], [], _ => trivial
  | _ :: _, _ :: _, hv => ⟨zV_nil hv.1, zF_nil hv.2⟩
  | [], _ :: _, hv => hv.elim
  | _ :: _, [], hv => hv.elim
/-- no outside array -/
def zpl : Value → Bool
  | .retAddr _ => false
  | _ => true
theorem zV_pl {xa as : List Nat} {v w : Value} (hp : zpl v = true) (hv : zV xa as v w) : zV [] as v w := by
  cases v with
  | retAddr k => cases hp
  | _ => exact hv
theorem zF_pl {xa as : List Nat} : ∀ {vs ws : List Value}, vs.all zpl = true → zF xa as vs ws → zF [] as vs ws
  | [], [], _, _ => trivial
  | _ :: _, _ :: _, hp, hv => by
    rw [List.all_cons, Bool.and_eq_true] at hp
    exact ⟨zV_pl hp.1 hv.1, zF_pl hp.2 hv.2⟩
  | [], _ :: _, _, hv => hv.elim
  | _ :: _, [], _, hv => hv.elim
end
section
/-! A STEP IS TRUE OF THE MACHINE -/
abbrev zA (n0 : Nat) : Nat → Prop := fun q => n0 ≤ q
/-- what is known of the classes that the world holds -/
def zCl (Ts : List Cond) (cl : List vw_C) (FT : zFT) : Prop := ∀ (ci : Nat) (q : vw_C), cl[ci]? = some q →
  (∀ w ∈ u_ws q.1 q.2.1 q.2.2, w ∈ Ts) ∧ (∀ k, k < q.2.2 → parseFieldDescriptor (q.2.1 k).2.2.1 = some (FT ci k).1) ∧ (∀ a, a < q.2.2 → ∀ b, b < q.2.2 → a ≠ b → (q.2.1 a).2.1 ≠ (q.2.1 b).2.1) ∧ ∀ k, k < q.2.2 → (q.2.1 k).2.2.2 = (FT ci k).2 ∧ (q.2.1 k).1 = q.1
def zlen (i : Instr) (n : Nat) : Nat := match i with
  | .tableswitch .. => n
  | .lookupswitch .. => n
  | .sipush _ => 3
  | .ldc_w _ => 3
  | .getfield _ => 3
  | .putfield _ => 3
  | .getstatic _ => 3
  | .invokevirtual _ => 3
  | .invokespecial _ => 3
  | .invokestatic _ => 3
  | .new _ => 3
  | .anewarray _ => 3
  | .iinc _ _ => 3
  | .ifCond _ _ => 3
  | .if_icmp _ _ => 3
  | .goto _ => 3
  | .bipush _ => 2
  | .ldc _ => 2
  | .iload _ => 2
  | .istore _ => 2
  | .aload _ => 2
  | .astore _ => 2
  | .newarray _ => 2
  | _ => 1
/-- what is known of an instruction: its bytes, its link -/
def zEok (Ts : List Cond) (cl : List vw_C) (sf : Nat → String × String × String) (M : zM) (en : zN) : Prop :=
  (decode (zCode M) en.1 = .ok (en.2.1, en.2.2.1) ∧ en.2.2.1 = zlen en.2.1 en.2.2.1) ∧ match en.2.1 with
  | .ldc k => Jvm.Cond.constant (zName M).cls k (Int32.ofNat en.2.2.2.1) ∈ Ts
  | .ldc_w k => Jvm.Cond.constant (zName M).cls k (Int32.ofNat en.2.2.2.1) ∈ Ts
  | .getfield k => ∃ q : vw_C, cl[en.2.2.2.1]? = some q ∧ en.2.2.2.2.1 < q.2.2 ∧ Jvm.Cond.fieldLink (zName M).cls k q.1 (q.2.1 en.2.2.2.2.1).2.1 (q.2.1 en.2.2.2.2.1).2.2.1 ∈ Ts
  | .putfield k => ∃ q : vw_C, cl[en.2.2.2.1]? = some q ∧ en.2.2.2.2.1 < q.2.2 ∧ Jvm.Cond.fieldLink (zName M).cls k q.1 (q.2.1 en.2.2.2.2.1).2.1 (q.2.1 en.2.2.2.2.1).2.2.1 ∈ Ts
  | .getstatic k => Jvm.Cond.fieldLink (zName M).cls k (sf en.2.2.2.1).1 (sf en.2.2.2.1).2.1 (sf en.2.2.2.1).2.2 ∈ Ts
  | _ => True
/-- the method stands: the machine, its code, its words, the outside arrays -/
def zCx (p : Program) (s : State) (m : MethodId) (args : Array Value) (meth : Method) (c : Code) (Ts : List Cond) (X : zX) (xa : List Nat) (sf : Nat → String × String × String) (n0 : Nat) (M : zM) : Prop :=
  p.tables.exec = Jvm.exec ∧ c.code = zCode M ∧ c.maxLocals = zMaxL M ∧ s.vm.findClass (zName M).cls = some m.cls ∧ (∀ w ∈ Ts, w.before args s = true) ∧ (∀ (k a : Nat), xa[k]? = some a → va_T .int a (X k).1 (fun j => .int ((X k).2 j)) (zA n0) s s.heap) ∧
  (∀ k : Nat, (sf k).1 ≠ "" → ∃ t : Nat, xa[k]? = some t ∧ va_Z (sf k).1 (sf k).2.1 (sf k).2.2 (.ref t) (zA n0) s s.heap) ∧ ((zKind M).1 = 2 → meth.name = "<init>") ∧ n0 ≤ s.heap.size
/-- the world now -/
def zI (D : va_G) (cl : List vw_C) (xa : List Nat) (n0 : Nat) (s : State) (tys : List (ClassId × FieldType)) (as : List Nat) (ws : va_W) (h : zH) (H : Heap) (locs : List Loc) : Prop :=
  va_K D cl tys s ∧ va_P D cl ws H ∧ va_D (zA n0) ws ∧ va_S (zA n0) s.heap H locs ∧ zW xa tys as h ws
section ZST
variable {p : Program} {l : Launch} {e : Env} {R : Room} {s : State} {m : MethodId} {args : Array Value} {below : List Frame} {meth : Method} {c : Code} {H : Heap} {locs : List Loc} {cells slots : Nat} {Q : State → Prop}
variable {Ts : List Cond} {cl : List vw_C} {FT : zFT} {X : zX} {xa : List Nat} {sf : Nat → String × String × String} {n0 : Nat} {M : zM} {D : va_G} {tys : List (ClassId × FieldType)} {as : List Nat} {ws : va_W} {h : zH} {pc : Nat} {ls : Array Slot} {sc rest : List Value} {lo lv : zL} {st : List Value} {en : zN}
theorem zs_push (C : zCx p s m args meth c Ts X xa sf n0 M) (he : zEok Ts cl sf M en) {v : Int32} {n : Nat} (hp : zpush en.2.1 en.2.2.2.1 = some (v, n)) (k : W p l e R s m args below meth c H locs cells slots Q (F0 m (en.1 + n) ls (.int v :: sc))) : W p l e R s m args below meth c H locs cells slots Q (F0 m en.1 ls sc) := by
  obtain ⟨hx, hb, -, hown, hts, -⟩ := C
  obtain ⟨pc, i, len, a, b, w⟩ := en
  obtain ⟨⟨hd, hn⟩, he⟩ := he
  dsimp only at hd hn he hp k ⊢
  rw [hn] at hd
  unfold zpush at hp
  split at hp
  · cases hp; exact lv_iconst hx hb hd rfl k
  · cases hp; exact lv_bipush hx hb hd rfl k
  · cases hp; exact lv_sipush hx hb hd rfl k
  · cases hp; exact lv_ldc hx hb hown (hts _ he) hd k
  · cases hp; exact lv_ldcw hx hb hown (hts _ he) hd k
  · cases hp
theorem zV_r {v w : Value} (hr : zisr v = true) (hv : zV xa as v w) : ∃ a, w = .ref a := by
  cases v with
  | ref k => obtain ⟨a, -, h⟩ := hv; exact ⟨a, h⟩
  | retAddr k => obtain ⟨a, -, h⟩ := hv; exact ⟨a, h⟩
  | _ => cases hr
theorem zV_i {v w : Value} (hr : zisi v = true) (hv : zV xa as v w) : ∃ x, v = .int x ∧ w = .int x := by
  cases v with
  | int x => exact ⟨x, rfl, hv⟩
  | _ => cases hr
theorem zs_lod (C : zCx p s m args meth c Ts X xa sf n0 M) (he : zEok Ts cl sf M en) {i n : Nat} {b : Bool} (hp : zlod en.2.1 = some (i, n, b)) {v : Value} (hv : zget lo i = some v) (ht : (bif b then zisr v else zisi v) = true) (hl : lv_has ls (zMaxL M) lv) (hg : zG xa as lo lv)
    (k : ∀ w : Value, zV xa as v w → W p l e R s m args below meth c H locs cells slots Q (F0 m (en.1 + n) ls (w :: sc))) : W p l e R s m args below meth c H locs cells slots Q (F0 m en.1 ls sc) := by
  obtain ⟨hx, hb, -, hown, hts, -⟩ := C
  obtain ⟨pc, ins, len, a0, b0, w0⟩ := en
  obtain ⟨⟨hd, hn⟩, he⟩ := he
  dsimp only at hd hn he hp k ⊢
  rw [hn] at hd
  obtain ⟨j, w, h1, h2⟩ := zG_get hg hv
  have k := k w h2
  unfold zlod at hp
  split at hp
  · cases hp
    obtain ⟨x, -, rfl⟩ := zV_i ht h2
    exact lv_iload hx hb hd (lv_at hl j h1) k
  · cases hp
    obtain ⟨x, -, rfl⟩ := zV_i ht h2
    exact lv_iload_n hx hb hd rfl (lv_at hl j h1) k
  · cases hp
    obtain ⟨x, rfl⟩ := zV_r ht h2
    exact lv_aload hx hb hd (lv_at hl j h1) k
  · cases hp
    obtain ⟨x, rfl⟩ := zV_r ht h2
    exact lv_aload_n hx hb hd rfl (lv_at hl j h1) k
  · cases hp
theorem zs_sto (C : zCx p s m args meth c Ts X xa sf n0 M) (he : zEok Ts cl sf M en) {i n : Nat} {b : Bool} (hp : zsto en.2.1 = some (i, n, b)) {v w : Value} (hv : zV xa as v w) (hi : i < zMaxL M) (ht : (bif b then zisr v else zisi v) = true) (hl : lv_has ls (zMaxL M) lv) (hg : zG xa as lo lv)
    (k : ∀ (ls' : Array Slot) (lv' : zL), lv_has ls' (zMaxL M) lv' → zG xa as (zput lo i v) lv' → W p l e R s m args below meth c H locs cells slots Q (F0 m (en.1 + n) ls' sc)) : W p l e R s m args below meth c H locs cells slots Q (F0 m en.1 ls (w :: sc)) := by
  obtain ⟨hx, hb, -, hown, hts, -⟩ := C
  obtain ⟨pc, ins, len, a0, b0, w0⟩ := en
  obtain ⟨⟨hd, hn⟩, he⟩ := he
  dsimp only at hd hn he hp k ⊢
  rw [hn] at hd
  have hf := zG_filter (i := i) hg
  unfold zsto at hp
  split at hp
  · cases hp
    obtain ⟨x, -, rfl⟩ := zV_i ht hv
    exact lv_istore hx hb hd hl hi rfl (fun ls' hl' => k ls' _ hl' ⟨⟨rfl, hv, rfl⟩, hf⟩)
  · cases hp
    obtain ⟨x, -, rfl⟩ := zV_i ht hv
    exact lv_istore_n hx hb hd rfl hl hi rfl (fun ls' hl' => k ls' _ hl' ⟨⟨rfl, hv, rfl⟩, hf⟩)
  · cases hp
    obtain ⟨x, rfl⟩ := zV_r ht hv
    exact lv_astore hx hb hd hl hi rfl (fun ls' hl' => k ls' _ hl' ⟨⟨rfl, hv, rfl⟩, hf⟩)
  · cases hp
    obtain ⟨x, rfl⟩ := zV_r ht hv
    exact lv_astore_n hx hb hd rfl hl hi rfl (fun ls' hl' => k ls' _ hl' ⟨⟨rfl, hv, rfl⟩, hf⟩)
  · cases hp
theorem zF_1 {x : Int32} {r : List Value} (h1 : z1 st = some (x, r)) (hf : zF xa as st sc) : ∃ sc', sc = .int x :: sc' ∧ zF xa as r sc' := by
  unfold z1 at h1
  split at h1
  · cases h1
    cases sc with
    | nil => exact hf.elim
    | cons w sc' => exact ⟨sc', by rw [show w = .int x from hf.1], hf.2⟩
  · cases h1
theorem zF_2 {x y : Int32} {r : List Value} (h1 : z2 st = some (x, y, r)) (hf : zF xa as st sc) : ∃ sc', sc = .int y :: .int x :: sc' ∧ zF xa as r sc' := by
  unfold z2 at h1
  split at h1
  · cases h1
    match sc, hf with
    | w :: w2 :: sc', hf => exact ⟨sc', by rw [show w = .int y from hf.1, show w2 = .int x from hf.2.1], hf.2.2⟩
  · cases h1
theorem ztgt_eq {off : Int} {t : Nat} (ht : ztgt pc off = some t) : (pc : Int) + off = (t : Int) := by
  unfold ztgt at ht
  cases hd : decide (0 ≤ (pc : Int) + off) with
  | false => rw [hd] at ht; cases ht
  | true =>
    rw [hd] at ht
    have h0 := of_decide_eq_true hd
    have e1 : ((pc : Int) + off).toNat = t := Option.some.inj ht
    omega
theorem zs_jmp (C : zCx p s m args meth c Ts X xa sf n0 M) (he : zEok Ts cl sf M en) {t : Nat} {r : List Value} (hp : zjmp en.2.1 en.1 en.2.2.1 st = some (t, r)) (hf : zF xa as st sc)
    (k : ∀ sc' : List Value, zF xa as r sc' → W p l e R s m args below meth c H locs cells slots Q (F0 m t ls sc')) : W p l e R s m args below meth c H locs cells slots Q (F0 m en.1 ls sc) := by
  obtain ⟨hx, hb, -, hown, hts, -⟩ := C
  obtain ⟨pc, ins, len, a0, b0, w0⟩ := en
  obtain ⟨⟨hd, hn⟩, he⟩ := he
  dsimp only at hd hn he hp k ⊢
  unfold zjmp at hp
  split at hp
  · rw [hn] at hd
    split at hp
    · cases hp
      exact lv_goto hx hb hd (ztgt_eq (by assumption)) (k _ hf)
    · cases hp
  · rename_i cd off
    rw [hn] at hd
    split at hp
    · rename_i x r' t' h1 h2
      cases hp
      obtain ⟨sc', rfl, hf'⟩ := zF_1 h1 hf
      have k := k _ hf'
      have ht := ztgt_eq h2
      cases cd <;> unfold zc1 at k <;> dsimp only at k
      · exact lv_if_eq hx hb hd ht (fun q => by rw [decide_eq_true q] at k; exact k) (fun q => by rw [decide_eq_false q] at k; exact k)
      · exact lv_if_ne hx hb hd ht (fun q => by rw [decide_eq_true q] at k; exact k) (fun q => by rw [decide_eq_false (not_not_intro q)] at k; exact k)
      · exact lv_if_lt hx hb hd ht (fun q => by rw [decide_eq_true q] at k; exact k) (fun q => by rw [decide_eq_false q] at k; exact k)
      · exact lv_if_ge hx hb hd ht (fun q => by rw [decide_eq_true q] at k; exact k) (fun q => by rw [decide_eq_false q] at k; exact k)
      · exact lv_if_gt hx hb hd ht (fun q => by rw [decide_eq_true q] at k; exact k) (fun q => by rw [decide_eq_false q] at k; exact k)
      · exact lv_if_le hx hb hd ht (fun q => by rw [decide_eq_true q] at k; exact k) (fun q => by rw [decide_eq_false q] at k; exact k)
    · cases hp
  · rename_i cd off
    rw [hn] at hd
    split at hp
    · rename_i x y r' t' h1 h2
      cases hp
      obtain ⟨sc', rfl, hf'⟩ := zF_2 h1 hf
      have k := k _ hf'
      have ht := ztgt_eq h2
      cases cd <;> unfold zc2 at k <;> dsimp only at k
      · exact lv_icmp_eq hx hb hd ht (fun q => by rw [decide_eq_true q] at k; exact k) (fun q => by rw [decide_eq_false q] at k; exact k)
      · exact lv_icmp_ne hx hb hd ht (fun q => by rw [decide_eq_true q] at k; exact k) (fun q => by rw [decide_eq_false (not_not_intro q)] at k; exact k)
      · exact lv_icmp_lt hx hb hd ht (fun q => by rw [decide_eq_true q] at k; exact k) (fun q => by rw [decide_eq_false q] at k; exact k)
      · exact lv_icmp_ge hx hb hd ht (fun q => by rw [decide_eq_true q] at k; exact k) (fun q => by rw [decide_eq_false q] at k; exact k)
      · exact lv_icmp_gt hx hb hd ht (fun q => by rw [decide_eq_true q] at k; exact k) (fun q => by rw [decide_eq_false q] at k; exact k)
      · exact lv_icmp_le hx hb hd ht (fun q => by rw [decide_eq_true q] at k; exact k) (fun q => by rw [decide_eq_false q] at k; exact k)
    · cases hp
  · rename_i dflt lo9 hi9 offs
    split at hp
    · rename_i x r' h1
      obtain ⟨sc', rfl, hf'⟩ := zF_1 h1 hf
      cases hd9 : decide (x.toInt < lo9) || decide (hi9 < x.toInt) with
      | true =>
        rw [hd9, cond_true] at hp
        split at hp
        · rename_i t' h2
          cases hp
          rw [Bool.or_eq_true, decide_eq_true_eq, decide_eq_true_eq] at hd9
          exact lv_tableOut hx hb hd hd9 (ztgt_eq h2) (k _ hf')
        · cases hp
      | false =>
        rw [hd9, cond_false] at hp
        rw [Bool.or_eq_false_iff, decide_eq_false_iff_not, decide_eq_false_iff_not] at hd9
        split at hp
        · rename_i off ho
          split at hp
          · rename_i t' h2
            cases hp
            exact lv_tableIn hx hb hd hd9.1 hd9.2 ho (ztgt_eq h2) (k _ hf')
          · cases hp
        · cases hp
    · cases hp
  · rename_i dflt ps
    split at hp
    · rename_i x r' h1
      obtain ⟨sc', rfl, hf'⟩ := zF_1 h1 hf
      cases hd9 : (ps.toList.zip (ps.toList.drop 1)).all (fun (a, next) => a.1 < next.1) with
      | true =>
        rw [hd9, cond_true] at hp
        split at hp
        · rename_i t' h2
          cases hp
          exact lv_lookup hx hb hd hd9 rfl (ztgt_eq h2) (k _ hf')
        · cases hp
      | false =>
        rw [hd9, cond_false] at hp
        cases hp
    · cases hp
  · cases hp
theorem zF_len : ∀ {vs cs : List Value}, zF xa as vs cs → vs.length = cs.length
  | [], [], _ => rfl
  | _ :: _, _ :: _, hv => by rw [List.length_cons, List.length_cons, zF_len hv.2]
  | [], _ :: _, hv => hv.elim
  | _ :: _, [], hv => hv.elim
theorem zF_at {k : Nat} {v : Value} : ∀ {vs cs : List Value}, zF xa as vs cs → vs[k]? = some v → ∃ w, cs[k]? = some w ∧ zV xa as v w
  | [], _, _, hk => by simp at hk
  | _ :: _, [], hv, _ => hv.elim
  | x :: vs, y :: cs, hv, hk => by
    cases k with
    | zero => rw [List.getElem?_cons_zero] at hk; cases hk; exact ⟨y, by rw [List.getElem?_cons_zero], hv.1⟩
    | succ k => rw [List.getElem?_cons_succ] at hk; obtain ⟨w, h1, h2⟩ := zF_at hv.2 hk; exact ⟨w, by rw [List.getElem?_cons_succ]; exact h1, h2⟩
theorem zF_set {k : Nat} {v w : Value} (hvw : zV xa as v w) : ∀ {vs cs : List Value}, zF xa as vs cs → zF xa as (vs.set k v) (cs.set k w)
  | [], [], _ => by trivial
  | _ :: _, [], hv => hv.elim
  | [], _ :: _, hv => hv.elim
  | x :: vs, y :: cs, hv => by
    cases k with
    | zero => exact ⟨hvw, hv.2⟩
    | succ k => exact ⟨hv.1, zF_set hvw hv.2⟩
theorem zr1_eq {q : Nat} {r : List Value} (h1 : zr1 st = some (q, r)) : st = .ref q :: r := by
  unfold zr1 at h1; split at h1 <;> cases h1; rfl
theorem zvr_eq {v : Value} {q : Nat} {r : List Value} (h1 : zvr st = some (v, q, r)) : st = v :: .ref q :: r := by
  unfold zvr at h1; split at h1 <;> cases h1; rfl
theorem zir_eq {i : Int32} {q : Nat} {r : List Value} (h1 : zir st = some (i, q, r)) : st = .int i :: .ref q :: r := by
  unfold zir at h1; split at h1 <;> cases h1; rfl
theorem zix_eq {i : Int32} {q : Nat} {r : List Value} (h1 : zix st = some (i, q, r)) : st = .int i :: .retAddr q :: r := by
  unfold zix at h1; split at h1 <;> cases h1; rfl
theorem zvir_eq {v : Value} {i : Int32} {q : Nat} {r : List Value} (h1 : zvir st = some (v, i, q, r)) : st = v :: .int i :: .ref q :: r := by
  unfold zvir at h1; split at h1 <;> cases h1; rfl
theorem zin_in {i : Int32} {n : Nat} (hz : zin i n = true) : vp_in i n := by unfold zin at hz; unfold vp_in; exact of_decide_eq_true hz
theorem zs_get (hcl : zCl Ts cl FT) (C : zCx p s m args meth c Ts X xa sf n0 M) (he : zEok Ts cl sf M en) {ix : Nat} (hi : en.2.1 = .getfield ix) {v : Value} {r : List Value} (hp : zfld en.2.2.2.1 en.2.2.2.2.1 st h = some (v, r)) (I : zI D cl xa n0 s tys as ws h H locs) (hf : zF xa as st sc)
    (k : ∀ (w : Value) (sc' : List Value), zV xa as v w → zF xa as r sc' → W p l e R s m args below meth c H locs cells slots Q (F0 m (en.1 + 3) ls (w :: sc'))) : W p l e R s m args below meth c H locs cells slots Q (F0 m en.1 ls sc) := by
  obtain ⟨hx, hb, -, hown, hts, -⟩ := C
  obtain ⟨hK, hP, hD, hS, hW⟩ := I
  obtain ⟨pc, ins, len, a0, b0, w0⟩ := en
  obtain ⟨⟨hd, hn⟩, he⟩ := he
  dsimp only at hd hn he hp k hi ⊢
  subst hi
  rw [hn] at hd
  obtain ⟨q, hq, hbq, hlk⟩ := he
  obtain ⟨g1, g2, g3, g4⟩ := hcl a0 q hq
  unfold zfld at hp
  split at hp
  · cases hp
  · rename_i q1 r1 h1
    have e1 := zr1_eq h1
    subst e1
    split at hp
    · rename_i ci fs h2
      cases hbb : Nat.beq ci a0 with
      | false => rw [hbb, cond_false] at hp; cases hp
      | true =>
        rw [hbb, cond_true] at hp
        have e2 := Nat.eq_of_beq_eq_true hbb
        subst e2
        split at hp
        · rename_i v1 h3
          cases hp
          obtain ⟨a1, d1, h4, h5, h6⟩ := hW.2.2 _ _ h2
          cases d1 with
          | inl x => exact h6.elim
          | inr o =>
            obtain ⟨oc, ofs⟩ := o
            obtain ⟨h7, h8⟩ := h6
            dsimp only at h7 h8
            subst h7
            obtain ⟨w, h9, h10⟩ := zF_at h8 h3
            match sc, hf with
            | w1 :: sc', hf =>
              obtain ⟨⟨a2, h11, h12⟩, hf2⟩ := hf
              cases h4.symm.trans h11
              subst h12
              exact va_get (C := q.1) (T := q.2.1) (N := q.2.2) hx hb hts g1 hown hK hP q1 h5 hq b0 hbq (hts _ hlk) (fun x hx9 => by rw [← (g4 b0 hbq).2]; exact hx9) h9 hd (k w sc' (zV_nil h10) hf2)
        · cases hp
    · cases hp
theorem zfits_ok {ty : FieldType} {v w : Value} (hz : zfits ty v = true) (hv : zV xa as v w) : narrow ty w = w ∧ fits ty w = true := by
  unfold zfits at hz
  split at hz
  · rw [show w = .int _ from hv]; exact ⟨rfl, rfl⟩
  · rename_i x
    rw [show w = .int _ from hv]
    rw [Bool.or_eq_true, decide_eq_true_eq, decide_eq_true_eq] at hz
    rcases hz with rfl | rfl <;> exact ⟨by decide, by decide⟩
  · obtain ⟨a, -, rfl⟩ := hv; exact ⟨rfl, rfl⟩
  · obtain ⟨a, -, rfl⟩ := hv; exact ⟨rfl, rfl⟩
  · cases hz
theorem zfits_pl {ty : FieldType} {v : Value} (hz : zfits ty v = true) : zpl v = true := by
  unfold zfits at hz
  split at hz <;> first | rfl | cases hz
theorem zs_put (hcl : zCl Ts cl FT) (C : zCx p s m args meth c Ts X xa sf n0 M) (hMc : (zKind M).1 = 2 → ∀ q : vw_C, cl[(zKind M).2.1]? = some q → q.1 = (zName M).cls) (he : zEok Ts cl sf M en) {ix : Nat} (hi : en.2.1 = .putfield ix) {r : List Value} {h' : zH} (hp : zpf M FT en.2.2.2.1 en.2.2.2.2.1 st h = some (r, h')) (I : zI D cl xa n0 s tys as ws h H locs) (hf : zF xa as st sc)
    (k : ∀ (ws' : va_W) (H' : Heap) (locs' : List Loc) (sc' : List Value), zI D cl xa n0 s tys as ws' h' H' locs' → zF xa as r sc' → W p l e R s m args below meth c H' locs' cells slots Q (F0 m (en.1 + 3) ls sc')) : W p l e R s m args below meth c H locs cells slots Q (F0 m en.1 ls sc) := by
  obtain ⟨hx, hb, -, hown, hts, -, -, hini, -⟩ := C
  obtain ⟨hK, hP, hD, hS, hW⟩ := I
  obtain ⟨pc, ins, len, a0, b0, w0⟩ := en
  obtain ⟨⟨hd, hn⟩, he⟩ := he
  dsimp only at hd hn he hp k hi ⊢
  subst hi
  rw [hn] at hd
  obtain ⟨q, hq, hbq, hlk⟩ := he
  obtain ⟨g1, g2, g3, g4⟩ := hcl a0 q hq
  unfold zpf at hp
  split at hp
  · cases hp
  · rename_i v q1 r1 h1
    have e1 := zvr_eq h1
    subst e1
    split at hp
    · rename_i ci fs h2
      cases hbb : Nat.beq ci a0 && zfits (FT a0 b0).1 v && Nat.blt b0 fs.length && (!(FT a0 b0).2 || (Nat.beq (zKind M).1 2 && Nat.beq (zKind M).2.1 a0)) with
      | false => rw [hbb, cond_false] at hp; cases hp
      | true =>
        rw [hbb, cond_true] at hp
        cases hp
        rw [Bool.and_eq_true, Bool.and_eq_true, Bool.and_eq_true] at hbb
        obtain ⟨⟨⟨b1, b2⟩, b3⟩, b4⟩ := hbb
        have e2 := Nat.eq_of_beq_eq_true b1
        subst e2
        have b5 : b0 < fs.length := Nat.le_of_ble_eq_true b3
        obtain ⟨a1, d1, h4, h5, h6⟩ := hW.2.2 _ _ h2
        cases d1 with
        | inl x => exact h6.elim
        | inr o =>
          obtain ⟨oc, ofs⟩ := o
          obtain ⟨h7, h8⟩ := h6
          dsimp only at h7 h8
          subst h7
          match sc, hf with
          | w :: w1 :: sc', hf =>
            obtain ⟨hv, ⟨a2, h11, h12⟩, hf2⟩ := hf
            cases h4.symm.trans h11
            subst h12
            obtain ⟨z1, z2⟩ := zfits_ok b2 hv
            have hl9 : b0 < ofs.length := by rw [← zF_len h8]; exact b5
            have hW' : zW xa tys as (h.set q1 (.inr (ci, fs.set b0 v))) (ws.set q1 (a1, .inr (ci, ofs.set b0 w))) := zW_set hW h4 ⟨rfl, zF_set (zV_pl (zfits_pl b2) hv) h8⟩
            cases hfin : (FT ci b0).2 with
            | false =>
              exact va_put (C := q.1) (T := q.2.1) (N := q.2.2) hx hb hts g1 (FT ci · |>.1) g2 g3 hown hK hP hD hS q1 h5 hq b0 hbq (hts _ hlk) (fun x hx9 => by rw [← (g4 b0 hbq).2]; exact hx9) ((g4 b0 hbq).1.trans hfin) (g2 b0 hbq) z1 z2 hl9 hd
                (fun H1 locs1 hP1 hD1 hS1 => k _ H1 locs1 sc' ⟨hK, hP1, hD1, hS1, hW'⟩ hf2)
            | true =>
              rw [hfin, Bool.not_true, Bool.false_or, Bool.and_eq_true] at b4
              have c1 := Nat.eq_of_beq_eq_true b4.1
              have c2 := Nat.eq_of_beq_eq_true b4.2
              exact va_putF (C := q.1) (T := q.2.1) (N := q.2.2) hx hb hts g1 (FT ci · |>.1) g2 g3 hown hK hP hD hS q1 h5 hq b0 hbq (hts _ hlk) (fun x hx9 => by rw [← (g4 b0 hbq).2]; exact hx9) ((g4 b0 hbq).1.trans hfin) (hini c1) ((g4 b0 hbq).2.trans (hMc c1 q (by rw [c2]; exact hq))) (g2 b0 hbq) z1 z2 hl9 hd
                (fun H1 locs1 hP1 hD1 hS1 => k _ H1 locs1 sc' ⟨hK, hP1, hD1, hS1, hW'⟩ hf2)
    · cases hp
theorem zs_al (C : zCx p s m args meth c Ts X xa sf n0 M) (he : zEok Ts cl sf M en) {v : Value} {r : List Value} (hp : zal en.2.1 X st h = some (v, r)) (I : zI D cl xa n0 s tys as ws h H locs) (hf : zF xa as st sc)
    (k : ∀ (w : Value) (sc' : List Value), zV xa as v w → zF xa as r sc' → W p l e R s m args below meth c H locs cells slots Q (F0 m (en.1 + 1) ls (w :: sc'))) : W p l e R s m args below meth c H locs cells slots Q (F0 m en.1 ls sc) := by
  obtain ⟨hx, hb, -, hown, hts, hXa, -⟩ := C
  obtain ⟨hK, hP, hD, hS, hW⟩ := I
  obtain ⟨pc, ins, len, a0, b0, w0⟩ := en
  obtain ⟨⟨hd, hn⟩, he⟩ := he
  dsimp only at hd hn he hp k ⊢
  rw [hn] at hd
  unfold zal at hp
  split at hp
  · rename_i j q1 r1 h1
    have e1 := zir_eq h1
    subst e1
    match sc, hf with
    | w1 :: w2 :: sc', hf =>
    obtain ⟨hw1, ⟨a2, h11, h12⟩, hf2⟩ := hf
    have hw1 : w1 = .int j := hw1
    subst hw1; subst h12
    split at hp
    · rename_i n f h2
      cases hz : zin j n with
      | false => rw [hz, cond_false] at hp; cases hp
      | true =>
      rw [hz, cond_true] at hp; cases hp
      obtain ⟨a1, d1, h4, h5, h6⟩ := hW.2.2 _ _ h2
      cases h4.symm.trans h11
      match d1, h6 with
      | .inl (cA, n9, .inl g), h6 =>
        obtain ⟨h7, ⟨t0, h8⟩, h9⟩ := h6
        have h7 : n = n9 := h7
        have h9 : f = g := h9
        subst h7; subst h9
        exact va_iald hx hb hK hP q1 t0 h5 h8 (zin_in hz) hd (k _ sc' rfl hf2)
    · rename_i n f h2
      cases hz : zin j n with
      | false => rw [hz, cond_false] at hp; cases hp
      | true =>
      rw [hz, cond_true] at hp; cases hp
      obtain ⟨a1, d1, h4, h5, h6⟩ := hW.2.2 _ _ h2
      cases h4.symm.trans h11
      match d1, h6 with
      | .inl (cA, n9, .inl g), h6 =>
        obtain ⟨h7, ⟨t0, h8⟩, h9⟩ := h6
        have h7 : n = n9 := h7
        have h9 : f = g := h9
        subst h7; subst h9
        exact va_zald hx hb hK hP q1 t0 h5 h8 (zin_in hz) hd (k _ sc' rfl hf2)
    · rename_i n f h2
      cases hz : zin j n with
      | false => rw [hz, cond_false] at hp; cases hp
      | true =>
      rw [hz, cond_true] at hp; cases hp
      obtain ⟨a1, d1, h4, h5, h6⟩ := hW.2.2 _ _ h2
      cases h4.symm.trans h11
      match d1, h6 with
      | .inl (cA, n9, .inr (.inl g)), h6 =>
        obtain ⟨h7, ⟨t0, h8⟩, h9⟩ := h6
        have h7 : n = n9 := h7
        have h9 : f = g := h9
        subst h7; subst h9
        exact va_lald hx hb hK hP q1 t0 h5 h8 (zin_in hz) hd (k _ sc' rfl hf2)
    · rename_i n f h2
      cases hz : zin j n with
      | false => rw [hz, cond_false] at hp; cases hp
      | true =>
      rw [hz, cond_true] at hp; cases hp
      obtain ⟨a1, d1, h4, h5, h6⟩ := hW.2.2 _ _ h2
      cases h4.symm.trans h11
      match d1, h6 with
      | .inl (cA, n9, .inr (.inr (.inr (.inr g)))), h6 =>
        obtain ⟨h7, ⟨t0, h8⟩, h9⟩ := h6
        have h7 : n = n9 := h7
        have h99 : zR as (f j.toNatClampNeg) (g j.toNatClampNeg) := h9 _
        subst h7
        refine va_aldq hx hb hK hP q1 t0 h5 h8 (zin_in hz) hd (k _ sc' ?_ hf2)
        cases hfj : f j.toNatClampNeg with
        | none => rw [hfj] at h99; rw [show g j.toNatClampNeg = none from h99]; rfl
        | some kk => rw [hfj] at h99; obtain ⟨a3, h13, h14⟩ := h99; rw [h14]; exact ⟨a3, h13, rfl⟩
    · rename_i n f h2
      cases hz : zin j n with
      | false => rw [hz, cond_false] at hp; cases hp
      | true =>
      rw [hz, cond_true] at hp; cases hp
      obtain ⟨a1, d1, h4, h5, h6⟩ := hW.2.2 _ _ h2
      cases h4.symm.trans h11
      match d1, h6 with
      | .inl (cA, n9, .inr (.inr (.inr (.inr g)))), h6 =>
        obtain ⟨h7, ⟨t0, h8⟩, h9⟩ := h6
        have h7 : n = n9 := h7
        have h99 : zR as (f j.toNatClampNeg) (g j.toNatClampNeg) := h9 _
        subst h7
        refine va_aldq hx hb hK hP q1 t0 h5 h8 (zin_in hz) hd (k _ sc' ?_ hf2)
        cases hfj : f j.toNatClampNeg with
        | none => rw [hfj] at h99; rw [show g j.toNatClampNeg = none from h99]; rfl
        | some kk => rw [hfj] at h99; obtain ⟨a3, h13, h14⟩ := h99; rw [h14]; exact ⟨a3, h13, rfl⟩
    · cases hp
  · split at hp
    · rename_i j q1 r1 h1
      have e1 := zix_eq h1
      subst e1
      match sc, hf with
      | w1 :: w2 :: sc', hf =>
      obtain ⟨hw1, ⟨a2, h11, h12⟩, hf2⟩ := hf
      have hw1 : w1 = .int j := hw1
      subst hw1; subst h12
      split at hp
      · cases hz : zin j (X q1).1 with
        | false => rw [hz, cond_false] at hp; cases hp
        | true =>
        rw [hz, cond_true] at hp; cases hp
        exact va_ti hx hb (hXa q1 a2 h11) hS (zin_in hz) rfl hd (k _ sc' rfl hf2)
      · cases hp
    · cases hp
theorem zs_as (hcl2 : ∃ q : vw_C, cl[2]? = some q ∧ q.1 = "NestedPager$Guest") (hcl9 : ∃ q : vw_C, cl[9]? = some q ∧ q.1 = "NestedPager$Vcpu") (C : zCx p s m args meth c Ts X xa sf n0 M) (he : zEok Ts cl sf M en) {r : List Value} {h' : zH} (hp : zas en.2.1 st h = some (r, h')) (I : zI D cl xa n0 s tys as ws h H locs) (hf : zF xa as st sc)
    (k : ∀ (ws' : va_W) (H' : Heap) (locs' : List Loc) (sc' : List Value), zI D cl xa n0 s tys as ws' h' H' locs' → zF xa as r sc' → W p l e R s m args below meth c H' locs' cells slots Q (F0 m (en.1 + 1) ls sc')) : W p l e R s m args below meth c H locs cells slots Q (F0 m en.1 ls sc) := by
  obtain ⟨hx, hb, -, hown, hts, hXa, -⟩ := C
  obtain ⟨hK, hP, hD, hS, hW⟩ := I
  obtain ⟨pc, ins, len, a0, b0, w0⟩ := en
  obtain ⟨⟨hd, hn⟩, he⟩ := he
  dsimp only at hd hn he hp k ⊢
  rw [hn] at hd
  unfold zas at hp
  split at hp
  · cases hp
  rename_i v j q1 r1 h1
  have e1 := zvir_eq h1
  subst e1
  match sc, hf with
  | w0 :: w1 :: w2 :: sc', hf =>
  obtain ⟨hw0, hw1, ⟨a2, h11, h12⟩, hf2⟩ := hf
  have hw1 : w1 = .int j := hw1
  subst hw1; subst h12
  split at hp
  · rename_i x n f h2
    have hw0 : w0 = .int x := hw0
    subst hw0
    cases hz : zin j n with
    | false => rw [hz, cond_false] at hp; cases hp
    | true =>
    rw [hz, cond_true] at hp; cases hp
    obtain ⟨a1, d1, h4, h5, h6⟩ := hW.2.2 _ _ h2
    cases h4.symm.trans h11
    match d1, h6 with
    | .inl (cA, n9, .inl g), h6 =>
      obtain ⟨h7, ⟨t0, h8⟩, h9⟩ := h6
      have h7 : n = n9 := h7
      have h9 : f = g := h9
      subst h7; subst h9
      exact va_iast hx hb hK hP hD hS q1 t0 h5 h8 (zin_in hz) hd (fun H1 locs1 hP1 hD1 hS1 => k _ H1 locs1 sc' ⟨hK, hP1, hD1, hS1, zW_set hW h4 ⟨rfl, ⟨t0, h8⟩, rfl⟩⟩ hf2)
  · rename_i x n f h2
    have hw0 : w0 = .int x := hw0
    subst hw0
    cases hz : zin j n with
    | false => rw [hz, cond_false] at hp; cases hp
    | true =>
    rw [hz, cond_true] at hp; cases hp
    obtain ⟨a1, d1, h4, h5, h6⟩ := hW.2.2 _ _ h2
    cases h4.symm.trans h11
    match d1, h6 with
    | .inl (cA, n9, .inl g), h6 =>
      obtain ⟨h7, ⟨t0, h8⟩, h9⟩ := h6
      have h7 : n = n9 := h7
      have h9 : f = g := h9
      subst h7; subst h9
      exact va_zast hx hb hK hP hD hS q1 t0 h5 h8 (zin_in hz) hd (fun H1 locs1 hP1 hD1 hS1 => k _ H1 locs1 sc' ⟨hK, hP1, hD1, hS1, zW_set hW h4 ⟨rfl, ⟨t0, h8⟩, rfl⟩⟩ hf2)
  · rename_i w n f h2
    split at hp
    · rename_i fs h3
      cases hz : zin j n with
      | false => rw [hz, cond_false] at hp; cases hp
      | true =>
      rw [hz, cond_true] at hp; cases hp
      obtain ⟨a1, d1, h4, h5, h6⟩ := hW.2.2 _ _ h2
      obtain ⟨a9, d9, k4, k5, k6⟩ := hW.2.2 _ _ h3
      obtain ⟨a8, k7, k8⟩ := hw0
      subst k8
      cases k4.symm.trans k7
      cases h4.symm.trans h11
      match d1, h6, d9, k6, k5 with
      | .inl (cA, n9, .inr (.inr (.inr (.inr g)))), h6, .inr (ci9, vs9), k6, k5 =>
        obtain ⟨h7, ⟨t0, h8⟩, h9⟩ := h6
        have h7 : n = n9 := h7
        have k9 : 2 = ci9 := k6.1
        subst h7; subst k9
        obtain ⟨cq, c1, c2⟩ := hcl2
        exact va_astq hx hb hK hP hD hS q1 t0 w 2 h5 (by rw [c2]; exact h8) k5 c1 (zin_in hz) hd (fun H1 locs1 hP1 hD1 hS1 => k _ H1 locs1 sc' ⟨hK, hP1, hD1, hS1, zW_set hW h4 ⟨rfl, ⟨t0, h8⟩, fun jj => by
          unfold va_up
          by_cases ej : jj = j.toNatClampNeg
          · rw [if_pos ej, if_pos ej]; exact ⟨a9, k4, rfl⟩
          · rw [if_neg ej, if_neg ej]; exact h9 jj⟩⟩ hf2)
    · cases hp
  · rename_i w n f h2
    split at hp
    · rename_i fs h3
      cases hz : zin j n with
      | false => rw [hz, cond_false] at hp; cases hp
      | true =>
      rw [hz, cond_true] at hp; cases hp
      obtain ⟨a1, d1, h4, h5, h6⟩ := hW.2.2 _ _ h2
      obtain ⟨a9, d9, k4, k5, k6⟩ := hW.2.2 _ _ h3
      obtain ⟨a8, k7, k8⟩ := hw0
      subst k8
      cases k4.symm.trans k7
      cases h4.symm.trans h11
      match d1, h6, d9, k6, k5 with
      | .inl (cA, n9, .inr (.inr (.inr (.inr g)))), h6, .inr (ci9, vs9), k6, k5 =>
        obtain ⟨h7, ⟨t0, h8⟩, h9⟩ := h6
        have h7 : n = n9 := h7
        have k9 : 9 = ci9 := k6.1
        subst h7; subst k9
        obtain ⟨cq, c1, c2⟩ := hcl9
        exact va_astq hx hb hK hP hD hS q1 t0 w 9 h5 (by rw [c2]; exact h8) k5 c1 (zin_in hz) hd (fun H1 locs1 hP1 hD1 hS1 => k _ H1 locs1 sc' ⟨hK, hP1, hD1, hS1, zW_set hW h4 ⟨rfl, ⟨t0, h8⟩, fun jj => by
          unfold va_up
          by_cases ej : jj = j.toNatClampNeg
          · rw [if_pos ej, if_pos ej]; exact ⟨a9, k4, rfl⟩
          · rw [if_neg ej, if_neg ej]; exact h9 jj⟩⟩ hf2)
    · cases hp
  · rename_i x n f h2
    have hw0 : w0 = .long x := hw0
    subst hw0
    cases hz : zin j n with
    | false => rw [hz, cond_false] at hp; cases hp
    | true =>
    rw [hz, cond_true] at hp; cases hp
    obtain ⟨a1, d1, h4, h5, h6⟩ := hW.2.2 _ _ h2
    cases h4.symm.trans h11
    match d1, h6 with
    | .inl (cA, n9, .inr (.inl g)), h6 =>
      obtain ⟨h7, ⟨t0, h8⟩, h9⟩ := h6
      have h7 : n = n9 := h7
      have h9 : f = g := h9
      subst h7; subst h9
      exact va_last hx hb hK hP hD hS q1 t0 h5 h8 (zin_in hz) hd (fun H1 locs1 hP1 hD1 hS1 => k _ H1 locs1 sc' ⟨hK, hP1, hD1, hS1, zW_set hW h4 ⟨rfl, ⟨t0, h8⟩, rfl⟩⟩ hf2)
  · cases hp
theorem zs_op2 (C : zCx p s m args meth c Ts X xa sf n0 M) (he : zEok Ts cl sf M en) {x y v : Int32} (hp : zop2 en.2.1 x y = some v)
    (k : W p l e R s m args below meth c H locs cells slots Q (F0 m (en.1 + 1) ls (.int v :: sc))) : W p l e R s m args below meth c H locs cells slots Q (F0 m en.1 ls (.int y :: .int x :: sc)) := by
  obtain ⟨hx, hb, -, hown, hts, hXa, -⟩ := C
  obtain ⟨pc, ins, len, a0, b0, w0⟩ := en
  obtain ⟨⟨hd, hn⟩, he⟩ := he
  dsimp only at hd hn he hp k ⊢
  rw [hn] at hd
  unfold zop2 at hp
  split at hp
  · cases hp; exact lv_iadd hx hb hd k
  · cases hp; exact lv_isub hx hb hd k
  · cases hp; exact lv_imul hx hb hd k
  · cases hp; exact lv_iand hx hb hd k
  · cases hp; exact lv_ior hx hb hd k
  · cases hp; exact lv_ishl hx hb hd k
  · cases hp; exact lv_ishr hx hb hd k
  · cases hz : decide (y = 0) with
    | true => rw [hz, cond_true] at hp; cases hp
    | false => rw [hz, cond_false] at hp; cases hp; exact lv_idiv hx hb hd (of_decide_eq_false hz) k
  · cases hz : decide (y = 0) with
    | true => rw [hz, cond_true] at hp; cases hp
    | false => rw [hz, cond_false] at hp; cases hp; exact lv_irem hx hb hd (of_decide_eq_false hz) k
  · cases hp
theorem zV_cat {v w : Value} (hv : zV xa as v w) (hc : v.category = 1) : w.category = 1 := by
  cases v with
  | int x => rw [show w = .int x from hv]; rfl
  | long x => cases hc
  | null => rw [show w = .null from hv]; rfl
  | ref k => obtain ⟨a, -, rfl⟩ := hv; rfl
  | retAddr k => obtain ⟨a, -, rfl⟩ := hv; rfl
  | float b => exact hv.elim
  | double b => exact hv.elim
theorem zs_stk (C : zCx p s m args meth c Ts X xa sf n0 M) (he : zEok Ts cl sf M en) {r : List Value} (hp : zstk en.2.1 X st = some r) (hS : va_S (zA n0) s.heap H locs) (hf : zF xa as st sc)
    (k : ∀ sc' : List Value, zF xa as r sc' → W p l e R s m args below meth c H locs cells slots Q (F0 m (en.1 + 1) ls sc')) : W p l e R s m args below meth c H locs cells slots Q (F0 m en.1 ls sc) := by
  obtain ⟨hx, hb, -, hown, hts, hXa, -⟩ := C
  obtain ⟨pc, ins, len, a0, b0, w0⟩ := en
  obtain ⟨⟨hd, hn⟩, he⟩ := he
  dsimp only at hd hn he hp k ⊢
  rw [hn] at hd
  unfold zstk at hp
  split at hp
  · rename_i v r1
    match sc, hf with
    | w :: sc', hf =>
    cases hz : Nat.beq v.category 1 with
    | false => rw [hz, cond_false] at hp; cases hp
    | true =>
    rw [hz, cond_true] at hp; cases hp
    exact lv_dup hx hb hd (zV_cat hf.1 (Nat.eq_of_beq_eq_true hz)) (k _ ⟨hf.1, hf.1, hf.2⟩)
  · rename_i v v2 r1
    match sc, hf with
    | w :: w2 :: sc', hf =>
    cases hz : Nat.beq v.category 1 && Nat.beq v2.category 1 with
    | false => rw [hz, cond_false] at hp; cases hp
    | true =>
    rw [hz, cond_true] at hp; cases hp
    rw [Bool.and_eq_true] at hz
    exact lv_dup2_11 hx hb hd (zV_cat hf.1 (Nat.eq_of_beq_eq_true hz.1)) (zV_cat hf.2.1 (Nat.eq_of_beq_eq_true hz.2)) (k _ ⟨hf.1, hf.2.1, hf.1, hf.2.1, hf.2.2⟩)
  · rename_i v r1
    match sc, hf with
    | w :: sc', hf =>
    cases hz : Nat.beq v.category 1 with
    | false => rw [hz, cond_false] at hp; cases hp
    | true =>
    rw [hz, cond_true] at hp; cases hp
    exact lv_pop hx hb hd (zV_cat hf.1 (Nat.eq_of_beq_eq_true hz)) (k _ hf.2)
  · rename_i x r1
    match sc, hf with
    | w :: sc', hf =>
    cases hp
    rw [show w = .int x from hf.1]
    exact lv_i2l hx hb hd rfl (k _ ⟨rfl, hf.2⟩)
  · rename_i x r1
    match sc, hf with
    | w :: sc', hf =>
    cases hp
    rw [show w = .int x from hf.1]
    exact lv_ineg hx hb hd (k _ ⟨rfl, hf.2⟩)
  · rename_i y x r1
    match sc, hf with
    | w :: w2 :: sc', hf =>
    cases hp
    rw [show w = .long y from hf.1, show w2 = .long x from hf.2.1]
    exact W.lcmp hx hb hd (k _ ⟨rfl, hf.2.2⟩)
  · rename_i q r1
    match sc, hf with
    | w :: sc', hf =>
    cases hp
    obtain ⟨⟨a2, h11, h12⟩, hf2⟩ := hf
    subst h12
    exact va_tlen hx hb (hXa q a2 h11) hS rfl hd (k _ ⟨rfl, hf2⟩)
  · cases hp
end ZST
end
section
/-! ONE STEP, WHOLE -/
section ZSO
variable {p : Program} {l : Launch} {e : Env} {R : Room} {s : State} {m : MethodId} {args : Array Value} {below : List Frame} {meth : Method} {c : Code} {H : Heap} {locs : List Loc} {cells slots : Nat} {Q : State → Prop}
variable {Ts : List Cond} {cl : List vw_C} {FT : zFT} {X : zX} {xa : List Nat} {sf : Nat → String × String × String} {n0 : Nat} {M : zM} {D : va_G} {tys : List (ClassId × FieldType)} {as : List Nat} {ws : va_W} {h : zH} {ls : Array Slot} {sc : List Value} {lo lv : zL} {st : List Value} {en : zN}
/-- what is known of the system: its classes, its static arrays' names -/
def zSy (Ts : List Cond) (cl : List vw_C) (FT : zFT) (M : zM) : Prop := zCl Ts cl FT ∧ (∃ q : vw_C, cl[2]? = some q ∧ q.1 = "NestedPager$Guest") ∧ (∃ q : vw_C, cl[9]? = some q ∧ q.1 = "NestedPager$Vcpu") ∧ ((zKind M).1 = 2 → ∀ q : vw_C, cl[(zKind M).2.1]? = some q → q.1 = (zName M).cls)
theorem zstep_ok (S : zSy Ts cl FT M) (C : zCx p s m args meth c Ts X xa sf n0 M) (he : zEok Ts cl sf M en) (hsf : ∀ k : Nat, en.2.1 = .getstatic k → (sf en.2.2.2.1).1 ≠ "") {pc' : Nat} {lo' : zL} {st' : List Value} {h' : zH} (hp : zstep M FT X en lo st h = some (pc', lo', st', h'))
    (I : zI D cl xa n0 s tys as ws h H locs) (hf : zF xa as st sc) (hl : lv_has ls (zMaxL M) lv) (hg : zG xa as lo lv)
    (k : ∀ (ws' : va_W) (H' : Heap) (locs' : List Loc) (ls' : Array Slot) (lv' : zL) (sc' : List Value), zI D cl xa n0 s tys as ws' h' H' locs' → zF xa as st' sc' → lv_has ls' (zMaxL M) lv' → zG xa as lo' lv' → W p l e R s m args below meth c H' locs' cells slots Q (F0 m pc' ls' sc')) :
    W p l e R s m args below meth c H locs cells slots Q (F0 m en.1 ls sc) := by
  obtain ⟨hcl, hc2, hc9, hMc⟩ := S
  have hS : va_S (zA n0) s.heap H locs := I.2.2.2.1
  unfold zstep at hp
  split at hp
  · rename_i v n h1
    cases hp
    exact zs_push C he h1 (k ws H locs ls lv _ I ⟨rfl, hf⟩ hl hg)
  split at hp
  · rename_i i n b h1
    split at hp
    · rename_i v h2
      cases hb : (bif b then zisr v else zisi v) with
      | false => rw [hb, cond_false] at hp; cases hp
      | true =>
        rw [hb, cond_true] at hp; cases hp
        exact zs_lod C he h1 h2 hb hl hg (fun w hw => k ws H locs ls lv _ I ⟨hw, hf⟩ hl hg)
    · cases hp
  split at hp
  · rename_i i n b h1
    split at hp
    · rename_i v r
      match sc, hf with
      | w :: sc', hf =>
      cases hb : Nat.blt i (zMaxL M) && (bif b then zisr v else zisi v) with
      | false => rw [hb, cond_false] at hp; cases hp
      | true =>
        rw [hb, cond_true] at hp; cases hp
        rw [Bool.and_eq_true] at hb
        exact zs_sto C he h1 hf.1 (Nat.le_of_ble_eq_true hb.1) hb.2 hl hg (fun ls' lv' hl' hg' => k ws H locs ls' lv' _ I hf.2 hl' hg')
    · cases hp
  split at hp
  · rename_i t r h1
    cases hp
    exact zs_jmp C he h1 hf (fun sc' hf' => k ws H locs ls lv _ I hf' hl hg)
  split at hp
  · rename_i i n h1
    split at hp
    · rename_i x h2
      cases hb : Nat.blt i (zMaxL M) with
      | false => rw [hb, cond_false] at hp; cases hp
      | true =>
        rw [hb, cond_true] at hp; cases hp
        obtain ⟨j, w, g1, g2⟩ := zG_get hg h2
        have g2 : w = .int x := g2
        subst g2
        obtain ⟨hx, hb9, -⟩ := C
        obtain ⟨⟨hd, hn⟩, -⟩ := he
        rw [h1] at hd hn
        rw [hn] at hd
        exact lv_iinc hx hb9 hd hl g1 rfl (Nat.le_of_ble_eq_true hb) rfl (fun ls' hl' => k ws H locs ls' _ _ I hf hl' ⟨⟨rfl, rfl, rfl⟩, zG_filter hg⟩)
    · cases hp
  · rename_i ix h1
    split at hp
    · rename_i v r h2
      cases hp
      exact zs_get hcl C he h1 h2 I hf (fun w sc' hw hf' => k ws H locs ls lv _ I ⟨hw, hf'⟩ hl hg)
    · cases hp
  · rename_i ix h1
    split at hp
    · rename_i r h2 hq
      cases hp
      exact zs_put hcl C hMc he h1 hq I hf (fun ws' H' locs' sc' I' hf' => k ws' H' locs' ls lv _ I' hf' hl hg)
    · cases hp
  · rename_i ix h1
    cases hp
    have hne := hsf ix h1
    obtain ⟨⟨hd, hn⟩, hlk⟩ := he
    rw [h1] at hd hn hlk
    rw [hn] at hd
    obtain ⟨hx, hb9, -, hown, hts, hXa, hst, -⟩ := C
    obtain ⟨t, g1, g2⟩ := hst _ hne
    exact va_gets hx hb9 g2 hS hown (hts _ hlk) (fun _ h9 => h9) hd (k ws H locs ls lv _ I ⟨⟨t, g1, rfl⟩, hf⟩ hl hg)
  · split at hp
    · rename_i v r h2
      cases hp
      exact zs_al C he h2 I hf (fun w sc' hw hf' => k ws H locs ls lv _ I ⟨hw, hf'⟩ hl hg)
    · split at hp
      · rename_i r hh h2
        cases hp
        exact zs_as hc2 hc9 C he h2 I hf (fun ws' H' locs' sc' I' hf' => k ws' H' locs' ls lv _ I' hf' hl hg)
      · split at hp
        · rename_i x y r h2
          split at hp
          · rename_i v h3
            cases hp
            obtain ⟨sc', rfl, hf'⟩ := zF_2 h2 hf
            exact zs_op2 C he h3 (k ws H locs ls lv _ I ⟨rfl, hf'⟩ hl hg)
          · split at hp
            · rename_i st2 h3
              cases hp
              exact zs_stk C he h3 hS hf (fun sc' hf' => k ws H locs ls lv _ I hf' hl hg)
            · cases hp
        · split at hp
          · rename_i st2 h3
            cases hp
            exact zs_stk C he h3 hS hf (fun sc' hf' => k ws H locs ls lv _ I hf' hl hg)
          · cases hp
end ZSO
end
section
/-! BODIES of methods: calls, makings, ends; a call by its depth -/
def zWt (st : List Value) : Nat := (st.map fun v => v.category).sum
def zpk (n : Nat) (st : List Value) : Option (List Value × List Value) := bif Nat.ble n st.length then some ((st.take n).reverse, st.drop n) else none
def zfitr (M M' : zM) (nc ns : Nat) : Bool := Nat.ble ((zRoom M').1 + 1) (zRoom M).1 && (Nat.ble (8 + (zMaxL M' + 11) + (zRoom M').2.1) (zRoom M).2.1 && (Nat.ble (nc + (zRoom M').2.2.1) (zRoom M).2.2.1 && Nat.ble (ns + (zRoom M').2.2.2) (zRoom M).2.2.2))
def zcl : Instr → Option Nat
  | .invokevirtual _ => some 0
  | .invokestatic _ => some 1
  | .invokespecial _ => some 2
  | _ => none
def zrec (kd : Nat) (M' : zM) (a : List Value) (h : zH) : Bool := match a with
  | .ref b :: _ => (match h[b]? with
    | some (.inr (ci, _)) => Nat.beq kd 1 || Nat.beq ci (zKind M').2.1
    | _ => Nat.beq kd 1)
  | _ => Nat.beq kd 1
def zinv (Pg : List zM) (M : zM) (en : zN) (kd : Nat) (st : List Value) (h : zH) (nc ns : Nat) : Option (zM × List Value × List Value) :=
  match Pg[en.2.2.2.1]? with
  | some M' => (match zpk (en.2.2.2.2.2 + (bif Nat.beq kd 1 then 0 else 1)) st with
    | some (a, r) => bif a.all zpl && Nat.ble en.2.2.2.2.1 1 && (Nat.beq (zKind M').1 kd && (Nat.ble (zWt r) 8 && (zfitr M M' nc ns && zrec kd M' a h))) then some (M', a, r) else none
    | none => none)
  | none => none
def zdv : FieldType → Value
  | .int => .int 0
  | .boolean => .int 0
  | _ => .null
def zdef (FT : zFT) (FN : Nat → Nat) (a : Nat) : List Value := (List.range (FN a)).map fun k => zdv (FT a k).1
def zkd : ArrayType → Option Nat
  | .int => some 0
  | .boolean => some 1
  | .long => some 2
  | _ => none
def zini (kd : Nat) : (Nat → Int32) ⊕ (Nat → Int64) ⊕ (Nat → UInt32) ⊕ (Nat → UInt64) ⊕ (Nat → Option Nat) := match kd with
  | 0 => .inl fun _ => 0
  | 1 => .inl fun _ => 0
  | 2 => .inr (.inl fun _ => 0)
  | _ => .inr (.inr (.inr (.inr fun _ => none)))
def zhand (tab : List (Nat × Nat × Nat × Nat)) (pc k : Nat) : Option Nat := match tab with
  | [(a, b, t, _)] => bif Nat.beq k 0 && (Nat.ble a pc && Nat.blt pc b) then some t else none
  | [(a, b, t, _), (a2, b2, t2, _)] => bif Nat.ble a pc && (Nat.blt pc b && (Nat.ble a2 pc && Nat.blt pc b2)) then (bif Nat.beq k 0 then some t else (bif Nat.beq k 1 then some t2 else none)) else none
  | _ => none
/-- an answer: by the type of the method -/
def zend (i : Instr) (ret : Option FieldType) (st : List Value) : Option (Option Value) := match i, ret, st with
  | .ireturn, some .int, [.int x] => some (some (.int x))
  | .ireturn, some .boolean, [.int x] => bif decide (x = 0) || decide (x = 1) then some (some (.int x)) else none
  | .areturn, some (.object _), [.ref k] => some (some (.ref k))
  | .return_, none, [] => some none
  | _, _, _ => none
/-- a making: its length, the stack behind it, the new cell, its slots -/
def zmak (FT : zFT) (FN : Nat → Nat) (en : zN) (st : List Value) : Option (Nat × List Value × zE × Nat) := match en.2.1 with
  | .new _ => bif Nat.beq en.2.2.2.2.1 1 then none else some (3, st, .inr (en.2.2.2.1, zdef FT FN en.2.2.2.1), FN en.2.2.2.1)
  | .newarray t => (match z1 st, zkd t with
    | some (n, r), some kd => bif decide (¬ n < 0) && Nat.ble n.toNatClampNeg 65536 then some (2, r, .inl (kd, n.toNatClampNeg, zini kd), n.toNatClampNeg) else none
    | _, _ => none)
  | .anewarray _ => (match z1 st with
    | some (n, r) => bif decide (¬ n < 0) && (Nat.ble n.toNatClampNeg 65536 && (Nat.beq en.2.2.2.1 3 || Nat.beq en.2.2.2.1 4)) then some (3, r, .inl (en.2.2.2.1, n.toNatClampNeg, .inr (.inr (.inr (.inr fun _ => none)))), n.toNatClampNeg) else none
    | none => none)
  | _ => none
/-- Object's constructor, Math.min: the stack behind it -/
def zown (M : zM) (en : zN) (st : List Value) : Option (List Value) := match en.2.1, en.2.2.2.2.1 with
  | .invokespecial _, 2 => (match zr1 st with
    | some (_, r) => bif Nat.ble 1 (zRoom M).1 && Nat.ble (zWt r + 12) (zRoom M).2.1 then some r else none
    | none => none)
  | .invokestatic _, 3 => (match z2 st with
    | some (x, y, r) => bif Nat.ble 1 (zRoom M).1 && Nat.ble (zWt r + 13) (zRoom M).2.1 then some (.int (if y < x then y else x) :: r) else none
    | none => none)
  | _, _ => none
def zbody (Pg : List zM) (FT : zFT) (FN : Nat → Nat) (X : zX) (call : Nat → List Value → zH → Option (zO × zH)) (M : zM) : Nat → Nat → zL → List Value → zH → Nat → Nat → Option (zO × zH)
  | 0, _, _, _, _, _, _ => none
  | f + 1, pc, lo, st, h, nc, ns => match zfind (zIns M) pc with
    | none => none
    | some en => match zend en.2.1 (zRet M) st with
      | some r => some (.inl r, h)
      | none => match zmak FT FN en st with
        | some (n, r, c, k) => bif Nat.blt nc (zRoom M).2.2.1 && Nat.ble (ns + k) (zRoom M).2.2.2 then zbody Pg FT FN X call M f (pc + n) lo (.ref h.length :: r) (h ++ [c]) (nc + 1) (ns + k) else none
        | none => match zown M en st with
          | some st' => zbody Pg FT FN X call M f (pc + 3) lo st' h nc ns
          | none => match zcl en.2.1 with
            | some kd => (match zinv Pg M en kd st h nc ns with
              | some (M', a, r) => (match call en.2.2.2.1 a h with
                | some (.inl v, h') => zbody Pg FT FN X call M f (pc + 3) lo (v.toList ++ r) h' (nc + (zRoom M').2.2.1) (ns + (zRoom M').2.2.2)
                | some (.inr k, h') => bif Nat.beq kd 2 || (Nat.beq en.2.2.2.2.1 1 || !(zTab M').isEmpty) then none else (match zTab M with
                  | [] => some (.inr k, h')
                  | _ => (match zhand (zTab M) pc k with
                    | some t => (match zfind (zIns M) t with
                      | some en2 => (match zsto en2.2.1 with
                        | some (j, n, true) => bif Nat.blt j (zMaxL M) then zbody Pg FT FN X call M f (t + n) (lo.filter (fun q => !(Nat.beq q.1 j))) [] h' (nc + (zRoom M').2.2.1) (ns + (zRoom M').2.2.2) else none
                        | _ => none)
                      | none => none)
                    | none => none))
                | none => none)
              | none => none)
            | none => (match en.2.1 with
              | .new _ => bif Nat.ble (nc + 1) (zRoom M).2.2.1 && (Nat.ble (ns + 6) (zRoom M).2.2.2 && Nat.ble (zWt st) 8) then some (.inr en.2.2.2.1, h) else none
              | _ => (match zstep M FT X en lo st h with
                | some (pc', lo', st', h') => zbody Pg FT FN X call M f pc' lo' st' h' nc ns
                | none => none))
def zargs : Nat → List Value → zL
  | _, [] => []
  | i, v :: vs => (i, v) :: zargs (i + 1) vs
def zfuel : Nat := 1000000
def zcall (Pg : List zM) (FT : zFT) (FN : Nat → Nat) (X : zX) : Nat → Nat → List Value → zH → Option (zO × zH)
  | 0, _, _, _ => none
  | d + 1, z, a, h => match Pg[z]? with
    | some M => bif Nat.ble a.length (zMaxL M) && a.all (fun v => Nat.beq v.category 1) then zbody Pg FT FN X (zcall Pg FT FN X d) M zfuel 0 (zargs 0 a) [] h 0 0 else none
    | none => none
end
section
/-! CONTRACTS out of the abstract machine's answers -/
def zEn : Nat → String
  | 0 => "java/lang/IllegalArgumentException"
  | _ => "java/lang/IllegalStateException"
def zAn (kd : Nat) : String := if kd = 3 then "NestedPager$Guest" else "NestedPager$Vcpu"
/-- what holds all the time of what lies outside the world -/
def zEnv (X : zX) (xa : List Nat) (sf : Nat → String × String × String) (n0 : Nat) (Nw : List Cond) (Nc : List (String × String)) (U : State) : Prop :=
  n0 ≤ U.heap.size ∧ (∀ (k a : Nat), xa[k]? = some a → va_T .int a (X k).1 (fun j => .int ((X k).2 j)) (zA n0) U U.heap) ∧
  (∀ k : Nat, (sf k).1 ≠ "" → ∃ t : Nat, xa[k]? = some t ∧ va_Z (sf k).1 (sf k).2.1 (sf k).2.2 (.ref t) (zA n0) U U.heap) ∧
  vx_Zq Bundle.tN "UNASSIGNED_STACK" Bundle.steD (zA n0) U U.heap ∧ vx_Zq Bundle.tN "SUPPRESSED_SENTINEL" Bundle.listD (zA n0) U U.heap ∧
  (∀ w ∈ Nw, va_Nw w U) ∧ (∀ q ∈ Nc, va_Nc q.1 q.2 U) ∧ va_AO "NestedPager$Guest" U ∧ va_AO "NestedPager$Vcpu" U
/-- the words that move only by laws of their own -/
def zNwOk (Nw : List Cond) : Prop := ∀ w ∈ Nw, (∃ a i x h, w = .methodLinkNest a i x h) ∨ (∃ C T, w = .castable C T) ∨ ∃ x, w = .declares x
theorem zNc_moved {C T : String} {u U : State} (hvm : u.vm.Alike U.vm) (h : va_Nc C T u) : va_Nc C T U := by
  obtain ⟨c, t, h1, h2, h3⟩ := h
  exact ⟨c, t, by rw [hvm.findClass]; exact h1, by rw [hvm.findClass]; exact h2, by rw [hvm.assignable]; exact h3⟩
theorem zEnv_to {X : zX} {xa : List Nat} {sf : Nat → String × String × String} {n0 : Nat} {Nw : List Cond} {Nc : List (String × String)} (hN : zNwOk Nw) {s U : State} {H : Heap} {locs : List Loc} (hE : zEnv X xa sf n0 Nw Nc s) (hS : va_S (zA n0) s.heap H locs) (hU : U.heap = H) (hW : s.WarmedH U.vm) : zEnv X xa sf n0 Nw Nc U := by
  obtain ⟨h1, h2, h3, h4, h5, h6, h7, h8, h9⟩ := hE
  subst hU
  have ha := hW.alike
  refine ⟨Nat.le_trans h1 hS.1, fun k a hk => (va_T.moved ha (h2 k a hk)).kept hS.2.1, fun k hk => ?_, (vx_Zq.moved ha h4).kept hS.2.1, (vx_Zq.moved ha h5).kept hS.2.1, fun w hw => ?_, fun q hq => zNc_moved ha (h7 q hq), va_AO.moved ha h8, va_AO.moved ha h9⟩
  · obtain ⟨t, g1, g2⟩ := h3 k hk
    exact ⟨t, g1, (va_Z.moved ha g2).kept hS.2.1⟩
  · rcases hN w hw with ⟨a, i, x, h, rfl⟩ | ⟨C, T, rfl⟩ | ⟨x, rfl⟩
    · exact va_Nw.warmM hW (h6 _ hw)
    · exact va_Nw.warmC hW (h6 _ hw)
    · exact va_Nw.warmD hW (h6 _ hw)
theorem zEnv_calling {X : zX} {xa : List Nat} {sf : Nat → String × String × String} {n0 : Nat} {Nw : List Cond} {Nc : List (String × String)} {U : State} (hN : zNwOk Nw) (hE : zEnv X xa sf n0 Nw Nc U) (g : JFrame) (mk : MethodId) (a : Array Value) : zEnv X xa sf n0 Nw Nc (U.calling g mk a) := by
  obtain ⟨h1, h2, h3, h4, h5, h6, h7, h8, h9⟩ := hE
  have ha : U.vm.Alike (U.calling g mk a).vm := Vm.Alike.refl U.vm
  refine ⟨h1, fun k a hk => va_T.moved ha (h2 k a hk), fun k hk => ?_, vx_Zq.moved ha h4, vx_Zq.moved ha h5, fun w hw => va_Nw.same (u := U) (by rcases hN w hw with ⟨a, i, x, h, rfl⟩ | ⟨C, T, rfl⟩ | ⟨x, rfl⟩ <;> rfl) rfl (h6 w hw), fun q hq => zNc_moved ha (h7 q hq), va_AO.moved ha h8, va_AO.moved ha h9⟩
  obtain ⟨t, g1, g2⟩ := h3 k hk
  exact ⟨t, g1, va_Z.moved ha g2⟩
def zRm (M : zM) : Room := { frames := (zRoom M).1, cells := (zRoom M).2.2.1, slots := (zRoom M).2.2.2, locals := (zRoom M).2.1 }
def zHd (M : zM) : Cond := match zTab M with
  | [] => .code (zName M) (zCode M) (zMaxL M) (zRet M)
  | t => .codeWith (zName M) (zCode M) (zMaxL M) (zRet M) t
section ZCT
variable (X : zX) (xa : List Nat) (sf : Nat → String × String × String) (n0 : Nat) (Nw : List Cond) (Nc : List (String × String)) (D : va_G) (cl : List vw_C) (tys : List (ClassId × FieldType)) (as : List Nat) (ws : va_W) (a' : List Value) (o : zO) (h' : zH)
def zPc : Array Value → State → Prop := va_Pc a' (fun U => zEnv X xa sf n0 Nw Nc U ∧ va_P D cl ws U.heap ∧ va_K D cl tys U ∧ va_D (zA n0) ws)
/-- the world behind a method -/
def zBe (st t : State) (tys' : List (ClassId × FieldType)) (as' : List Nat) (ws' : va_W) : Prop := as <+: as' ∧ tys <+: tys' ∧ zW xa tys' as' h' ws' ∧ va_P D cl ws' t.heap ∧ va_K D cl tys' t ∧ va_D (zA n0) ws' ∧ va_F (zA n0) st t
def zQc : Array Value → State → Outcome → State → Prop := fun _ st oc t => ∃ (r v : Option Value) (tys' : List (ClassId × FieldType)) (as' : List Nat) (ws' : va_W), o = .inl r ∧ oc = .returned v ∧ zF [] as' r.toList v.toList ∧ zBe xa n0 D cl tys as h' st t tys' as' ws'
def zXC : String → State → State → Prop := fun E st t => ∃ (k : Nat) (tys' : List (ClassId × FieldType)) (as' : List Nat) (ws' : va_W), o = .inr k ∧ E = zEn k ∧ zBe xa n0 D cl tys as h' st t tys' as' ws'
end ZCT
/-- the contract of a method at these arguments in this world -/
def zMt (l : Launch) (Ts : List Cond) (X : zX) (xa : List Nat) (sf : Nat → String × String × String) (n0 : Nat) (Nw : List Cond) (Nc : List (String × String)) (D : va_G) (cl : List vw_C) (M : zM) (tys : List (ClassId × FieldType)) (as : List Nat) (ws : va_W) (a' : List Value) (o : zO) (h' : zH) : Prop :=
  vx_Met l (zName M) (zHd M :: Ts) (zRm M) (zPc X xa sf n0 Nw Nc D cl tys ws a') (zQc xa n0 D cl tys as o h') (zXC xa n0 D cl tys as o h') (zRoom M).2.2.1 (zRoom M).2.2.2 (zA n0)
theorem zMet_of {l : Launch} {y : MethodName} {ws : List Cond} {rm : Room} {Pc : Array Value → State → Prop} {Qc : Array Value → State → Outcome → State → Prop} {XC : String → State → State → Prop} {mc ms : Nat} {free : Addr → Prop} (hM : vx_Met l y ws rm Pc Qc XC mc ms free) (hX : ∀ E st t, ¬ XC E st t) : Met l y ws rm Pc Qc mc ms free := by
  intro p e h1 h2 h3 s m args below h4 h5 h6 h7
  obtain ⟨n, o, g1, g2, g3, g4⟩ := hM p e h1 h2 h3 s m args below h4 h5 h6 h7
  refine ⟨n, o, g1, g2, g3, ?_⟩
  rcases g4 with g4 | ⟨q, -, E, ce, L, g5, -⟩
  · exact g4
  · exact absurd g5 (hX _ _ _)
theorem zPc_blind {X : zX} {xa : List Nat} {sf : Nat → String × String × String} {n0 : Nat} {Nw : List Cond} {Nc : List (String × String)} {D : va_G} {cl : List vw_C} {tys : List (ClassId × FieldType)} {ws : va_W} {a' : List Value} (hN : zNwOk Nw) : FrameBlind (zPc X xa sf n0 Nw Nc D cl tys ws a') := by
  intro a U g mk q
  obtain ⟨q0, q1, qP, qK, qD⟩ := q
  exact ⟨q0, zEnv_calling hN q1 g mk a, qP, va_K.moved (u := U) (U := U.calling g mk a) (Vm.Alike.refl U.vm) qK, qD⟩
section ZCR
variable {p : Program} {l : Launch} {e : Env} {R : Room} {s : State} {m : MethodId} {args : Array Value} {below : List Frame} {meth : Method} {c : Code} {H : Heap} {locs : List Loc} {cells slots : Nat} {Q : State → Prop}
variable {X : zX} {xa xac : List Nat} {sf : Nat → String × String × String} {n0 : Nat} {Nw : List Cond} {Nc : List (String × String)} {D : va_G} {cl : List vw_C} {tys : List (ClassId × FieldType)} {as : List Nat} {ws : va_W} {a' : Array Value} {h' : zH} {mc ms pc : Nat} {ls : Array Slot} {st0 rest : List Value}
/-- behind a call that returns -/
theorem z_callR {r : Option Value} (hr : va_Run p l e R s m args below meth c H locs cells slots mc ms (F0 m pc ls st0) rest (zQc xac n0 D cl tys as (.inl r) h' a') (zA n0)) (hS : va_S (zA n0) s.heap H locs)
    (kk : ∀ (v : Option Value) (tys' : List (ClassId × FieldType)) (as' : List Nat) (ws' : va_W) (H1 : Heap) (locs1 : List Loc), zF [] as' r.toList v.toList → as <+: as' → tys <+: tys' → zI D cl xa n0 s tys' as' ws' h' H1 locs1 → W p l e R s m args below meth c H1 locs1 (cells + mc) (slots + ms) Q (F0 m (pc + 3) ls (v.toList ++ rest))) : W p l e R s m args below meth c H locs cells slots Q (F0 m pc ls st0) := by
  intro T hT X9
  obtain ⟨v, st₀, t, T', L, h0, X', hL, e1, e2, ⟨r', v', tys', as', ws', hr1, hv, hF, g1, g2, g3, g4, g5, g6, g7⟩, st⟩ := hr T hT X9
  cases hr1
  cases hv
  obtain ⟨k1, k2, k3⟩ := vx_keep h0 e1 hS (fun _ _ h => h) (fun _ h => h) hL g7
  have hal : s.vm.Alike t.vm := by rw [← e2]; exact X'.warmed.alike
  obtain ⟨t2, a1, b1⟩ := kk v tys' as' ws' T'.heap (locs ++ L) hF g1 g2 ⟨va_K.moved hal.symm g5, by rw [e1]; exact g4, g6, k3, g3⟩ T' rfl X'
  exact ⟨t2, st t2 a1, b1⟩
/-- behind a call that throws -/
theorem z_callX {k : Nat} (hr : vx_Run p l e R s m args below meth c H locs cells slots mc ms (F0 m pc ls st0) rest (zQc xac n0 D cl tys as (.inr k) h' a') (zXC xac n0 D cl tys as (.inr k) h') (zA n0)) (hS : va_S (zA n0) s.heap H locs)
    (kx : ∀ (ce : Cell) (q9 : Addr) (tys' : List (ClassId × FieldType)) (as' : List Nat) (ws' : va_W) (H1 : Heap) (locs1 : List Loc), as <+: as' → tys <+: tys' → zI D cl xa n0 s tys' as' ws' h' H1 locs1 → H1[q9]? = some ce → ce.vm = .none → s.vm.findClass (zEn k) = some ce.cls → vx_W p l e R s m args below meth c H1 locs1 (cells + mc) (slots + ms) Q (F0 m pc ls rest) q9) : W p l e R s m args below meth c H locs cells slots Q (F0 m pc ls st0) := by
  intro T hT X9
  rcases hr T hT X9 with ⟨v, st₀, t, T', L, h0, X', hL, e1, e2, ⟨r', v', tys', as', ws', hr1, -⟩, st⟩ | ⟨q, st₀, t, T', L, E, ce, h0, X', hL, e1, e2, ⟨k', tys', as', ws', hk1, hE, g1, g2, g3, g4, g5, g6, g7⟩, hce, hcv, hcl, st⟩
  · cases hr1
  · cases hk1
    subst hE
    obtain ⟨k1, k2, k3⟩ := vx_keep h0 e1 hS (fun _ _ h => h) (fun _ h => h) hL g7
    have hal : s.vm.Alike t.vm := by rw [← e2]; exact X'.warmed.alike
    obtain ⟨t2, a1, b1⟩ := kx ce q tys' as' ws' T'.heap (locs ++ L) g1 g2 ⟨va_K.moved hal.symm g5, by rw [e1]; exact g4, g6, k3, g3⟩ (by rw [e1]; exact hce) hcv hcl T' rfl X'
    exact ⟨t2, st.trans a1, b1⟩
end ZCR
end
section
/-! A BODY IS TRUE OF THE MACHINE, if its calls are -/
def zIx : Instr → Nat
  | .invokevirtual k => k
  | .invokestatic k => k
  | .invokespecial k => k
  | _ => 0
def zIok (Ts Nw : List Cond) (Pg : List zM) (M : zM) (en : zN) : Prop := ∀ kd : Nat, zcl en.2.1 = some kd → match en.2.2.2.2.1 with
  | 2 => Cond.methodLink (zName M).cls (zIx en.2.1) Lib.objectInit ∈ Ts ∧ Cond.instanceMethod Lib.objectInit ∈ Ts ∧ Cond.code Lib.objectInit ⟨#[0xb1]⟩ 1 none ∈ Ts
  | 3 => Cond.methodLink (zName M).cls (zIx en.2.1) Lib.Math.min.name ∈ Ts ∧ Cond.static Lib.Math.min.name ∈ Ts ∧ Cond.initialized "java/lang/Math" ∈ Ts ∧ Cond.code Lib.Math.min.name Lib.Math.min.code 2 (some .int) ∈ Ts
  | b => ∀ M' : zM, Pg[en.2.2.2.1]? = some M' → ((kd ≠ 0 ∧ b = 1 ∧ zTab M' = [] ∧ ∃ host : String, Cond.methodLinkNest (zName M).cls (zIx en.2.1) (zName M') host ∈ Nw) ∨ Cond.methodLink (zName M).cls (zIx en.2.1) (zName M') ∈ Ts) ∧ (parseMethodDescriptor (zName M').desc).map (fun d => d.parameters.length) = some en.2.2.2.2.2
def zMok (Ts : List Cond) (cl : List vw_C) (M : zM) : Prop := zHd M ∈ Ts ∧ Cond.initialized (zName M).cls ∈ Ts ∧ ((zName M).cls ≠ "java/lang/invoke/MethodHandle" ∧ (zName M).cls ≠ "java/lang/invoke/VarHandle") ∧ plainName (zName M).cls = true ∧
  ((zKind M).1 = 0 → Cond.instanceMethod (zName M) ∈ Ts ∧ Cond.selects (zName M).cls (zName M) (zName M) ∈ Ts ∧ (∃ q : vw_C, cl[(zKind M).2.1]? = some q ∧ q.1 = (zName M).cls) ∧ zTab M = []) ∧ ((zKind M).1 = 1 → Cond.static (zName M) ∈ Ts) ∧
  ((zKind M).1 = 2 → Cond.instanceMethod (zName M) ∈ Ts ∧ (zName M).name = "<init>" ∧ zRet M = none ∧ zTab M = [])
def zKok (Ts : List Cond) (cl : List vw_C) (FT : zFT) (FN : Nat → Nat) (M : zM) (en : zN) : Prop := match en.2.1 with
  | .new ix => en.2.2.2.2.1 ≠ 1 → ∃ q : vw_C, cl[en.2.2.2.1]? = some q ∧ q.2.2 = FN en.2.2.2.1 ∧ Cond.classLink (zName M).cls ix q.1 ∈ Ts ∧ Cond.instantiable q.1 (FN en.2.2.2.1) ∈ Ts ∧ Cond.initialized q.1 ∈ Ts ∧ ∀ j, j < FN en.2.2.2.1 → defaultValue (FT en.2.2.2.1 j).1 = zdv (FT en.2.2.2.1 j).1
  | .newarray t => Cond.arrayClass (newarray.typeOf t) ∈ Ts
  | .anewarray ix => Cond.classLink (zName M).cls ix (zAn en.2.2.2.1) ∈ Ts
  | _ => True
theorem zdv_V {xa as : List Nat} (ty : FieldType) : zV xa as (zdv ty) (zdv ty) := by
  cases ty <;> exact rfl
theorem zdv_F {xa as : List Nat} (g : Nat → FieldType) : ∀ l : List Nat, zF xa as (l.map fun k => zdv (g k)) (l.map fun k => zdv (g k))
  | [] => trivial
  | k :: l => by
    exact ⟨zdv_V (g k), zdv_F g l⟩
theorem zdef_V {FT : zFT} {FN : Nat → Nat} {a j : Nat} (hj : j < FN a) : vp_V (zdef FT FN a) j = zdv (FT a j).1 := by
  unfold vp_V zdef
  simp [List.getD, hj]
theorem zF_app {xa as : List Nat} : ∀ {x y sc : List Value}, zF xa as (x ++ y) sc → ∃ x' y', sc = x' ++ y' ∧ zF xa as x x' ∧ zF xa as y y'
  | [], y, sc, h => ⟨[], sc, rfl, trivial, h⟩
  | v :: x, y, [], h => h.elim
  | v :: x, y, w :: sc, h => by
    obtain ⟨x', y', rfl, h1, h2⟩ := zF_app h.2
    exact ⟨w :: x', y', rfl, ⟨h.1, h1⟩, h2⟩
theorem zF_join {xa as : List Nat} : ∀ {x y x' y' : List Value}, zF xa as x x' → zF xa as y y' → zF xa as (x ++ y) (x' ++ y')
  | [], _, [], _, _, h => h
  | [], _, _ :: _, _, h, _ => h.elim
  | _ :: _, _, [], _, h, _ => h.elim
  | _ :: _, _, _ :: _, _, h, h2 => ⟨h.1, zF_join h.2 h2⟩
theorem zF_rev {xa as : List Nat} : ∀ {x x' : List Value}, zF xa as x x' → zF xa as x.reverse x'.reverse
  | [], [], _ => trivial
  | [], _ :: _, h => h.elim
  | _ :: _, [], h => h.elim
  | v :: x, w :: x', h => by
    rw [List.reverse_cons, List.reverse_cons]
    exact zF_join (zF_rev h.2) ⟨h.1, trivial⟩
theorem zV_catEq {xa as : List Nat} {v w : Value} (hv : zV xa as v w) : w.category = v.category := by
  cases v with
  | int x => rw [show w = .int x from hv]
  | long x => rw [show w = .long x from hv]
  | null => rw [show w = .null from hv]
  | ref k => obtain ⟨a, -, rfl⟩ := hv; rfl
  | retAddr k => obtain ⟨a, -, rfl⟩ := hv; rfl
  | float b => exact hv.elim
  | double b => exact hv.elim
theorem zF_wt {xa as : List Nat} : ∀ {x x' : List Value}, zF xa as x x' → (x'.map fun v => v.category).sum = zWt x
  | [], [], _ => rfl
  | [], _ :: _, h => h.elim
  | _ :: _, [], h => h.elim
  | v :: x, w :: x', h => by
    unfold zWt
    rw [List.map_cons, List.map_cons, List.sum_cons, List.sum_cons, zV_catEq h.1, zF_wt h.2]
    rfl
theorem zpk_eq {n : Nat} {st a r : List Value} (h : zpk n st = some (a, r)) : st = a.reverse ++ r ∧ a.length = n := by
  unfold zpk at h
  cases hb : Nat.ble n st.length with
  | false => rw [hb, cond_false] at h; cases h
  | true =>
    rw [hb, cond_true] at h
    cases h
    have hl := Nat.le_of_ble_eq_true hb
    exact ⟨by rw [List.reverse_reverse, List.take_append_drop], by rw [List.length_reverse, List.length_take]; omega⟩
section ZBO
variable {p : Program} {l : Launch} {e : Env} {R : Room} {s : State} {m : MethodId} {args : Array Value} {below : List Frame} {meth : Method} {c : Code} {H : Heap} {locs : List Loc} {cells slots : Nat} {Q : State → Prop}
variable {Ts Nw : List Cond} {Nc : List (String × String)} {Pg : List zM} {cl : List vw_C} {FT : zFT} {FN : Nat → Nat} {X Xc : zX} {xa xac : List Nat} {sf : Nat → String × String × String} {n0 : Nat} {M : zM} {D : va_G} {tys : List (ClassId × FieldType)} {as : List Nat} {ws : va_W} {h : zH} {ls : Array Slot} {sc : List Value} {lo lv : zL} {st : List Value} {en : zN}
/-- a making -/
theorem zs_mak (hcl : zCl Ts cl FT) (C : zCx p s m args meth c Ts X xa sf n0 M) (hE : zEnv Xc xac sf n0 Nw Nc s) (he : zEok Ts cl sf M en) (hk : zKok Ts cl FT FN M en) {n : Nat} {r : List Value} {cc : zE} {k : Nat} (hp : zmak FT FN en st = some (n, r, cc, k)) (I : zI D cl xa n0 s tys as ws h H locs) (hf : zF xa as st sc) (hc : cells + 1 ≤ R.cells) (hs : slots + k ≤ R.slots)
    (kk : ∀ (tys' : List (ClassId × FieldType)) (as' : List Nat) (ws' : va_W) (H' : Heap) (sc' : List Value), as <+: as' → tys <+: tys' → zI D cl xa n0 s tys' as' ws' (h ++ [cc]) H' locs → zF xa as' (.ref h.length :: r) sc' → W p l e R s m args below meth c H' locs (cells + 1) (slots + k) Q (F0 m (en.1 + n) ls sc')) : W p l e R s m args below meth c H locs cells slots Q (F0 m en.1 ls sc) := by
  obtain ⟨hx, hb, -, hown, hts, -, -, -, hn0⟩ := C
  obtain ⟨hK, hP, hD, hS, hW⟩ := I
  obtain ⟨pc, ins, len, a0, b0, w0⟩ := en
  obtain ⟨⟨hd, hn⟩, he⟩ := he
  dsimp only at hd hn he hp kk ⊢
  rw [hn] at hd
  have hA : ∀ q, s.heap.size ≤ q → zA n0 q := fun q hq => Nat.le_trans hn0 hq
  have hlen : as.length = h.length := hW.1
  unfold zmak at hp
  dsimp only at hp
  split at hp
  · rename_i ix
    cases hbb : Nat.beq b0 1 with
    | true => rw [hbb, cond_true] at hp; cases hp
    | false =>
    rw [hbb, cond_false] at hp
    cases hp
    obtain ⟨q, h1, h2, h3, h4, h5, h6⟩ := hk (Nat.ne_of_beq_eq_false hbb)
    dsimp only at h1 h2 h3 h4 h5 h6
    obtain ⟨g1, g2, g3, g4⟩ := hcl a0 q h1
    refine va_new (C := q.1) (T := q.2.1) (N := q.2.2) hx hb hts g1 (fun j => (FT a0 j).1) g2 hown (hts _ h3) (by rw [h2]; exact hts _ h4) (hts _ h5) hK hP hD hS hA h1 (fs := zdef FT FN a0) (fun j hj => by rw [h2] at hj; rw [zdef_V hj]; exact h6 j hj) hc (by rw [h2]; exact hs) hd (fun q0 H1 hP1 hD1 hS1 => ?_)
    rw [h2]
    have hp1 : as <+: as ++ [q0] := ⟨[q0], rfl⟩
    exact kk tys (as ++ [q0]) _ H1 (.ref q0 :: sc) hp1 (List.prefix_refl tys) ⟨hK, hP1, hD1, hS1, zW_push hW (List.prefix_refl tys) ⟨rfl, zdv_F _ _⟩⟩ ⟨⟨q0, by rw [← hlen]; simp, rfl⟩, zF_mono hp1 hf⟩
  · rename_i t
    split at hp
    · rename_i n9 r9 kd h1 h2
      cases hbb : decide (¬ n9 < 0) && Nat.ble n9.toNatClampNeg 65536 with
      | false => rw [hbb, cond_false] at hp; cases hp
      | true =>
      rw [hbb, cond_true] at hp
      cases hp
      rw [Bool.and_eq_true, decide_eq_true_eq] at hbb
      have hle := Nat.le_of_ble_eq_true hbb.2
      obtain ⟨sc', rfl, hf'⟩ := zF_1 h1 hf
      have hk : Cond.arrayClass (newarray.typeOf t) ∈ Ts := hk
      cases t <;> cases h2
      · refine va_newa (atype := .boolean) (ty := .boolean) (a0 := (n9.toNatClampNeg, zini 1)) hx hb (hts _ hk) rfl hK hP hD hS hA (fun cA => rfl) hbb.1 rfl (by show _ * 1 ≤ _; omega) hc hs hd (fun q0 cA H1 hK1 hP1 hD1 hS1 => ?_)
        have hp1 : as <+: as ++ [q0] := ⟨[q0], rfl⟩
        have ht1 : tys <+: tys ++ [(cA, .boolean)] := ⟨_, rfl⟩
        exact kk _ (as ++ [q0]) _ H1 (.ref q0 :: sc') hp1 ht1 ⟨hK1, hP1, hD1, hS1, zW_push hW ht1 ⟨rfl, ⟨tys.length, by simp; rfl⟩, rfl⟩⟩ ⟨⟨q0, by rw [← hlen]; simp, rfl⟩, zF_mono hp1 hf'⟩
      · refine va_newa (atype := .int) (ty := .int) (a0 := (n9.toNatClampNeg, zini 0)) hx hb (hts _ hk) rfl hK hP hD hS hA (fun cA => rfl) hbb.1 rfl (by show _ * 4 ≤ _; omega) hc hs hd (fun q0 cA H1 hK1 hP1 hD1 hS1 => ?_)
        have hp1 : as <+: as ++ [q0] := ⟨[q0], rfl⟩
        have ht1 : tys <+: tys ++ [(cA, .int)] := ⟨_, rfl⟩
        exact kk _ (as ++ [q0]) _ H1 (.ref q0 :: sc') hp1 ht1 ⟨hK1, hP1, hD1, hS1, zW_push hW ht1 ⟨rfl, ⟨tys.length, by simp; rfl⟩, rfl⟩⟩ ⟨⟨q0, by rw [← hlen]; simp, rfl⟩, zF_mono hp1 hf'⟩
      · refine va_newa (atype := .long) (ty := .long) (a0 := (n9.toNatClampNeg, zini 2)) hx hb (hts _ hk) rfl hK hP hD hS hA (fun cA => rfl) hbb.1 rfl (by show _ * 8 ≤ _; omega) hc hs hd (fun q0 cA H1 hK1 hP1 hD1 hS1 => ?_)
        have hp1 : as <+: as ++ [q0] := ⟨[q0], rfl⟩
        have ht1 : tys <+: tys ++ [(cA, .long)] := ⟨_, rfl⟩
        exact kk _ (as ++ [q0]) _ H1 (.ref q0 :: sc') hp1 ht1 ⟨hK1, hP1, hD1, hS1, zW_push hW ht1 ⟨rfl, ⟨tys.length, by simp; rfl⟩, rfl⟩⟩ ⟨⟨q0, by rw [← hlen]; simp, rfl⟩, zF_mono hp1 hf'⟩
    · cases hp
  · rename_i ix
    split at hp
    · rename_i n9 r9 h1
      cases hbb : decide (¬ n9 < 0) && (Nat.ble n9.toNatClampNeg 65536 && (Nat.beq a0 3 || Nat.beq a0 4)) with
      | false => rw [hbb, cond_false] at hp; cases hp
      | true =>
      rw [hbb, cond_true] at hp
      cases hp
      rw [Bool.and_eq_true, Bool.and_eq_true, decide_eq_true_eq, Bool.or_eq_true] at hbb
      obtain ⟨b1, b2, b3⟩ := hbb
      have hle := Nat.le_of_ble_eq_true b2
      obtain ⟨sc', rfl, hf'⟩ := zF_1 h1 hf
      have hk : Cond.classLink (zName M).cls ix (zAn a0) ∈ Ts := hk
      have hao : va_AO (zAn a0) s ∧ zty a0 = .object (zAn a0) := by
        rcases b3 with b3 | b3 <;> (rw [Nat.eq_of_beq_eq_true b3])
        · exact ⟨hE.2.2.2.2.2.2.2.1, rfl⟩
        · exact ⟨hE.2.2.2.2.2.2.2.2, rfl⟩
      refine va_newq hx hb hown (hts _ hk) hao.1 hK hP hD hS hA b1 rfl (by omega) hc hs hd (fun q0 cA H1 hK1 hP1 hD1 hS1 => ?_)
      have hp1 : as <+: as ++ [q0] := ⟨[q0], rfl⟩
      have ht1 : tys <+: tys ++ [(cA, .object (zAn a0))] := ⟨_, rfl⟩
      exact kk _ (as ++ [q0]) _ H1 (.ref q0 :: sc') hp1 ht1 ⟨hK1, hP1, hD1, hS1, zW_push hW ht1 ⟨rfl, ⟨tys.length, by simp [hao.2]⟩, fun _ => rfl⟩⟩ ⟨⟨q0, by rw [← hlen]; simp, rfl⟩, zF_mono hp1 hf'⟩
    · cases hp
  · cases hp
/-- Object's constructor, Math.min -/
theorem zs_own (C : zCx p s m args meth c Ts X xa sf n0 M) (he : zEok Ts cl sf M en) (hk : zIok Ts Nw Pg M en) (hR1 : (zRoom M).1 ≤ R.frames) (hR2 : (zRoom M).2.1 ≤ R.locals) (hc : cells ≤ R.cells) (hs : slots ≤ R.slots) {r : List Value} (hp : zown M en st = some r) (hl : lv_has ls (zMaxL M) lv) (hf : zF xa as st sc)
    (k : ∀ sc' : List Value, zF xa as r sc' → W p l e R s m args below meth c H locs cells slots Q (F0 m (en.1 + 3) ls sc')) : W p l e R s m args below meth c H locs cells slots Q (F0 m en.1 ls sc) := by
  obtain ⟨hx, hb, hml, hown, hts, -⟩ := C
  obtain ⟨pc, ins, len, a0, b0, w0⟩ := en
  obtain ⟨⟨hd, hn⟩, he⟩ := he
  dsimp only at hd hn he hp k ⊢
  rw [hn] at hd
  unfold zown at hp
  dsimp only at hp
  split at hp
  · rename_i ix
    split at hp
    · rename_i q r9 h1
      cases hbb : Nat.ble 1 (zRoom M).1 && Nat.ble (zWt r9 + 12) (zRoom M).2.1 with
      | false => rw [hbb, cond_false] at hp; cases hp
      | true =>
      rw [hbb, cond_true] at hp
      cases hp
      rw [Bool.and_eq_true] at hbb
      have b1 := Nat.le_of_ble_eq_true hbb.1
      have b2 := Nat.le_of_ble_eq_true hbb.2
      have e1 := zr1_eq h1
      subst e1
      match sc, hf with
      | w :: sc', hf =>
      obtain ⟨⟨a2, h11, h12⟩, hf2⟩ := hf
      subst h12
      obtain ⟨k1, k2, k3⟩ := hk 2 rfl
      have hw := zF_wt hf2
      refine W.objInit hx hb hown (hts _ k1) (hts _ k2) (hts _ k3) rfl (by rw [hml]; exact hl.1) rfl hd (Nat.le_trans b1 hR1) (by show 2 * 0 + _ + 12 ≤ _; rw [hw]; omega) ?_
      exact k _ hf2
    · cases hp
  · rename_i ix
    split at hp
    · rename_i x y r9 h1
      cases hbb : Nat.ble 1 (zRoom M).1 && Nat.ble (zWt r9 + 13) (zRoom M).2.1 with
      | false => rw [hbb, cond_false] at hp; cases hp
      | true =>
      rw [hbb, cond_true] at hp
      cases hp
      rw [Bool.and_eq_true] at hbb
      have b1 := Nat.le_of_ble_eq_true hbb.1
      have b2 := Nat.le_of_ble_eq_true hbb.2
      obtain ⟨sc', rfl, hf2⟩ := zF_2 h1 hf
      obtain ⟨k1, k2, k3, k4⟩ := hk 1 rfl
      have hw := zF_wt hf2
      exact va_mmin hx hb (by rw [hml]; exact hl.1.symm) hown (hts _ k1) (hts _ k2) (hts _ k3) (hts _ k4) (Nat.le_trans b1 hR1) (by rw [hw]; omega) hc hs hd (k _ ⟨rfl, hf2⟩)
    · cases hp
  · cases hp
end ZBO
end
section
/-! CALLS -/
section ZCA
variable {p : Program} {l : Launch} {e : Env} {R : Room} {s : State} {m : MethodId} {args : Array Value} {below : List Frame} {meth : Method} {c : Code} {H : Heap} {locs : List Loc} {cells slots : Nat} {Q : State → Prop}
variable {Ts Nw : List Cond} {Nc : List (String × String)} {Pg : List zM} {cl : List vw_C} {FT : zFT} {FN : Nat → Nat} {X Xc : zX} {xa xac : List Nat} {sf : Nat → String × String × String} {n0 : Nat} {M M' : zM} {D : va_G} {tys : List (ClassId × FieldType)} {as : List Nat} {ws : va_W} {h h' : zH} {ls : Array Slot} {sc : List Value} {lo lv : zL} {st : List Value} {en : zN}
/-- what a call site has checked -/
theorem zinv_eq {kd : Nat} {a r : List Value} (hp : zinv Pg M en kd st h cells slots = some (M', a, r)) : Pg[en.2.2.2.1]? = some M' ∧ st = a.reverse ++ r ∧ a.length = en.2.2.2.2.2 + (bif Nat.beq kd 1 then 0 else 1) ∧ en.2.2.2.2.1 ≤ 1 ∧ (zKind M').1 = kd ∧ zWt r ≤ 8 ∧ (zRoom M').1 + 1 ≤ (zRoom M).1 ∧ 8 + (zMaxL M' + 11) + (zRoom M').2.1 ≤ (zRoom M).2.1 ∧ cells + (zRoom M').2.2.1 ≤ (zRoom M).2.2.1 ∧ slots + (zRoom M').2.2.2 ≤ (zRoom M).2.2.2 ∧ zrec kd M' a h = true ∧ a.all zpl = true := by
  unfold zinv at hp
  split at hp
  · rename_i M9 h1
    split at hp
    · rename_i a9 r9 h2
      cases hbb : a9.all zpl && Nat.ble en.2.2.2.2.1 1 && (Nat.beq (zKind M9).1 kd && (Nat.ble (zWt r9) 8 && (zfitr M M9 cells slots && zrec kd M9 a9 h))) with
      | false => rw [hbb, cond_false] at hp; cases hp
      | true =>
        rw [hbb, cond_true] at hp
        cases hp
        unfold zfitr at hbb
        simp only [Bool.and_eq_true] at hbb
        obtain ⟨⟨b8, b0⟩, b1, b2, ⟨b3, b4, b5, b6⟩, b7⟩ := hbb
        obtain ⟨g1, g2⟩ := zpk_eq h2
        exact ⟨h1, g1, g2, Nat.le_of_ble_eq_true b0, Nat.eq_of_beq_eq_true b1, Nat.le_of_ble_eq_true b2, Nat.le_of_ble_eq_true b3, Nat.le_of_ble_eq_true b4, Nat.le_of_ble_eq_true b5, Nat.le_of_ble_eq_true b6, b7, b8⟩
    · cases hp
  · cases hp
/-- what all calls of one method need -/
theorem zCallB (hts : ∀ w ∈ Ts, w.before args s = true) (hG : GoodIn Ts Ts) (hM : zMok Ts cl M') (ht : zTab M' = []) {own : String} {ix n : Nat} (hlk : Cond.methodLink own ix (zName M') ∈ Ts) (hpn : (parseMethodDescriptor (zName M').desc).map (fun d => d.parameters.length) = some n)
    (h1 : (zRoom M').1 + 1 ≤ R.frames) (h2 : 8 + (zMaxL M' + 11) + (zRoom M').2.1 ≤ R.locals) : CallB R s args own ix (zName M') (zCode M') (zMaxL M') (zRet M') (zHd M' :: Ts) (zRm M') (zRoom M').2.2.1 (zRoom M').2.2.2 n := by
  have hhd : zHd M' = Cond.code (zName M') (zCode M') (zMaxL M') (zRet M') := by unfold zHd; rw [ht]
  refine ⟨rfl, rfl, h1, h2, pay_in hts (fun w hw => ?_), by rw [hhd]; exact List.mem_cons_self, by rw [← hhd]; exact hts _ hM.1, hts _ hM.2.1, hM.2.2.1, fun sig hs => ?_, hts _ hlk⟩
  · rcases List.mem_cons.mp hw with rfl | hw
    · exact hG _ hM.1
    · exact hG _ hw
  · rw [hs] at hpn
    exact (Option.some.inj hpn).symm
theorem zGoodW (hG : GoodIn Ts Ts) (hM : zMok Ts cl M') : GoodIn Ts (zHd M' :: Ts) := fun w hw => by
  rcases List.mem_cons.mp hw with rfl | hw
  · exact hG _ hM.1
  · exact hG _ hw
theorem zPre (hN : zNwOk Nw) (hE : zEnv Xc xac sf n0 Nw Nc s) (I : zI D cl xa n0 s tys as ws h H locs) (a' : List Value) : PreS s H (zPc Xc xac sf n0 Nw Nc D cl tys ws a') a' := by
  obtain ⟨hK, hP, hD, hS, hW⟩ := I
  exact ⟨zPc_blind hN, fun U hU hWm => ⟨rfl, zEnv_to hN hE hS hU hWm, by rw [hU]; exact hP, va_K.moved hWm.alike hK, hD⟩⟩
theorem zrec_eq {kd : Nat} {a : List Value} (hr : zrec kd M' a h = true) (hk : kd ≠ 1) : ∃ (b : Nat) (As : List Value) (fs : List Value), a = .ref b :: As ∧ h[b]? = some (.inr ((zKind M').2.1, fs)) := by
  have hk1 : Nat.beq kd 1 = false := by
    cases hb : Nat.beq kd 1 with
    | false => rfl
    | true => exact absurd (Nat.eq_of_beq_eq_true hb) hk
  unfold zrec at hr
  split at hr
  · rename_i b As
    split at hr
    · rename_i ci fs h1
      rw [hk1, Bool.false_or] at hr
      rw [Nat.eq_of_beq_eq_true hr] at h1
      exact ⟨b, As, fs, rfl, h1⟩
    · rw [hk1] at hr; cases hr
  · rw [hk1] at hr; cases hr
/-- the machine at a call that returns: va_Run -/
theorem zs_run (hN : zNwOk Nw) (hG : GoodIn Ts Ts) (C : zCx p s m args meth c Ts X xa sf n0 M) (hE : zEnv Xc xac sf n0 Nw Nc s) (he : zEok Ts cl sf M en) (hk : zIok Ts Nw Pg M en) (hM : zMok Ts cl M') {kd : Nat} (hcl : zcl en.2.1 = some kd) {a r : List Value} (hp : zinv Pg M en kd st h cells slots = some (M', a, r))
    (hR1 : (zRoom M).1 ≤ R.frames) (hR2 : (zRoom M).2.1 ≤ R.locals) (hR3 : (zRoom M).2.2.1 ≤ R.cells) (hR4 : (zRoom M).2.2.2 ≤ R.slots) (I : zI D cl xa n0 s tys as ws h H locs) (hl : lv_has ls (zMaxL M) lv) {a' r' : List Value} (ha : zF xa as a a') (hr : zF xa as r r') {v : Option Value}
    (hc : zMt l Ts Xc xac sf n0 Nw Nc D cl M' tys as ws a' (.inl v) h') :
    va_Run p l e R s m args below meth c H locs cells slots (zRoom M').2.2.1 (zRoom M').2.2.2 (F0 m en.1 ls (a'.reverse ++ r')) r' (zQc xac n0 D cl tys as (.inl v) h' a'.toArray) (zA n0) := by
  obtain ⟨hx, hb, hml, hown, hts, -⟩ := C
  obtain ⟨i1, i2, i3, i4, i5, i6, i7, i8, i9, i10, i11, -⟩ := zinv_eq hp
  obtain ⟨pc, ins, len, a0, b0, w0⟩ := en
  obtain ⟨⟨hd, hn⟩, he⟩ := he
  dsimp only at hd hn he hcl i1 i3 i4 ⊢
  rw [hn] at hd
  have hMet := zMet_of hc (by rintro E st t ⟨k, _, _, _, h1, -⟩; cases h1)
  have hf : cells + (zRoom M').2.2.1 ≤ R.cells ∧ slots + (zRoom M').2.2.2 ≤ R.slots := ⟨Nat.le_trans i9 hR3, Nat.le_trans i10 hR4⟩
  have hwt : 2 * (F0 m pc ls (a'.reverse ++ r')).monitorRoom + (r'.map fun v => v.category).sum ≤ 8 := lv_room (by rw [zF_wt hr]; exact i6)
  have hS9 : CallFix p m c (zCode M) (zMaxL M) s args Ts (zName M).cls := ⟨hx, hb, hml, hown, hts⟩
  have hq : (zRoom M').1 + 1 ≤ R.frames := Nat.le_trans i7 hR1
  have hq2 : 8 + (zMaxL M' + 11) + (zRoom M').2.1 ≤ R.locals := Nat.le_trans i8 hR2
  have hla : a'.length = a.length := (zF_len ha).symm
  obtain ⟨m1, m2, m3, m4, m5, m6, m7⟩ := id hM
  have hb01 : b0 = 0 ∨ b0 = 1 := by omega
  have hlk : ((kd ≠ 0 ∧ b0 = 1 ∧ zTab M' = [] ∧ ∃ host : String, Cond.methodLinkNest (zName M).cls (zIx ins) (zName M') host ∈ Nw) ∨ Cond.methodLink (zName M).cls (zIx ins) (zName M') ∈ Ts) ∧ (parseMethodDescriptor (zName M').desc).map (fun d => d.parameters.length) = some w0 := by
    have h9 := hk kd hcl
    dsimp only at h9
    rcases hb01 with rfl | rfl <;> exact h9 M' i1
  obtain ⟨hlk, hpn⟩ := hlk
  unfold zcl at hcl
  split at hcl
  · rename_i ix
    cases hcl
    obtain ⟨n1, n2, ⟨q, n3, n4⟩, n5⟩ := m5 i5
    obtain ⟨b, As, fs, rfl, hrb⟩ := zrec_eq i11 (by decide)
    obtain ⟨hK, hP, hD, hS, hW⟩ := id I
    obtain ⟨ab, db, k1, k2, k3⟩ := hW.2.2 _ _ hrb
    cases a' with
    | nil => exact ha.elim
    | cons w As' =>
    obtain ⟨⟨a9, k4, k5⟩, ha2⟩ := ha
    subst k5
    cases k1.symm.trans k4
    have hn9 : As'.length = w0 := by
      have i3' : As.length + 1 = w0 + 1 := i3
      have hla' : As'.length + 1 = As.length + 1 := hla
      omega
    match db, k3, k2 with
    | .inr (ci, fs'), k3, k2 =>
    have k6 : (zKind M').2.1 = ci := k3.1
    subst k6
    have hl2 : Cond.methodLink (zName M).cls ix (zName M') ∈ Ts := by
      rcases hlk with ⟨h0, -⟩ | h1
      · exact absurd rfl h0
      · exact h1
    have hrecv := va_recv hK hP n3 k2
    rw [n4] at hrecv
    have hpre := zPre (locs := locs) hN hE I (.ref ab :: As')
    exact va_runV (C := (zName M').cls) (As := As') (rest := r') (n := w0) hS9 hMet ⟨zCallB hts hG hM n5 hl2 hpn hq hq2, hts _ n1, hts _ n2⟩ ⟨hpre.1, hrecv, hpre.2⟩ rfl hn9 hl.1 (by simp) hwt hd hf
  · rename_i ix
    cases hcl
    have hpre := zPre (locs := locs) hN hE I a'
    have hst := m6 i5
    have hn9 : a'.length = w0 := by rw [hla, i3]; simp
    cases htab : zTab M' with
    | nil =>
      rcases hlk with ⟨-, -, hnt, host, hnw⟩ | hl2
      · exact va_runSN (As := a') (rest := r') (n := w0) (host := host) hS9 hMet ⟨va_cnB w0 hts (zGoodW hG hM) (by unfold zHd; rw [htab]) rfl rfl (hE.2.2.2.2.2.1 _ hnw) (hts _ m2) ⟨m3.1, m3.2, hpn⟩ ⟨hq, hq2⟩, hts _ hst, trivial⟩ hpre rfl hn9 hl.1 rfl hwt hd hf
      · exact va_runS (As := a') (rest := r') (n := w0) hS9 hMet ⟨zCallB hts hG hM htab hl2 hpn hq hq2, hts _ hst⟩ hpre rfl hn9 hl.1 rfl hwt hd hf
    | cons t0 tab0 =>
      rcases hlk with ⟨-, -, hnt, host, hnw⟩ | hl2
      · rw [htab] at hnt; cases hnt
      · exact vx_runSW (As := a') (rest := r') (n := w0) (hh := zTab M') hS9 hMet (vx_cwSW w0 hts (fun w hw => by
          rcases List.mem_append.mp hw with hw | hw
          · simp only [List.mem_cons, List.not_mem_nil, or_false] at hw
            rcases hw with rfl | rfl | rfl
            · exact hG _ hl2
            · exact hG _ hst
            · exact hG _ m2
          · exact zGoodW hG hM _ hw) (by unfold zHd; rw [htab]) rfl rfl ⟨m3.1, m3.2, hpn⟩ ⟨hq, hq2⟩) hpre rfl hn9 hl.1 rfl hwt hd hf
  · rename_i ix
    cases hcl
    obtain ⟨n1, n2, n3, n5⟩ := m7 i5
    obtain ⟨b, As, fs, rfl, hrb⟩ := zrec_eq i11 (by decide)
    cases a' with
    | nil => exact ha.elim
    | cons w As' =>
    obtain ⟨⟨a9, k4, k5⟩, ha2⟩ := ha
    subst k5
    have hpre := zPre (locs := locs) hN hE I (.ref a9 :: As')
    have hn9 : As'.length = w0 := by
      have i3' : As.length + 1 = w0 + 1 := i3
      have hla' : As'.length + 1 = As.length + 1 := hla
      omega
    rcases hlk with ⟨-, -, hnt, host, hnw⟩ | hl2
    · exact va_runIN (As := As') (rest := r') (n := w0) (host := host) hS9 hMet ⟨va_cnB w0 hts (zGoodW hG hM) (by unfold zHd; rw [n5, n3]) rfl rfl (hE.2.2.2.2.2.1 _ hnw) (hts _ m2) ⟨m3.1, m3.2, hpn⟩ ⟨hq, hq2⟩, n2, hts _ n1⟩ hpre rfl hn9 hl.1 (by simp) hwt hd hf
    · have hcb := zCallB (R := R) hts hG hM n5 hl2 hpn hq hq2
      rw [n3] at hcb
      exact va_runI (As := As') (rest := r') (n := w0) hS9 hMet ⟨hcb, n2, hts _ n1⟩ hpre rfl hn9 hl.1 (by simp) hwt hd hf
  · cases hcl
/-- the machine at a call that throws: vx_Run -/
theorem zs_runX (hN : zNwOk Nw) (hG : GoodIn Ts Ts) (C : zCx p s m args meth c Ts X xa sf n0 M) (hE : zEnv Xc xac sf n0 Nw Nc s) (he : zEok Ts cl sf M en) (hk : zIok Ts Nw Pg M en) (hM : zMok Ts cl M') {kd : Nat} (hcl : zcl en.2.1 = some kd) (hk2 : kd ≠ 2) (hb1 : en.2.2.2.2.1 ≠ 1) (htab : zTab M' = []) {a r : List Value} (hp : zinv Pg M en kd st h cells slots = some (M', a, r))
    (hR1 : (zRoom M).1 ≤ R.frames) (hR2 : (zRoom M).2.1 ≤ R.locals) (hR3 : (zRoom M).2.2.1 ≤ R.cells) (hR4 : (zRoom M).2.2.2 ≤ R.slots) (I : zI D cl xa n0 s tys as ws h H locs) (hl : lv_has ls (zMaxL M) lv) {a' r' : List Value} (ha : zF xa as a a') (hr : zF xa as r r') {o : zO}
    (hc : zMt l Ts Xc xac sf n0 Nw Nc D cl M' tys as ws a' o h') :
    vx_Run p l e R s m args below meth c H locs cells slots (zRoom M').2.2.1 (zRoom M').2.2.2 (F0 m en.1 ls (a'.reverse ++ r')) r' (zQc xac n0 D cl tys as o h' a'.toArray) (zXC xac n0 D cl tys as o h') (zA n0) := by
  obtain ⟨hx, hb, hml, hown, hts, -⟩ := C
  obtain ⟨i1, i2, i3, i4, i5, i6, i7, i8, i9, i10, i11, -⟩ := zinv_eq hp
  obtain ⟨pc, ins, len, a0, b0, w0⟩ := en
  obtain ⟨⟨hd, hn⟩, he⟩ := he
  dsimp only at hd hn he hcl i1 i3 i4 hb1 ⊢
  rw [hn] at hd
  have hf : cells + (zRoom M').2.2.1 ≤ R.cells ∧ slots + (zRoom M').2.2.2 ≤ R.slots := ⟨Nat.le_trans i9 hR3, Nat.le_trans i10 hR4⟩
  have hwt : 2 * (F0 m pc ls (a'.reverse ++ r')).monitorRoom + (r'.map fun v => v.category).sum ≤ 8 := lv_room (by rw [zF_wt hr]; exact i6)
  have hS9 : CallFix p m c (zCode M) (zMaxL M) s args Ts (zName M).cls := ⟨hx, hb, hml, hown, hts⟩
  have hq : (zRoom M').1 + 1 ≤ R.frames := Nat.le_trans i7 hR1
  have hq2 : 8 + (zMaxL M' + 11) + (zRoom M').2.1 ≤ R.locals := Nat.le_trans i8 hR2
  have hla : a'.length = a.length := (zF_len ha).symm
  obtain ⟨m1, m2, m3, m4, m5, m6, m7⟩ := id hM
  have hb0 : b0 = 0 := by omega
  subst hb0
  have h9 := hk kd hcl
  dsimp only at h9
  obtain ⟨hlk, hpn⟩ := h9 M' i1
  have hl2 : Cond.methodLink (zName M).cls (zIx ins) (zName M') ∈ Ts := by
    rcases hlk with ⟨-, h0, -⟩ | h1
    · cases h0
    · exact h1
  unfold zcl at hcl
  split at hcl
  · rename_i ix
    cases hcl
    obtain ⟨n1, n2, ⟨q, n3, n4⟩, n5⟩ := m5 i5
    obtain ⟨b, As, fs, rfl, hrb⟩ := zrec_eq i11 (by decide)
    obtain ⟨hK, hP, hD, hS, hW⟩ := id I
    obtain ⟨ab, db, k1, k2, k3⟩ := hW.2.2 _ _ hrb
    cases a' with
    | nil => exact ha.elim
    | cons w As' =>
    obtain ⟨⟨a9, k4, k5⟩, ha2⟩ := ha
    subst k5
    cases k1.symm.trans k4
    have hn9 : As'.length = w0 := by
      have i3' : As.length + 1 = w0 + 1 := i3
      have hla' : As'.length + 1 = As.length + 1 := hla
      omega
    match db, k3, k2 with
    | .inr (ci, fs'), k3, k2 =>
    have k6 : (zKind M').2.1 = ci := k3.1
    subst k6
    have hrecv := va_recv hK hP n3 k2
    rw [n4] at hrecv
    have hpre := zPre (locs := locs) hN hE I (.ref ab :: As')
    exact vx_runV (C := (zName M').cls) (As := As') (rest := r') (n := w0) hS9 hc ⟨zCallB hts hG hM n5 hl2 hpn hq hq2, hts _ n1, hts _ n2⟩ ⟨hpre.1, hrecv, hpre.2⟩ rfl hn9 hl.1 (by simp) hwt hd hf
  · rename_i ix
    cases hcl
    have hpre := zPre (locs := locs) hN hE I a'
    have hst := m6 i5
    have hn9 : a'.length = w0 := by rw [hla, i3]; simp
    exact vx_runS (As := a') (rest := r') (n := w0) hS9 hc ⟨zCallB hts hG hM htab hl2 hpn hq hq2, hts _ hst⟩ hpre rfl hn9 hl.1 rfl hwt hd hf
  · cases hcl; exact absurd rfl hk2
  · cases hcl
end ZCA
end
section
/-! THE BODY AS A RELATION: what calls come to is a relation, so a symbolic walk needs no fuel -/
def zBR (Pg : List zM) (FT : zFT) (FN : Nat → Nat) (X : zX) (cr : Nat → List Value → zH → zO → zH → Prop) (M : zM) (o : zO) (h' : zH) : Nat → Nat → zL → List Value → zH → Nat → Nat → Prop
  | 0, _, _, _, _, _, _ => False
  | f + 1, pc, lo, st, h, nc, ns => match zfind (zIns M) pc with
    | none => False
    | some en => match zend en.2.1 (zRet M) st with
      | some r => o = .inl r ∧ h' = h
      | none => match zmak FT FN en st with
        | some (n, r, c, k) => (Nat.blt nc (zRoom M).2.2.1 && Nat.ble (ns + k) (zRoom M).2.2.2) = true ∧ zBR Pg FT FN X cr M o h' f (pc + n) lo (.ref h.length :: r) (h ++ [c]) (nc + 1) (ns + k)
        | none => match zown M en st with
          | some st' => zBR Pg FT FN X cr M o h' f (pc + 3) lo st' h nc ns
          | none => match zcl en.2.1 with
            | some kd => (match zinv Pg M en kd st h nc ns with
              | some (M', a, r) => ∃ (o1 : zO) (h1 : zH), cr en.2.2.2.1 a h o1 h1 ∧ (match o1 with
                | .inl v => zBR Pg FT FN X cr M o h' f (pc + 3) lo (v.toList ++ r) h1 (nc + (zRoom M').2.2.1) (ns + (zRoom M').2.2.2)
                | .inr k => (Nat.beq kd 2 || (Nat.beq en.2.2.2.2.1 1 || !(zTab M').isEmpty)) = false ∧ (match zTab M with
                  | [] => o = .inr k ∧ h' = h1
                  | _ => (match zhand (zTab M) pc k with
                    | some t => (match zfind (zIns M) t with
                      | some en2 => (match zsto en2.2.1 with
                        | some (j, n, true) => Nat.blt j (zMaxL M) = true ∧ zBR Pg FT FN X cr M o h' f (t + n) (lo.filter (fun q => !(Nat.beq q.1 j))) [] h1 (nc + (zRoom M').2.2.1) (ns + (zRoom M').2.2.2)
                        | _ => False)
                      | none => False)
                    | none => False)))
              | none => False)
            | none => (match en.2.1 with
              | .new _ => (Nat.ble (nc + 1) (zRoom M).2.2.1 && (Nat.ble (ns + 6) (zRoom M).2.2.2 && Nat.ble (zWt st) 8)) = true ∧ o = .inr en.2.2.2.1 ∧ h' = h
              | _ => (match zstep M FT X en lo st h with
                | some (pc', lo', st', h1) => zBR Pg FT FN X cr M o h' f pc' lo' st' h1 nc ns
                | none => False))
/-- what a call comes to, by its depth -/
def zCR (Pg : List zM) (FT : zFT) (FN : Nat → Nat) (X : zX) : Nat → Nat → List Value → zH → zO → zH → Prop
  | 0, _, _, _, _, _ => False
  | d + 1, z, a, h, o, h' => ∃ M : zM, Pg[z]? = some M ∧ (Nat.ble a.length (zMaxL M) && a.all (fun v => Nat.beq v.category 1)) = true ∧ ∃ f : Nat, zBR Pg FT FN X (zCR Pg FT FN X d) M o h' f 0 (zargs 0 a) [] h 0 0
/-! THE BODY, by its fuel -/
section ZWB
variable {p : Program} {l : Launch} {e : Env} {R : Room} {s : State} {m : MethodId} {args : Array Value} {below : List Frame} {meth : Method} {c : Code} {Q : State → Prop}
variable {Ts Nw : List Cond} {Nc : List (String × String)} {Pg : List zM} {cl : List vw_C} {FT : zFT} {FN : Nat → Nat} {X Xc : zX} {xa xac : List Nat} {sf : Nat → String × String × String} {n0 : Nat} {M : zM} {D : va_G}
/-- an instruction is known in all its ways -/
def zNok (Ts Nw : List Cond) (Pg : List zM) (cl : List vw_C) (FT : zFT) (FN : Nat → Nat) (sf : Nat → String × String × String) (M : zM) (en : zN) : Prop :=
  zEok Ts cl sf M en ∧ zIok Ts Nw Pg M en ∧ zKok Ts cl FT FN M en ∧ ∀ k : Nat, en.2.1 = .getstatic k → (sf en.2.2.2.1).1 ≠ ""
theorem zfind_eq {en : zN} {pc : Nat} : ∀ {L : List zN}, zfind L pc = some en → en ∈ L ∧ en.1 = pc
  | [], h => by cases h
  | x :: L, h => by
    unfold zfind at h
    cases hb : Nat.beq x.1 pc with
    | true => rw [hb, cond_true] at h; cases h; exact ⟨List.mem_cons_self, Nat.eq_of_beq_eq_true hb⟩
    | false => rw [hb, cond_false] at h; obtain ⟨h1, h2⟩ := zfind_eq h; exact ⟨List.mem_cons_of_mem _ h1, h2⟩
/-- how a body may end: with an answer; by its own throw; by a callee's -/
def zOut (p : Program) (l : Launch) (e : Env) (R : Room) (s : State) (m : MethodId) (args : Array Value) (below : List Frame) (meth : Method) (c : Code) (Q : State → Prop) (D : va_G) (cl : List vw_C) (xa : List Nat) (n0 : Nat) (M : zM) (tys0 : List (ClassId × FieldType)) (as0 : List Nat) (o : zO) (h' : zH) : Prop :=
  ∀ (tys : List (ClassId × FieldType)) (as : List Nat) (ws : va_W) (H : Heap) (locs : List Loc) (nc ns : Nat) (ls : Array Slot) (lv : zL), as0 <+: as → tys0 <+: tys → zI D cl xa n0 s tys as ws h' H locs → lv_has ls (zMaxL M) lv → nc ≤ (zRoom M).2.2.1 → ns ≤ (zRoom M).2.2.2 →
    (∀ (r : Option Value) (en : zN) (st sc : List Value), o = .inl r → en ∈ zIns M → zend en.2.1 (zRet M) st = some r → zF xa as st sc → W p l e R s m args below meth c H locs nc ns Q (F0 m en.1 ls sc)) ∧
    (∀ (k : Nat) (en : zN) (ix : Nat) (sc : List Value), o = .inr k → en ∈ zIns M → en.2.1 = .new ix → en.2.2.2.1 = k → en.2.2.2.2.1 = 1 → nc + 1 ≤ (zRoom M).2.2.1 → ns + 6 ≤ (zRoom M).2.2.2 → (sc.map fun v => v.category).sum ≤ 8 → W p l e R s m args below meth c H locs nc ns Q (F0 m en.1 ls sc)) ∧
    (∀ (k pc : Nat) (ce : Cell) (q9 : Addr) (sc : List Value), o = .inr k → zTab M = [] → H[q9]? = some ce → ce.vm = .none → s.vm.findClass (zEn k) = some ce.cls → vx_W p l e R s m args below meth c H locs nc ns Q (F0 m pc ls sc) q9)
/-- an exception is caught where the table says so -/
def zCat (p : Program) (l : Launch) (e : Env) (R : Room) (s : State) (m : MethodId) (args : Array Value) (below : List Frame) (meth : Method) (c : Code) (Q : State → Prop) (M : zM) : Prop :=
  ∀ (k pc t : Nat) (ce : Cell) (q9 : Addr) (H : Heap) (locs : List Loc) (nc ns : Nat) (ls : Array Slot) (sc : List Value), zTab M ≠ [] → zhand (zTab M) pc k = some t → H[q9]? = some ce → ce.vm = .none → s.vm.findClass (zEn k) = some ce.cls → W p l e R s m args below meth c H locs nc ns Q (F0 m t ls [.ref q9]) → vx_W p l e R s m args below meth c H locs nc ns Q (F0 m pc ls sc) q9
theorem zbody_ok (hN : zNwOk Nw) (hG : GoodIn Ts Ts) (S : zSy Ts cl FT M) (C : zCx p s m args meth c Ts X xa sf n0 M) (hE : zEnv Xc xac sf n0 Nw Nc s) (hI : ∀ en ∈ zIns M, zNok Ts Nw Pg cl FT FN sf M en) (hPg : ∀ (z : Nat) (M' : zM), Pg[z]? = some M' → zMok Ts cl M')
    (hR1 : (zRoom M).1 ≤ R.frames) (hR2 : (zRoom M).2.1 ≤ R.locals) (hR3 : (zRoom M).2.2.1 ≤ R.cells) (hR4 : (zRoom M).2.2.2 ≤ R.slots) (hCat : zCat p l e R s m args below meth c Q M)
    {cr : Nat → List Value → zH → zO → zH → Prop} (hcall : ∀ (z : Nat) (M' : zM) (a : List Value) (h : zH) (o : zO) (h' : zH), Pg[z]? = some M' → cr z a h o h' → ∀ (tys : List (ClassId × FieldType)) (as : List Nat) (ws : va_W) (a' : List Value), zF [] as a a' → zW xa tys as h ws → zMt l Ts Xc xac sf n0 Nw Nc D cl M' tys as ws a' o h')
    {tys0 : List (ClassId × FieldType)} {as0 : List Nat} {o : zO} {h' : zH} (hO : zOut p l e R s m args below meth c Q D cl xa n0 M tys0 as0 o h') :
    ∀ (f pc : Nat) (lo : zL) (st : List Value) (h : zH) (nc ns : Nat), zBR Pg FT FN X cr M o h' f pc lo st h nc ns → nc ≤ (zRoom M).2.2.1 → ns ≤ (zRoom M).2.2.2 → ∀ (tys : List (ClassId × FieldType)) (as : List Nat) (ws : va_W) (H : Heap) (locs : List Loc) (ls : Array Slot) (lv : zL) (sc : List Value), as0 <+: as → tys0 <+: tys → zI D cl xa n0 s tys as ws h H locs → zF xa as st sc → lv_has ls (zMaxL M) lv → zG xa as lo lv →
      W p l e R s m args below meth c H locs nc ns Q (F0 m pc ls sc) := by
  intro f
  induction f with
  | zero => intro pc lo st h nc ns hb; exact hb.elim
  | succ f ih =>
    intro pc lo st h nc ns hb hnc hns tys as ws H locs ls lv sc has htys I hf hl hg
    unfold zBR at hb
    split at hb
    · exact hb.elim
    rename_i en hfind
    obtain ⟨hmem, hpc⟩ := zfind_eq hfind
    subst hpc
    obtain ⟨he, hii, hkk, hsf⟩ := hI en hmem
    split at hb
    · rename_i r hend
      obtain ⟨rfl, rfl⟩ := hb
      exact (hO tys as ws H locs nc ns ls lv has htys I hl hnc hns).1 r en st sc rfl hmem hend hf
    split at hb
    · rename_i n r cc k hmak
      obtain ⟨hbb, hb⟩ := hb
      rw [Bool.and_eq_true] at hbb
      have b1 : nc + 1 ≤ (zRoom M).2.2.1 := Nat.le_of_ble_eq_true hbb.1
      have b2 := Nat.le_of_ble_eq_true hbb.2
      exact zs_mak S.1 C hE he hkk hmak I hf (Nat.le_trans b1 hR3) (Nat.le_trans b2 hR4) (fun tys' as' ws' H' sc' g1 g2 I' hf' => ih _ _ _ _ _ _ hb b1 b2 tys' as' ws' H' locs ls lv sc' (has.trans g1) (htys.trans g2) I' hf' hl (zG_mono g1 hg))
    split at hb
    · rename_i st' hown
      exact zs_own C he hii hR1 hR2 (Nat.le_trans hnc hR3) (Nat.le_trans hns hR4) hown hl hf (fun sc' hf' => ih _ _ _ _ _ _ hb hnc hns tys as ws H locs ls lv sc' has htys I hf' hl hg)
    split at hb
    · rename_i kd hcl
      split at hb
      · rename_i M' a r hinv
        obtain ⟨i1, i2, i3, i4, i5, i6, i7, i8, i9, i10, i11, i12⟩ := zinv_eq hinv
        rw [i2] at hf
        obtain ⟨x', y', rfl, hx', hy'⟩ := zF_app hf
        have ha' := zF_rev hx'
        rw [List.reverse_reverse] at ha'
        have hsc : x' ++ y' = x'.reverse.reverse ++ y' := by rw [List.reverse_reverse]
        rw [hsc]
        obtain ⟨o1, h1, hcl1, hb⟩ := hb
        have hc := hcall _ M' a h _ h1 i1 hcl1 tys as ws x'.reverse (zF_pl i12 ha') I.2.2.2.2
        split at hb
        · rename_i v
          exact z_callR (xa := xa) (zs_run hN hG C hE he hii (hPg _ M' i1) hcl hinv hR1 hR2 hR3 hR4 I hl ha' hy' hc) I.2.2.2.1 (fun v' tys' as' ws' H1 locs1 hF g1 g2 I' => ih _ _ _ _ _ _ hb i9 i10 tys' as' ws' H1 locs1 ls lv _ (has.trans g1) (htys.trans g2) I' (zF_join (zF_nil hF) (zF_mono g1 hy')) hl (zG_mono g1 hg))
        · rename_i k
          obtain ⟨hbb, hb⟩ := hb
          rw [Bool.or_eq_false_iff, Bool.or_eq_false_iff, Bool.not_eq_false'] at hbb
          have q1 : kd ≠ 2 := Nat.ne_of_beq_eq_false hbb.1
          have q2 : en.2.2.2.2.1 ≠ 1 := Nat.ne_of_beq_eq_false hbb.2.1
          have q3 : zTab M' = [] := List.isEmpty_iff.mp hbb.2.2
          refine z_callX (xa := xa) (zs_runX hN hG C hE he hii (hPg _ M' i1) hcl q1 q2 q3 hinv hR1 hR2 hR3 hR4 I hl ha' hy' hc) I.2.2.2.1 (fun ce q9 tys' as' ws' H1 locs1 g1 g2 I' k1 k2 k3 => ?_)
          split at hb
          · rename_i htab
            obtain ⟨rfl, rfl⟩ := hb
            exact (hO tys' as' ws' H1 locs1 _ _ ls lv (has.trans g1) (htys.trans g2) I' hl i9 i10).2.2 k en.1 ce q9 _ rfl htab k1 k2 k3
          · rename_i htab
            split at hb
            · rename_i t hhd
              split at hb
              · rename_i en2 hf2
                obtain ⟨hm2, hp2⟩ := zfind_eq hf2
                subst hp2
                split at hb
                · rename_i j n hst2
                  obtain ⟨hbj, hb⟩ := hb
                  refine hCat k en.1 en2.1 ce q9 H1 locs1 _ _ ls y' htab hhd k1 k2 k3 ?_
                  obtain ⟨⟨⟨hd2, hn2⟩, -⟩, -⟩ := hI en2 hm2
                  have hgf := zG_filter (i := j) (zG_mono g1 hg)
                  have hj := Nat.le_of_ble_eq_true hbj
                  obtain ⟨hx, hb8, -⟩ := id C
                  obtain ⟨p2, ins2, len2, x2, y2, z2⟩ := en2
                  dsimp only at hst2 hd2 hn2 hb ⊢
                  rw [hn2] at hd2
                  unfold zsto at hst2
                  split at hst2
                  · cases hst2
                  · cases hst2
                  · cases hst2
                    exact lv_astore hx hb8 hd2 hl hj rfl (fun ls' hl' => ih _ _ _ _ _ _ hb i9 i10 tys' as' ws' H1 locs1 ls' _ [] (has.trans g1) (htys.trans g2) I' trivial ⟨hl'.1, hl'.2.1, fun q hq => hl'.2.2 q (List.mem_cons_of_mem _ hq)⟩ hgf)
                  · cases hst2
                    exact lv_astore_n hx hb8 hd2 rfl hl hj rfl (fun ls' hl' => ih _ _ _ _ _ _ hb i9 i10 tys' as' ws' H1 locs1 ls' _ [] (has.trans g1) (htys.trans g2) I' trivial ⟨hl'.1, hl'.2.1, fun q hq => hl'.2.2 q (List.mem_cons_of_mem _ hq)⟩ hgf)
                  · cases hst2
                · exact hb.elim
              · exact hb.elim
            · exact hb.elim
      · exact hb.elim
    split at hb
    · rename_i ix hnew
      obtain ⟨hbb, rfl, rfl⟩ := hb
      simp only [Bool.and_eq_true] at hbb
      obtain ⟨b1, b2, b3⟩ := hbb
      refine (hO tys as ws H locs nc ns ls lv has htys I hl hnc hns).2.1 _ en ix sc rfl hmem hnew rfl ?_ (Nat.le_of_ble_eq_true b1) (Nat.le_of_ble_eq_true b2) (by rw [zF_wt hf]; exact Nat.le_of_ble_eq_true b3)
      have hmk : zmak FT FN en st = none := by assumption
      unfold zmak at hmk
      rw [hnew] at hmk
      dsimp only at hmk
      cases hb9 : Nat.beq en.2.2.2.2.1 1 with
      | true => exact Nat.eq_of_beq_eq_true hb9
      | false => rw [hb9, cond_false] at hmk; cases hmk
    · split at hb
      · rename_i pc' lo' st' h1 hst
        exact zstep_ok S C he hsf hst I hf hl hg (fun ws' H' locs' ls' lv' sc' I' hf' hl' hg' => ih _ _ _ _ _ _ hb hnc hns tys as ws' H' locs' ls' lv' sc' has htys I' hf' hl' hg')
      · exact hb.elim
end ZWB
end
section
/-! EVERY CALL of the abstract machine that comes to an end is a contract -/
def zNm : List String := ["java/lang/RuntimeException", "java/lang/Exception"]
/-- 'throw new E()' at this place -/
def zThr (Ts Nw : List Cond) (M : zM) (en : zN) (ik : Nat) : Prop := ∃ ic : Nat, decode (zCode M) en.1 = .ok (.new ik, 3) ∧ decode (zCode M) (en.1 + 3) = .ok (.dup, 1) ∧ decode (zCode M) (en.1 + 4) = .ok (.invokespecial ic, 3) ∧ decode (zCode M) (en.1 + 7) = .ok (.athrow, 1) ∧
  Cond.classLink (zName M).cls ik (zEn en.2.2.2.1) ∈ Ts ∧ Cond.initialized (zEn en.2.2.2.1) ∈ Ts ∧ (∀ w ∈ vx_at0 (zName M).cls ic (zEn en.2.2.2.1) zNm, w ∈ Ts ∨ w ∈ Nw) ∧ (∀ w ∈ Cond.classLink (zName M).cls ik (zEn en.2.2.2.1) :: Cond.initialized (zEn en.2.2.2.1) :: vx_at0 (zName M).cls ic (zEn en.2.2.2.1) zNm, vx_ot w = true) ∧
  Bundle.fit (zEn en.2.2.2.1) = true ∧ (∀ n ∈ zNm, Bundle.fit n = true) ∧ 5 < (zRoom M).1 ∧ 8 + 81 ≤ (zRoom M).2.1 ∧ zTab M = []
/-- the whole program is known -/
def zGd (l : Launch) (Ts Nw : List Cond) (Pg : List zM) (cl : List vw_C) (FT : zFT) (FN : Nat → Nat) (sf : Nat → String × String × String) : Prop :=
  l.stackTraces = false ∧ zNwOk Nw ∧ GoodIn Ts Ts ∧ ∀ (z : Nat) (M : zM), Pg[z]? = some M → zSy Ts cl FT M ∧ (∀ en ∈ zIns M, zNok Ts Nw Pg cl FT FN sf M en) ∧ zMok Ts cl M ∧ ∀ en ∈ zIns M, ∀ ik : Nat, en.2.1 = .new ik → en.2.2.2.2.1 = 1 → zThr Ts Nw M en ik
theorem lg_sl_len : ∀ {vs : List Value}, vs.all (fun v => Nat.beq v.category 1) = true → (lg_sl vs).length = vs.length
  | [], _ => rfl
  | v :: vs, h => by
    rw [List.all_cons, Bool.and_eq_true] at h
    have h1 := Nat.eq_of_beq_eq_true h.1
    have ih := lg_sl_len h.2
    unfold lg_sl at ih ⊢
    rw [List.flatMap_cons, List.length_append, ih, if_neg (by rw [h1]; decide)]
    simp; omega
theorem zargs_G {xa as : List Nat} : ∀ {vs ws : List Value} (i : Nat), zF xa as vs ws → vs.all (fun v => Nat.beq v.category 1) = true → zG xa as (zargs i vs) (lv_args i ws)
  | [], [], _, _, _ => trivial
  | [], _ :: _, _, h, _ => h.elim
  | _ :: _, [], _, h, _ => h.elim
  | v :: vs, w :: ws, i, h, ha => by
    rw [List.all_cons, Bool.and_eq_true] at ha
    have h1 := Nat.eq_of_beq_eq_true ha.1
    have h2 : w.category = 1 := (zV_catEq h.1).trans h1
    unfold zargs lv_args
    rw [if_neg (by rw [h2]; decide)]
    exact ⟨⟨rfl, h.1, h2⟩, zargs_G (i + 1) h.2 ha.2⟩
theorem zall_F {xa as : List Nat} : ∀ {vs ws : List Value}, zF xa as vs ws → vs.all (fun v => Nat.beq v.category 1) = true → ws.all (fun v => Nat.beq v.category 1) = true
  | [], [], _, _ => rfl
  | [], _ :: _, h, _ => h.elim
  | _ :: _, [], h, _ => h.elim
  | v :: vs, w :: ws, h, ha => by
    rw [List.all_cons, Bool.and_eq_true] at ha ⊢
    exact ⟨by rw [zV_catEq h.1]; exact ha.1, zall_F h.2 ha.2⟩
section ZCO
variable {p : Program} {l : Launch} {e : Env} {R : Room} {s : State} {m : MethodId} {args : Array Value} {below : List Frame} {meth : Method} {c : Code}
variable {Ts Nw : List Cond} {Nc : List (String × String)} {Pg : List zM} {cl : List vw_C} {FT : zFT} {FN : Nat → Nat} {X : zX} {xa : List Nat} {sf : Nat → String × String × String} {n0 : Nat} {M : zM} {D : va_G} {tys : List (ClassId × FieldType)} {as : List Nat} {o : zO} {h' : zH}
/-- a body's ends, as a contract wants them -/
theorem zOut_of (hst : l.stackTraces = false) (hN : zNwOk Nw) (C : zCx p s m args meth c Ts X xa sf n0 M) (hE : zEnv X xa sf n0 Nw Nc s) (hr : meth.sig.returnType = zRet M) (hlocks : meth.locks = false) (hR1 : (zRoom M).1 ≤ R.frames) (hR2 : (zRoom M).2.1 ≤ R.locals) (hR3 : (zRoom M).2.2.1 ≤ R.cells) (hR4 : (zRoom M).2.2.2 ≤ R.slots)
    (hI : ∀ en ∈ zIns M, zEok Ts cl sf M en) (hT : ∀ en ∈ zIns M, ∀ ik : Nat, en.2.1 = .new ik → en.2.2.2.2.1 = 1 → zThr Ts Nw M en ik) (htb : zTab M = [] → ∀ x ∈ c.exceptionTable.toList, False) :
    zOut p l e R s m args below meth c (vx_MQ below (zQc xa n0 D cl tys as o h') (zXC xa n0 D cl tys as o h') args s (zRoom M).2.2.1 (zRoom M).2.2.2 (zA n0)) D cl xa n0 M tys as o h' := by
  obtain ⟨hx, hb, hml, hown, hts, -⟩ := C
  intro tys1 as1 ws H locs nc ns ls lv has htys I hl hnc hns
  obtain ⟨hK, hP, hD, hS, hW⟩ := I
  refine ⟨fun r en st sc ho hmem hend hf => ?_, fun k en ik sc ho hmem hnew hk hb1 hc1 hs1 hwt => ?_, fun k pc ce q9 sc ho htab h1 h2 h3 => ?_⟩
  · obtain ⟨⟨hd, hn⟩, -⟩ := hI en hmem
    have hQ : ∀ (v : Option Value), zF [] as1 r.toList v.toList → ∀ t : State, t.heap = H → s.WarmedH t.vm → zQc xa n0 D cl tys as o h' args s (.returned v) t := fun v hv t ht hWm =>
      ⟨r, v, tys1, as1, ws, ho, rfl, hv, has, htys, hW, by rw [ht]; exact hP, va_K.moved hWm.alike hK, hD, hS.F ht⟩
    refine W.widen hnc hns (vx_ret ?_)
    obtain ⟨pc, ins, len, a0, b0, w0⟩ := en
    dsimp only at hend hd hn ⊢
    rw [hn] at hd
    unfold zend at hend
    split at hend
    · rename_i x hret
      cases hend
      match sc, hf with
      | [w], hf =>
      rw [show w = .int x from hf.1]
      exact W.iret hx hb (hr.trans hret) (hQ (some (.int x)) ⟨rfl, trivial⟩) hS.2.2 hd hlocks
    · rename_i x hret
      cases hbb : decide (x = 0) || decide (x = 1) with
      | false => rw [hbb, cond_false] at hend; cases hend
      | true =>
      rw [hbb, cond_true] at hend
      cases hend
      match sc, hf with
      | [w], hf =>
      rw [show w = .int x from hf.1]
      rw [Bool.or_eq_true, decide_eq_true_eq, decide_eq_true_eq] at hbb
      exact W.zret hx hb (hr.trans hret) (by rcases hbb with rfl | rfl <;> decide) (hQ (some (.int x)) ⟨rfl, trivial⟩) hS.2.2 hd hlocks
    · rename_i nm kk hret
      cases hend
      match sc, hf with
      | [w], hf =>
      obtain ⟨⟨a9, g1, g2⟩, -⟩ := hf
      subst g2
      exact W.aret hx hb (hr.trans hret) (Or.inl ⟨_, rfl⟩) (Or.inr ⟨a9, rfl⟩) (hQ (some (.ref a9)) ⟨⟨a9, g1, rfl⟩, trivial⟩) hS.2.2 hd hlocks
    · rename_i hret
      cases hend
      match sc, hf with
      | [], hf => exact W.vret hx hb (hr.trans hret) (hQ none trivial) hS.2.2 hd hlocks
    · cases hend
  · obtain ⟨ic, d0, d3, d4, d7, w1, w2, w3, w4, w5, w6, w7, w8, w9⟩ := hT en hmem ik hnew hb1
    rw [hk] at w1 w2 w3 w4 w5
    refine vx_throw0 hx hb hst hown w5 w6 (hts _ w1) (hts _ w2) (fun w hw => ?_) w4 hE.2.2.2.1 hE.2.2.2.2.1 hS (hl.1.trans hml.symm) d0 d3 d4 d7 (fun x hx9 => (htb w9 x hx9).elim) (by show 2 + 3 < _; omega) (by show _ + (13 * (2 + 1) + 42) ≤ _; omega) (Nat.le_trans hc1 hR3) (Nat.le_trans hs1 hR4) hlocks (fun t hal hsz hkeep => ?_) hS.2.2 hc1 hs1
    · rcases w3 w hw with h | h
      · exact hts _ h
      · exact va_Nw.use (by rcases hN w h with ⟨a, i, x, h, rfl⟩ | ⟨C, T, rfl⟩ | ⟨x, rfl⟩ <;> rfl) (hE.2.2.2.2.2.1 w h)
    · refine ⟨k, tys1, as1, ws, ho, rfl, has, htys, hW, hP.kept (fun j q hj => hkeep _ (hP j q hj).lt), va_K.moved hal hK, hD, Nat.le_trans hS.1 hsz, fun q hq1 hq2 => ?_⟩
      rw [hkeep q (Nat.lt_of_lt_of_le hq1 hS.1)]
      exact hS.2.1 q hq1 hq2
  · exact vx_out (fun x hx9 => (htb htab x hx9).elim) hlocks h1 h2 h3 (fun t ht hal => ⟨k, tys1, as1, ws, ho, rfl, has, htys, hW, by rw [ht]; exact hP, va_K.moved hal hK, hD, hS.F ht⟩) hS.2.2 hnc hns
/-- how the catching is known: for the methods with a table -/
def zCatAll (l : Launch) (Ts Nw : List Cond) (Nc : List (String × String)) (X : zX) (xa : List Nat) (sf : Nat → String × String × String) (n0 : Nat) (Pg : List zM) : Prop :=
  ∀ (z : Nat) (M : zM), Pg[z]? = some M → zTab M ≠ [] → ∀ (p : Program) (e : Env) (R : Room) (s : State) (m : MethodId) (args : Array Value) (below : List Frame) (meth : Method) (c : Code) (Q : State → Prop), zCx p s m args meth c Ts X xa sf n0 M → zEnv X xa sf n0 Nw Nc s → c.exceptionTable.toList = tableOf (zTab M) → zCat p l e R s m args below meth c Q M
theorem zcall_ok (G : zGd l Ts Nw Pg cl FT FN sf) (hCat : zCatAll l Ts Nw Nc X xa sf n0 Pg) : ∀ (d z : Nat) (M : zM) (a : List Value) (h : zH) (o : zO) (h' : zH), Pg[z]? = some M → zCR Pg FT FN X d z a h o h' → ∀ (tys : List (ClassId × FieldType)) (as : List Nat) (ws : va_W) (a' : List Value), zF [] as a a' → zW xa tys as h ws → zMt l Ts X xa sf n0 Nw Nc D cl M tys as ws a' o h' := by
  obtain ⟨hst, hN, hG, hAll⟩ := id G
  intro d
  induction d with
  | zero => intro z M a h o h' _ hc; exact hc.elim
  | succ d ih =>
    intro z M a h o h' hz hc tys as ws a' ha hW
    obtain ⟨M9, hz9, hbb, fuel, hc⟩ := hc
    cases hz.symm.trans hz9
    obtain ⟨hSy, hI, hMo, hT⟩ := hAll z M hz
    rw [Bool.and_eq_true] at hbb
    have hle := Nat.le_of_ble_eq_true hbb.1
    have hall := zall_F ha hbb.2
    have key : ∀ (p : Program) (e : Env) (s : State) (m : MethodId) (args : Array Value) (below : List Frame) (meth : Method) (c : Code) (s₁ : State), BodyLoose p l (zName M) (headSpec (zHd M :: Ts) (zRm M)) (zCode M) (zMaxL M) (zRet M) e s m args below meth c s₁ → c.maxLocals = zMaxL M → (zTab M = [] → ∀ x ∈ c.exceptionTable.toList, False) → (zTab M ≠ [] → c.exceptionTable.toList = tableOf (zTab M)) → zPc X xa sf n0 Nw Nc D cl tys ws a' args s →
        W p l e (headSpec (zHd M :: Ts) (zRm M)).room s m args below meth c s.heap [] 0 0 (vx_MQ below (zQc xa n0 D cl tys as o h') (zXC xa n0 D cl tys as o h') args s (zRoom M).2.2.1 (zRoom M).2.2.2 (zA n0)) (entryFrame m args (zMaxL M)) := by
      intro p e s m args below meth c s₁ B hml htb htb2 hv
      obtain ⟨rfl, hE, hP, hK, hD⟩ := hv
      have hts := atoms_spec (ws := zHd M :: Ts) B.pre
      have C : zCx p s m a'.toArray meth c Ts X xa sf n0 M := ⟨B.exec, B.bytes, hml, findClass_of_methodNamed B.named, fun w hw => hts w (List.mem_cons_of_mem _ hw), hE.2.1, hE.2.2.1, fun hk => ((name_of_methodNamed B.named B.method).1).trans (hMo.2.2.2.2.2.2 hk).2.1, hE.1⟩
      have hl := lv_entry a' (n := zMaxL M) (by rw [lg_sl_len hall, ← zF_len ha]; exact hle)
      rw [lg_entry_eq]
      have hO := zOut_of (e := e) (R := (headSpec (zHd M :: Ts) (zRm M)).room) (below := below) (D := D) (cl := cl) (tys := tys) (as := as) (o := o) (h' := h') hst hN C hE B.returns B.notSynchronized (Nat.le_refl _) (Nat.le_refl _) (Nat.le_refl _) (Nat.le_refl _) (fun en hen => (hI en hen).1) hT htb
      have hCt : zCat p l e (headSpec (zHd M :: Ts) (zRm M)).room s m a'.toArray below meth c (vx_MQ below (zQc xa n0 D cl tys as o h') (zXC xa n0 D cl tys as o h') a'.toArray s (zRoom M).2.2.1 (zRoom M).2.2.2 (zA n0)) M := by
        by_cases ht : zTab M = []
        · intro k pc t ce q9 H locs nc ns ls sc hne
          exact absurd ht hne
        · exact hCat z M hz ht p e _ s m _ below meth c _ C hE (htb2 ht)
      exact zbody_ok hN hG hSy C hE hI (fun z' M' hz' => (hAll z' M' hz').2.2.1) (Nat.le_refl _) (Nat.le_refl _) (Nat.le_refl _) (Nat.le_refl _) hCt ih hO fuel 0 (zargs 0 a) [] h 0 0 hc (Nat.zero_le _) (Nat.zero_le _) tys as ws s.heap [] _ _ [] (List.prefix_refl as) (List.prefix_refl tys) ⟨hK, hP, hD, va_S.rf, hW⟩ trivial hl (zargs_G 0 (zF_nil ha) hbb.2)
    unfold zMt
    cases htab : zTab M with
    | nil =>
      refine vx_ofW (cc := zCode M) (maxL := zMaxL M) (ret := zRet M) (ws' := Ts) hMo.2.2.2.1 (by unfold zHd; rw [htab]) (fun p e s m args below meth c s₁ B hml hno hv => key p e s m args below meth c s₁ B hml (fun _ => hno) (fun hne => absurd htab hne) hv)
    | cons t0 tb =>
      refine vx_ofWH (cc := zCode M) (maxL := zMaxL M) (ret := zRet M) (hh := zTab M) (ws' := Ts) hMo.2.2.2.1 (by unfold zHd; rw [htab]) (fun p e s m args below meth c s₁ B hml hv => key p e s m args below meth c s₁ B hml (fun h0 => by rw [h0] at htab; cases htab) (fun _ => ?_) hv)
      have hts := atoms_spec (ws := zHd M :: Ts) B.pre
      have h9 := hts _ List.mem_cons_self
      have e9 : zHd M = Cond.codeWith (zName M) (zCode M) (zMaxL M) (zRet M) (zTab M) := by unfold zHd; rw [htab]
      rw [e9] at h9
      exact vx_table (x := zName M) B h9
end ZCO
end
section
/-! WALKS over the relation: closed ones by the kernel, symbolic ones by rows -/
section ZX
variable {Pg : List zM} {FT : zFT} {FN : Nat → Nat} {X : zX} {cr cr' : Nat → List Value → zH → zO → zH → Prop} {M M' : zM} {o : zO} {h h1 h' : zH} {pc nc ns : Nat} {lo : zL} {st : List Value} {en : zN}
/-- a body comes to its end -/
def zBx (Pg : List zM) (FT : zFT) (FN : Nat → Nat) (X : zX) (cr : Nat → List Value → zH → zO → zH → Prop) (M : zM) (o : zO) (h' : zH) (pc : Nat) (lo : zL) (st : List Value) (h : zH) (nc ns : Nat) : Prop := ∃ f : Nat, zBR Pg FT FN X cr M o h' f pc lo st h nc ns
theorem zBR_of {call : Nat → List Value → zH → Option (zO × zH)} (hc : ∀ z a h o h', call z a h = some (o, h') → cr z a h o h') : ∀ (f pc : Nat) (lo : zL) (st : List Value) (h : zH) (nc ns : Nat), zbody Pg FT FN X call M f pc lo st h nc ns = some (o, h') → zBR Pg FT FN X cr M o h' f pc lo st h nc ns := by
  intro f
  induction f with
  | zero => intro pc lo st h nc ns hb; unfold zbody at hb; cases hb
  | succ f ih =>
    intro pc lo st h nc ns hb
    unfold zbody at hb
    unfold zBR
    cases h1 : zfind (zIns M) pc with
    | none => rw [h1] at hb; cases hb
    | some en =>
    rw [h1] at hb
    dsimp only at hb ⊢
    cases h2 : zend en.2.1 (zRet M) st with
    | some r => rw [h2] at hb; cases hb; exact ⟨rfl, rfl⟩
    | none =>
    rw [h2] at hb
    dsimp only at hb ⊢
    cases h3 : zmak FT FN en st with
    | some q =>
      obtain ⟨n, r, c, k⟩ := q
      rw [h3] at hb
      dsimp only at hb ⊢
      cases hbb : Nat.blt nc (zRoom M).2.2.1 && Nat.ble (ns + k) (zRoom M).2.2.2 with
      | false => rw [hbb, cond_false] at hb; cases hb
      | true => rw [hbb, cond_true] at hb; exact ⟨rfl, ih _ _ _ _ _ _ hb⟩
    | none =>
    rw [h3] at hb
    dsimp only at hb ⊢
    cases h4 : zown M en st with
    | some st' => rw [h4] at hb; exact ih _ _ _ _ _ _ hb
    | none =>
    rw [h4] at hb
    dsimp only at hb ⊢
    cases h5 : zcl en.2.1 with
    | some kd =>
      rw [h5] at hb
      dsimp only at hb ⊢
      cases h6 : zinv Pg M en kd st h nc ns with
      | none => rw [h6] at hb; cases hb
      | some q =>
      obtain ⟨M', a, r⟩ := q
      rw [h6] at hb
      dsimp only at hb ⊢
      cases h7 : call en.2.2.2.1 a h with
      | none => rw [h7] at hb; cases hb
      | some q =>
      obtain ⟨o1, h8⟩ := q
      rw [h7] at hb
      refine ⟨o1, h8, hc _ _ _ _ _ h7, ?_⟩
      cases o1 with
      | inl v => exact ih _ _ _ _ _ _ hb
      | inr k =>
      dsimp only at hb ⊢
      cases hbb : Nat.beq kd 2 || (Nat.beq en.2.2.2.2.1 1 || !(zTab M').isEmpty) with
      | true => rw [hbb, cond_true] at hb; cases hb
      | false =>
      rw [hbb, cond_false] at hb
      refine ⟨rfl, ?_⟩
      cases h9 : zTab M with
      | nil => rw [h9] at hb; cases hb; exact ⟨rfl, rfl⟩
      | cons t0 tb =>
      rw [h9] at hb
      dsimp only at hb ⊢
      cases h10 : zhand (t0 :: tb) pc k with
      | none => rw [h10] at hb; cases hb
      | some t =>
      rw [h10] at hb
      dsimp only at hb ⊢
      cases h11 : zfind (zIns M) t with
      | none => rw [h11] at hb; cases hb
      | some en2 =>
      rw [h11] at hb
      dsimp only at hb ⊢
      cases h12 : zsto en2.2.1 with
      | none => rw [h12] at hb; cases hb
      | some q =>
      obtain ⟨j, n, b⟩ := q
      rw [h12] at hb
      cases b with
      | false => cases hb
      | true =>
      dsimp only at hb ⊢
      cases hbj : Nat.blt j (zMaxL M) with
      | false => rw [hbj, cond_false] at hb; cases hb
      | true => rw [hbj, cond_true] at hb; exact ⟨rfl, ih _ _ _ _ _ _ hb⟩
    | none =>
    rw [h5] at hb
    dsimp only at hb ⊢
    split at hb
    · rename_i ix hnew
      rw [hnew]
      dsimp only
      cases hbb : Nat.ble (nc + 1) (zRoom M).2.2.1 && (Nat.ble (ns + 6) (zRoom M).2.2.2 && Nat.ble (zWt st) 8) with
      | false => rw [hbb, cond_false] at hb; cases hb
      | true => rw [hbb, cond_true] at hb; cases hb; exact ⟨rfl, rfl, rfl⟩
    · rename_i hnn
      cases h6 : zstep M FT X en lo st h with
      | none => rw [h6] at hb; cases hb
      | some q =>
      obtain ⟨pc', lo', st', h8⟩ := q
      rw [h6] at hb
      dsimp only at hb ⊢
      split
      · rename_i ix hnew; exact absurd hnew (hnn ix)
      · exact ih _ _ _ _ _ _ hb
theorem zCR_of : ∀ (d z : Nat) (a : List Value) (h : zH) (o : zO) (h' : zH), zcall Pg FT FN X d z a h = some (o, h') → zCR Pg FT FN X d z a h o h' := by
  intro d
  induction d with
  | zero => intro z a h o h' hc; unfold zcall at hc; cases hc
  | succ d ih =>
    intro z a h o h' hc
    unfold zcall at hc
    cases hz : Pg[z]? with
    | none => rw [hz] at hc; cases hc
    | some M =>
    rw [hz] at hc
    dsimp only at hc
    cases hbb : Nat.ble a.length (zMaxL M) && a.all (fun v => Nat.beq v.category 1) with
    | false => rw [hbb, cond_false] at hc; cases hc
    | true => rw [hbb, cond_true] at hc; exact ⟨M, hz, hbb, zfuel, zBR_of ih _ _ _ _ _ _ _ hc⟩
theorem zBR_mono (hcc : ∀ z a h o h', cr z a h o h' → cr' z a h o h') : ∀ (f pc : Nat) (lo : zL) (st : List Value) (h : zH) (nc ns : Nat), zBR Pg FT FN X cr M o h' f pc lo st h nc ns → zBR Pg FT FN X cr' M o h' f pc lo st h nc ns := by
  intro f
  induction f with
  | zero => intro pc lo st h nc ns hb; exact hb
  | succ f ih =>
    intro pc lo st h nc ns hb
    unfold zBR at hb ⊢
    cases h1 : zfind (zIns M) pc with
    | none => rw [h1] at hb; exact hb
    | some en =>
    rw [h1] at hb
    dsimp only at hb ⊢
    cases h2 : zend en.2.1 (zRet M) st with
    | some r => rw [h2] at hb; exact hb
    | none =>
    rw [h2] at hb
    dsimp only at hb ⊢
    cases h3 : zmak FT FN en st with
    | some q => rw [h3] at hb; exact ⟨hb.1, ih _ _ _ _ _ _ hb.2⟩
    | none =>
    rw [h3] at hb
    dsimp only at hb ⊢
    cases h4 : zown M en st with
    | some st' => rw [h4] at hb; exact ih _ _ _ _ _ _ hb
    | none =>
    rw [h4] at hb
    dsimp only at hb ⊢
    cases h5 : zcl en.2.1 with
    | some kd =>
      rw [h5] at hb
      dsimp only at hb ⊢
      cases h6 : zinv Pg M en kd st h nc ns with
      | none => rw [h6] at hb; exact hb
      | some q =>
      obtain ⟨M', a, r⟩ := q
      rw [h6] at hb
      dsimp only at hb ⊢
      obtain ⟨o1, h8, h7, hb⟩ := hb
      refine ⟨o1, h8, hcc _ _ _ _ _ h7, ?_⟩
      cases o1 with
      | inl v => exact ih _ _ _ _ _ _ hb
      | inr k =>
      dsimp only at hb ⊢
      refine ⟨hb.1, ?_⟩
      have hb := hb.2
      cases h9 : zTab M with
      | nil => rw [h9] at hb; exact hb
      | cons t0 tb =>
      rw [h9] at hb
      dsimp only at hb ⊢
      cases h10 : zhand (t0 :: tb) pc k with
      | none => rw [h10] at hb; exact hb
      | some t =>
      rw [h10] at hb
      dsimp only at hb ⊢
      cases h11 : zfind (zIns M) t with
      | none => rw [h11] at hb; exact hb
      | some en2 =>
      rw [h11] at hb
      dsimp only at hb ⊢
      cases h12 : zsto en2.2.1 with
      | none => rw [h12] at hb; exact hb
      | some q =>
      obtain ⟨j, n, b⟩ := q
      rw [h12] at hb
      cases b with
      | false => exact hb
      | true => exact ⟨hb.1, ih _ _ _ _ _ _ hb.2⟩
    | none =>
    rw [h5] at hb
    dsimp only at hb ⊢
    split at hb
    · exact hb
    · cases h6 : zstep M FT X en lo st h with
      | none => rw [h6] at hb; exact hb.elim
      | some q =>
      rw [h6] at hb
      exact ih _ _ _ _ _ _ hb
theorem zCR_succ : ∀ (d z : Nat) (a : List Value) (h : zH) (o : zO) (h' : zH), zCR Pg FT FN X d z a h o h' → zCR Pg FT FN X (d + 1) z a h o h' := by
  intro d
  induction d with
  | zero => intro z a h o h' hc; exact hc.elim
  | succ d ih =>
    intro z a h o h' hc
    obtain ⟨M, h1, h2, f, h3⟩ := hc
    exact ⟨M, h1, h2, f, zBR_mono ih _ _ _ _ _ _ _ h3⟩
theorem zCR_le {d e : Nat} (hde : d ≤ e) {z : Nat} {a : List Value} (hc : zCR Pg FT FN X d z a h o h') : zCR Pg FT FN X e z a h o h' := by
  induction hde with
  | refl => exact hc
  | step _ ih => exact zCR_succ _ _ _ _ _ _ ih
/-- instructions that only step -/
def zplain (i : Instr) : Bool := match i with
  | .ireturn => false
  | .areturn => false
  | .return_ => false
  | .new _ => false
  | .newarray _ => false
  | .anewarray _ => false
  | .invokevirtual _ => false
  | .invokestatic _ => false
  | .invokespecial _ => false
  | _ => true
theorem zplain_end {i : Instr} (hp : zplain i = true) {ret : Option FieldType} {st : List Value} : zend i ret st = none := by
  unfold zend
  split <;> first | rfl | cases hp
theorem zplain_mak (hp : zplain en.2.1 = true) : zmak FT FN en st = none := by
  unfold zmak
  split <;> first | rfl | (rename_i hq; rw [hq] at hp; cases hp)
theorem zplain_own (hp : zplain en.2.1 = true) : zown M en st = none := by
  unfold zown
  split <;> first | rfl | (rename_i hq _; rw [hq] at hp; cases hp)
theorem zplain_cl {i : Instr} (hp : zplain i = true) : zcl i = none := by
  unfold zcl
  split <;> first | rfl | cases hp
/-- one step -/
theorem zx_s {pc' : Nat} {lo' : zL} {st' : List Value} (hf : zfind (zIns M) pc = some en) (hp : zplain en.2.1 = true) (hs : zstep M FT X en lo st h = some (pc', lo', st', h1)) (k : zBx Pg FT FN X cr M o h' pc' lo' st' h1 nc ns) : zBx Pg FT FN X cr M o h' pc lo st h nc ns := by
  obtain ⟨f, k⟩ := k
  refine ⟨f + 1, ?_⟩
  unfold zBR
  rw [hf]
  dsimp only
  rw [zplain_end hp]
  dsimp only
  rw [zplain_mak hp]
  dsimp only
  rw [zplain_own hp]
  dsimp only
  rw [zplain_cl hp]
  dsimp only
  split
  · rename_i ix hq; rw [hq] at hp; cases hp
  · rw [hs]; exact k
/-- many steps -/
def zgo (M : zM) (FT : zFT) (X : zX) : Nat → Nat → zL → List Value → zH → zS
  | 0, pc, lo, st, h => (pc, lo, st, h)
  | k + 1, pc, lo, st, h => match zfind (zIns M) pc with
    | some en => bif zplain en.2.1 then (match zstep M FT X en lo st h with
      | some (pc', lo', st', h1) => zgo M FT X k pc' lo' st' h1
      | none => (pc, lo, st, h)) else (pc, lo, st, h)
    | none => (pc, lo, st, h)
theorem zx_go {pc' : Nat} {lo' : zL} {st' : List Value} : ∀ (k : Nat) {pc : Nat} {lo : zL} {st : List Value} {h : zH}, zgo M FT X k pc lo st h = (pc', lo', st', h1) → zBx Pg FT FN X cr M o h' pc' lo' st' h1 nc ns → zBx Pg FT FN X cr M o h' pc lo st h nc ns := by
  intro k
  induction k with
  | zero => intro pc lo st h hg kk; unfold zgo at hg; cases hg; exact kk
  | succ k ih =>
    intro pc lo st h hg kk
    unfold zgo at hg
    split at hg
    · rename_i en hf
      cases hp : zplain en.2.1 with
      | false => rw [hp, cond_false] at hg; cases hg; exact kk
      | true =>
      rw [hp, cond_true] at hg
      split at hg
      · rename_i p2 l2 s2 h2 hs
        exact zx_s hf hp hs (ih hg kk)
      · cases hg; exact kk
    · cases hg; exact kk
/-- an end -/
theorem zx_r {r : Option Value} (hf : zfind (zIns M) pc = some en) (he : zend en.2.1 (zRet M) st = some r) : zBx Pg FT FN X cr M (.inl r) h pc lo st h nc ns := by
  refine ⟨1, ?_⟩
  unfold zBR
  rw [hf]
  dsimp only
  rw [he]
  exact ⟨rfl, rfl⟩
theorem zcl_end {i : Instr} {kd : Nat} (hc : zcl i = some kd) {ret : Option FieldType} {st : List Value} : zend i ret st = none := by
  unfold zend
  split <;> first | rfl | cases hc
theorem zcl_mak {kd : Nat} (hc : zcl en.2.1 = some kd) : zmak FT FN en st = none := by
  unfold zmak
  split <;> first | rfl | (rename_i hq; rw [hq] at hc; cases hc)
/-- a call that returns -/
theorem zx_c {kd : Nat} {a r : List Value} {v : Option Value} (hf : zfind (zIns M) pc = some en) (hc : zcl en.2.1 = some kd) (ho : zown M en st = none) (hi : zinv Pg M en kd st h nc ns = some (M', a, r)) (hcr : cr en.2.2.2.1 a h (.inl v) h1)
    (k : zBx Pg FT FN X cr M o h' (pc + 3) lo (v.toList ++ r) h1 (nc + (zRoom M').2.2.1) (ns + (zRoom M').2.2.2)) : zBx Pg FT FN X cr M o h' pc lo st h nc ns := by
  obtain ⟨f, k⟩ := k
  refine ⟨f + 1, ?_⟩
  unfold zBR
  rw [hf]
  dsimp only
  rw [zcl_end hc]
  dsimp only
  rw [zcl_mak hc]
  dsimp only
  rw [ho]
  dsimp only
  rw [hc]
  dsimp only
  rw [hi]
  exact ⟨.inl v, h1, hcr, k⟩
/-- Object's constructor, Math.min -/
theorem zx_o {kd : Nat} {st' : List Value} (hf : zfind (zIns M) pc = some en) (hc : zcl en.2.1 = some kd) (ho : zown M en st = some st') (k : zBx Pg FT FN X cr M o h' (pc + 3) lo st' h nc ns) : zBx Pg FT FN X cr M o h' pc lo st h nc ns := by
  obtain ⟨f, k⟩ := k
  refine ⟨f + 1, ?_⟩
  unfold zBR
  rw [hf]
  dsimp only
  rw [zcl_end hc]
  dsimp only
  rw [zcl_mak hc]
  dsimp only
  rw [ho]
  exact k
/-- a call that throws, and nothing catches it here -/
theorem zx_x {kd k : Nat} {a r : List Value} (hf : zfind (zIns M) pc = some en) (hc : zcl en.2.1 = some kd) (ho : zown M en st = none) (hi : zinv Pg M en kd st h nc ns = some (M', a, r)) (hcr : cr en.2.2.2.1 a h (.inr k) h1) (hb : (Nat.beq kd 2 || (Nat.beq en.2.2.2.2.1 1 || !(zTab M').isEmpty)) = false) (ht : zTab M = []) : zBx Pg FT FN X cr M (.inr k) h1 pc lo st h nc ns := by
  refine ⟨1, ?_⟩
  unfold zBR
  rw [hf]
  dsimp only
  rw [zcl_end hc]
  dsimp only
  rw [zcl_mak hc]
  dsimp only
  rw [ho]
  dsimp only
  rw [hc]
  dsimp only
  rw [hi]
  refine ⟨.inr k, h1, hcr, hb, ?_⟩
  rw [ht]
  exact ⟨rfl, rfl⟩
/-- a call that throws, caught here -/
theorem zx_k {kd k t j n : Nat} {a r : List Value} {en2 : zN} (hf : zfind (zIns M) pc = some en) (hc : zcl en.2.1 = some kd) (ho : zown M en st = none) (hi : zinv Pg M en kd st h nc ns = some (M', a, r)) (hcr : cr en.2.2.2.1 a h (.inr k) h1) (hb : (Nat.beq kd 2 || (Nat.beq en.2.2.2.2.1 1 || !(zTab M').isEmpty)) = false) (ht : zTab M ≠ []) (hh : zhand (zTab M) pc k = some t) (hf2 : zfind (zIns M) t = some en2) (hs2 : zsto en2.2.1 = some (j, n, true)) (hj : Nat.blt j (zMaxL M) = true)
    (kk : zBx Pg FT FN X cr M o h' (t + n) (lo.filter (fun q => !(Nat.beq q.1 j))) [] h1 (nc + (zRoom M').2.2.1) (ns + (zRoom M').2.2.2)) : zBx Pg FT FN X cr M o h' pc lo st h nc ns := by
  obtain ⟨f, kk⟩ := kk
  refine ⟨f + 1, ?_⟩
  unfold zBR
  rw [hf]
  dsimp only
  rw [zcl_end hc]
  dsimp only
  rw [zcl_mak hc]
  dsimp only
  rw [ho]
  dsimp only
  rw [hc]
  dsimp only
  rw [hi]
  refine ⟨.inr k, h1, hcr, hb, ?_⟩
  cases h9 : zTab M with
  | nil => exact absurd h9 ht
  | cons t0 tb =>
  rw [h9] at hh
  dsimp only
  rw [hh]
  dsimp only
  rw [hf2]
  dsimp only
  rw [hs2]
  exact ⟨hj, kk⟩
/-- a making -/
theorem zx_m {n k : Nat} {r : List Value} {c : zE} (hf : zfind (zIns M) pc = some en) (he : zend en.2.1 (zRet M) st = none) (hm : zmak FT FN en st = some (n, r, c, k)) (hb : (Nat.blt nc (zRoom M).2.2.1 && Nat.ble (ns + k) (zRoom M).2.2.2) = true) (kk : zBx Pg FT FN X cr M o h' (pc + n) lo (.ref h.length :: r) (h ++ [c]) (nc + 1) (ns + k)) : zBx Pg FT FN X cr M o h' pc lo st h nc ns := by
  obtain ⟨f, kk⟩ := kk
  refine ⟨f + 1, ?_⟩
  unfold zBR
  rw [hf]
  dsimp only
  rw [he]
  dsimp only
  rw [hm]
  exact ⟨hb, kk⟩
end ZX
end
section
-- the tables' words: pasted from kit/laws/SKELETON.whole.lean.txt, PART A (a starting text)
/-- a private method of a class that the tables say can be made, by its rows of tables_1 -/
def lw_okq (q : MethodName × Nat) : Prop := (q.1.cls ≠ "java/lang/invoke/MethodHandle" ∧ q.1.cls ≠ "java/lang/invoke/VarHandle") ∧ Cond.instantiable q.1.cls q.2 ∈ tables_1 ∧ Cond.privateMethod q.1 ∈ tables_1 ∧ Cond.instanceMethod q.1 ∈ tables_1
theorem lw_p0 : lw_okq (⟨"java/lang/Throwable", "fillInStackTrace", "(I)Ljava/lang/Throwable;"⟩, 6) := ⟨⟨by decide +kernel, by decide +kernel⟩, List.mem_of_getElem? (i := 388) (by decide +kernel), List.mem_of_getElem? (i := 386) (by decide +kernel), List.mem_of_getElem? (i := 387) (by decide +kernel)⟩
theorem lw_p1 : lw_okq (⟨"NestedPager", "guestThere", "(I)LNestedPager$Guest;"⟩, 9) := ⟨⟨by decide +kernel, by decide +kernel⟩, List.mem_of_getElem? (i := 20) (by decide +kernel), List.mem_of_getElem? (i := 440) (by decide +kernel), List.mem_of_getElem? (i := 441) (by decide +kernel)⟩
theorem lw_p2 : lw_okq (⟨"NestedPager", "vcpuThere", "(I)LNestedPager$Vcpu;"⟩, 9) := ⟨⟨by decide +kernel, by decide +kernel⟩, List.mem_of_getElem? (i := 20) (by decide +kernel), List.mem_of_getElem? (i := 527) (by decide +kernel), List.mem_of_getElem? (i := 528) (by decide +kernel)⟩
theorem lw_p3 : lw_okq (⟨"NestedPager$Translator", "recall", "(LNestedPager$Vcpu;II)I"⟩, 2) := ⟨⟨by decide +kernel, by decide +kernel⟩, List.mem_of_getElem? (i := 276) (by decide +kernel), List.mem_of_getElem? (i := 576) (by decide +kernel), List.mem_of_getElem? (i := 577) (by decide +kernel)⟩
theorem lw_p4 : lw_okq (⟨"NestedPager$Translator", "walk", "(LNestedPager$Vcpu;II)I"⟩, 2) := ⟨⟨by decide +kernel, by decide +kernel⟩, List.mem_of_getElem? (i := 276) (by decide +kernel), List.mem_of_getElem? (i := 603) (by decide +kernel), List.mem_of_getElem? (i := 604) (by decide +kernel)⟩
theorem lw_p5 : lw_okq (⟨"NestedPager$Translator", "loadEntry", "(LNestedPager$Vcpu;III)I"⟩, 2) := ⟨⟨by decide +kernel, by decide +kernel⟩, List.mem_of_getElem? (i := 276) (by decide +kernel), List.mem_of_getElem? (i := 607) (by decide +kernel), List.mem_of_getElem? (i := 608) (by decide +kernel)⟩
theorem lw_p6 : lw_okq (⟨"NestedPager$Memory", "handStop", "()I"⟩, 9) := ⟨⟨by decide +kernel, by decide +kernel⟩, List.mem_of_getElem? (i := 28) (by decide +kernel), List.mem_of_getElem? (i := 635) (by decide +kernel), List.mem_of_getElem? (i := 636) (by decide +kernel)⟩
theorem lw_p7 : lw_okq (⟨"NestedPager$Translator", "markEntry", "(LNestedPager$Vcpu;IIIII)Z"⟩, 2) := ⟨⟨by decide +kernel, by decide +kernel⟩, List.mem_of_getElem? (i := 276) (by decide +kernel), List.mem_of_getElem? (i := 664) (by decide +kernel), List.mem_of_getElem? (i := 665) (by decide +kernel)⟩
theorem lw_p8 : lw_okq (⟨"NestedPager$Devices", "writeDisk", "(LNestedPager$Guest;II)V"⟩, 3) := ⟨⟨by decide +kernel, by decide +kernel⟩, List.mem_of_getElem? (i := 259) (by decide +kernel), List.mem_of_getElem? (i := 700) (by decide +kernel), List.mem_of_getElem? (i := 701) (by decide +kernel)⟩
theorem lw_p9 : lw_okq (⟨"NestedPager$Devices", "transfer", "(LNestedPager$Disk;II)V"⟩, 3) := ⟨⟨by decide +kernel, by decide +kernel⟩, List.mem_of_getElem? (i := 259) (by decide +kernel), List.mem_of_getElem? (i := 708) (by decide +kernel), List.mem_of_getElem? (i := 709) (by decide +kernel)⟩
theorem lw_p10 : lw_okq (⟨"NestedPager$Devices", "post", "(II)V"⟩, 3) := ⟨⟨by decide +kernel, by decide +kernel⟩, List.mem_of_getElem? (i := 259) (by decide +kernel), List.mem_of_getElem? (i := 712) (by decide +kernel), List.mem_of_getElem? (i := 713) (by decide +kernel)⟩
theorem lw_p11 : lw_okq (⟨"NestedPager$Processor", "isHandled", "(LNestedPager$Vcpu;I)Z"⟩, 3) := ⟨⟨by decide +kernel, by decide +kernel⟩, List.mem_of_getElem? (i := 289) (by decide +kernel), List.mem_of_getElem? (i := 734) (by decide +kernel), List.mem_of_getElem? (i := 735) (by decide +kernel)⟩
theorem lw_p12 : lw_okq (⟨"NestedPager$Processor", "execute", "(LNestedPager$Vcpu;III)V"⟩, 3) := ⟨⟨by decide +kernel, by decide +kernel⟩, List.mem_of_getElem? (i := 289) (by decide +kernel), List.mem_of_getElem? (i := 747) (by decide +kernel), List.mem_of_getElem? (i := 748) (by decide +kernel)⟩
theorem lw_p13 : lw_okq (⟨"NestedPager$Processor", "control", "(LNestedPager$Vcpu;I)V"⟩, 3) := ⟨⟨by decide +kernel, by decide +kernel⟩, List.mem_of_getElem? (i := 289) (by decide +kernel), List.mem_of_getElem? (i := 751) (by decide +kernel), List.mem_of_getElem? (i := 752) (by decide +kernel)⟩
theorem lw_p14 : lw_okq (⟨"NestedPager$LookAside", "isMeant", "(IIII)Z"⟩, 6) := ⟨⟨by decide +kernel, by decide +kernel⟩, List.mem_of_getElem? (i := 193) (by decide +kernel), List.mem_of_getElem? (i := 762) (by decide +kernel), List.mem_of_getElem? (i := 763) (by decide +kernel)⟩
theorem lw_p15 : lw_okq (⟨"NestedPager$Processor", "callHost", "(LNestedPager$Vcpu;I)I"⟩, 3) := ⟨⟨by decide +kernel, by decide +kernel⟩, List.mem_of_getElem? (i := 289) (by decide +kernel), List.mem_of_getElem? (i := 767) (by decide +kernel), List.mem_of_getElem? (i := 768) (by decide +kernel)⟩
def lw_privs_1 : List (MethodName × Nat) := [(⟨"java/lang/Throwable", "fillInStackTrace", "(I)Ljava/lang/Throwable;"⟩, 6), (⟨"NestedPager", "guestThere", "(I)LNestedPager$Guest;"⟩, 9), (⟨"NestedPager", "vcpuThere", "(I)LNestedPager$Vcpu;"⟩, 9), (⟨"NestedPager$Translator", "recall", "(LNestedPager$Vcpu;II)I"⟩, 2), (⟨"NestedPager$Translator", "walk", "(LNestedPager$Vcpu;II)I"⟩, 2), (⟨"NestedPager$Translator", "loadEntry", "(LNestedPager$Vcpu;III)I"⟩, 2), (⟨"NestedPager$Memory", "handStop", "()I"⟩, 9), (⟨"NestedPager$Translator", "markEntry", "(LNestedPager$Vcpu;IIIII)Z"⟩, 2), (⟨"NestedPager$Devices", "writeDisk", "(LNestedPager$Guest;II)V"⟩, 3), (⟨"NestedPager$Devices", "transfer", "(LNestedPager$Disk;II)V"⟩, 3), (⟨"NestedPager$Devices", "post", "(II)V"⟩, 3), (⟨"NestedPager$Processor", "isHandled", "(LNestedPager$Vcpu;I)Z"⟩, 3), (⟨"NestedPager$Processor", "execute", "(LNestedPager$Vcpu;III)V"⟩, 3), (⟨"NestedPager$Processor", "control", "(LNestedPager$Vcpu;I)V"⟩, 3), (⟨"NestedPager$LookAside", "isMeant", "(IIII)Z"⟩, 6), (⟨"NestedPager$Processor", "callHost", "(LNestedPager$Vcpu;I)I"⟩, 3)]
theorem lw_r1 : ∀ q ∈ lw_privs_1, lw_okq q := List.forall_mem_cons.mpr ⟨lw_p0, List.forall_mem_cons.mpr ⟨lw_p1, List.forall_mem_cons.mpr ⟨lw_p2, List.forall_mem_cons.mpr ⟨lw_p3, List.forall_mem_cons.mpr ⟨lw_p4, List.forall_mem_cons.mpr ⟨lw_p5, List.forall_mem_cons.mpr ⟨lw_p6, List.forall_mem_cons.mpr ⟨lw_p7, List.forall_mem_cons.mpr ⟨lw_p8, List.forall_mem_cons.mpr ⟨lw_p9, List.forall_mem_cons.mpr ⟨lw_p10, List.forall_mem_cons.mpr ⟨lw_p11, List.forall_mem_cons.mpr ⟨lw_p12, List.forall_mem_cons.mpr ⟨lw_p13, List.forall_mem_cons.mpr ⟨lw_p14, List.forall_mem_cons.mpr ⟨lw_p15, fun _ h => absurd h List.not_mem_nil⟩⟩⟩⟩⟩⟩⟩⟩⟩⟩⟩⟩⟩⟩⟩⟩
theorem lw_p16 : lw_okq (⟨"NestedPager$Processor", "clearAll", "(I)I"⟩, 3) := ⟨⟨by decide +kernel, by decide +kernel⟩, List.mem_of_getElem? (i := 289) (by decide +kernel), List.mem_of_getElem? (i := 783) (by decide +kernel), List.mem_of_getElem? (i := 784) (by decide +kernel)⟩
theorem lw_p17 : lw_okq (⟨"NestedPager$Processor", "sendEvent", "(II)I"⟩, 3) := ⟨⟨by decide +kernel, by decide +kernel⟩, List.mem_of_getElem? (i := 289) (by decide +kernel), List.mem_of_getElem? (i := 792) (by decide +kernel), List.mem_of_getElem? (i := 793) (by decide +kernel)⟩
theorem lw_p18 : lw_okq (⟨"NestedPager", "frameOfPageHere", "(LNestedPager$Guest;I)I"⟩, 9) := ⟨⟨by decide +kernel, by decide +kernel⟩, List.mem_of_getElem? (i := 20) (by decide +kernel), List.mem_of_getElem? (i := 847) (by decide +kernel), List.mem_of_getElem? (i := 848) (by decide +kernel)⟩
theorem lw_p19 : lw_okq (⟨"NestedPagerModel", "refused", "(I)Z"⟩, 42) := ⟨⟨by decide +kernel, by decide +kernel⟩, List.mem_of_getElem? (i := 971) (by decide +kernel), List.mem_of_getElem? (i := 1115) (by decide +kernel), List.mem_of_getElem? (i := 1116) (by decide +kernel)⟩
theorem lw_p20 : lw_okq (⟨"NestedPagerModel", "freeFrame", "()I"⟩, 42) := ⟨⟨by decide +kernel, by decide +kernel⟩, List.mem_of_getElem? (i := 971) (by decide +kernel), List.mem_of_getElem? (i := 1119) (by decide +kernel), List.mem_of_getElem? (i := 1120) (by decide +kernel)⟩
theorem lw_p21 : lw_okq (⟨"NestedPagerModel", "entryOf", "(II)I"⟩, 42) := ⟨⟨by decide +kernel, by decide +kernel⟩, List.mem_of_getElem? (i := 971) (by decide +kernel), List.mem_of_getElem? (i := 1127) (by decide +kernel), List.mem_of_getElem? (i := 1128) (by decide +kernel)⟩
theorem lw_p22 : lw_okq (⟨"NestedPagerModel", "tableOf", "(II)I"⟩, 42) := ⟨⟨by decide +kernel, by decide +kernel⟩, List.mem_of_getElem? (i := 971) (by decide +kernel), List.mem_of_getElem? (i := 1131) (by decide +kernel), List.mem_of_getElem? (i := 1132) (by decide +kernel)⟩
theorem lw_p23 : lw_okq (⟨"NestedPagerModel", "giveUp", "(I)V"⟩, 42) := ⟨⟨by decide +kernel, by decide +kernel⟩, List.mem_of_getElem? (i := 971) (by decide +kernel), List.mem_of_getElem? (i := 1138) (by decide +kernel), List.mem_of_getElem? (i := 1139) (by decide +kernel)⟩
theorem lw_p24 : lw_okq (⟨"NestedPagerModel", "told", "(II)I"⟩, 42) := ⟨⟨by decide +kernel, by decide +kernel⟩, List.mem_of_getElem? (i := 971) (by decide +kernel), List.mem_of_getElem? (i := 1142) (by decide +kernel), List.mem_of_getElem? (i := 1143) (by decide +kernel)⟩
theorem lw_p25 : lw_okq (⟨"NestedPagerModel", "tell", "(III)V"⟩, 42) := ⟨⟨by decide +kernel, by decide +kernel⟩, List.mem_of_getElem? (i := 971) (by decide +kernel), List.mem_of_getElem? (i := 1150) (by decide +kernel), List.mem_of_getElem? (i := 1151) (by decide +kernel)⟩
theorem lw_p26 : lw_okq (⟨"NestedPagerModel", "tick", "(I)V"⟩, 42) := ⟨⟨by decide +kernel, by decide +kernel⟩, List.mem_of_getElem? (i := 971) (by decide +kernel), List.mem_of_getElem? (i := 1170) (by decide +kernel), List.mem_of_getElem? (i := 1171) (by decide +kernel)⟩
theorem lw_p27 : lw_okq (⟨"NestedPagerModel", "happen", "(I)V"⟩, 42) := ⟨⟨by decide +kernel, by decide +kernel⟩, List.mem_of_getElem? (i := 971) (by decide +kernel), List.mem_of_getElem? (i := 1174) (by decide +kernel), List.mem_of_getElem? (i := 1175) (by decide +kernel)⟩
theorem lw_p28 : lw_okq (⟨"NestedPagerModel", "go", "(IIII)Z"⟩, 42) := ⟨⟨by decide +kernel, by decide +kernel⟩, List.mem_of_getElem? (i := 971) (by decide +kernel), List.mem_of_getElem? (i := 1179) (by decide +kernel), List.mem_of_getElem? (i := 1180) (by decide +kernel)⟩
theorem lw_p29 : lw_okq (⟨"NestedPagerModel", "lookAside", "(III)I"⟩, 42) := ⟨⟨by decide +kernel, by decide +kernel⟩, List.mem_of_getElem? (i := 971) (by decide +kernel), List.mem_of_getElem? (i := 1183) (by decide +kernel), List.mem_of_getElem? (i := 1184) (by decide +kernel)⟩
theorem lw_p30 : lw_okq (⟨"NestedPagerModel", "fits", "(III)Z"⟩, 42) := ⟨⟨by decide +kernel, by decide +kernel⟩, List.mem_of_getElem? (i := 971) (by decide +kernel), List.mem_of_getElem? (i := 1187) (by decide +kernel), List.mem_of_getElem? (i := 1188) (by decide +kernel)⟩
theorem lw_p31 : lw_okq (⟨"NestedPagerModel", "lets", "(IIZZZ)Z"⟩, 42) := ⟨⟨by decide +kernel, by decide +kernel⟩, List.mem_of_getElem? (i := 971) (by decide +kernel), List.mem_of_getElem? (i := 1191) (by decide +kernel), List.mem_of_getElem? (i := 1192) (by decide +kernel)⟩
def lw_privs_2 : List (MethodName × Nat) := [(⟨"NestedPager$Processor", "clearAll", "(I)I"⟩, 3), (⟨"NestedPager$Processor", "sendEvent", "(II)I"⟩, 3), (⟨"NestedPager", "frameOfPageHere", "(LNestedPager$Guest;I)I"⟩, 9), (⟨"NestedPagerModel", "refused", "(I)Z"⟩, 42), (⟨"NestedPagerModel", "freeFrame", "()I"⟩, 42), (⟨"NestedPagerModel", "entryOf", "(II)I"⟩, 42), (⟨"NestedPagerModel", "tableOf", "(II)I"⟩, 42), (⟨"NestedPagerModel", "giveUp", "(I)V"⟩, 42), (⟨"NestedPagerModel", "told", "(II)I"⟩, 42), (⟨"NestedPagerModel", "tell", "(III)V"⟩, 42), (⟨"NestedPagerModel", "tick", "(I)V"⟩, 42), (⟨"NestedPagerModel", "happen", "(I)V"⟩, 42), (⟨"NestedPagerModel", "go", "(IIII)Z"⟩, 42), (⟨"NestedPagerModel", "lookAside", "(III)I"⟩, 42), (⟨"NestedPagerModel", "fits", "(III)Z"⟩, 42), (⟨"NestedPagerModel", "lets", "(IIZZZ)Z"⟩, 42)]
theorem lw_r2 : ∀ q ∈ lw_privs_2, lw_okq q := List.forall_mem_cons.mpr ⟨lw_p16, List.forall_mem_cons.mpr ⟨lw_p17, List.forall_mem_cons.mpr ⟨lw_p18, List.forall_mem_cons.mpr ⟨lw_p19, List.forall_mem_cons.mpr ⟨lw_p20, List.forall_mem_cons.mpr ⟨lw_p21, List.forall_mem_cons.mpr ⟨lw_p22, List.forall_mem_cons.mpr ⟨lw_p23, List.forall_mem_cons.mpr ⟨lw_p24, List.forall_mem_cons.mpr ⟨lw_p25, List.forall_mem_cons.mpr ⟨lw_p26, List.forall_mem_cons.mpr ⟨lw_p27, List.forall_mem_cons.mpr ⟨lw_p28, List.forall_mem_cons.mpr ⟨lw_p29, List.forall_mem_cons.mpr ⟨lw_p30, List.forall_mem_cons.mpr ⟨lw_p31, fun _ h => absurd h List.not_mem_nil⟩⟩⟩⟩⟩⟩⟩⟩⟩⟩⟩⟩⟩⟩⟩⟩
theorem lw_p32 : lw_okq (⟨"NestedPagerModel", "walk", "(III)Z"⟩, 42) := ⟨⟨by decide +kernel, by decide +kernel⟩, List.mem_of_getElem? (i := 971) (by decide +kernel), List.mem_of_getElem? (i := 1195) (by decide +kernel), List.mem_of_getElem? (i := 1196) (by decide +kernel)⟩
theorem lw_p33 : lw_okq (⟨"NestedPagerModel", "walkTo", "(IIIIII)Z"⟩, 42) := ⟨⟨by decide +kernel, by decide +kernel⟩, List.mem_of_getElem? (i := 971) (by decide +kernel), List.mem_of_getElem? (i := 1199) (by decide +kernel), List.mem_of_getElem? (i := 1200) (by decide +kernel)⟩
theorem lw_p34 : lw_okq (⟨"NestedPagerModel", "reach", "(IIIZ)I"⟩, 42) := ⟨⟨by decide +kernel, by decide +kernel⟩, List.mem_of_getElem? (i := 971) (by decide +kernel), List.mem_of_getElem? (i := 1206) (by decide +kernel), List.mem_of_getElem? (i := 1207) (by decide +kernel)⟩
theorem lw_p35 : lw_okq (⟨"NestedPagerModel", "isMemory", "(II)Z"⟩, 42) := ⟨⟨by decide +kernel, by decide +kernel⟩, List.mem_of_getElem? (i := 971) (by decide +kernel), List.mem_of_getElem? (i := 1210) (by decide +kernel), List.mem_of_getElem? (i := 1211) (by decide +kernel)⟩
theorem lw_p36 : lw_okq (⟨"NestedPagerModel", "needTable", "(II)Z"⟩, 42) := ⟨⟨by decide +kernel, by decide +kernel⟩, List.mem_of_getElem? (i := 971) (by decide +kernel), List.mem_of_getElem? (i := 1214) (by decide +kernel), List.mem_of_getElem? (i := 1215) (by decide +kernel)⟩
theorem lw_p37 : lw_okq (⟨"NestedPagerModel", "newFrame", "(III)I"⟩, 42) := ⟨⟨by decide +kernel, by decide +kernel⟩, List.mem_of_getElem? (i := 971) (by decide +kernel), List.mem_of_getElem? (i := 1218) (by decide +kernel), List.mem_of_getElem? (i := 1219) (by decide +kernel)⟩
theorem lw_p38 : lw_okq (⟨"NestedPagerModel", "reclaim", "()I"⟩, 42) := ⟨⟨by decide +kernel, by decide +kernel⟩, List.mem_of_getElem? (i := 971) (by decide +kernel), List.mem_of_getElem? (i := 1222) (by decide +kernel), List.mem_of_getElem? (i := 1223) (by decide +kernel)⟩
theorem lw_p39 : lw_okq (⟨"NestedPagerModel", "freeSlot", "()I"⟩, 42) := ⟨⟨by decide +kernel, by decide +kernel⟩, List.mem_of_getElem? (i := 971) (by decide +kernel), List.mem_of_getElem? (i := 1226) (by decide +kernel), List.mem_of_getElem? (i := 1227) (by decide +kernel)⟩
theorem lw_p40 : lw_okq (⟨"NestedPagerModel", "setEntry", "(III)V"⟩, 42) := ⟨⟨by decide +kernel, by decide +kernel⟩, List.mem_of_getElem? (i := 971) (by decide +kernel), List.mem_of_getElem? (i := 1230) (by decide +kernel), List.mem_of_getElem? (i := 1231) (by decide +kernel)⟩
theorem lw_p41 : lw_okq (⟨"NestedPagerModel", "swapOut", "(II)V"⟩, 42) := ⟨⟨by decide +kernel, by decide +kernel⟩, List.mem_of_getElem? (i := 971) (by decide +kernel), List.mem_of_getElem? (i := 1234) (by decide +kernel), List.mem_of_getElem? (i := 1235) (by decide +kernel)⟩
theorem lw_p42 : lw_okq (⟨"NestedPagerModel", "leave", "(IIIIII)Z"⟩, 42) := ⟨⟨by decide +kernel, by decide +kernel⟩, List.mem_of_getElem? (i := 971) (by decide +kernel), List.mem_of_getElem? (i := 1238) (by decide +kernel), List.mem_of_getElem? (i := 1239) (by decide +kernel)⟩
theorem lw_p43 : lw_okq (⟨"NestedPagerModel", "wordsOf", "(II)I"⟩, 42) := ⟨⟨by decide +kernel, by decide +kernel⟩, List.mem_of_getElem? (i := 971) (by decide +kernel), List.mem_of_getElem? (i := 1242) (by decide +kernel), List.mem_of_getElem? (i := 1243) (by decide +kernel)⟩
theorem lw_p44 : lw_okq (⟨"NestedPagerModel", "faultCode", "(III)I"⟩, 42) := ⟨⟨by decide +kernel, by decide +kernel⟩, List.mem_of_getElem? (i := 971) (by decide +kernel), List.mem_of_getElem? (i := 1246) (by decide +kernel), List.mem_of_getElem? (i := 1247) (by decide +kernel)⟩
theorem lw_p45 : lw_okq (⟨"NestedPagerModel", "fail", "(III)Z"⟩, 42) := ⟨⟨by decide +kernel, by decide +kernel⟩, List.mem_of_getElem? (i := 971) (by decide +kernel), List.mem_of_getElem? (i := 1250) (by decide +kernel), List.mem_of_getElem? (i := 1251) (by decide +kernel)⟩
theorem lw_p46 : lw_okq (⟨"NestedPagerModel", "mark", "(IIIIIII)Z"⟩, 42) := ⟨⟨by decide +kernel, by decide +kernel⟩, List.mem_of_getElem? (i := 971) (by decide +kernel), List.mem_of_getElem? (i := 1254) (by decide +kernel), List.mem_of_getElem? (i := 1255) (by decide +kernel)⟩
theorem lw_p47 : lw_okq (⟨"NestedPagerModel", "readDevice", "(III)I"⟩, 42) := ⟨⟨by decide +kernel, by decide +kernel⟩, List.mem_of_getElem? (i := 971) (by decide +kernel), List.mem_of_getElem? (i := 1258) (by decide +kernel), List.mem_of_getElem? (i := 1259) (by decide +kernel)⟩
def lw_privs_3 : List (MethodName × Nat) := [(⟨"NestedPagerModel", "walk", "(III)Z"⟩, 42), (⟨"NestedPagerModel", "walkTo", "(IIIIII)Z"⟩, 42), (⟨"NestedPagerModel", "reach", "(IIIZ)I"⟩, 42), (⟨"NestedPagerModel", "isMemory", "(II)Z"⟩, 42), (⟨"NestedPagerModel", "needTable", "(II)Z"⟩, 42), (⟨"NestedPagerModel", "newFrame", "(III)I"⟩, 42), (⟨"NestedPagerModel", "reclaim", "()I"⟩, 42), (⟨"NestedPagerModel", "freeSlot", "()I"⟩, 42), (⟨"NestedPagerModel", "setEntry", "(III)V"⟩, 42), (⟨"NestedPagerModel", "swapOut", "(II)V"⟩, 42), (⟨"NestedPagerModel", "leave", "(IIIIII)Z"⟩, 42), (⟨"NestedPagerModel", "wordsOf", "(II)I"⟩, 42), (⟨"NestedPagerModel", "faultCode", "(III)I"⟩, 42), (⟨"NestedPagerModel", "fail", "(III)Z"⟩, 42), (⟨"NestedPagerModel", "mark", "(IIIIIII)Z"⟩, 42), (⟨"NestedPagerModel", "readDevice", "(III)I"⟩, 42)]
theorem lw_r3 : ∀ q ∈ lw_privs_3, lw_okq q := List.forall_mem_cons.mpr ⟨lw_p32, List.forall_mem_cons.mpr ⟨lw_p33, List.forall_mem_cons.mpr ⟨lw_p34, List.forall_mem_cons.mpr ⟨lw_p35, List.forall_mem_cons.mpr ⟨lw_p36, List.forall_mem_cons.mpr ⟨lw_p37, List.forall_mem_cons.mpr ⟨lw_p38, List.forall_mem_cons.mpr ⟨lw_p39, List.forall_mem_cons.mpr ⟨lw_p40, List.forall_mem_cons.mpr ⟨lw_p41, List.forall_mem_cons.mpr ⟨lw_p42, List.forall_mem_cons.mpr ⟨lw_p43, List.forall_mem_cons.mpr ⟨lw_p44, List.forall_mem_cons.mpr ⟨lw_p45, List.forall_mem_cons.mpr ⟨lw_p46, List.forall_mem_cons.mpr ⟨lw_p47, fun _ h => absurd h List.not_mem_nil⟩⟩⟩⟩⟩⟩⟩⟩⟩⟩⟩⟩⟩⟩⟩⟩
theorem lw_p48 : lw_okq (⟨"NestedPagerModel", "writeDevice", "(IIIII)V"⟩, 42) := ⟨⟨by decide +kernel, by decide +kernel⟩, List.mem_of_getElem? (i := 971) (by decide +kernel), List.mem_of_getElem? (i := 1263) (by decide +kernel), List.mem_of_getElem? (i := 1264) (by decide +kernel)⟩
theorem lw_p49 : lw_okq (⟨"NestedPagerModel", "writeDisk", "(III)V"⟩, 42) := ⟨⟨by decide +kernel, by decide +kernel⟩, List.mem_of_getElem? (i := 971) (by decide +kernel), List.mem_of_getElem? (i := 1267) (by decide +kernel), List.mem_of_getElem? (i := 1268) (by decide +kernel)⟩
theorem lw_p50 : lw_okq (⟨"NestedPagerModel", "step", "(I)Z"⟩, 42) := ⟨⟨by decide +kernel, by decide +kernel⟩, List.mem_of_getElem? (i := 971) (by decide +kernel), List.mem_of_getElem? (i := 1275) (by decide +kernel), List.mem_of_getElem? (i := 1276) (by decide +kernel)⟩
theorem lw_p51 : lw_okq (⟨"NestedPagerModel", "special", "(III)Z"⟩, 42) := ⟨⟨by decide +kernel, by decide +kernel⟩, List.mem_of_getElem? (i := 971) (by decide +kernel), List.mem_of_getElem? (i := 1279) (by decide +kernel), List.mem_of_getElem? (i := 1280) (by decide +kernel)⟩
theorem lw_p52 : lw_okq (⟨"NestedPagerModel", "flushAll", "(III)I"⟩, 42) := ⟨⟨by decide +kernel, by decide +kernel⟩, List.mem_of_getElem? (i := 971) (by decide +kernel), List.mem_of_getElem? (i := 1283) (by decide +kernel), List.mem_of_getElem? (i := 1284) (by decide +kernel)⟩
theorem lw_p53 : lw_okq (⟨"NestedPagerModel", "call", "(II)V"⟩, 42) := ⟨⟨by decide +kernel, by decide +kernel⟩, List.mem_of_getElem? (i := 971) (by decide +kernel), List.mem_of_getElem? (i := 1287) (by decide +kernel), List.mem_of_getElem? (i := 1288) (by decide +kernel)⟩
theorem lw_p54 : lw_okq (⟨"NestedPagerModel", "giveBack", "(II)I"⟩, 42) := ⟨⟨by decide +kernel, by decide +kernel⟩, List.mem_of_getElem? (i := 971) (by decide +kernel), List.mem_of_getElem? (i := 1291) (by decide +kernel), List.mem_of_getElem? (i := 1292) (by decide +kernel)⟩
theorem lw_p55 : lw_okq (⟨"NestedPagerModel", "handle", "(I)V"⟩, 42) := ⟨⟨by decide +kernel, by decide +kernel⟩, List.mem_of_getElem? (i := 971) (by decide +kernel), List.mem_of_getElem? (i := 1296) (by decide +kernel), List.mem_of_getElem? (i := 1297) (by decide +kernel)⟩
theorem lw_p56 : lw_okq (⟨"NestedPagerModel", "pageRefusal", "(IIZ)I"⟩, 42) := ⟨⟨by decide +kernel, by decide +kernel⟩, List.mem_of_getElem? (i := 971) (by decide +kernel), List.mem_of_getElem? (i := 1316) (by decide +kernel), List.mem_of_getElem? (i := 1317) (by decide +kernel)⟩
theorem lw_p57 : lw_okq (⟨"NestedPagerModel", "pagesOf", "(II)I"⟩, 42) := ⟨⟨by decide +kernel, by decide +kernel⟩, List.mem_of_getElem? (i := 971) (by decide +kernel), List.mem_of_getElem? (i := 1367) (by decide +kernel), List.mem_of_getElem? (i := 1368) (by decide +kernel)⟩
theorem lw_p58 : lw_okq (⟨"NestedPagerModel", "vcpusOf", "(I)I"⟩, 42) := ⟨⟨by decide +kernel, by decide +kernel⟩, List.mem_of_getElem? (i := 971) (by decide +kernel), List.mem_of_getElem? (i := 1371) (by decide +kernel), List.mem_of_getElem? (i := 1372) (by decide +kernel)⟩
def lw_privs_4 : List (MethodName × Nat) := [(⟨"NestedPagerModel", "writeDevice", "(IIIII)V"⟩, 42), (⟨"NestedPagerModel", "writeDisk", "(III)V"⟩, 42), (⟨"NestedPagerModel", "step", "(I)Z"⟩, 42), (⟨"NestedPagerModel", "special", "(III)Z"⟩, 42), (⟨"NestedPagerModel", "flushAll", "(III)I"⟩, 42), (⟨"NestedPagerModel", "call", "(II)V"⟩, 42), (⟨"NestedPagerModel", "giveBack", "(II)I"⟩, 42), (⟨"NestedPagerModel", "handle", "(I)V"⟩, 42), (⟨"NestedPagerModel", "pageRefusal", "(IIZ)I"⟩, 42), (⟨"NestedPagerModel", "pagesOf", "(II)I"⟩, 42), (⟨"NestedPagerModel", "vcpusOf", "(I)I"⟩, 42)]
theorem lw_r4 : ∀ q ∈ lw_privs_4, lw_okq q := List.forall_mem_cons.mpr ⟨lw_p48, List.forall_mem_cons.mpr ⟨lw_p49, List.forall_mem_cons.mpr ⟨lw_p50, List.forall_mem_cons.mpr ⟨lw_p51, List.forall_mem_cons.mpr ⟨lw_p52, List.forall_mem_cons.mpr ⟨lw_p53, List.forall_mem_cons.mpr ⟨lw_p54, List.forall_mem_cons.mpr ⟨lw_p55, List.forall_mem_cons.mpr ⟨lw_p56, List.forall_mem_cons.mpr ⟨lw_p57, List.forall_mem_cons.mpr ⟨lw_p58, fun _ h => absurd h List.not_mem_nil⟩⟩⟩⟩⟩⟩⟩⟩⟩⟩⟩
def lw_privs : List (MethodName × Nat) := lw_privs_1 ++ (lw_privs_2 ++ (lw_privs_3 ++ (lw_privs_4)))
def lw_tbl : List Cond := k2_sels lw_privs ++ tables_1
theorem lw_privs_ok : ∀ q ∈ lw_privs, lw_okq q := by
  show ∀ q ∈ lw_privs_1 ++ (lw_privs_2 ++ (lw_privs_3 ++ (lw_privs_4))), lw_okq q
  exact List.forall_mem_append.mpr ⟨lw_r1, List.forall_mem_append.mpr ⟨lw_r2, List.forall_mem_append.mpr ⟨lw_r3, lw_r4⟩⟩⟩
end
section
/-! CLASSES AND FIELDS, by program out of claim/NAMES.whole.lean.txt -/
def RX0 : String := "NestedPager$Devices"
def TX0 : u_T := fun k => match k with
  | 0 => ("NestedPager$Devices", "pager", "LNestedPager$Pager;", true)
  | 1 => ("NestedPager$Devices", "guests", "[LNestedPager$Guest;", true)
  | _ => ("NestedPager$Devices", "vcpus", "[LNestedPager$Vcpu;", true)
def tyX0 : Nat → FieldType := fun k => match k with
  | 0 => .object "NestedPager$Pager"
  | 1 => .array (.object "NestedPager$Guest")
  | _ => .array (.object "NestedPager$Vcpu")
def RX1 : String := "NestedPager$Disk"
def TX1 : u_T := fun k => match k with
  | 0 => ("NestedPager$Disk", "words", "[I", true)
  | 1 => ("NestedPager$Disk", "sector", "I", false)
  | 2 => ("NestedPager$Disk", "page", "I", false)
  | _ => ("NestedPager$Disk", "outcome", "I", false)
def tyX1 : Nat → FieldType := fun k => match k with
  | 0 => .array .int
  | 1 => .int
  | 2 => .int
  | _ => .int
def RX2 : String := "NestedPager$Guest"
def TX2 : u_T := fun k => match k with
  | 0 => ("NestedPager$Guest", "number", "I", true)
  | 1 => ("NestedPager$Guest", "there", "Z", false)
  | 2 => ("NestedPager$Guest", "ram", "I", false)
  | 3 => ("NestedPager$Guest", "root", "I", false)
  | 4 => ("NestedPager$Guest", "target", "I", false)
  | 5 => ("NestedPager$Guest", "demands", "I", false)
  | 6 => ("NestedPager$Guest", "swapins", "I", false)
  | 7 => ("NestedPager$Guest", "ticks", "I", false)
  | 8 => ("NestedPager$Guest", "alarm", "I", false)
  | 9 => ("NestedPager$Guest", "alarmVcpu", "I", false)
  | 10 => ("NestedPager$Guest", "bytesPrinted", "I", false)
  | 11 => ("NestedPager$Guest", "bytes", "[I", true)
  | 12 => ("NestedPager$Guest", "disk", "LNestedPager$Disk;", true)
  | _ => ("NestedPager$Guest", "mails", "LNestedPager$Mails;", true)
def tyX2 : Nat → FieldType := fun k => match k with
  | 0 => .int
  | 1 => .boolean
  | 2 => .int
  | 3 => .int
  | 4 => .int
  | 5 => .int
  | 6 => .int
  | 7 => .int
  | 8 => .int
  | 9 => .int
  | 10 => .int
  | 11 => .array .int
  | 12 => .object "NestedPager$Disk"
  | _ => .object "NestedPager$Mails"
def RX3 : String := "NestedPager$LookAside"
def TX3 : u_T := fun k => match k with
  | 0 => ("NestedPager$LookAside", "full", "[Z", true)
  | 1 => ("NestedPager$LookAside", "page", "[I", true)
  | 2 => ("NestedPager$LookAside", "guestPage", "[I", true)
  | 3 => ("NestedPager$LookAside", "bits", "[I", true)
  | 4 => ("NestedPager$LookAside", "asid", "[I", true)
  | _ => ("NestedPager$LookAside", "next", "I", false)
def tyX3 : Nat → FieldType := fun k => match k with
  | 0 => .array .boolean
  | 1 => .array .int
  | 2 => .array .int
  | 3 => .array .int
  | 4 => .array .int
  | _ => .int
def RX4 : String := "NestedPager$Mails"
def TX4 : u_T := fun k => match k with
  | 0 => ("NestedPager$Mails", "words", "[I", true)
  | _ => ("NestedPager$Mails", "held", "I", false)
def tyX4 : Nat → FieldType := fun k => match k with
  | 0 => .array .int
  | _ => .int
def RX5 : String := "NestedPager$Memory"
def TX5 : u_T := fun k => match k with
  | 0 => ("NestedPager$Memory", "words", "[I", true)
  | 1 => ("NestedPager$Memory", "role", "[I", true)
  | 2 => ("NestedPager$Memory", "holder", "[I", true)
  | 3 => ("NestedPager$Memory", "firstPage", "[I", true)
  | 4 => ("NestedPager$Memory", "entrySpot", "[I", true)
  | 5 => ("NestedPager$Memory", "slotWords", "[I", true)
  | 6 => ("NestedPager$Memory", "slotUsed", "[Z", true)
  | 7 => ("NestedPager$Memory", "reclaims", "[I", true)
  | _ => ("NestedPager$Memory", "hand", "I", false)
def tyX5 : Nat → FieldType := fun k => match k with
  | 0 => .array .int
  | 1 => .array .int
  | 2 => .array .int
  | 3 => .array .int
  | 4 => .array .int
  | 5 => .array .int
  | 6 => .array .boolean
  | 7 => .array .int
  | _ => .int
def RX6 : String := "NestedPager$Pager"
def TX6 : u_T := fun k => match k with
  | _ => ("NestedPager$Pager", "memory", "LNestedPager$Memory;", true)
def tyX6 : Nat → FieldType := fun k => match k with
  | _ => .object "NestedPager$Memory"
def RX7 : String := "NestedPager$Processor"
def TX7 : u_T := fun k => match k with
  | 0 => ("NestedPager$Processor", "pager", "LNestedPager$Pager;", true)
  | 1 => ("NestedPager$Processor", "devices", "LNestedPager$Devices;", true)
  | _ => ("NestedPager$Processor", "translator", "LNestedPager$Translator;", true)
def tyX7 : Nat → FieldType := fun k => match k with
  | 0 => .object "NestedPager$Pager"
  | 1 => .object "NestedPager$Devices"
  | _ => .object "NestedPager$Translator"
def RX8 : String := "NestedPager$Translator"
def TX8 : u_T := fun k => match k with
  | 0 => ("NestedPager$Translator", "pager", "LNestedPager$Pager;", true)
  | _ => ("NestedPager$Translator", "devices", "LNestedPager$Devices;", true)
def tyX8 : Nat → FieldType := fun k => match k with
  | 0 => .object "NestedPager$Pager"
  | _ => .object "NestedPager$Devices"
def RX9 : String := "NestedPager$Vcpu"
def TX9 : u_T := fun k => match k with
  | 0 => ("NestedPager$Vcpu", "number", "I", true)
  | 1 => ("NestedPager$Vcpu", "there", "Z", false)
  | 2 => ("NestedPager$Vcpu", "reg", "[I", true)
  | 3 => ("NestedPager$Vcpu", "lastExit", "[I", true)
  | _ => ("NestedPager$Vcpu", "aside", "LNestedPager$LookAside;", true)
def tyX9 : Nat → FieldType := fun k => match k with
  | 0 => .int
  | 1 => .boolean
  | 2 => .array .int
  | 3 => .array .int
  | _ => .object "NestedPager$LookAside"
def RX10 : String := "NestedPager"
def TX10 : u_T := fun k => match k with
  | 0 => ("NestedPager", "memory", "LNestedPager$Memory;", true)
  | 1 => ("NestedPager", "guests", "[LNestedPager$Guest;", true)
  | 2 => ("NestedPager", "vcpus", "[LNestedPager$Vcpu;", true)
  | 3 => ("NestedPager", "harvested", "[I", true)
  | 4 => ("NestedPager", "harvestedPages", "I", false)
  | 5 => ("NestedPager", "pager", "LNestedPager$Pager;", true)
  | 6 => ("NestedPager", "devices", "LNestedPager$Devices;", true)
  | 7 => ("NestedPager", "translator", "LNestedPager$Translator;", true)
  | _ => ("NestedPager", "processor", "LNestedPager$Processor;", true)
def tyX10 : Nat → FieldType := fun k => match k with
  | 0 => .object "NestedPager$Memory"
  | 1 => .array (.object "NestedPager$Guest")
  | 2 => .array (.object "NestedPager$Vcpu")
  | 3 => .array .int
  | 4 => .int
  | 5 => .object "NestedPager$Pager"
  | 6 => .object "NestedPager$Devices"
  | 7 => .object "NestedPager$Translator"
  | _ => .object "NestedPager$Processor"
def RX11 : String := "NestedPagerModel"
def TX11 : u_T := fun k => match k with
  | 0 => ("NestedPagerModel", "thrown", "I", false)
  | 1 => ("NestedPagerModel", "words", "[I", true)
  | 2 => ("NestedPagerModel", "frameKind", "[I", true)
  | 3 => ("NestedPagerModel", "frameGuest", "[I", true)
  | 4 => ("NestedPagerModel", "framePage", "[I", true)
  | 5 => ("NestedPagerModel", "slotWords", "[I", true)
  | 6 => ("NestedPagerModel", "slotUsed", "[Z", true)
  | 7 => ("NestedPagerModel", "hand", "I", false)
  | 8 => ("NestedPagerModel", "guestIs", "[Z", true)
  | 9 => ("NestedPagerModel", "ram", "[I", true)
  | 10 => ("NestedPagerModel", "rootFrame", "[I", true)
  | 11 => ("NestedPagerModel", "targets", "[I", true)
  | 12 => ("NestedPagerModel", "demands", "[I", true)
  | 13 => ("NestedPagerModel", "swapins", "[I", true)
  | 14 => ("NestedPagerModel", "reclaimed", "[I", true)
  | 15 => ("NestedPagerModel", "ticks", "[I", true)
  | 16 => ("NestedPagerModel", "printedMany", "[I", true)
  | 17 => ("NestedPagerModel", "prints", "[I", true)
  | 18 => ("NestedPagerModel", "alarm", "[I", true)
  | 19 => ("NestedPagerModel", "alarmFor", "[I", true)
  | 20 => ("NestedPagerModel", "diskWords", "[I", true)
  | 21 => ("NestedPagerModel", "diskSector", "[I", true)
  | 22 => ("NestedPagerModel", "diskPage", "[I", true)
  | 23 => ("NestedPagerModel", "diskTold", "[I", true)
  | 24 => ("NestedPagerModel", "mails", "[I", true)
  | 25 => ("NestedPagerModel", "mailMany", "[I", true)
  | 26 => ("NestedPagerModel", "vcpuIs", "[Z", true)
  | 27 => ("NestedPagerModel", "own", "[I", true)
  | 28 => ("NestedPagerModel", "exits", "[I", true)
  | 29 => ("NestedPagerModel", "turn", "[I", true)
  | 30 => ("NestedPagerModel", "asideIs", "[Z", true)
  | 31 => ("NestedPagerModel", "asidePage", "[I", true)
  | 32 => ("NestedPagerModel", "asideTo", "[I", true)
  | 33 => ("NestedPagerModel", "asideBits", "[I", true)
  | 34 => ("NestedPagerModel", "asideAsid", "[I", true)
  | 35 => ("NestedPagerModel", "harvested", "I", false)
  | 36 => ("NestedPagerModel", "harvest", "[I", true)
  | 37 => ("NestedPagerModel", "value", "I", false)
  | 38 => ("NestedPagerModel", "stopped", "I", false)
  | 39 => ("NestedPagerModel", "code", "I", false)
  | 40 => ("NestedPagerModel", "next", "I", false)
  | _ => ("NestedPagerModel", "goesOn", "Z", false)
def tyX11 : Nat → FieldType := fun k => match k with
  | 0 => .int
  | 1 => .array .int
  | 2 => .array .int
  | 3 => .array .int
  | 4 => .array .int
  | 5 => .array .int
  | 6 => .array .boolean
  | 7 => .int
  | 8 => .array .boolean
  | 9 => .array .int
  | 10 => .array .int
  | 11 => .array .int
  | 12 => .array .int
  | 13 => .array .int
  | 14 => .array .int
  | 15 => .array .int
  | 16 => .array .int
  | 17 => .array .int
  | 18 => .array .int
  | 19 => .array .int
  | 20 => .array .int
  | 21 => .array .int
  | 22 => .array .int
  | 23 => .array .int
  | 24 => .array .int
  | 25 => .array .int
  | 26 => .array .boolean
  | 27 => .array .int
  | 28 => .array .int
  | 29 => .array .int
  | 30 => .array .boolean
  | 31 => .array .int
  | 32 => .array .int
  | 33 => .array .int
  | 34 => .array .int
  | 35 => .int
  | 36 => .array .int
  | 37 => .int
  | 38 => .int
  | 39 => .int
  | 40 => .int
  | _ => .boolean
abbrev vwCl : List vw_C := [(RX0, TX0, 3), (RX1, TX1, 4), (RX2, TX2, 14), (RX3, TX3, 6), (RX4, TX4, 2), (RX5, TX5, 9), (RX6, TX6, 1), (RX7, TX7, 3), (RX8, TX8, 2), (RX9, TX9, 5), (RX10, TX10, 9), (RX11, TX11, 42)]
def zft : zFT := fun c k => match c with
  | 0 => (tyX0 k, (TX0 k).2.2.2)
  | 1 => (tyX1 k, (TX1 k).2.2.2)
  | 2 => (tyX2 k, (TX2 k).2.2.2)
  | 3 => (tyX3 k, (TX3 k).2.2.2)
  | 4 => (tyX4 k, (TX4 k).2.2.2)
  | 5 => (tyX5 k, (TX5 k).2.2.2)
  | 6 => (tyX6 k, (TX6 k).2.2.2)
  | 7 => (tyX7 k, (TX7 k).2.2.2)
  | 8 => (tyX8 k, (TX8 k).2.2.2)
  | 9 => (tyX9 k, (TX9 k).2.2.2)
  | 10 => (tyX10 k, (TX10 k).2.2.2)
  | 11 => (tyX11 k, (TX11 k).2.2.2)
  | _ => (.int, false)
def zfn : Nat → Nat := fun c => match c with
  | 0 => 3
  | 1 => 4
  | 2 => 14
  | 3 => 6
  | 4 => 2
  | 5 => 9
  | 6 => 1
  | 7 => 3
  | 8 => 2
  | 9 => 5
  | 10 => 9
  | 11 => 42
  | _ => 0
def zsf : Nat → String × String × String := fun k => match k with
  | 1 => ("NestedPager", "HIGHEST", "[I")
  | _ => ("", "", "")
def zTs : List Cond := lw_tbl.filter goodWord
def zisN : Cond → Bool
  | .methodLinkNest .. => true
  | .castable .. => true
  | .declares _ => true
  | _ => false
def zNw : List Cond := lw_tbl.filter zisN
theorem zNw_ok : zNwOk zNw := by
  intro w hw
  have h := (List.mem_filter.mp hw).2
  unfold zisN at h
  split at h
  · exact Or.inl ⟨_, _, _, _, rfl⟩
  · exact Or.inr (Or.inl ⟨_, _, rfl⟩)
  · exact Or.inr (Or.inr ⟨_, rfl⟩)
  · cases h
theorem zTs_ok : GoodIn zTs zTs := fun w hw => ⟨hw, good_of_word (List.mem_filter.mp hw).2⟩
theorem zTs_at {w : Cond} (i : Nat) (h : lw_tbl[i]? = some w) (hg : goodWord w = true) : w ∈ zTs := List.mem_filter.mpr ⟨List.mem_of_getElem? h, hg⟩
theorem zNw_at {w : Cond} (i : Nat) (h : lw_tbl[i]? = some w) (hg : zisN w = true) : w ∈ zNw := List.mem_filter.mpr ⟨List.mem_of_getElem? h, hg⟩
theorem zTs_all (ws : List Cond) (ps : List Nat) (hp : ps.map (fun i => lw_tbl[i]?) = ws.map some) (hg : ws.all goodWord = true) : ∀ w ∈ ws, w ∈ zTs := by
  intro w hw
  have h1 : some w ∈ ws.map some := List.mem_map.mpr ⟨w, hw, rfl⟩
  rw [← hp] at h1
  obtain ⟨i, -, hi⟩ := List.mem_map.mp h1
  exact zTs_at i hi (List.all_eq_true.mp hg w hw)
set_option maxRecDepth 100000 in
theorem zc_0 : ∀ w ∈ u_ws RX0 TX0 3, w ∈ zTs := zTs_all _ [327, 329, 331] rfl (by decide +kernel)
set_option maxRecDepth 100000 in
theorem zc_1 : ∀ w ∈ u_ws RX1 TX1 4, w ∈ zTs := zTs_all _ [154, 156, 158, 160] rfl (by decide +kernel)
set_option maxRecDepth 100000 in
theorem zc_2 : ∀ w ∈ u_ws RX2 TX2 14, w ∈ zTs := zTs_all _ [217, 219, 221, 223, 225, 227, 229, 231, 233, 235, 237, 239, 241, 243] rfl (by decide +kernel)
set_option maxRecDepth 100000 in
theorem zc_3 : ∀ w ∈ u_ws RX3 TX3 6, w ∈ zTs := zTs_all _ [265, 267, 269, 271, 273, 275] rfl (by decide +kernel)
set_option maxRecDepth 100000 in
theorem zc_4 : ∀ w ∈ u_ws RX4 TX4 2, w ∈ zTs := zTs_all _ [174, 176] rfl (by decide +kernel)
set_option maxRecDepth 100000 in
theorem zc_5 : ∀ w ∈ u_ws RX5 TX5 9, w ∈ zTs := zTs_all _ [110, 112, 114, 116, 118, 120, 122, 124, 126] rfl (by decide +kernel)
set_option maxRecDepth 100000 in
theorem zc_6 : ∀ w ∈ u_ws RX6 TX6 1, w ∈ zTs := zTs_all _ [314] rfl (by decide +kernel)
set_option maxRecDepth 100000 in
theorem zc_7 : ∀ w ∈ u_ws RX7 TX7 3, w ∈ zTs := zTs_all _ [356, 358, 360] rfl (by decide +kernel)
set_option maxRecDepth 100000 in
theorem zc_8 : ∀ w ∈ u_ws RX8 TX8 2, w ∈ zTs := zTs_all _ [342, 344] rfl (by decide +kernel)
set_option maxRecDepth 100000 in
theorem zc_9 : ∀ w ∈ u_ws RX9 TX9 5, w ∈ zTs := zTs_all _ [294, 296, 298, 300, 302] rfl (by decide +kernel)
set_option maxRecDepth 100000 in
theorem zc_10 : ∀ w ∈ u_ws RX10 TX10 9, w ∈ zTs := zTs_all _ [372, 374, 376, 378, 380, 382, 384, 386, 388] rfl (by decide +kernel)
set_option maxRecDepth 100000 in
theorem zc_11 : ∀ w ∈ u_ws RX11 TX11 42, w ∈ zTs := zTs_all _ [1077, 1079, 1081, 1083, 1085, 1087, 1089, 1091, 1093, 1095, 1097, 1099, 1101, 1103, 1105, 1107, 1109, 1111, 1113, 1115, 1117, 1119, 1121, 1123, 1125, 1127, 1129, 1131, 1133, 1135, 1137, 1139, 1141, 1143, 1145, 1147, 1149, 1151, 1153, 1155, 1157, 1159] rfl (by decide +kernel)
theorem zcl_ok : zCl zTs vwCl zft := by
  intro ci q h
  match ci, h with
  | 0, h => cases h; exact ⟨zc_0, by decide +kernel, by decide +kernel, by decide +kernel⟩
  | 1, h => cases h; exact ⟨zc_1, by decide +kernel, by decide +kernel, by decide +kernel⟩
  | 2, h => cases h; exact ⟨zc_2, by decide +kernel, by decide +kernel, by decide +kernel⟩
  | 3, h => cases h; exact ⟨zc_3, by decide +kernel, by decide +kernel, by decide +kernel⟩
  | 4, h => cases h; exact ⟨zc_4, by decide +kernel, by decide +kernel, by decide +kernel⟩
  | 5, h => cases h; exact ⟨zc_5, by decide +kernel, by decide +kernel, by decide +kernel⟩
  | 6, h => cases h; exact ⟨zc_6, by decide +kernel, by decide +kernel, by decide +kernel⟩
  | 7, h => cases h; exact ⟨zc_7, by decide +kernel, by decide +kernel, by decide +kernel⟩
  | 8, h => cases h; exact ⟨zc_8, by decide +kernel, by decide +kernel, by decide +kernel⟩
  | 9, h => cases h; exact ⟨zc_9, by decide +kernel, by decide +kernel, by decide +kernel⟩
  | 10, h => cases h; exact ⟨zc_10, by decide +kernel, by decide +kernel, by decide +kernel⟩
  | 11, h => cases h; exact ⟨zc_11, by decide +kernel, by decide +kernel, by decide +kernel⟩
  | k + 12, h => simp [vwCl] at h
end
section
/-! METHODS, by program -/
def zm_0 : zM := (⟨"NestedPager$Memory", "<init>", "()V"⟩, prog_7_method_1_code, 2, none, (1, 21, 8, 3652), (2, 5, 0, 0, 0, 0), [(0, .aload_n 0, 1, 0, 0, 0), (1, .invokespecial 3, 3, 0, 2, 0), (4, .aload_n 0, 1, 0, 0, 0), (5, .sipush 2048, 3, 0, 0, 0), (8, .newarray .int, 2, 0, 0, 0), (10, .putfield 9, 3, 5, 0, 0), (13, .aload_n 0, 1, 0, 0, 0), (14, .sipush 128, 3, 0, 0, 0), (17, .newarray .int, 2, 0, 0, 0), (19, .putfield 15, 3, 5, 1, 0), (22, .aload_n 0, 1, 0, 0, 0), (23, .sipush 128, 3, 0, 0, 0), (26, .newarray .int, 2, 0, 0, 0), (28, .putfield 18, 3, 5, 2, 0), (31, .aload_n 0, 1, 0, 0, 0), (32, .sipush 128, 3, 0, 0, 0), (35, .newarray .int, 2, 0, 0, 0), (37, .putfield 21, 3, 5, 3, 0), (40, .aload_n 0, 1, 0, 0, 0), (41, .sipush 128, 3, 0, 0, 0), (44, .newarray .int, 2, 0, 0, 0), (46, .putfield 24, 3, 5, 4, 0), (49, .aload_n 0, 1, 0, 0, 0), (50, .sipush 1024, 3, 0, 0, 0), (53, .newarray .int, 2, 0, 0, 0), (55, .putfield 27, 3, 5, 5, 0), (58, .aload_n 0, 1, 0, 0, 0), (59, .bipush 64, 2, 0, 0, 0), (61, .newarray .boolean, 2, 0, 0, 0), (63, .putfield 30, 3, 5, 6, 0), (66, .aload_n 0, 1, 0, 0, 0), (67, .iconst 4, 1, 0, 0, 0), (68, .newarray .int, 2, 0, 0, 0), (70, .putfield 34, 3, 5, 7, 0), (73, .aload_n 0, 1, 0, 0, 0), (74, .iconst 0, 1, 0, 0, 0), (75, .putfield 37, 3, 5, 8, 0), (78, .iconst 0, 1, 0, 0, 0), (79, .istore_n 1, 1, 0, 0, 0), (80, .iload_n 1, 1, 0, 0, 0), (81, .sipush 128, 3, 0, 0, 0), (84, .if_icmp .ge 23, 3, 0, 0, 0), (87, .aload_n 0, 1, 0, 0, 0), (88, .getfield 18, 3, 5, 2, 0), (91, .iload_n 1, 1, 0, 0, 0), (92, .iconst (-1), 1, 0, 0, 0), (93, .iastore, 1, 0, 0, 0), (94, .aload_n 0, 1, 0, 0, 0), (95, .getfield 21, 3, 5, 3, 0), (98, .iload_n 1, 1, 0, 0, 0), (99, .iconst (-1), 1, 0, 0, 0), (100, .iastore, 1, 0, 0, 0), (101, .iinc 1 1, 3, 0, 0, 0), (104, .goto (-24), 3, 0, 0, 0), (107, .return_, 1, 0, 0, 0)], [])
def zm_1 : zM := (⟨"NestedPager$Disk", "<init>", "()V"⟩, prog_3_method_1_code, 1, none, (1, 21, 1, 256), (2, 1, 0, 0, 0, 0), [(0, .aload_n 0, 1, 0, 0, 0), (1, .invokespecial 3, 3, 0, 2, 0), (4, .aload_n 0, 1, 0, 0, 0), (5, .sipush 256, 3, 0, 0, 0), (8, .newarray .int, 2, 0, 0, 0), (10, .putfield 11, 3, 1, 0, 0), (13, .aload_n 0, 1, 0, 0, 0), (14, .iconst 0, 1, 0, 0, 0), (15, .putfield 15, 3, 1, 1, 0), (18, .aload_n 0, 1, 0, 0, 0), (19, .iconst 0, 1, 0, 0, 0), (20, .putfield 19, 3, 1, 2, 0), (23, .aload_n 0, 1, 0, 0, 0), (24, .iconst 0, 1, 0, 0, 0), (25, .putfield 22, 3, 1, 3, 0), (28, .return_, 1, 0, 0, 0)], [])
def zm_2 : zM := (⟨"NestedPager$Mails", "<init>", "()V"⟩, prog_6_method_1_code, 1, none, (1, 21, 1, 8), (2, 4, 0, 0, 0, 0), [(0, .aload_n 0, 1, 0, 0, 0), (1, .invokespecial 1, 3, 0, 2, 0), (4, .aload_n 0, 1, 0, 0, 0), (5, .bipush 8, 2, 0, 0, 0), (7, .newarray .int, 2, 0, 0, 0), (9, .putfield 9, 3, 4, 0, 0), (12, .aload_n 0, 1, 0, 0, 0), (13, .iconst 0, 1, 0, 0, 0), (14, .putfield 13, 3, 4, 1, 0), (17, .return_, 1, 0, 0, 0)], [])
def zm_3 : zM := (⟨"NestedPager$Guest", "<init>", "(I)V"⟩, prog_4_method_1_code, 2, none, (2, 41, 5, 470), (2, 2, 1, 0, 0, 0), [(0, .aload_n 0, 1, 0, 0, 0), (1, .invokespecial 3, 3, 0, 2, 0), (4, .aload_n 0, 1, 0, 0, 0), (5, .iconst 0, 1, 0, 0, 0), (6, .putfield 9, 3, 2, 1, 0), (9, .aload_n 0, 1, 0, 0, 0), (10, .sipush 200, 3, 0, 0, 0), (13, .newarray .int, 2, 0, 0, 0), (15, .putfield 15, 3, 2, 11, 0), (18, .aload_n 0, 1, 0, 0, 0), (19, .new 19, 3, 1, 0, 0), (22, .dup, 1, 0, 0, 0), (23, .invokespecial 21, 3, 1, 1, 0), (26, .putfield 22, 3, 2, 12, 0), (29, .aload_n 0, 1, 0, 0, 0), (30, .new 26, 3, 4, 0, 0), (33, .dup, 1, 0, 0, 0), (34, .invokespecial 28, 3, 2, 1, 0), (37, .putfield 29, 3, 2, 13, 0), (40, .aload_n 0, 1, 0, 0, 0), (41, .iload_n 1, 1, 0, 0, 0), (42, .putfield 33, 3, 2, 0, 0), (45, .return_, 1, 0, 0, 0)], [])
def zm_4 : zM := (⟨"NestedPager$LookAside", "<init>", "()V"⟩, prog_5_method_1_code, 1, none, (1, 21, 5, 40), (2, 3, 0, 0, 0, 0), [(0, .aload_n 0, 1, 0, 0, 0), (1, .invokespecial 3, 3, 0, 2, 0), (4, .aload_n 0, 1, 0, 0, 0), (5, .bipush 8, 2, 0, 0, 0), (7, .newarray .boolean, 2, 0, 0, 0), (9, .putfield 11, 3, 3, 0, 0), (12, .aload_n 0, 1, 0, 0, 0), (13, .bipush 8, 2, 0, 0, 0), (15, .newarray .int, 2, 0, 0, 0), (17, .putfield 15, 3, 3, 1, 0), (20, .aload_n 0, 1, 0, 0, 0), (21, .bipush 8, 2, 0, 0, 0), (23, .newarray .int, 2, 0, 0, 0), (25, .putfield 19, 3, 3, 2, 0), (28, .aload_n 0, 1, 0, 0, 0), (29, .bipush 8, 2, 0, 0, 0), (31, .newarray .int, 2, 0, 0, 0), (33, .putfield 22, 3, 3, 3, 0), (36, .aload_n 0, 1, 0, 0, 0), (37, .bipush 8, 2, 0, 0, 0), (39, .newarray .int, 2, 0, 0, 0), (41, .putfield 25, 3, 3, 4, 0), (44, .aload_n 0, 1, 0, 0, 0), (45, .iconst 0, 1, 0, 0, 0), (46, .putfield 28, 3, 3, 5, 0), (49, .return_, 1, 0, 0, 0)], [])
def zm_5 : zM := (⟨"NestedPager$Vcpu", "<init>", "(I)V"⟩, prog_11_method_1_code, 2, none, (2, 41, 8, 70), (2, 9, 1, 0, 0, 0), [(0, .aload_n 0, 1, 0, 0, 0), (1, .invokespecial 3, 3, 0, 2, 0), (4, .aload_n 0, 1, 0, 0, 0), (5, .iconst 0, 1, 0, 0, 0), (6, .putfield 9, 3, 9, 1, 0), (9, .aload_n 0, 1, 0, 0, 0), (10, .bipush 19, 2, 0, 0, 0), (12, .newarray .int, 2, 0, 0, 0), (14, .putfield 15, 3, 9, 2, 0), (17, .aload_n 0, 1, 0, 0, 0), (18, .iconst 5, 1, 0, 0, 0), (19, .newarray .int, 2, 0, 0, 0), (21, .putfield 19, 3, 9, 3, 0), (24, .aload_n 0, 1, 0, 0, 0), (25, .new 22, 3, 3, 0, 0), (28, .dup, 1, 0, 0, 0), (29, .invokespecial 24, 3, 4, 1, 0), (32, .putfield 25, 3, 9, 4, 0), (35, .aload_n 0, 1, 0, 0, 0), (36, .iload_n 1, 1, 0, 0, 0), (37, .putfield 29, 3, 9, 0, 0), (40, .return_, 1, 0, 0, 0)], [])
def zm_6 : zM := (⟨"NestedPager$Pager", "<init>", "(LNestedPager$Memory;)V"⟩, prog_8_method_1_code, 2, none, (1, 21, 0, 0), (2, 6, 1, 0, 0, 0), [(0, .aload_n 0, 1, 0, 0, 0), (1, .invokespecial 3, 3, 0, 2, 0), (4, .aload_n 0, 1, 0, 0, 0), (5, .aload_n 1, 1, 0, 0, 0), (6, .putfield 9, 3, 6, 0, 0), (9, .return_, 1, 0, 0, 0)], [])
def zm_7 : zM := (⟨"NestedPager$Devices", "<init>", "(LNestedPager$Pager;[LNestedPager$Guest;[LNestedPager$Vcpu;)V"⟩, prog_2_method_1_code, 4, none, (1, 21, 0, 0), (2, 0, 3, 0, 0, 0), [(0, .aload_n 0, 1, 0, 0, 0), (1, .invokespecial 3, 3, 0, 2, 0), (4, .aload_n 0, 1, 0, 0, 0), (5, .aload_n 1, 1, 0, 0, 0), (6, .putfield 9, 3, 0, 0, 0), (9, .aload_n 0, 1, 0, 0, 0), (10, .aload_n 2, 1, 0, 0, 0), (11, .putfield 15, 3, 0, 1, 0), (14, .aload_n 0, 1, 0, 0, 0), (15, .aload_n 3, 1, 0, 0, 0), (16, .putfield 19, 3, 0, 2, 0), (19, .return_, 1, 0, 0, 0)], [])
def zm_8 : zM := (⟨"NestedPager$Translator", "<init>", "(LNestedPager$Pager;LNestedPager$Devices;)V"⟩, prog_10_method_1_code, 3, none, (1, 21, 0, 0), (2, 8, 2, 0, 0, 0), [(0, .aload_n 0, 1, 0, 0, 0), (1, .invokespecial 3, 3, 0, 2, 0), (4, .aload_n 0, 1, 0, 0, 0), (5, .aload_n 1, 1, 0, 0, 0), (6, .putfield 9, 3, 8, 0, 0), (9, .aload_n 0, 1, 0, 0, 0), (10, .aload_n 2, 1, 0, 0, 0), (11, .putfield 15, 3, 8, 1, 0), (14, .return_, 1, 0, 0, 0)], [])
def zm_9 : zM := (⟨"NestedPager$Processor", "<init>", "(LNestedPager$Pager;LNestedPager$Devices;LNestedPager$Translator;)V"⟩, prog_9_method_1_code, 4, none, (1, 21, 0, 0), (2, 7, 3, 0, 0, 0), [(0, .aload_n 0, 1, 0, 0, 0), (1, .invokespecial 3, 3, 0, 2, 0), (4, .aload_n 0, 1, 0, 0, 0), (5, .aload_n 1, 1, 0, 0, 0), (6, .putfield 9, 3, 7, 0, 0), (9, .aload_n 0, 1, 0, 0, 0), (10, .aload_n 2, 1, 0, 0, 0), (11, .putfield 15, 3, 7, 1, 0), (14, .aload_n 0, 1, 0, 0, 0), (15, .aload_n 3, 1, 0, 0, 0), (16, .putfield 19, 3, 7, 2, 0), (19, .return_, 1, 0, 0, 0)], [])
def zm_10 : zM := (⟨"NestedPager", "<init>", "()V"⟩, prog_1_method_1_code, 2, none, (3, 62, 120, 8000), (2, 10, 0, 0, 0, 0), [(0, .aload_n 0, 1, 0, 0, 0), (1, .invokespecial 1, 3, 0, 2, 0), (4, .aload_n 0, 1, 0, 0, 0), (5, .new 7, 3, 5, 0, 0), (8, .dup, 1, 0, 0, 0), (9, .invokespecial 9, 3, 0, 0, 0), (12, .putfield 10, 3, 10, 0, 0), (15, .aload_n 0, 1, 0, 0, 0), (16, .iconst 4, 1, 0, 0, 0), (17, .anewarray 16, 3, 3, 0, 0), (20, .putfield 18, 3, 10, 1, 0), (23, .aload_n 0, 1, 0, 0, 0), (24, .bipush 8, 2, 0, 0, 0), (26, .anewarray 22, 3, 4, 0, 0), (29, .putfield 24, 3, 10, 2, 0), (32, .aload_n 0, 1, 0, 0, 0), (33, .sipush 128, 3, 0, 0, 0), (36, .newarray .int, 2, 0, 0, 0), (38, .putfield 28, 3, 10, 3, 0), (41, .aload_n 0, 1, 0, 0, 0), (42, .iconst 0, 1, 0, 0, 0), (43, .putfield 32, 3, 10, 4, 0), (46, .iconst 0, 1, 0, 0, 0), (47, .istore_n 1, 1, 0, 0, 0), (48, .iload_n 1, 1, 0, 0, 0), (49, .iconst 4, 1, 0, 0, 0), (50, .if_icmp .ge 23, 3, 0, 0, 0), (53, .aload_n 0, 1, 0, 0, 0), (54, .getfield 18, 3, 10, 1, 0), (57, .iload_n 1, 1, 0, 0, 0), (58, .new 16, 3, 2, 0, 0), (61, .dup, 1, 0, 0, 0), (62, .iload_n 1, 1, 0, 0, 0), (63, .invokespecial 36, 3, 3, 0, 1), (66, .aastore, 1, 0, 0, 0), (67, .iinc 1 1, 3, 0, 0, 0), (70, .goto (-22), 3, 0, 0, 0), (73, .iconst 0, 1, 0, 0, 0), (74, .istore_n 1, 1, 0, 0, 0), (75, .iload_n 1, 1, 0, 0, 0), (76, .bipush 8, 2, 0, 0, 0), (78, .if_icmp .ge 23, 3, 0, 0, 0), (81, .aload_n 0, 1, 0, 0, 0), (82, .getfield 24, 3, 10, 2, 0), (85, .iload_n 1, 1, 0, 0, 0), (86, .new 22, 3, 9, 0, 0), (89, .dup, 1, 0, 0, 0), (90, .iload_n 1, 1, 0, 0, 0), (91, .invokespecial 39, 3, 5, 0, 1), (94, .aastore, 1, 0, 0, 0), (95, .iinc 1 1, 3, 0, 0, 0), (98, .goto (-23), 3, 0, 0, 0), (101, .aload_n 0, 1, 0, 0, 0), (102, .new 40, 3, 6, 0, 0), (105, .dup, 1, 0, 0, 0), (106, .aload_n 0, 1, 0, 0, 0), (107, .getfield 10, 3, 10, 0, 0), (110, .invokespecial 42, 3, 6, 0, 1), (113, .putfield 45, 3, 10, 5, 0), (116, .aload_n 0, 1, 0, 0, 0), (117, .new 49, 3, 0, 0, 0), (120, .dup, 1, 0, 0, 0), (121, .aload_n 0, 1, 0, 0, 0), (122, .getfield 45, 3, 10, 5, 0), (125, .aload_n 0, 1, 0, 0, 0), (126, .getfield 18, 3, 10, 1, 0), (129, .aload_n 0, 1, 0, 0, 0), (130, .getfield 24, 3, 10, 2, 0), (133, .invokespecial 51, 3, 7, 0, 3), (136, .putfield 54, 3, 10, 6, 0), (139, .aload_n 0, 1, 0, 0, 0), (140, .new 58, 3, 8, 0, 0), (143, .dup, 1, 0, 0, 0), (144, .aload_n 0, 1, 0, 0, 0), (145, .getfield 45, 3, 10, 5, 0), (148, .aload_n 0, 1, 0, 0, 0), (149, .getfield 54, 3, 10, 6, 0), (152, .invokespecial 60, 3, 8, 0, 2), (155, .putfield 63, 3, 10, 7, 0), (158, .aload_n 0, 1, 0, 0, 0), (159, .new 67, 3, 7, 0, 0), (162, .dup, 1, 0, 0, 0), (163, .aload_n 0, 1, 0, 0, 0), (164, .getfield 45, 3, 10, 5, 0), (167, .aload_n 0, 1, 0, 0, 0), (168, .getfield 54, 3, 10, 6, 0), (171, .aload_n 0, 1, 0, 0, 0), (172, .getfield 63, 3, 10, 7, 0), (175, .invokespecial 69, 3, 9, 0, 3), (178, .putfield 72, 3, 10, 8, 0), (181, .return_, 1, 0, 0, 0)], [])
def zm_11 : zM := (⟨"NestedPagerModel", "<init>", "()V"⟩, prog_13_method_1_code, 1, none, (1, 21, 60, 12000), (2, 11, 0, 0, 0, 0), [(0, .aload_n 0, 1, 0, 0, 0), (1, .invokespecial 1, 3, 0, 2, 0), (4, .aload_n 0, 1, 0, 0, 0), (5, .sipush 2048, 3, 0, 0, 0), (8, .newarray .int, 2, 0, 0, 0), (10, .putfield 7, 3, 11, 1, 0), (13, .aload_n 0, 1, 0, 0, 0), (14, .sipush 128, 3, 0, 0, 0), (17, .newarray .int, 2, 0, 0, 0), (19, .putfield 13, 3, 11, 2, 0), (22, .aload_n 0, 1, 0, 0, 0), (23, .sipush 128, 3, 0, 0, 0), (26, .newarray .int, 2, 0, 0, 0), (28, .putfield 16, 3, 11, 3, 0), (31, .aload_n 0, 1, 0, 0, 0), (32, .sipush 128, 3, 0, 0, 0), (35, .newarray .int, 2, 0, 0, 0), (37, .putfield 19, 3, 11, 4, 0), (40, .aload_n 0, 1, 0, 0, 0), (41, .sipush 1024, 3, 0, 0, 0), (44, .newarray .int, 2, 0, 0, 0), (46, .putfield 22, 3, 11, 5, 0), (49, .aload_n 0, 1, 0, 0, 0), (50, .bipush 64, 2, 0, 0, 0), (52, .newarray .boolean, 2, 0, 0, 0), (54, .putfield 25, 3, 11, 6, 0), (57, .aload_n 0, 1, 0, 0, 0), (58, .iconst 4, 1, 0, 0, 0), (59, .newarray .boolean, 2, 0, 0, 0), (61, .putfield 29, 3, 11, 8, 0), (64, .aload_n 0, 1, 0, 0, 0), (65, .iconst 4, 1, 0, 0, 0), (66, .newarray .int, 2, 0, 0, 0), (68, .putfield 32, 3, 11, 9, 0), (71, .aload_n 0, 1, 0, 0, 0), (72, .iconst 4, 1, 0, 0, 0), (73, .newarray .int, 2, 0, 0, 0), (75, .putfield 35, 3, 11, 10, 0), (78, .aload_n 0, 1, 0, 0, 0), (79, .iconst 4, 1, 0, 0, 0), (80, .newarray .int, 2, 0, 0, 0), (82, .putfield 38, 3, 11, 11, 0), (85, .aload_n 0, 1, 0, 0, 0), (86, .iconst 4, 1, 0, 0, 0), (87, .newarray .int, 2, 0, 0, 0), (89, .putfield 41, 3, 11, 12, 0), (92, .aload_n 0, 1, 0, 0, 0), (93, .iconst 4, 1, 0, 0, 0), (94, .newarray .int, 2, 0, 0, 0), (96, .putfield 44, 3, 11, 13, 0), (99, .aload_n 0, 1, 0, 0, 0), (100, .iconst 4, 1, 0, 0, 0), (101, .newarray .int, 2, 0, 0, 0), (103, .putfield 47, 3, 11, 14, 0), (106, .aload_n 0, 1, 0, 0, 0), (107, .iconst 4, 1, 0, 0, 0), (108, .newarray .int, 2, 0, 0, 0), (110, .putfield 50, 3, 11, 15, 0), (113, .aload_n 0, 1, 0, 0, 0), (114, .iconst 4, 1, 0, 0, 0), (115, .newarray .int, 2, 0, 0, 0), (117, .putfield 53, 3, 11, 16, 0), (120, .aload_n 0, 1, 0, 0, 0), (121, .sipush 800, 3, 0, 0, 0), (124, .newarray .int, 2, 0, 0, 0), (126, .putfield 56, 3, 11, 17, 0), (129, .aload_n 0, 1, 0, 0, 0), (130, .iconst 4, 1, 0, 0, 0), (131, .newarray .int, 2, 0, 0, 0), (133, .putfield 59, 3, 11, 18, 0), (136, .aload_n 0, 1, 0, 0, 0), (137, .iconst 4, 1, 0, 0, 0), (138, .newarray .int, 2, 0, 0, 0), (140, .putfield 62, 3, 11, 19, 0), (143, .aload_n 0, 1, 0, 0, 0), (144, .sipush 1024, 3, 0, 0, 0), (147, .newarray .int, 2, 0, 0, 0), (149, .putfield 65, 3, 11, 20, 0), (152, .aload_n 0, 1, 0, 0, 0), (153, .iconst 4, 1, 0, 0, 0), (154, .newarray .int, 2, 0, 0, 0), (156, .putfield 68, 3, 11, 21, 0), (159, .aload_n 0, 1, 0, 0, 0), (160, .iconst 4, 1, 0, 0, 0), (161, .newarray .int, 2, 0, 0, 0), (163, .putfield 71, 3, 11, 22, 0), (166, .aload_n 0, 1, 0, 0, 0), (167, .iconst 4, 1, 0, 0, 0), (168, .newarray .int, 2, 0, 0, 0), (170, .putfield 74, 3, 11, 23, 0), (173, .aload_n 0, 1, 0, 0, 0), (174, .bipush 32, 2, 0, 0, 0), (176, .newarray .int, 2, 0, 0, 0), (178, .putfield 77, 3, 11, 24, 0), (181, .aload_n 0, 1, 0, 0, 0), (182, .iconst 4, 1, 0, 0, 0), (183, .newarray .int, 2, 0, 0, 0), (185, .putfield 80, 3, 11, 25, 0), (188, .aload_n 0, 1, 0, 0, 0), (189, .bipush 8, 2, 0, 0, 0), (191, .newarray .boolean, 2, 0, 0, 0), (193, .putfield 83, 3, 11, 26, 0), (196, .aload_n 0, 1, 0, 0, 0), (197, .sipush 160, 3, 0, 0, 0), (200, .newarray .int, 2, 0, 0, 0), (202, .putfield 86, 3, 11, 27, 0), (205, .aload_n 0, 1, 0, 0, 0), (206, .bipush 40, 2, 0, 0, 0), (208, .newarray .int, 2, 0, 0, 0), (210, .putfield 89, 3, 11, 28, 0), (213, .aload_n 0, 1, 0, 0, 0), (214, .bipush 8, 2, 0, 0, 0), (216, .newarray .int, 2, 0, 0, 0), (218, .putfield 92, 3, 11, 29, 0), (221, .aload_n 0, 1, 0, 0, 0), (222, .bipush 64, 2, 0, 0, 0), (224, .newarray .boolean, 2, 0, 0, 0), (226, .putfield 95, 3, 11, 30, 0), (229, .aload_n 0, 1, 0, 0, 0), (230, .bipush 64, 2, 0, 0, 0), (232, .newarray .int, 2, 0, 0, 0), (234, .putfield 98, 3, 11, 31, 0), (237, .aload_n 0, 1, 0, 0, 0), (238, .bipush 64, 2, 0, 0, 0), (240, .newarray .int, 2, 0, 0, 0), (242, .putfield 101, 3, 11, 32, 0), (245, .aload_n 0, 1, 0, 0, 0), (246, .bipush 64, 2, 0, 0, 0), (248, .newarray .int, 2, 0, 0, 0), (250, .putfield 104, 3, 11, 33, 0), (253, .aload_n 0, 1, 0, 0, 0), (254, .bipush 64, 2, 0, 0, 0), (256, .newarray .int, 2, 0, 0, 0), (258, .putfield 107, 3, 11, 34, 0), (261, .aload_n 0, 1, 0, 0, 0), (262, .sipush 128, 3, 0, 0, 0), (265, .newarray .int, 2, 0, 0, 0), (267, .putfield 110, 3, 11, 36, 0), (270, .aload_n 0, 1, 0, 0, 0), (271, .iconst 0, 1, 0, 0, 0), (272, .putfield 113, 3, 11, 7, 0), (275, .return_, 1, 0, 0, 0)], [])
def zm_12 : zM := (⟨"NestedPager", "within", "(III)Z"⟩, prog_1_method_28_code, 3, (some (.boolean)), (0, 0, 0, 0), (1, 10, 3, 0, 0, 0), [(0, .iload_n 0, 1, 0, 0, 0), (1, .iload_n 1, 1, 0, 0, 0), (2, .if_icmp .lt 12, 3, 0, 0, 0), (5, .iload_n 0, 1, 0, 0, 0), (6, .iload_n 2, 1, 0, 0, 0), (7, .if_icmp .gt 7, 3, 0, 0, 0), (10, .iconst 1, 1, 0, 0, 0), (11, .goto 4, 3, 0, 0, 0), (14, .iconst 0, 1, 0, 0, 0), (15, .ireturn, 1, 0, 0, 0)], [])
def zm_13 : zM := (⟨"NestedPager", "argument", "(Z)V"⟩, prog_1_method_26_code, 1, none, (6, 89, 1, 6), (1, 10, 1, 0, 0, 0), [(0, .iload_n 0, 1, 0, 0, 0), (1, .ifCond .ne 11, 3, 0, 0, 0), (4, .new 287, 3, 0, 1, 0), (7, .dup, 1, 0, 0, 0), (8, .invokespecial 289, 3, 9999, 9, 0), (11, .athrow, 1, 0, 0, 0), (12, .return_, 1, 0, 0, 0)], [])
def zm_14 : zM := (⟨"NestedPager$Memory", "freeFrame", "()I"⟩, prog_7_method_4_code, 2, (some (.int)), (0, 0, 0, 0), (0, 5, 0, 0, 0, 0), [(0, .iconst 0, 1, 0, 0, 0), (1, .istore_n 1, 1, 0, 0, 0), (2, .iload_n 1, 1, 0, 0, 0), (3, .sipush 128, 3, 0, 0, 0), (6, .if_icmp .ge 20, 3, 0, 0, 0), (9, .aload_n 0, 1, 0, 0, 0), (10, .getfield 15, 3, 5, 1, 0), (13, .iload_n 1, 1, 0, 0, 0), (14, .iaload, 1, 0, 0, 0), (15, .ifCond .ne 5, 3, 0, 0, 0), (18, .iload_n 1, 1, 0, 0, 0), (19, .ireturn, 1, 0, 0, 0), (20, .iinc 1 1, 3, 0, 0, 0), (23, .goto (-21), 3, 0, 0, 0), (26, .iconst (-1), 1, 0, 0, 0), (27, .ireturn, 1, 0, 0, 0)], [])
def zm_15 : zM := (⟨"NestedPager$Memory", "claim", "(IIII)V"⟩, prog_7_method_11_code, 5, none, (0, 0, 0, 0), (0, 5, 4, 0, 0, 0), [(0, .aload_n 0, 1, 0, 0, 0), (1, .getfield 15, 3, 5, 1, 0), (4, .iload_n 1, 1, 0, 0, 0), (5, .iload_n 2, 1, 0, 0, 0), (6, .iastore, 1, 0, 0, 0), (7, .aload_n 0, 1, 0, 0, 0), (8, .getfield 18, 3, 5, 2, 0), (11, .iload_n 1, 1, 0, 0, 0), (12, .iload_n 3, 1, 0, 0, 0), (13, .iastore, 1, 0, 0, 0), (14, .aload_n 0, 1, 0, 0, 0), (15, .getfield 21, 3, 5, 3, 0), (18, .iload_n 1, 1, 0, 0, 0), (19, .iload 4, 2, 0, 0, 0), (21, .iastore, 1, 0, 0, 0), (22, .return_, 1, 0, 0, 0)], [])
def zm_16 : zM := (⟨"NestedPager$Disk", "begin", "()V"⟩, prog_3_method_2_code, 2, none, (0, 0, 0, 0), (0, 1, 0, 0, 0, 0), [(0, .iconst 0, 1, 0, 0, 0), (1, .istore_n 1, 1, 0, 0, 0), (2, .iload_n 1, 1, 0, 0, 0), (3, .sipush 256, 3, 0, 0, 0), (6, .if_icmp .ge 16, 3, 0, 0, 0), (9, .aload_n 0, 1, 0, 0, 0), (10, .getfield 11, 3, 1, 0, 0), (13, .iload_n 1, 1, 0, 0, 0), (14, .iconst 0, 1, 0, 0, 0), (15, .iastore, 1, 0, 0, 0), (16, .iinc 1 1, 3, 0, 0, 0), (19, .goto (-17), 3, 0, 0, 0), (22, .aload_n 0, 1, 0, 0, 0), (23, .iconst 0, 1, 0, 0, 0), (24, .putfield 15, 3, 1, 1, 0), (27, .aload_n 0, 1, 0, 0, 0), (28, .iconst 0, 1, 0, 0, 0), (29, .putfield 19, 3, 1, 2, 0), (32, .aload_n 0, 1, 0, 0, 0), (33, .iconst 0, 1, 0, 0, 0), (34, .putfield 22, 3, 1, 3, 0), (37, .return_, 1, 0, 0, 0)], [])
def zm_17 : zM := (⟨"NestedPager$Guest", "begin", "(II)V"⟩, prog_4_method_2_code, 3, none, (1, 21, 0, 0), (0, 2, 2, 0, 0, 0), [(0, .aload_n 0, 1, 0, 0, 0), (1, .iconst 1, 1, 0, 0, 0), (2, .putfield 9, 3, 2, 1, 0), (5, .aload_n 0, 1, 0, 0, 0), (6, .iload_n 1, 1, 0, 0, 0), (7, .putfield 37, 3, 2, 2, 0), (10, .aload_n 0, 1, 0, 0, 0), (11, .iload_n 2, 1, 0, 0, 0), (12, .putfield 40, 3, 2, 3, 0), (15, .aload_n 0, 1, 0, 0, 0), (16, .iconst 0, 1, 0, 0, 0), (17, .putfield 43, 3, 2, 4, 0), (20, .aload_n 0, 1, 0, 0, 0), (21, .iconst 0, 1, 0, 0, 0), (22, .putfield 46, 3, 2, 5, 0), (25, .aload_n 0, 1, 0, 0, 0), (26, .iconst 0, 1, 0, 0, 0), (27, .putfield 49, 3, 2, 6, 0), (30, .aload_n 0, 1, 0, 0, 0), (31, .iconst 0, 1, 0, 0, 0), (32, .putfield 52, 3, 2, 7, 0), (35, .aload_n 0, 1, 0, 0, 0), (36, .iconst 0, 1, 0, 0, 0), (37, .putfield 55, 3, 2, 8, 0), (40, .aload_n 0, 1, 0, 0, 0), (41, .iconst 0, 1, 0, 0, 0), (42, .putfield 58, 3, 2, 9, 0), (45, .aload_n 0, 1, 0, 0, 0), (46, .iconst 0, 1, 0, 0, 0), (47, .putfield 61, 3, 2, 10, 0), (50, .aload_n 0, 1, 0, 0, 0), (51, .getfield 22, 3, 2, 12, 0), (54, .invokevirtual 64, 3, 16, 0, 0), (57, .aload_n 0, 1, 0, 0, 0), (58, .getfield 29, 3, 2, 13, 0), (61, .iconst 0, 1, 0, 0, 0), (62, .putfield 67, 3, 4, 1, 0), (65, .return_, 1, 0, 0, 0)], [])
def zm_18 : zM := (⟨"NestedPager", "guest", "(I)I"⟩, prog_1_method_2_code, 4, (some (.int)), (7, 109, 1, 6), (0, 10, 1, 0, 0, 0), [(0, .iload_n 1, 1, 0, 0, 0), (1, .iconst 1, 1, 0, 0, 0), (2, .sipush 128, 3, 0, 0, 0), (5, .invokestatic 76, 3, 12, 0, 3), (8, .invokestatic 80, 3, 13, 0, 1), (11, .aload_n 0, 1, 0, 0, 0), (12, .getfield 10, 3, 10, 0, 0), (15, .invokevirtual 84, 3, 14, 0, 0), (18, .istore_n 2, 1, 0, 0, 0), (19, .iconst 0, 1, 0, 0, 0), (20, .istore_n 3, 1, 0, 0, 0), (21, .iload_n 3, 1, 0, 0, 0), (22, .iconst 4, 1, 0, 0, 0), (23, .if_icmp .ge 61, 3, 0, 0, 0), (26, .iload_n 2, 1, 0, 0, 0), (27, .ifCond .lt 57, 3, 0, 0, 0), (30, .aload_n 0, 1, 0, 0, 0), (31, .getfield 18, 3, 10, 1, 0), (34, .iload_n 3, 1, 0, 0, 0), (35, .aaload, 1, 0, 0, 0), (36, .getfield 88, 3, 2, 1, 0), (39, .ifCond .ne 39, 3, 0, 0, 0), (42, .aload_n 0, 1, 0, 0, 0), (43, .getfield 10, 3, 10, 0, 0), (46, .iload_n 2, 1, 0, 0, 0), (47, .iconst 1, 1, 0, 0, 0), (48, .iload_n 3, 1, 0, 0, 0), (49, .sipush 256, 3, 0, 0, 0), (52, .invokevirtual 92, 3, 15, 0, 4), (55, .aload_n 0, 1, 0, 0, 0), (56, .getfield 10, 3, 10, 0, 0), (59, .getfield 96, 3, 5, 7, 0), (62, .iload_n 3, 1, 0, 0, 0), (63, .iconst 0, 1, 0, 0, 0), (64, .iastore, 1, 0, 0, 0), (65, .aload_n 0, 1, 0, 0, 0), (66, .getfield 18, 3, 10, 1, 0), (69, .iload_n 3, 1, 0, 0, 0), (70, .aaload, 1, 0, 0, 0), (71, .iload_n 1, 1, 0, 0, 0), (72, .iload_n 2, 1, 0, 0, 0), (73, .invokevirtual 99, 3, 17, 0, 2), (76, .iload_n 3, 1, 0, 0, 0), (77, .ireturn, 1, 0, 0, 0), (78, .iinc 3 1, 3, 0, 0, 0), (81, .goto (-60), 3, 0, 0, 0), (84, .bipush (-4), 2, 0, 0, 0), (86, .ireturn, 1, 0, 0, 0)], [])
def zm_19 : zM := (⟨"NestedPagerLaw", "guest", "(LNestedPager;I[J)I"⟩, method_3_code, 4, (some (.int)), (8, 132, 1, 6), (1, 99, 3, 0, 0, 0), [(0, .aload_n 2, 1, 0, 0, 0), (1, .iconst 0, 1, 0, 0, 0), (2, .aload_n 0, 1, 0, 0, 0), (3, .iload_n 1, 1, 0, 0, 0), (4, .invokevirtual 7, 3, 18, 0, 1), (7, .i2l, 1, 0, 0, 0), (8, .lastore, 1, 0, 0, 0), (9, .goto 6, 3, 0, 0, 0), (12, .astore_n 3, 1, 0, 0, 0), (13, .iconst 1, 1, 0, 0, 0), (14, .ireturn, 1, 0, 0, 0), (15, .iconst 0, 1, 0, 0, 0), (16, .ireturn, 1, 0, 0, 0)], [((0), (9), (12), (13))])
def zm_20 : zM := (⟨"NestedPagerModel", "isIn", "(III)Z"⟩, prog_13_method_4_code, 3, (some (.boolean)), (0, 0, 0, 0), (1, 11, 3, 0, 0, 0), [(0, .iload_n 0, 1, 0, 0, 0), (1, .iload_n 1, 1, 0, 0, 0), (2, .if_icmp .lt 12, 3, 0, 0, 0), (5, .iload_n 0, 1, 0, 0, 0), (6, .iload_n 2, 1, 0, 0, 0), (7, .if_icmp .gt 7, 3, 0, 0, 0), (10, .iconst 1, 1, 0, 0, 0), (11, .goto 4, 3, 0, 0, 0), (14, .iconst 0, 1, 0, 0, 0), (15, .ireturn, 1, 0, 0, 0)], [])
def zm_21 : zM := (⟨"NestedPagerModel", "refused", "(I)Z"⟩, prog_13_method_3_code, 2, (some (.boolean)), (0, 0, 0, 0), (0, 11, 1, 0, 0, 0), [(0, .aload_n 0, 1, 0, 0, 0), (1, .iload_n 1, 1, 0, 0, 0), (2, .putfield 117, 3, 11, 0, 0), (5, .iload_n 1, 1, 0, 0, 0), (6, .ifCond .le 7, 3, 0, 0, 0), (9, .iconst 1, 1, 0, 0, 0), (10, .goto 4, 3, 0, 0, 0), (13, .iconst 0, 1, 0, 0, 0), (14, .ireturn, 1, 0, 0, 0)], [])
def zm_22 : zM := (⟨"NestedPagerModel", "freeFrame", "()I"⟩, prog_13_method_9_code, 2, (some (.int)), (0, 0, 0, 0), (0, 11, 0, 0, 0, 0), [(0, .iconst 0, 1, 0, 0, 0), (1, .istore_n 1, 1, 0, 0, 0), (2, .iload_n 1, 1, 0, 0, 0), (3, .sipush 128, 3, 0, 0, 0), (6, .if_icmp .ge 20, 3, 0, 0, 0), (9, .aload_n 0, 1, 0, 0, 0), (10, .getfield 13, 3, 11, 2, 0), (13, .iload_n 1, 1, 0, 0, 0), (14, .iaload, 1, 0, 0, 0), (15, .ifCond .ne 5, 3, 0, 0, 0), (18, .iload_n 1, 1, 0, 0, 0), (19, .ireturn, 1, 0, 0, 0), (20, .iinc 1 1, 3, 0, 0, 0), (23, .goto (-21), 3, 0, 0, 0), (26, .iconst (-1), 1, 0, 0, 0), (27, .ireturn, 1, 0, 0, 0)], [])
def zm_23 : zM := (⟨"NestedPagerModel", "guest", "(I)I"⟩, prog_13_method_39_code, 5, (some (.int)), (1, 22, 0, 0), (0, 11, 1, 0, 0, 0), [(0, .aload_n 0, 1, 0, 0, 0), (1, .iload_n 1, 1, 0, 0, 0), (2, .iconst 1, 1, 0, 0, 0), (3, .sipush 128, 3, 0, 0, 0), (6, .invokestatic 120, 3, 20, 0, 3), (9, .ifCond .eq 7, 3, 0, 0, 0), (12, .iconst 0, 1, 0, 0, 0), (13, .goto 4, 3, 0, 0, 0), (16, .iconst 1, 1, 0, 0, 0), (17, .invokevirtual 244, 3, 21, 0, 1), (20, .ifCond .eq 5, 3, 0, 0, 0), (23, .iconst 0, 1, 0, 0, 0), (24, .ireturn, 1, 0, 0, 0), (25, .iconst 0, 1, 0, 0, 0), (26, .istore_n 2, 1, 0, 0, 0), (27, .iload_n 2, 1, 0, 0, 0), (28, .iconst 4, 1, 0, 0, 0), (29, .if_icmp .ge 18, 3, 0, 0, 0), (32, .aload_n 0, 1, 0, 0, 0), (33, .getfield 29, 3, 11, 8, 0), (36, .iload_n 2, 1, 0, 0, 0), (37, .baload, 1, 0, 0, 0), (38, .ifCond .eq 9, 3, 0, 0, 0), (41, .iinc 2 1, 3, 0, 0, 0), (44, .goto (-17), 3, 0, 0, 0), (47, .aload_n 0, 1, 0, 0, 0), (48, .invokevirtual 144, 3, 22, 0, 0), (51, .istore_n 3, 1, 0, 0, 0), (52, .iload_n 2, 1, 0, 0, 0), (53, .iconst 4, 1, 0, 0, 0), (54, .if_icmp .eq 7, 3, 0, 0, 0), (57, .iload_n 3, 1, 0, 0, 0), (58, .ifCond .ge 6, 3, 0, 0, 0), (61, .bipush (-4), 2, 0, 0, 0), (63, .ireturn, 1, 0, 0, 0), (64, .aload_n 0, 1, 0, 0, 0), (65, .getfield 29, 3, 11, 8, 0), (68, .iload_n 2, 1, 0, 0, 0), (69, .iconst 1, 1, 0, 0, 0), (70, .bastore, 1, 0, 0, 0), (71, .aload_n 0, 1, 0, 0, 0), (72, .getfield 32, 3, 11, 9, 0), (75, .iload_n 2, 1, 0, 0, 0), (76, .iload_n 1, 1, 0, 0, 0), (77, .iastore, 1, 0, 0, 0), (78, .aload_n 0, 1, 0, 0, 0), (79, .getfield 13, 3, 11, 2, 0), (82, .iload_n 3, 1, 0, 0, 0), (83, .iconst 1, 1, 0, 0, 0), (84, .iastore, 1, 0, 0, 0), (85, .aload_n 0, 1, 0, 0, 0), (86, .getfield 16, 3, 11, 3, 0), (89, .iload_n 3, 1, 0, 0, 0), (90, .iload_n 2, 1, 0, 0, 0), (91, .iastore, 1, 0, 0, 0), (92, .aload_n 0, 1, 0, 0, 0), (93, .getfield 19, 3, 11, 4, 0), (96, .iload_n 3, 1, 0, 0, 0), (97, .sipush 256, 3, 0, 0, 0), (100, .iastore, 1, 0, 0, 0), (101, .aload_n 0, 1, 0, 0, 0), (102, .getfield 35, 3, 11, 10, 0), (105, .iload_n 2, 1, 0, 0, 0), (106, .iload_n 3, 1, 0, 0, 0), (107, .iastore, 1, 0, 0, 0), (108, .aload_n 0, 1, 0, 0, 0), (109, .getfield 38, 3, 11, 11, 0), (112, .iload_n 2, 1, 0, 0, 0), (113, .iconst 0, 1, 0, 0, 0), (114, .iastore, 1, 0, 0, 0), (115, .aload_n 0, 1, 0, 0, 0), (116, .getfield 41, 3, 11, 12, 0), (119, .iload_n 2, 1, 0, 0, 0), (120, .iconst 0, 1, 0, 0, 0), (121, .iastore, 1, 0, 0, 0), (122, .aload_n 0, 1, 0, 0, 0), (123, .getfield 44, 3, 11, 13, 0), (126, .iload_n 2, 1, 0, 0, 0), (127, .iconst 0, 1, 0, 0, 0), (128, .iastore, 1, 0, 0, 0), (129, .aload_n 0, 1, 0, 0, 0), (130, .getfield 47, 3, 11, 14, 0), (133, .iload_n 2, 1, 0, 0, 0), (134, .iconst 0, 1, 0, 0, 0), (135, .iastore, 1, 0, 0, 0), (136, .aload_n 0, 1, 0, 0, 0), (137, .getfield 50, 3, 11, 15, 0), (140, .iload_n 2, 1, 0, 0, 0), (141, .iconst 0, 1, 0, 0, 0), (142, .iastore, 1, 0, 0, 0), (143, .aload_n 0, 1, 0, 0, 0), (144, .getfield 53, 3, 11, 16, 0), (147, .iload_n 2, 1, 0, 0, 0), (148, .iconst 0, 1, 0, 0, 0), (149, .iastore, 1, 0, 0, 0), (150, .aload_n 0, 1, 0, 0, 0), (151, .getfield 59, 3, 11, 18, 0), (154, .iload_n 2, 1, 0, 0, 0), (155, .iconst 0, 1, 0, 0, 0), (156, .iastore, 1, 0, 0, 0), (157, .aload_n 0, 1, 0, 0, 0), (158, .getfield 68, 3, 11, 21, 0), (161, .iload_n 2, 1, 0, 0, 0), (162, .iconst 0, 1, 0, 0, 0), (163, .iastore, 1, 0, 0, 0), (164, .aload_n 0, 1, 0, 0, 0), (165, .getfield 71, 3, 11, 22, 0), (168, .iload_n 2, 1, 0, 0, 0), (169, .iconst 0, 1, 0, 0, 0), (170, .iastore, 1, 0, 0, 0), (171, .aload_n 0, 1, 0, 0, 0), (172, .getfield 74, 3, 11, 23, 0), (175, .iload_n 2, 1, 0, 0, 0), (176, .iconst 0, 1, 0, 0, 0), (177, .iastore, 1, 0, 0, 0), (178, .aload_n 0, 1, 0, 0, 0), (179, .getfield 80, 3, 11, 25, 0), (182, .iload_n 2, 1, 0, 0, 0), (183, .iconst 0, 1, 0, 0, 0), (184, .iastore, 1, 0, 0, 0), (185, .iconst 0, 1, 0, 0, 0), (186, .istore 4, 2, 0, 0, 0), (188, .iload 4, 2, 0, 0, 0), (190, .sipush 256, 3, 0, 0, 0), (193, .if_icmp .ge 23, 3, 0, 0, 0), (196, .aload_n 0, 1, 0, 0, 0), (197, .getfield 65, 3, 11, 20, 0), (200, .sipush 256, 3, 0, 0, 0), (203, .iload_n 2, 1, 0, 0, 0), (204, .imul, 1, 0, 0, 0), (205, .iload 4, 2, 0, 0, 0), (207, .iadd, 1, 0, 0, 0), (208, .iconst 0, 1, 0, 0, 0), (209, .iastore, 1, 0, 0, 0), (210, .iinc 4 1, 3, 0, 0, 0), (213, .goto (-25), 3, 0, 0, 0), (216, .iload_n 2, 1, 0, 0, 0), (217, .ireturn, 1, 0, 0, 0)], [])
def zm_24 : zM := (⟨"NestedPagerModel", "thrown", "()I"⟩, prog_13_method_2_code, 1, (some (.int)), (0, 0, 0, 0), (0, 11, 0, 0, 0, 0), [(0, .aload_n 0, 1, 0, 0, 0), (1, .getfield 117, 3, 11, 0, 0), (4, .ireturn, 1, 0, 0, 0)], [])
def zm_25 : zM := (⟨"NestedPager", "isGuest", "(I)Z"⟩, prog_1_method_29_code, 1, (some (.boolean)), (1, 22, 0, 0), (1, 10, 1, 0, 0, 0), [(0, .iload_n 0, 1, 0, 0, 0), (1, .iconst 0, 1, 0, 0, 0), (2, .iconst 3, 1, 0, 0, 0), (3, .invokestatic 76, 3, 12, 0, 3), (6, .ireturn, 1, 0, 0, 0)], [])
def zm_26 : zM := (⟨"NestedPager", "state", "(Z)V"⟩, prog_1_method_27_code, 1, none, (6, 89, 1, 6), (1, 10, 1, 0, 0, 0), [(0, .iload_n 0, 1, 0, 0, 0), (1, .ifCond .ne 11, 3, 0, 0, 0), (4, .new 290, 3, 1, 1, 0), (7, .dup, 1, 0, 0, 0), (8, .invokespecial 292, 3, 9999, 9, 0), (11, .athrow, 1, 0, 0, 0), (12, .return_, 1, 0, 0, 0)], [])
def zm_27 : zM := (⟨"NestedPager", "guestThere", "(I)LNestedPager$Guest;"⟩, prog_1_method_37_code, 2, (some (.object "NestedPager$Guest")), (7, 109, 1, 6), (0, 10, 1, 0, 0, 0), [(0, .aload_n 0, 1, 0, 0, 0), (1, .getfield 18, 3, 10, 1, 0), (4, .iload_n 1, 1, 0, 0, 0), (5, .aaload, 1, 0, 0, 0), (6, .getfield 88, 3, 2, 1, 0), (9, .invokestatic 181, 3, 26, 0, 1), (12, .aload_n 0, 1, 0, 0, 0), (13, .getfield 18, 3, 10, 1, 0), (16, .iload_n 1, 1, 0, 0, 0), (17, .aaload, 1, 0, 0, 0), (18, .areturn, 1, 0, 0, 0)], [])
def zm_28 : zM := (⟨"NestedPager$Vcpu", "isOf", "(I)Z"⟩, prog_11_method_3_code, 2, (some (.boolean)), (0, 0, 0, 0), (0, 9, 1, 0, 0, 0), [(0, .aload_n 0, 1, 0, 0, 0), (1, .getfield 9, 3, 9, 1, 0), (4, .ifCond .eq 18, 3, 0, 0, 0), (7, .aload_n 0, 1, 0, 0, 0), (8, .getfield 15, 3, 9, 2, 0), (11, .bipush 16, 2, 0, 0, 0), (13, .iaload, 1, 0, 0, 0), (14, .iload_n 1, 1, 0, 0, 0), (15, .if_icmp .ne 7, 3, 0, 0, 0), (18, .iconst 1, 1, 0, 0, 0), (19, .goto 4, 3, 0, 0, 0), (22, .iconst 0, 1, 0, 0, 0), (23, .ireturn, 1, 0, 0, 0)], [])
def zm_29 : zM := (⟨"NestedPager$Memory", "freeFrames", "()I"⟩, prog_7_method_6_code, 3, (some (.int)), (0, 0, 0, 0), (0, 5, 0, 0, 0, 0), [(0, .iconst 0, 1, 0, 0, 0), (1, .istore_n 1, 1, 0, 0, 0), (2, .iconst 0, 1, 0, 0, 0), (3, .istore_n 2, 1, 0, 0, 0), (4, .iload_n 2, 1, 0, 0, 0), (5, .sipush 128, 3, 0, 0, 0), (8, .if_icmp .ge 26, 3, 0, 0, 0), (11, .iload_n 1, 1, 0, 0, 0), (12, .aload_n 0, 1, 0, 0, 0), (13, .getfield 15, 3, 5, 1, 0), (16, .iload_n 2, 1, 0, 0, 0), (17, .iaload, 1, 0, 0, 0), (18, .ifCond .ne 7, 3, 0, 0, 0), (21, .iconst 1, 1, 0, 0, 0), (22, .goto 4, 3, 0, 0, 0), (25, .iconst 0, 1, 0, 0, 0), (26, .iadd, 1, 0, 0, 0), (27, .istore_n 1, 1, 0, 0, 0), (28, .iinc 2 1, 3, 0, 0, 0), (31, .goto (-27), 3, 0, 0, 0), (34, .iload_n 1, 1, 0, 0, 0), (35, .ireturn, 1, 0, 0, 0)], [])
def zm_30 : zM := (⟨"NestedPager$Memory", "frameIn", "(I)I"⟩, prog_7_method_2_code, 1, (some (.int)), (0, 0, 0, 0), (1, 5, 1, 0, 0, 0), [(0, .iload_n 0, 1, 0, 0, 0), (1, .sipush 256, 3, 0, 0, 0), (4, .idiv, 1, 0, 0, 0), (5, .sipush 128, 3, 0, 0, 0), (8, .irem, 1, 0, 0, 0), (9, .ireturn, 1, 0, 0, 0)], [])
def zm_31 : zM := (⟨"NestedPager$Memory", "spotOf", "(II)I"⟩, prog_7_method_13_code, 4, (some (.int)), (1, 20, 0, 0), (0, 5, 2, 0, 0, 0), [(0, .aload_n 0, 1, 0, 0, 0), (1, .getfield 9, 3, 5, 0, 0), (4, .iload_n 1, 1, 0, 0, 0), (5, .bipush 16, 2, 0, 0, 0), (7, .imul, 1, 0, 0, 0), (8, .iload_n 2, 1, 0, 0, 0), (9, .bipush 16, 2, 0, 0, 0), (11, .idiv, 1, 0, 0, 0), (12, .iadd, 1, 0, 0, 0), (13, .iaload, 1, 0, 0, 0), (14, .istore_n 3, 1, 0, 0, 0), (15, .iload_n 3, 1, 0, 0, 0), (16, .ifCond .ne 7, 3, 0, 0, 0), (19, .iconst (-1), 1, 0, 0, 0), (20, .goto 15, 3, 0, 0, 0), (23, .iload_n 3, 1, 0, 0, 0), (24, .invokestatic 59, 3, 30, 0, 1), (27, .bipush 16, 2, 0, 0, 0), (29, .imul, 1, 0, 0, 0), (30, .iload_n 2, 1, 0, 0, 0), (31, .bipush 16, 2, 0, 0, 0), (33, .irem, 1, 0, 0, 0), (34, .iadd, 1, 0, 0, 0), (35, .ireturn, 1, 0, 0, 0)], [])
def zm_32 : zM := (⟨"NestedPager$Memory", "entryOf", "(II)I"⟩, prog_7_method_14_code, 4, (some (.int)), (2, 43, 0, 0), (0, 5, 2, 0, 0, 0), [(0, .aload_n 0, 1, 0, 0, 0), (1, .iload_n 1, 1, 0, 0, 0), (2, .iload_n 2, 1, 0, 0, 0), (3, .invokevirtual 63, 3, 31, 0, 2), (6, .istore_n 3, 1, 0, 0, 0), (7, .iload_n 3, 1, 0, 0, 0), (8, .ifCond .ge 7, 3, 0, 0, 0), (11, .iconst 0, 1, 0, 0, 0), (12, .goto 9, 3, 0, 0, 0), (15, .aload_n 0, 1, 0, 0, 0), (16, .getfield 9, 3, 5, 0, 0), (19, .iload_n 3, 1, 0, 0, 0), (20, .iaload, 1, 0, 0, 0), (21, .ireturn, 1, 0, 0, 0)], [])
def zm_33 : zM := (⟨"NestedPager$Memory", "release", "(I)V"⟩, prog_7_method_12_code, 3, none, (0, 0, 0, 0), (0, 5, 1, 0, 0, 0), [(0, .iconst 0, 1, 0, 0, 0), (1, .istore_n 2, 1, 0, 0, 0), (2, .iload_n 2, 1, 0, 0, 0), (3, .bipush 16, 2, 0, 0, 0), (5, .if_icmp .ge 21, 3, 0, 0, 0), (8, .aload_n 0, 1, 0, 0, 0), (9, .getfield 9, 3, 5, 0, 0), (12, .iload_n 1, 1, 0, 0, 0), (13, .bipush 16, 2, 0, 0, 0), (15, .imul, 1, 0, 0, 0), (16, .iload_n 2, 1, 0, 0, 0), (17, .iadd, 1, 0, 0, 0), (18, .iconst 0, 1, 0, 0, 0), (19, .iastore, 1, 0, 0, 0), (20, .iinc 2 1, 3, 0, 0, 0), (23, .goto (-21), 3, 0, 0, 0), (26, .aload_n 0, 1, 0, 0, 0), (27, .getfield 15, 3, 5, 1, 0), (30, .iload_n 1, 1, 0, 0, 0), (31, .iconst 0, 1, 0, 0, 0), (32, .iastore, 1, 0, 0, 0), (33, .aload_n 0, 1, 0, 0, 0), (34, .getfield 18, 3, 5, 2, 0), (37, .iload_n 1, 1, 0, 0, 0), (38, .iconst (-1), 1, 0, 0, 0), (39, .iastore, 1, 0, 0, 0), (40, .aload_n 0, 1, 0, 0, 0), (41, .getfield 21, 3, 5, 3, 0), (44, .iload_n 1, 1, 0, 0, 0), (45, .iconst (-1), 1, 0, 0, 0), (46, .iastore, 1, 0, 0, 0), (47, .return_, 1, 0, 0, 0)], [])
def zm_34 : zM := (⟨"NestedPager$Memory", "slotIn", "(I)I"⟩, prog_7_method_3_code, 1, (some (.int)), (0, 0, 0, 0), (1, 5, 1, 0, 0, 0), [(0, .iload_n 0, 1, 0, 0, 0), (1, .sipush 256, 3, 0, 0, 0), (4, .idiv, 1, 0, 0, 0), (5, .bipush 64, 2, 0, 0, 0), (7, .irem, 1, 0, 0, 0), (8, .ireturn, 1, 0, 0, 0)], [])
def zm_35 : zM := (⟨"NestedPager$Memory", "letGo", "(I)V"⟩, prog_7_method_18_code, 2, none, (1, 22, 0, 0), (0, 5, 1, 0, 0, 0), [(0, .iload_n 1, 1, 0, 0, 0), (1, .bipush 96, 2, 0, 0, 0), (3, .iand, 1, 0, 0, 0), (4, .bipush 32, 2, 0, 0, 0), (6, .if_icmp .ne 11, 3, 0, 0, 0), (9, .aload_n 0, 1, 0, 0, 0), (10, .iload_n 1, 1, 0, 0, 0), (11, .invokestatic 59, 3, 30, 0, 1), (14, .invokevirtual 55, 3, 33, 0, 1), (17, .iload_n 1, 1, 0, 0, 0), (18, .bipush 96, 2, 0, 0, 0), (20, .iand, 1, 0, 0, 0), (21, .bipush 64, 2, 0, 0, 0), (23, .if_icmp .ne 13, 3, 0, 0, 0), (26, .aload_n 0, 1, 0, 0, 0), (27, .getfield 30, 3, 5, 6, 0), (30, .iload_n 1, 1, 0, 0, 0), (31, .invokestatic 71, 3, 34, 0, 1), (34, .iconst 0, 1, 0, 0, 0), (35, .bastore, 1, 0, 0, 0), (36, .return_, 1, 0, 0, 0)], [])
def zm_36 : zM := (⟨"NestedPager$Memory", "releaseGuest", "(III)I"⟩, prog_7_method_21_code, 6, (some (.int)), (3, 66, 0, 0), (0, 5, 3, 0, 0, 0), [(0, .aload_n 0, 1, 0, 0, 0), (1, .invokevirtual 77, 3, 29, 0, 0), (4, .istore 4, 2, 0, 0, 0), (6, .iconst 0, 1, 0, 0, 0), (7, .istore 5, 2, 0, 0, 0), (9, .iload 5, 2, 0, 0, 0), (11, .iload_n 3, 1, 0, 0, 0), (12, .if_icmp .ge 20, 3, 0, 0, 0), (15, .aload_n 0, 1, 0, 0, 0), (16, .aload_n 0, 1, 0, 0, 0), (17, .iload_n 2, 1, 0, 0, 0), (18, .iload 5, 2, 0, 0, 0), (20, .invokevirtual 74, 3, 32, 0, 2), (23, .invokevirtual 80, 3, 35, 0, 1), (26, .iinc 5 1, 3, 0, 0, 0), (29, .goto (-20), 3, 0, 0, 0), (32, .iconst 0, 1, 0, 0, 0), (33, .istore 5, 2, 0, 0, 0), (35, .iload 5, 2, 0, 0, 0), (37, .sipush 128, 3, 0, 0, 0), (40, .if_icmp .ge 26, 3, 0, 0, 0), (43, .aload_n 0, 1, 0, 0, 0), (44, .getfield 18, 3, 5, 2, 0), (47, .iload 5, 2, 0, 0, 0), (49, .iaload, 1, 0, 0, 0), (50, .iload_n 1, 1, 0, 0, 0), (51, .if_icmp .ne 9, 3, 0, 0, 0), (54, .aload_n 0, 1, 0, 0, 0), (55, .iload 5, 2, 0, 0, 0), (57, .invokevirtual 55, 3, 33, 0, 1), (60, .iinc 5 1, 3, 0, 0, 0), (63, .goto (-28), 3, 0, 0, 0), (66, .aload_n 0, 1, 0, 0, 0), (67, .invokevirtual 77, 3, 29, 0, 0), (70, .iload 4, 2, 0, 0, 0), (72, .isub, 1, 0, 0, 0), (73, .ireturn, 1, 0, 0, 0)], [])
def zm_37 : zM := (⟨"NestedPager", "destroy", "(I)I"⟩, prog_1_method_3_code, 4, (some (.int)), (8, 130, 2, 12), (0, 10, 1, 0, 0, 0), [(0, .iload_n 1, 1, 0, 0, 0), (1, .invokestatic 103, 3, 25, 0, 1), (4, .invokestatic 80, 3, 13, 0, 1), (7, .aload_n 0, 1, 0, 0, 0), (8, .iload_n 1, 1, 0, 0, 0), (9, .invokevirtual 107, 3, 27, 0, 1), (12, .astore_n 2, 1, 0, 0, 0), (13, .iconst 0, 1, 0, 0, 0), (14, .istore_n 3, 1, 0, 0, 0), (15, .iload_n 3, 1, 0, 0, 0), (16, .bipush 8, 2, 0, 0, 0), (18, .if_icmp .ge 32, 3, 0, 0, 0), (21, .aload_n 0, 1, 0, 0, 0), (22, .getfield 24, 3, 10, 2, 0), (25, .iload_n 3, 1, 0, 0, 0), (26, .aaload, 1, 0, 0, 0), (27, .iload_n 1, 1, 0, 0, 0), (28, .invokevirtual 111, 3, 28, 0, 1), (31, .ifCond .eq 13, 3, 0, 0, 0), (34, .aload_n 0, 1, 0, 0, 0), (35, .getfield 24, 3, 10, 2, 0), (38, .iload_n 3, 1, 0, 0, 0), (39, .aaload, 1, 0, 0, 0), (40, .iconst 0, 1, 0, 0, 0), (41, .putfield 114, 3, 9, 1, 0), (44, .iinc 3 1, 3, 0, 0, 0), (47, .goto (-32), 3, 0, 0, 0), (50, .aload_n 2, 1, 0, 0, 0), (51, .iconst 0, 1, 0, 0, 0), (52, .putfield 88, 3, 2, 1, 0), (55, .aload_n 0, 1, 0, 0, 0), (56, .getfield 10, 3, 10, 0, 0), (59, .iload_n 1, 1, 0, 0, 0), (60, .aload_n 2, 1, 0, 0, 0), (61, .getfield 115, 3, 2, 3, 0), (64, .aload_n 2, 1, 0, 0, 0), (65, .getfield 118, 3, 2, 2, 0), (68, .invokevirtual 121, 3, 36, 0, 3), (71, .ireturn, 1, 0, 0, 0)], [])
def zm_38 : zM := (⟨"NestedPagerLaw", "destroy", "(LNestedPager;I[J)I"⟩, method_4_code, 4, (some (.int)), (9, 153, 2, 12), (1, 99, 3, 0, 0, 0), [(0, .aload_n 2, 1, 0, 0, 0), (1, .iconst 0, 1, 0, 0, 0), (2, .aload_n 0, 1, 0, 0, 0), (3, .iload_n 1, 1, 0, 0, 0), (4, .invokevirtual 15, 3, 37, 0, 1), (7, .i2l, 1, 0, 0, 0), (8, .lastore, 1, 0, 0, 0), (9, .goto 9, 3, 0, 0, 0), (12, .astore_n 3, 1, 0, 0, 0), (13, .iconst 1, 1, 0, 0, 0), (14, .ireturn, 1, 0, 0, 0), (15, .astore_n 3, 1, 0, 0, 0), (16, .iconst 2, 1, 0, 0, 0), (17, .ireturn, 1, 0, 0, 0), (18, .iconst 0, 1, 0, 0, 0), (19, .ireturn, 1, 0, 0, 0)], [((0), (9), (12), (13)), ((0), (9), (15), (18))])
def zm_39 : zM := (⟨"NestedPagerModel", "tableOf", "(II)I"⟩, prog_13_method_15_code, 4, (some (.int)), (0, 0, 0, 0), (0, 11, 2, 0, 0, 0), [(0, .aload_n 0, 1, 0, 0, 0), (1, .getfield 7, 3, 11, 1, 0), (4, .bipush 16, 2, 0, 0, 0), (6, .aload_n 0, 1, 0, 0, 0), (7, .getfield 35, 3, 11, 10, 0), (10, .iload_n 1, 1, 0, 0, 0), (11, .iaload, 1, 0, 0, 0), (12, .imul, 1, 0, 0, 0), (13, .iload_n 2, 1, 0, 0, 0), (14, .bipush 16, 2, 0, 0, 0), (16, .idiv, 1, 0, 0, 0), (17, .iadd, 1, 0, 0, 0), (18, .iaload, 1, 0, 0, 0), (19, .istore_n 3, 1, 0, 0, 0), (20, .iload_n 3, 1, 0, 0, 0), (21, .ifCond .ne 7, 3, 0, 0, 0), (24, .iconst (-1), 1, 0, 0, 0), (25, .goto 8, 3, 0, 0, 0), (28, .iload_n 3, 1, 0, 0, 0), (29, .sipush 256, 3, 0, 0, 0), (32, .idiv, 1, 0, 0, 0), (33, .ireturn, 1, 0, 0, 0)], [])
def zm_40 : zM := (⟨"NestedPagerModel", "entryOf", "(II)I"⟩, prog_13_method_16_code, 4, (some (.int)), (1, 23, 0, 0), (0, 11, 2, 0, 0, 0), [(0, .iload_n 2, 1, 0, 0, 0), (1, .aload_n 0, 1, 0, 0, 0), (2, .getfield 32, 3, 11, 9, 0), (5, .iload_n 1, 1, 0, 0, 0), (6, .iaload, 1, 0, 0, 0), (7, .if_icmp .ge 12, 3, 0, 0, 0), (10, .aload_n 0, 1, 0, 0, 0), (11, .iload_n 1, 1, 0, 0, 0), (12, .iload_n 2, 1, 0, 0, 0), (13, .invokevirtual 150, 3, 39, 0, 2), (16, .goto 4, 3, 0, 0, 0), (19, .iconst (-1), 1, 0, 0, 0), (20, .istore_n 3, 1, 0, 0, 0), (21, .iload_n 3, 1, 0, 0, 0), (22, .ifCond .ge 7, 3, 0, 0, 0), (25, .iconst 0, 1, 0, 0, 0), (26, .goto 17, 3, 0, 0, 0), (29, .aload_n 0, 1, 0, 0, 0), (30, .getfield 7, 3, 11, 1, 0), (33, .bipush 16, 2, 0, 0, 0), (35, .iload_n 3, 1, 0, 0, 0), (36, .imul, 1, 0, 0, 0), (37, .iload_n 2, 1, 0, 0, 0), (38, .bipush 16, 2, 0, 0, 0), (40, .irem, 1, 0, 0, 0), (41, .iadd, 1, 0, 0, 0), (42, .iaload, 1, 0, 0, 0), (43, .ireturn, 1, 0, 0, 0)], [])
def zm_41 : zM := (⟨"NestedPagerModel", "kindOf", "(I)I"⟩, prog_13_method_19_code, 1, (some (.int)), (0, 0, 0, 0), (1, 11, 1, 0, 0, 0), [(0, .iload_n 0, 1, 0, 0, 0), (1, .iconst 5, 1, 0, 0, 0), (2, .ishr, 1, 0, 0, 0), (3, .iconst 3, 1, 0, 0, 0), (4, .iand, 1, 0, 0, 0), (5, .ireturn, 1, 0, 0, 0)], [])
def zm_42 : zM := (⟨"NestedPagerModel", "giveUp", "(I)V"⟩, prog_13_method_11_code, 3, none, (0, 0, 0, 0), (0, 11, 1, 0, 0, 0), [(0, .aload_n 0, 1, 0, 0, 0), (1, .getfield 13, 3, 11, 2, 0), (4, .iload_n 1, 1, 0, 0, 0), (5, .iconst 0, 1, 0, 0, 0), (6, .iastore, 1, 0, 0, 0), (7, .iconst 0, 1, 0, 0, 0), (8, .istore_n 2, 1, 0, 0, 0), (9, .iload_n 2, 1, 0, 0, 0), (10, .bipush 16, 2, 0, 0, 0), (12, .if_icmp .ge 21, 3, 0, 0, 0), (15, .aload_n 0, 1, 0, 0, 0), (16, .getfield 7, 3, 11, 1, 0), (19, .bipush 16, 2, 0, 0, 0), (21, .iload_n 1, 1, 0, 0, 0), (22, .imul, 1, 0, 0, 0), (23, .iload_n 2, 1, 0, 0, 0), (24, .iadd, 1, 0, 0, 0), (25, .iconst 0, 1, 0, 0, 0), (26, .iastore, 1, 0, 0, 0), (27, .iinc 2 1, 3, 0, 0, 0), (30, .goto (-21), 3, 0, 0, 0), (33, .return_, 1, 0, 0, 0)], [])
def zm_43 : zM := (⟨"NestedPagerModel", "told", "(II)I"⟩, prog_13_method_7_code, 3, (some (.int)), (0, 0, 0, 0), (0, 11, 2, 0, 0, 0), [(0, .aload_n 0, 1, 0, 0, 0), (1, .getfield 86, 3, 11, 27, 0), (4, .bipush 20, 2, 0, 0, 0), (6, .iload_n 1, 1, 0, 0, 0), (7, .imul, 1, 0, 0, 0), (8, .iload_n 2, 1, 0, 0, 0), (9, .iadd, 1, 0, 0, 0), (10, .iaload, 1, 0, 0, 0), (11, .ireturn, 1, 0, 0, 0)], [])
def zm_44 : zM := (⟨"NestedPagerModel", "destroy", "(I)I"⟩, prog_13_method_40_code, 4, (some (.int)), (2, 46, 0, 0), (0, 11, 1, 0, 0, 0), [(0, .aload_n 0, 1, 0, 0, 0), (1, .iload_n 1, 1, 0, 0, 0), (2, .iconst 0, 1, 0, 0, 0), (3, .iconst 3, 1, 0, 0, 0), (4, .invokestatic 120, 3, 20, 0, 3), (7, .ifCond .ne 7, 3, 0, 0, 0), (10, .iconst 1, 1, 0, 0, 0), (11, .goto 17, 3, 0, 0, 0), (14, .aload_n 0, 1, 0, 0, 0), (15, .getfield 29, 3, 11, 8, 0), (18, .iload_n 1, 1, 0, 0, 0), (19, .baload, 1, 0, 0, 0), (20, .ifCond .ne 7, 3, 0, 0, 0), (23, .iconst 2, 1, 0, 0, 0), (24, .goto 4, 3, 0, 0, 0), (27, .iconst 0, 1, 0, 0, 0), (28, .invokevirtual 244, 3, 21, 0, 1), (31, .ifCond .eq 5, 3, 0, 0, 0), (34, .iconst 0, 1, 0, 0, 0), (35, .ireturn, 1, 0, 0, 0), (36, .iconst 0, 1, 0, 0, 0), (37, .istore_n 2, 1, 0, 0, 0), (38, .iload_n 2, 1, 0, 0, 0), (39, .aload_n 0, 1, 0, 0, 0), (40, .getfield 32, 3, 11, 9, 0), (43, .iload_n 1, 1, 0, 0, 0), (44, .iaload, 1, 0, 0, 0), (45, .if_icmp .ge 34, 3, 0, 0, 0), (48, .aload_n 0, 1, 0, 0, 0), (49, .iload_n 1, 1, 0, 0, 0), (50, .iload_n 2, 1, 0, 0, 0), (51, .invokevirtual 124, 3, 40, 0, 2), (54, .istore_n 3, 1, 0, 0, 0), (55, .iload_n 3, 1, 0, 0, 0), (56, .invokestatic 161, 3, 41, 0, 1), (59, .iconst 2, 1, 0, 0, 0), (60, .if_icmp .ne 13, 3, 0, 0, 0), (63, .aload_n 0, 1, 0, 0, 0), (64, .getfield 25, 3, 11, 6, 0), (67, .iload_n 3, 1, 0, 0, 0), (68, .bipush 8, 2, 0, 0, 0), (70, .ishr, 1, 0, 0, 0), (71, .iconst 0, 1, 0, 0, 0), (72, .bastore, 1, 0, 0, 0), (73, .iinc 2 1, 3, 0, 0, 0), (76, .goto (-38), 3, 0, 0, 0), (79, .iconst 0, 1, 0, 0, 0), (80, .istore_n 2, 1, 0, 0, 0), (81, .iconst 0, 1, 0, 0, 0), (82, .istore_n 3, 1, 0, 0, 0), (83, .iload_n 3, 1, 0, 0, 0), (84, .sipush 128, 3, 0, 0, 0), (87, .if_icmp .ge 36, 3, 0, 0, 0), (90, .aload_n 0, 1, 0, 0, 0), (91, .getfield 13, 3, 11, 2, 0), (94, .iload_n 3, 1, 0, 0, 0), (95, .iaload, 1, 0, 0, 0), (96, .ifCond .le 21, 3, 0, 0, 0), (99, .aload_n 0, 1, 0, 0, 0), (100, .getfield 16, 3, 11, 3, 0), (103, .iload_n 3, 1, 0, 0, 0), (104, .iaload, 1, 0, 0, 0), (105, .iload_n 1, 1, 0, 0, 0), (106, .if_icmp .ne 11, 3, 0, 0, 0), (109, .aload_n 0, 1, 0, 0, 0), (110, .iload_n 3, 1, 0, 0, 0), (111, .invokevirtual 132, 3, 42, 0, 1), (114, .iinc 2 1, 3, 0, 0, 0), (117, .iinc 3 1, 3, 0, 0, 0), (120, .goto (-37), 3, 0, 0, 0), (123, .iconst 0, 1, 0, 0, 0), (124, .istore_n 3, 1, 0, 0, 0), (125, .iload_n 3, 1, 0, 0, 0), (126, .bipush 8, 2, 0, 0, 0), (128, .if_icmp .ge 40, 3, 0, 0, 0), (131, .aload_n 0, 1, 0, 0, 0), (132, .getfield 83, 3, 11, 26, 0), (135, .iload_n 3, 1, 0, 0, 0), (136, .aload_n 0, 1, 0, 0, 0), (137, .getfield 83, 3, 11, 26, 0), (140, .iload_n 3, 1, 0, 0, 0), (141, .baload, 1, 0, 0, 0), (142, .ifCond .eq 18, 3, 0, 0, 0), (145, .aload_n 0, 1, 0, 0, 0), (146, .iload_n 3, 1, 0, 0, 0), (147, .bipush 16, 2, 0, 0, 0), (149, .invokevirtual 177, 3, 43, 0, 2), (152, .iload_n 1, 1, 0, 0, 0), (153, .if_icmp .eq 7, 3, 0, 0, 0), (156, .iconst 1, 1, 0, 0, 0), (157, .goto 4, 3, 0, 0, 0), (160, .iconst 0, 1, 0, 0, 0), (161, .bastore, 1, 0, 0, 0), (162, .iinc 3 1, 3, 0, 0, 0), (165, .goto (-40), 3, 0, 0, 0), (168, .aload_n 0, 1, 0, 0, 0), (169, .getfield 29, 3, 11, 8, 0), (172, .iload_n 1, 1, 0, 0, 0), (173, .iconst 0, 1, 0, 0, 0), (174, .bastore, 1, 0, 0, 0), (175, .iload_n 2, 1, 0, 0, 0), (176, .ireturn, 1, 0, 0, 0)], [])
def zm_45 : zM := (⟨"NestedPager$Vcpu", "noteExit", "(IIIII)I"⟩, prog_11_method_7_code, 6, (some (.int)), (0, 0, 0, 0), (0, 9, 5, 0, 0, 0), [(0, .aload_n 0, 1, 0, 0, 0), (1, .getfield 19, 3, 9, 3, 0), (4, .iconst 0, 1, 0, 0, 0), (5, .iload_n 1, 1, 0, 0, 0), (6, .iastore, 1, 0, 0, 0), (7, .aload_n 0, 1, 0, 0, 0), (8, .getfield 19, 3, 9, 3, 0), (11, .iconst 1, 1, 0, 0, 0), (12, .iload_n 2, 1, 0, 0, 0), (13, .iastore, 1, 0, 0, 0), (14, .aload_n 0, 1, 0, 0, 0), (15, .getfield 19, 3, 9, 3, 0), (18, .iconst 2, 1, 0, 0, 0), (19, .iload_n 3, 1, 0, 0, 0), (20, .iastore, 1, 0, 0, 0), (21, .aload_n 0, 1, 0, 0, 0), (22, .getfield 19, 3, 9, 3, 0), (25, .iconst 3, 1, 0, 0, 0), (26, .iload 4, 2, 0, 0, 0), (28, .iastore, 1, 0, 0, 0), (29, .aload_n 0, 1, 0, 0, 0), (30, .getfield 19, 3, 9, 3, 0), (33, .iconst 4, 1, 0, 0, 0), (34, .iload 5, 2, 0, 0, 0), (36, .iastore, 1, 0, 0, 0), (37, .bipush (-3), 2, 0, 0, 0), (39, .ireturn, 1, 0, 0, 0)], [])
def zm_46 : zM := (⟨"NestedPager$LookAside", "begin", "()V"⟩, prog_5_method_2_code, 2, none, (0, 0, 0, 0), (0, 3, 0, 0, 0, 0), [(0, .iconst 0, 1, 0, 0, 0), (1, .istore_n 1, 1, 0, 0, 0), (2, .iload_n 1, 1, 0, 0, 0), (3, .bipush 8, 2, 0, 0, 0), (5, .if_icmp .ge 16, 3, 0, 0, 0), (8, .aload_n 0, 1, 0, 0, 0), (9, .getfield 11, 3, 3, 0, 0), (12, .iload_n 1, 1, 0, 0, 0), (13, .iconst 0, 1, 0, 0, 0), (14, .bastore, 1, 0, 0, 0), (15, .iinc 1 1, 3, 0, 0, 0), (18, .goto (-16), 3, 0, 0, 0), (21, .aload_n 0, 1, 0, 0, 0), (22, .iconst 0, 1, 0, 0, 0), (23, .putfield 28, 3, 3, 5, 0), (26, .return_, 1, 0, 0, 0)], [])
def zm_47 : zM := (⟨"NestedPager$Vcpu", "begin", "(I)V"⟩, prog_11_method_2_code, 3, none, (1, 25, 0, 0), (0, 9, 1, 0, 0, 0), [(0, .aload_n 0, 1, 0, 0, 0), (1, .iconst 1, 1, 0, 0, 0), (2, .putfield 9, 3, 9, 1, 0), (5, .iconst 0, 1, 0, 0, 0), (6, .istore_n 2, 1, 0, 0, 0), (7, .iload_n 2, 1, 0, 0, 0), (8, .bipush 19, 2, 0, 0, 0), (10, .if_icmp .ge 16, 3, 0, 0, 0), (13, .aload_n 0, 1, 0, 0, 0), (14, .getfield 15, 3, 9, 2, 0), (17, .iload_n 2, 1, 0, 0, 0), (18, .iconst 0, 1, 0, 0, 0), (19, .iastore, 1, 0, 0, 0), (20, .iinc 2 1, 3, 0, 0, 0), (23, .goto (-16), 3, 0, 0, 0), (26, .aload_n 0, 1, 0, 0, 0), (27, .getfield 15, 3, 9, 2, 0), (30, .bipush 7, 2, 0, 0, 0), (32, .iconst (-1), 1, 0, 0, 0), (33, .iastore, 1, 0, 0, 0), (34, .aload_n 0, 1, 0, 0, 0), (35, .getfield 15, 3, 9, 2, 0), (38, .bipush 16, 2, 0, 0, 0), (40, .iload_n 1, 1, 0, 0, 0), (41, .iastore, 1, 0, 0, 0), (42, .aload_n 0, 1, 0, 0, 0), (43, .iconst 0, 1, 0, 0, 0), (44, .iconst 0, 1, 0, 0, 0), (45, .iconst 0, 1, 0, 0, 0), (46, .iconst 0, 1, 0, 0, 0), (47, .iconst 0, 1, 0, 0, 0), (48, .invokevirtual 33, 3, 45, 0, 5), (51, .pop, 1, 0, 0, 0), (52, .aload_n 0, 1, 0, 0, 0), (53, .getfield 25, 3, 9, 4, 0), (56, .invokevirtual 37, 3, 46, 0, 0), (59, .return_, 1, 0, 0, 0)], [])
def zm_48 : zM := (⟨"NestedPager", "vcpu", "(I)I"⟩, prog_1_method_4_code, 3, (some (.int)), (8, 130, 2, 12), (0, 10, 1, 0, 0, 0), [(0, .iload_n 1, 1, 0, 0, 0), (1, .invokestatic 103, 3, 25, 0, 1), (4, .invokestatic 80, 3, 13, 0, 1), (7, .aload_n 0, 1, 0, 0, 0), (8, .iload_n 1, 1, 0, 0, 0), (9, .invokevirtual 107, 3, 27, 0, 1), (12, .pop, 1, 0, 0, 0), (13, .iconst 0, 1, 0, 0, 0), (14, .istore_n 2, 1, 0, 0, 0), (15, .iload_n 2, 1, 0, 0, 0), (16, .bipush 8, 2, 0, 0, 0), (18, .if_icmp .ge 33, 3, 0, 0, 0), (21, .aload_n 0, 1, 0, 0, 0), (22, .getfield 24, 3, 10, 2, 0), (25, .iload_n 2, 1, 0, 0, 0), (26, .aaload, 1, 0, 0, 0), (27, .getfield 114, 3, 9, 1, 0), (30, .ifCond .ne 15, 3, 0, 0, 0), (33, .aload_n 0, 1, 0, 0, 0), (34, .getfield 24, 3, 10, 2, 0), (37, .iload_n 2, 1, 0, 0, 0), (38, .aaload, 1, 0, 0, 0), (39, .iload_n 1, 1, 0, 0, 0), (40, .invokevirtual 125, 3, 47, 0, 1), (43, .iload_n 2, 1, 0, 0, 0), (44, .ireturn, 1, 0, 0, 0), (45, .iinc 2 1, 3, 0, 0, 0), (48, .goto (-33), 3, 0, 0, 0), (51, .bipush (-4), 2, 0, 0, 0), (53, .ireturn, 1, 0, 0, 0)], [])
def zm_49 : zM := (⟨"NestedPagerLaw", "vcpu", "(LNestedPager;I[J)I"⟩, method_5_code, 4, (some (.int)), (9, 152, 2, 12), (1, 99, 3, 0, 0, 0), [(0, .aload_n 2, 1, 0, 0, 0), (1, .iconst 0, 1, 0, 0, 0), (2, .aload_n 0, 1, 0, 0, 0), (3, .iload_n 1, 1, 0, 0, 0), (4, .invokevirtual 20, 3, 48, 0, 1), (7, .i2l, 1, 0, 0, 0), (8, .lastore, 1, 0, 0, 0), (9, .goto 9, 3, 0, 0, 0), (12, .astore_n 3, 1, 0, 0, 0), (13, .iconst 1, 1, 0, 0, 0), (14, .ireturn, 1, 0, 0, 0), (15, .astore_n 3, 1, 0, 0, 0), (16, .iconst 2, 1, 0, 0, 0), (17, .ireturn, 1, 0, 0, 0), (18, .iconst 0, 1, 0, 0, 0), (19, .ireturn, 1, 0, 0, 0)], [((0), (9), (12), (13)), ((0), (9), (15), (18))])
def zm_50 : zM := (⟨"NestedPagerModel", "tell", "(III)V"⟩, prog_13_method_8_code, 4, none, (0, 0, 0, 0), (0, 11, 3, 0, 0, 0), [(0, .aload_n 0, 1, 0, 0, 0), (1, .getfield 86, 3, 11, 27, 0), (4, .bipush 20, 2, 0, 0, 0), (6, .iload_n 1, 1, 0, 0, 0), (7, .imul, 1, 0, 0, 0), (8, .iload_n 2, 1, 0, 0, 0), (9, .iadd, 1, 0, 0, 0), (10, .iload_n 3, 1, 0, 0, 0), (11, .iastore, 1, 0, 0, 0), (12, .return_, 1, 0, 0, 0)], [])
def zm_51 : zM := (⟨"NestedPagerModel", "vcpu", "(I)I"⟩, prog_13_method_41_code, 4, (some (.int)), (1, 23, 0, 0), (0, 11, 1, 0, 0, 0), [(0, .aload_n 0, 1, 0, 0, 0), (1, .iload_n 1, 1, 0, 0, 0), (2, .iconst 0, 1, 0, 0, 0), (3, .iconst 3, 1, 0, 0, 0), (4, .invokestatic 120, 3, 20, 0, 3), (7, .ifCond .ne 7, 3, 0, 0, 0), (10, .iconst 1, 1, 0, 0, 0), (11, .goto 17, 3, 0, 0, 0), (14, .aload_n 0, 1, 0, 0, 0), (15, .getfield 29, 3, 11, 8, 0), (18, .iload_n 1, 1, 0, 0, 0), (19, .baload, 1, 0, 0, 0), (20, .ifCond .ne 7, 3, 0, 0, 0), (23, .iconst 2, 1, 0, 0, 0), (24, .goto 4, 3, 0, 0, 0), (27, .iconst 0, 1, 0, 0, 0), (28, .invokevirtual 244, 3, 21, 0, 1), (31, .ifCond .eq 5, 3, 0, 0, 0), (34, .iconst 0, 1, 0, 0, 0), (35, .ireturn, 1, 0, 0, 0), (36, .iconst 0, 1, 0, 0, 0), (37, .istore_n 2, 1, 0, 0, 0), (38, .iload_n 2, 1, 0, 0, 0), (39, .bipush 8, 2, 0, 0, 0), (41, .if_icmp .ge 18, 3, 0, 0, 0), (44, .aload_n 0, 1, 0, 0, 0), (45, .getfield 83, 3, 11, 26, 0), (48, .iload_n 2, 1, 0, 0, 0), (49, .baload, 1, 0, 0, 0), (50, .ifCond .eq 9, 3, 0, 0, 0), (53, .iinc 2 1, 3, 0, 0, 0), (56, .goto (-18), 3, 0, 0, 0), (59, .iload_n 2, 1, 0, 0, 0), (60, .bipush 8, 2, 0, 0, 0), (62, .if_icmp .ne 6, 3, 0, 0, 0), (65, .bipush (-4), 2, 0, 0, 0), (67, .ireturn, 1, 0, 0, 0), (68, .aload_n 0, 1, 0, 0, 0), (69, .getfield 83, 3, 11, 26, 0), (72, .iload_n 2, 1, 0, 0, 0), (73, .iconst 1, 1, 0, 0, 0), (74, .bastore, 1, 0, 0, 0), (75, .iconst 0, 1, 0, 0, 0), (76, .istore_n 3, 1, 0, 0, 0), (77, .iload_n 3, 1, 0, 0, 0), (78, .bipush 20, 2, 0, 0, 0), (80, .if_icmp .ge 16, 3, 0, 0, 0), (83, .aload_n 0, 1, 0, 0, 0), (84, .iload_n 2, 1, 0, 0, 0), (85, .iload_n 3, 1, 0, 0, 0), (86, .iconst 0, 1, 0, 0, 0), (87, .invokevirtual 174, 3, 50, 0, 3), (90, .iinc 3 1, 3, 0, 0, 0), (93, .goto (-16), 3, 0, 0, 0), (96, .aload_n 0, 1, 0, 0, 0), (97, .iload_n 2, 1, 0, 0, 0), (98, .bipush 7, 2, 0, 0, 0), (100, .iconst (-1), 1, 0, 0, 0), (101, .invokevirtual 174, 3, 50, 0, 3), (104, .aload_n 0, 1, 0, 0, 0), (105, .iload_n 2, 1, 0, 0, 0), (106, .bipush 16, 2, 0, 0, 0), (108, .iload_n 1, 1, 0, 0, 0), (109, .invokevirtual 174, 3, 50, 0, 3), (112, .iconst 0, 1, 0, 0, 0), (113, .istore_n 3, 1, 0, 0, 0), (114, .iload_n 3, 1, 0, 0, 0), (115, .iconst 5, 1, 0, 0, 0), (116, .if_icmp .ge 20, 3, 0, 0, 0), (119, .aload_n 0, 1, 0, 0, 0), (120, .getfield 89, 3, 11, 28, 0), (123, .iconst 5, 1, 0, 0, 0), (124, .iload_n 2, 1, 0, 0, 0), (125, .imul, 1, 0, 0, 0), (126, .iload_n 3, 1, 0, 0, 0), (127, .iadd, 1, 0, 0, 0), (128, .iconst 0, 1, 0, 0, 0), (129, .iastore, 1, 0, 0, 0), (130, .iinc 3 1, 3, 0, 0, 0), (133, .goto (-19), 3, 0, 0, 0), (136, .aload_n 0, 1, 0, 0, 0), (137, .getfield 92, 3, 11, 29, 0), (140, .iload_n 2, 1, 0, 0, 0), (141, .iconst 0, 1, 0, 0, 0), (142, .iastore, 1, 0, 0, 0), (143, .iconst 0, 1, 0, 0, 0), (144, .istore_n 3, 1, 0, 0, 0), (145, .iload_n 3, 1, 0, 0, 0), (146, .bipush 8, 2, 0, 0, 0), (148, .if_icmp .ge 21, 3, 0, 0, 0), (151, .aload_n 0, 1, 0, 0, 0), (152, .getfield 95, 3, 11, 30, 0), (155, .bipush 8, 2, 0, 0, 0), (157, .iload_n 2, 1, 0, 0, 0), (158, .imul, 1, 0, 0, 0), (159, .iload_n 3, 1, 0, 0, 0), (160, .iadd, 1, 0, 0, 0), (161, .iconst 0, 1, 0, 0, 0), (162, .bastore, 1, 0, 0, 0), (163, .iinc 3 1, 3, 0, 0, 0), (166, .goto (-21), 3, 0, 0, 0), (169, .iload_n 2, 1, 0, 0, 0), (170, .ireturn, 1, 0, 0, 0)], [])
def zm_52 : zM := (⟨"NestedPager", "isVcpu", "(I)Z"⟩, prog_1_method_30_code, 1, (some (.boolean)), (1, 22, 0, 0), (1, 10, 1, 0, 0, 0), [(0, .iload_n 0, 1, 0, 0, 0), (1, .iconst 0, 1, 0, 0, 0), (2, .bipush 7, 2, 0, 0, 0), (4, .invokestatic 76, 3, 12, 0, 3), (7, .ireturn, 1, 0, 0, 0)], [])
def zm_53 : zM := (⟨"NestedPager", "vcpuThere", "(I)LNestedPager$Vcpu;"⟩, prog_1_method_38_code, 2, (some (.object "NestedPager$Vcpu")), (7, 109, 1, 6), (0, 10, 1, 0, 0, 0), [(0, .aload_n 0, 1, 0, 0, 0), (1, .getfield 24, 3, 10, 2, 0), (4, .iload_n 1, 1, 0, 0, 0), (5, .aaload, 1, 0, 0, 0), (6, .getfield 114, 3, 9, 1, 0), (9, .invokestatic 181, 3, 26, 0, 1), (12, .aload_n 0, 1, 0, 0, 0), (13, .getfield 24, 3, 10, 2, 0), (16, .iload_n 1, 1, 0, 0, 0), (17, .aaload, 1, 0, 0, 0), (18, .areturn, 1, 0, 0, 0)], [])
def zm_54 : zM := (⟨"NestedPager", "set", "(III)V"⟩, prog_1_method_5_code, 5, none, (8, 130, 3, 18), (0, 10, 3, 0, 0, 0), [(0, .iload_n 1, 1, 0, 0, 0), (1, .invokestatic 127, 3, 52, 0, 1), (4, .ifCond .eq 17, 3, 0, 0, 0), (7, .iload_n 2, 1, 0, 0, 0), (8, .iconst 0, 1, 0, 0, 0), (9, .bipush 9, 2, 0, 0, 0), (11, .invokestatic 76, 3, 12, 0, 3), (14, .ifCond .eq 7, 3, 0, 0, 0), (17, .iconst 1, 1, 0, 0, 0), (18, .goto 4, 3, 0, 0, 0), (21, .iconst 0, 1, 0, 0, 0), (22, .invokestatic 80, 3, 13, 0, 1), (25, .iload_n 2, 1, 0, 0, 0), (26, .bipush 7, 2, 0, 0, 0), (28, .if_icmp .ne 7, 3, 0, 0, 0), (31, .iconst (-1), 1, 0, 0, 0), (32, .goto 4, 3, 0, 0, 0), (35, .iconst 0, 1, 0, 0, 0), (36, .istore 4, 2, 0, 0, 0), (38, .iload_n 3, 1, 0, 0, 0), (39, .iload 4, 2, 0, 0, 0), (41, .getstatic 130, 3, 1, 0, 0), (44, .iload_n 2, 1, 0, 0, 0), (45, .iaload, 1, 0, 0, 0), (46, .invokestatic 76, 3, 12, 0, 3), (49, .invokestatic 80, 3, 13, 0, 1), (52, .aload_n 0, 1, 0, 0, 0), (53, .iload_n 1, 1, 0, 0, 0), (54, .invokevirtual 133, 3, 53, 0, 1), (57, .getfield 137, 3, 9, 2, 0), (60, .iload_n 2, 1, 0, 0, 0), (61, .iload_n 3, 1, 0, 0, 0), (62, .iastore, 1, 0, 0, 0), (63, .return_, 1, 0, 0, 0)], [])
end
section
/-! METHODS, by program -/
def zm_55 : zM := (⟨"NestedPagerLaw", "set", "(LNestedPager;III)I"⟩, method_6_code, 5, (some (.int)), (9, 154, 3, 18), (1, 99, 4, 0, 0, 0), [(0, .aload_n 0, 1, 0, 0, 0), (1, .iload_n 1, 1, 0, 0, 0), (2, .iload_n 2, 1, 0, 0, 0), (3, .iload_n 3, 1, 0, 0, 0), (4, .invokevirtual 23, 3, 54, 0, 3), (7, .goto 11, 3, 0, 0, 0), (10, .astore 4, 2, 0, 0, 0), (12, .iconst 1, 1, 0, 0, 0), (13, .ireturn, 1, 0, 0, 0), (14, .astore 4, 2, 0, 0, 0), (16, .iconst 2, 1, 0, 0, 0), (17, .ireturn, 1, 0, 0, 0), (18, .iconst 0, 1, 0, 0, 0), (19, .ireturn, 1, 0, 0, 0)], [((0), (7), (10), (13)), ((0), (7), (14), (18))])
def zm_56 : zM := (⟨"NestedPagerModel", "isValue", "(II)Z"⟩, prog_13_method_42_code, 2, (some (.boolean)), (1, 22, 0, 0), (1, 11, 2, 0, 0, 0), [(0, .iload_n 0, 1, 0, 0, 0), (1, .tableswitch 104 0 9 #[55, 55, 63, 72, 79, 86, 79, 95, 63, 72], 55, 0, 0, 0), (56, .iload_n 1, 1, 0, 0, 0), (57, .iconst 0, 1, 0, 0, 0), (58, .ldc 239, 2, 65535, 0, 0), (60, .invokestatic 120, 3, 20, 0, 3), (63, .ireturn, 1, 0, 0, 0), (64, .iload_n 1, 1, 0, 0, 0), (65, .iconst 0, 1, 0, 0, 0), (66, .sipush 4095, 3, 0, 0, 0), (69, .invokestatic 120, 3, 20, 0, 3), (72, .ireturn, 1, 0, 0, 0), (73, .iload_n 1, 1, 0, 0, 0), (74, .iconst 0, 1, 0, 0, 0), (75, .iconst 1, 1, 0, 0, 0), (76, .invokestatic 120, 3, 20, 0, 3), (79, .ireturn, 1, 0, 0, 0), (80, .iload_n 1, 1, 0, 0, 0), (81, .iconst 0, 1, 0, 0, 0), (82, .iconst 3, 1, 0, 0, 0), (83, .invokestatic 120, 3, 20, 0, 3), (86, .ireturn, 1, 0, 0, 0), (87, .iload_n 1, 1, 0, 0, 0), (88, .iconst 0, 1, 0, 0, 0), (89, .sipush 255, 3, 0, 0, 0), (92, .invokestatic 120, 3, 20, 0, 3), (95, .ireturn, 1, 0, 0, 0), (96, .iload_n 1, 1, 0, 0, 0), (97, .iconst (-1), 1, 0, 0, 0), (98, .sipush 4095, 3, 0, 0, 0), (101, .invokestatic 120, 3, 20, 0, 3), (104, .ireturn, 1, 0, 0, 0), (105, .iconst 0, 1, 0, 0, 0), (106, .ireturn, 1, 0, 0, 0)], [])
def zm_57 : zM := (⟨"NestedPagerModel", "set", "(III)V"⟩, prog_13_method_43_code, 4, none, (2, 43, 0, 0), (0, 11, 3, 0, 0, 0), [(0, .aload_n 0, 1, 0, 0, 0), (1, .iload_n 1, 1, 0, 0, 0), (2, .iconst 0, 1, 0, 0, 0), (3, .bipush 7, 2, 0, 0, 0), (5, .invokestatic 120, 3, 20, 0, 3), (8, .ifCond .eq 11, 3, 0, 0, 0), (11, .iload_n 2, 1, 0, 0, 0), (12, .iload_n 3, 1, 0, 0, 0), (13, .invokestatic 247, 3, 56, 0, 2), (16, .ifCond .ne 7, 3, 0, 0, 0), (19, .iconst 1, 1, 0, 0, 0), (20, .goto 17, 3, 0, 0, 0), (23, .aload_n 0, 1, 0, 0, 0), (24, .getfield 83, 3, 11, 26, 0), (27, .iload_n 1, 1, 0, 0, 0), (28, .baload, 1, 0, 0, 0), (29, .ifCond .ne 7, 3, 0, 0, 0), (32, .iconst 2, 1, 0, 0, 0), (33, .goto 4, 3, 0, 0, 0), (36, .iconst 0, 1, 0, 0, 0), (37, .invokevirtual 244, 3, 21, 0, 1), (40, .ifCond .ne 10, 3, 0, 0, 0), (43, .aload_n 0, 1, 0, 0, 0), (44, .iload_n 1, 1, 0, 0, 0), (45, .iload_n 2, 1, 0, 0, 0), (46, .iload_n 3, 1, 0, 0, 0), (47, .invokevirtual 174, 3, 50, 0, 3), (50, .return_, 1, 0, 0, 0)], [])
def zm_58 : zM := (⟨"NestedPager", "get", "(II)I"⟩, prog_1_method_6_code, 3, (some (.int)), (8, 130, 2, 12), (0, 10, 2, 0, 0, 0), [(0, .iload_n 1, 1, 0, 0, 0), (1, .invokestatic 127, 3, 52, 0, 1), (4, .ifCond .eq 17, 3, 0, 0, 0), (7, .iload_n 2, 1, 0, 0, 0), (8, .iconst 0, 1, 0, 0, 0), (9, .bipush 18, 2, 0, 0, 0), (11, .invokestatic 76, 3, 12, 0, 3), (14, .ifCond .eq 7, 3, 0, 0, 0), (17, .iconst 1, 1, 0, 0, 0), (18, .goto 4, 3, 0, 0, 0), (21, .iconst 0, 1, 0, 0, 0), (22, .invokestatic 80, 3, 13, 0, 1), (25, .aload_n 0, 1, 0, 0, 0), (26, .iload_n 1, 1, 0, 0, 0), (27, .invokevirtual 133, 3, 53, 0, 1), (30, .getfield 137, 3, 9, 2, 0), (33, .iload_n 2, 1, 0, 0, 0), (34, .iaload, 1, 0, 0, 0), (35, .ireturn, 1, 0, 0, 0)], [])
def zm_59 : zM := (⟨"NestedPagerLaw", "get", "(LNestedPager;II[J)I"⟩, method_7_code, 5, (some (.int)), (9, 152, 2, 12), (1, 99, 4, 0, 0, 0), [(0, .aload_n 3, 1, 0, 0, 0), (1, .iconst 0, 1, 0, 0, 0), (2, .aload_n 0, 1, 0, 0, 0), (3, .iload_n 1, 1, 0, 0, 0), (4, .iload_n 2, 1, 0, 0, 0), (5, .invokevirtual 27, 3, 58, 0, 2), (8, .i2l, 1, 0, 0, 0), (9, .lastore, 1, 0, 0, 0), (10, .goto 11, 3, 0, 0, 0), (13, .astore 4, 2, 0, 0, 0), (15, .iconst 1, 1, 0, 0, 0), (16, .ireturn, 1, 0, 0, 0), (17, .astore 4, 2, 0, 0, 0), (19, .iconst 2, 1, 0, 0, 0), (20, .ireturn, 1, 0, 0, 0), (21, .iconst 0, 1, 0, 0, 0), (22, .ireturn, 1, 0, 0, 0)], [((0), (10), (13), (13)), ((0), (10), (17), (18))])
def zm_60 : zM := (⟨"NestedPagerModel", "get", "(II)I"⟩, prog_13_method_44_code, 3, (some (.int)), (1, 22, 0, 0), (0, 11, 2, 0, 0, 0), [(0, .aload_n 0, 1, 0, 0, 0), (1, .iload_n 1, 1, 0, 0, 0), (2, .iconst 0, 1, 0, 0, 0), (3, .bipush 7, 2, 0, 0, 0), (5, .invokestatic 120, 3, 20, 0, 3), (8, .ifCond .eq 13, 3, 0, 0, 0), (11, .iload_n 2, 1, 0, 0, 0), (12, .iconst 0, 1, 0, 0, 0), (13, .bipush 18, 2, 0, 0, 0), (15, .invokestatic 120, 3, 20, 0, 3), (18, .ifCond .ne 7, 3, 0, 0, 0), (21, .iconst 1, 1, 0, 0, 0), (22, .goto 17, 3, 0, 0, 0), (25, .aload_n 0, 1, 0, 0, 0), (26, .getfield 83, 3, 11, 26, 0), (29, .iload_n 1, 1, 0, 0, 0), (30, .baload, 1, 0, 0, 0), (31, .ifCond .ne 7, 3, 0, 0, 0), (34, .iconst 2, 1, 0, 0, 0), (35, .goto 4, 3, 0, 0, 0), (38, .iconst 0, 1, 0, 0, 0), (39, .invokevirtual 244, 3, 21, 0, 1), (42, .ifCond .eq 5, 3, 0, 0, 0), (45, .iconst 0, 1, 0, 0, 0), (46, .ireturn, 1, 0, 0, 0), (47, .aload_n 0, 1, 0, 0, 0), (48, .iload_n 1, 1, 0, 0, 0), (49, .iload_n 2, 1, 0, 0, 0), (50, .invokevirtual 177, 3, 43, 0, 2), (53, .ireturn, 1, 0, 0, 0)], [])
def zm_61 : zM := (⟨"NestedPager", "isAddress", "(I)Z"⟩, prog_1_method_32_code, 1, (some (.boolean)), (1, 22, 0, 0), (1, 10, 1, 0, 0, 0), [(0, .iload_n 0, 1, 0, 0, 0), (1, .iconst 0, 1, 0, 0, 0), (2, .sipush 4095, 3, 0, 0, 0), (5, .invokestatic 76, 3, 12, 0, 3), (8, .ireturn, 1, 0, 0, 0)], [])
def zm_62 : zM := (⟨"NestedPager", "isWord", "(I)Z"⟩, prog_1_method_34_code, 1, (some (.boolean)), (1, 22, 0, 0), (1, 10, 1, 0, 0, 0), [(0, .iload_n 0, 1, 0, 0, 0), (1, .iconst 0, 1, 0, 0, 0), (2, .ldc_w 293, 3, 65535, 0, 0), (5, .invokestatic 76, 3, 12, 0, 3), (8, .ireturn, 1, 0, 0, 0)], [])
def zm_63 : zM := (⟨"NestedPager$Devices", "guestOf", "(LNestedPager$Vcpu;)LNestedPager$Guest;"⟩, prog_2_method_2_code, 2, (some (.object "NestedPager$Guest")), (0, 0, 0, 0), (0, 0, 1, 0, 0, 0), [(0, .aload_n 0, 1, 0, 0, 0), (1, .getfield 15, 3, 0, 1, 0), (4, .aload_n 1, 1, 0, 0, 0), (5, .getfield 23, 3, 9, 2, 0), (8, .bipush 16, 2, 0, 0, 0), (10, .iaload, 1, 0, 0, 0), (11, .aaload, 1, 0, 0, 0), (12, .areturn, 1, 0, 0, 0)], [])
def zm_64 : zM := (⟨"NestedPager$Vcpu", "addEvent", "()V"⟩, prog_11_method_6_code, 1, none, (1, 21, 0, 0), (0, 9, 0, 0, 0, 0), [(0, .aload_n 0, 1, 0, 0, 0), (1, .getfield 15, 3, 9, 2, 0), (4, .bipush 13, 2, 0, 0, 0), (6, .aload_n 0, 1, 0, 0, 0), (7, .getfield 15, 3, 9, 2, 0), (10, .bipush 13, 2, 0, 0, 0), (12, .iaload, 1, 0, 0, 0), (13, .iconst 1, 1, 0, 0, 0), (14, .iadd, 1, 0, 0, 0), (15, .sipush 255, 3, 0, 0, 0), (18, .invokestatic 40, 3, 0, 3, 0), (21, .iastore, 1, 0, 0, 0), (22, .return_, 1, 0, 0, 0)], [])
def zm_65 : zM := (⟨"NestedPager$Devices", "tick", "(LNestedPager$Guest;)V"⟩, prog_2_method_6_code, 2, none, (2, 41, 0, 0), (0, 0, 1, 0, 0, 0), [(0, .aload_n 1, 1, 0, 0, 0), (1, .dup, 1, 0, 0, 0), (2, .getfield 40, 3, 2, 7, 0), (5, .iconst 1, 1, 0, 0, 0), (6, .iadd, 1, 0, 0, 0), (7, .putfield 40, 3, 2, 7, 0), (10, .aload_n 1, 1, 0, 0, 0), (11, .getfield 44, 3, 2, 8, 0), (14, .ifCond .le 51, 3, 0, 0, 0), (17, .aload_n 1, 1, 0, 0, 0), (18, .dup, 1, 0, 0, 0), (19, .getfield 44, 3, 2, 8, 0), (22, .iconst 1, 1, 0, 0, 0), (23, .isub, 1, 0, 0, 0), (24, .putfield 44, 3, 2, 8, 0), (27, .aload_n 1, 1, 0, 0, 0), (28, .getfield 44, 3, 2, 8, 0), (31, .ifCond .ne 34, 3, 0, 0, 0), (34, .aload_n 0, 1, 0, 0, 0), (35, .getfield 19, 3, 0, 2, 0), (38, .aload_n 1, 1, 0, 0, 0), (39, .getfield 47, 3, 2, 9, 0), (42, .aaload, 1, 0, 0, 0), (43, .aload_n 1, 1, 0, 0, 0), (44, .getfield 50, 3, 2, 0, 0), (47, .invokevirtual 36, 3, 28, 0, 1), (50, .ifCond .eq 15, 3, 0, 0, 0), (53, .aload_n 0, 1, 0, 0, 0), (54, .getfield 19, 3, 0, 2, 0), (57, .aload_n 1, 1, 0, 0, 0), (58, .getfield 47, 3, 2, 9, 0), (61, .aaload, 1, 0, 0, 0), (62, .invokevirtual 53, 3, 64, 0, 0), (65, .return_, 1, 0, 0, 0)], [])
def zm_66 : zM := (⟨"NestedPager$Vcpu", "hasBit", "(I)Z"⟩, prog_11_method_5_code, 2, (some (.boolean)), (0, 0, 0, 0), (0, 9, 1, 0, 0, 0), [(0, .aload_n 0, 1, 0, 0, 0), (1, .getfield 15, 3, 9, 2, 0), (4, .iconst 4, 1, 0, 0, 0), (5, .iaload, 1, 0, 0, 0), (6, .iload_n 1, 1, 0, 0, 0), (7, .iand, 1, 0, 0, 0), (8, .ifCond .eq 7, 3, 0, 0, 0), (11, .iconst 1, 1, 0, 0, 0), (12, .goto 4, 3, 0, 0, 0), (15, .iconst 0, 1, 0, 0, 0), (16, .ireturn, 1, 0, 0, 0)], [])
def zm_67 : zM := (⟨"NestedPager$LookAside", "fits", "(III)Z"⟩, prog_5_method_4_code, 6, (some (.boolean)), (0, 0, 0, 0), (0, 3, 3, 0, 0, 0), [(0, .aload_n 0, 1, 0, 0, 0), (1, .getfield 25, 3, 3, 4, 0), (4, .iload_n 1, 1, 0, 0, 0), (5, .iaload, 1, 0, 0, 0), (6, .iload_n 2, 1, 0, 0, 0), (7, .if_icmp .eq 15, 3, 0, 0, 0), (10, .aload_n 0, 1, 0, 0, 0), (11, .getfield 22, 3, 3, 3, 0), (14, .iload_n 1, 1, 0, 0, 0), (15, .iaload, 1, 0, 0, 0), (16, .bipush 16, 2, 0, 0, 0), (18, .iand, 1, 0, 0, 0), (19, .ifCond .eq 7, 3, 0, 0, 0), (22, .iconst 1, 1, 0, 0, 0), (23, .goto 4, 3, 0, 0, 0), (26, .iconst 0, 1, 0, 0, 0), (27, .istore 4, 2, 0, 0, 0), (29, .aload_n 0, 1, 0, 0, 0), (30, .getfield 22, 3, 3, 3, 0), (33, .iload_n 1, 1, 0, 0, 0), (34, .iaload, 1, 0, 0, 0), (35, .bipush 32, 2, 0, 0, 0), (37, .iand, 1, 0, 0, 0), (38, .ifCond .eq 11, 3, 0, 0, 0), (41, .iload_n 3, 1, 0, 0, 0), (42, .sipush 256, 3, 0, 0, 0), (45, .idiv, 1, 0, 0, 0), (46, .goto 7, 3, 0, 0, 0), (49, .iload_n 3, 1, 0, 0, 0), (50, .bipush 16, 2, 0, 0, 0), (52, .idiv, 1, 0, 0, 0), (53, .istore 5, 2, 0, 0, 0), (55, .aload_n 0, 1, 0, 0, 0), (56, .getfield 11, 3, 3, 0, 0), (59, .iload_n 1, 1, 0, 0, 0), (60, .baload, 1, 0, 0, 0), (61, .ifCond .eq 23, 3, 0, 0, 0), (64, .iload 4, 2, 0, 0, 0), (66, .ifCond .eq 18, 3, 0, 0, 0), (69, .aload_n 0, 1, 0, 0, 0), (70, .getfield 15, 3, 3, 1, 0), (73, .iload_n 1, 1, 0, 0, 0), (74, .iaload, 1, 0, 0, 0), (75, .iload 5, 2, 0, 0, 0), (77, .if_icmp .ne 7, 3, 0, 0, 0), (80, .iconst 1, 1, 0, 0, 0), (81, .goto 4, 3, 0, 0, 0), (84, .iconst 0, 1, 0, 0, 0), (85, .ireturn, 1, 0, 0, 0)], [])
def zm_68 : zM := (⟨"NestedPager$LookAside", "firstFit", "(II)I"⟩, prog_5_method_5_code, 4, (some (.int)), (1, 25, 0, 0), (0, 3, 2, 0, 0, 0), [(0, .iconst 0, 1, 0, 0, 0), (1, .istore_n 3, 1, 0, 0, 0), (2, .iload_n 3, 1, 0, 0, 0), (3, .bipush 8, 2, 0, 0, 0), (5, .if_icmp .ge 21, 3, 0, 0, 0), (8, .aload_n 0, 1, 0, 0, 0), (9, .iload_n 3, 1, 0, 0, 0), (10, .iload_n 1, 1, 0, 0, 0), (11, .iload_n 2, 1, 0, 0, 0), (12, .invokevirtual 32, 3, 67, 0, 3), (15, .ifCond .eq 5, 3, 0, 0, 0), (18, .iload_n 3, 1, 0, 0, 0), (19, .ireturn, 1, 0, 0, 0), (20, .iinc 3 1, 3, 0, 0, 0), (23, .goto (-21), 3, 0, 0, 0), (26, .iconst (-1), 1, 0, 0, 0), (27, .ireturn, 1, 0, 0, 0)], [])
def zm_69 : zM := (⟨"NestedPager$Vcpu", "inUserMode", "()Z"⟩, prog_11_method_4_code, 1, (some (.boolean)), (0, 0, 0, 0), (0, 9, 0, 0, 0, 0), [(0, .aload_n 0, 1, 0, 0, 0), (1, .getfield 15, 3, 9, 2, 0), (4, .iconst 3, 1, 0, 0, 0), (5, .iaload, 1, 0, 0, 0), (6, .iconst 1, 1, 0, 0, 0), (7, .if_icmp .ne 7, 3, 0, 0, 0), (10, .iconst 1, 1, 0, 0, 0), (11, .goto 4, 3, 0, 0, 0), (14, .iconst 0, 1, 0, 0, 0), (15, .ireturn, 1, 0, 0, 0)], [])
def zm_70 : zM := (⟨"NestedPager$Translator", "lets", "(LNestedPager$Vcpu;II)Z"⟩, prog_10_method_9_code, 4, (some (.boolean)), (1, 21, 0, 0), (1, 8, 3, 0, 0, 0), [(0, .aload_n 0, 1, 0, 0, 0), (1, .invokevirtual 125, 3, 69, 0, 0), (4, .ifCond .eq 11, 3, 0, 0, 0), (7, .iload_n 2, 1, 0, 0, 0), (8, .iconst 2, 1, 0, 0, 0), (9, .iand, 1, 0, 0, 0), (10, .ifCond .ne 5, 3, 0, 0, 0), (13, .iconst 0, 1, 0, 0, 0), (14, .ireturn, 1, 0, 0, 0), (15, .iload_n 1, 1, 0, 0, 0), (16, .iconst 1, 1, 0, 0, 0), (17, .if_icmp .ne 40, 3, 0, 0, 0), (20, .aload_n 0, 1, 0, 0, 0), (21, .invokevirtual 125, 3, 69, 0, 0), (24, .ifCond .ne 15, 3, 0, 0, 0), (27, .aload_n 0, 1, 0, 0, 0), (28, .iconst 2, 1, 0, 0, 0), (29, .invokevirtual 21, 3, 66, 0, 1), (32, .ifCond .ne 7, 3, 0, 0, 0), (35, .iconst 1, 1, 0, 0, 0), (36, .goto 4, 3, 0, 0, 0), (39, .iconst 0, 1, 0, 0, 0), (40, .istore_n 3, 1, 0, 0, 0), (41, .iload_n 3, 1, 0, 0, 0), (42, .ifCond .ne 9, 3, 0, 0, 0), (45, .iload_n 2, 1, 0, 0, 0), (46, .iconst 1, 1, 0, 0, 0), (47, .iand, 1, 0, 0, 0), (48, .ifCond .eq 7, 3, 0, 0, 0), (51, .iconst 1, 1, 0, 0, 0), (52, .goto 4, 3, 0, 0, 0), (55, .iconst 0, 1, 0, 0, 0), (56, .ireturn, 1, 0, 0, 0), (57, .iload_n 1, 1, 0, 0, 0), (58, .ifCond .eq 9, 3, 0, 0, 0), (61, .iload_n 2, 1, 0, 0, 0), (62, .iconst 4, 1, 0, 0, 0), (63, .iand, 1, 0, 0, 0), (64, .ifCond .ne 7, 3, 0, 0, 0), (67, .iconst 1, 1, 0, 0, 0), (68, .goto 4, 3, 0, 0, 0), (71, .iconst 0, 1, 0, 0, 0), (72, .ireturn, 1, 0, 0, 0)], [])
def zm_71 : zM := (⟨"NestedPager$LookAside", "isLarge", "(I)Z"⟩, prog_5_method_3_code, 2, (some (.boolean)), (0, 0, 0, 0), (0, 3, 1, 0, 0, 0), [(0, .aload_n 0, 1, 0, 0, 0), (1, .getfield 22, 3, 3, 3, 0), (4, .iload_n 1, 1, 0, 0, 0), (5, .iaload, 1, 0, 0, 0), (6, .bipush 32, 2, 0, 0, 0), (8, .iand, 1, 0, 0, 0), (9, .ifCond .eq 7, 3, 0, 0, 0), (12, .iconst 1, 1, 0, 0, 0), (13, .goto 4, 3, 0, 0, 0), (16, .iconst 0, 1, 0, 0, 0), (17, .ireturn, 1, 0, 0, 0)], [])
def zm_72 : zM := (⟨"NestedPager$LookAside", "pageTold", "(II)I"⟩, prog_5_method_6_code, 3, (some (.int)), (1, 21, 0, 0), (0, 3, 2, 0, 0, 0), [(0, .aload_n 0, 1, 0, 0, 0), (1, .iload_n 1, 1, 0, 0, 0), (2, .invokevirtual 36, 3, 71, 0, 1), (5, .ifCond .eq 20, 3, 0, 0, 0), (8, .aload_n 0, 1, 0, 0, 0), (9, .getfield 19, 3, 3, 2, 0), (12, .iload_n 1, 1, 0, 0, 0), (13, .iaload, 1, 0, 0, 0), (14, .iload_n 2, 1, 0, 0, 0), (15, .bipush 16, 2, 0, 0, 0), (17, .idiv, 1, 0, 0, 0), (18, .bipush 16, 2, 0, 0, 0), (20, .irem, 1, 0, 0, 0), (21, .iadd, 1, 0, 0, 0), (22, .goto 9, 3, 0, 0, 0), (25, .aload_n 0, 1, 0, 0, 0), (26, .getfield 19, 3, 3, 2, 0), (29, .iload_n 1, 1, 0, 0, 0), (30, .iaload, 1, 0, 0, 0), (31, .ireturn, 1, 0, 0, 0)], [])
def zm_73 : zM := (⟨"NestedPager$Translator", "recall", "(LNestedPager$Vcpu;II)I"⟩, prog_10_method_3_code, 7, (some (.int)), (2, 48, 0, 0), (0, 8, 3, 0, 0, 0), [(0, .aload_n 1, 1, 0, 0, 0), (1, .getfield 76, 3, 9, 4, 0), (4, .aload_n 1, 1, 0, 0, 0), (5, .getfield 80, 3, 9, 2, 0), (8, .bipush 6, 2, 0, 0, 0), (10, .iaload, 1, 0, 0, 0), (11, .iload_n 3, 1, 0, 0, 0), (12, .invokevirtual 83, 3, 68, 0, 2), (15, .istore 4, 2, 0, 0, 0), (17, .iload 4, 2, 0, 0, 0), (19, .ifCond .ge 5, 3, 0, 0, 0), (22, .iconst (-1), 1, 0, 0, 0), (23, .ireturn, 1, 0, 0, 0), (24, .aload_n 1, 1, 0, 0, 0), (25, .getfield 76, 3, 9, 4, 0), (28, .getfield 89, 3, 3, 3, 0), (31, .iload 4, 2, 0, 0, 0), (33, .iaload, 1, 0, 0, 0), (34, .istore 5, 2, 0, 0, 0), (36, .iload_n 2, 1, 0, 0, 0), (37, .iconst 1, 1, 0, 0, 0), (38, .if_icmp .ne 15, 3, 0, 0, 0), (41, .iload 5, 2, 0, 0, 0), (43, .bipush 8, 2, 0, 0, 0), (45, .iand, 1, 0, 0, 0), (46, .ifCond .ne 7, 3, 0, 0, 0), (49, .iconst 1, 1, 0, 0, 0), (50, .goto 4, 3, 0, 0, 0), (53, .iconst 0, 1, 0, 0, 0), (54, .istore 6, 2, 0, 0, 0), (56, .iload 6, 2, 0, 0, 0), (58, .ifCond .ne 13, 3, 0, 0, 0), (61, .aload_n 1, 1, 0, 0, 0), (62, .iload_n 2, 1, 0, 0, 0), (63, .iload 5, 2, 0, 0, 0), (65, .invokestatic 92, 3, 70, 0, 3), (68, .ifCond .ne 16, 3, 0, 0, 0), (71, .aload_n 1, 1, 0, 0, 0), (72, .getfield 76, 3, 9, 4, 0), (75, .getfield 96, 3, 3, 0, 0), (78, .iload 4, 2, 0, 0, 0), (80, .iconst 0, 1, 0, 0, 0), (81, .bastore, 1, 0, 0, 0), (82, .iconst (-1), 1, 0, 0, 0), (83, .ireturn, 1, 0, 0, 0), (84, .aload_n 1, 1, 0, 0, 0), (85, .getfield 76, 3, 9, 4, 0), (88, .iload 4, 2, 0, 0, 0), (90, .iload_n 3, 1, 0, 0, 0), (91, .invokevirtual 100, 3, 72, 0, 2), (94, .ireturn, 1, 0, 0, 0)], [])
def zm_74 : zM := (⟨"NestedPager$Pager", "wantOf", "(I)I"⟩, prog_8_method_2_code, 1, (some (.int)), (0, 0, 0, 0), (1, 6, 1, 0, 0, 0), [(0, .iconst 1, 1, 0, 0, 0), (1, .iload_n 0, 1, 0, 0, 0), (2, .ishl, 1, 0, 0, 0), (3, .ireturn, 1, 0, 0, 0)], [])
def zm_75 : zM := (⟨"NestedPager$Pager", "marksOf", "(I)I"⟩, prog_8_method_3_code, 1, (some (.int)), (0, 0, 0, 0), (1, 6, 1, 0, 0, 0), [(0, .iload_n 0, 1, 0, 0, 0), (1, .iconst 1, 1, 0, 0, 0), (2, .if_icmp .ne 8, 3, 0, 0, 0), (5, .bipush 24, 2, 0, 0, 0), (7, .goto 5, 3, 0, 0, 0), (10, .bipush 8, 2, 0, 0, 0), (12, .ireturn, 1, 0, 0, 0)], [])
def zm_76 : zM := (⟨"NestedPager", "isDevice", "(I)Z"⟩, prog_1_method_36_code, 1, (some (.boolean)), (1, 22, 0, 0), (1, 10, 1, 0, 0, 0), [(0, .iload_n 0, 1, 0, 0, 0), (1, .sipush 240, 3, 0, 0, 0), (4, .sipush 243, 3, 0, 0, 0), (7, .invokestatic 76, 3, 12, 0, 3), (10, .ireturn, 1, 0, 0, 0)], [])
def zm_77 : zM := (⟨"NestedPager$Memory", "freeSlot", "()I"⟩, prog_7_method_5_code, 2, (some (.int)), (0, 0, 0, 0), (0, 5, 0, 0, 0, 0), [(0, .iconst 0, 1, 0, 0, 0), (1, .istore_n 1, 1, 0, 0, 0), (2, .iload_n 1, 1, 0, 0, 0), (3, .bipush 64, 2, 0, 0, 0), (5, .if_icmp .ge 20, 3, 0, 0, 0), (8, .aload_n 0, 1, 0, 0, 0), (9, .getfield 30, 3, 5, 6, 0), (12, .iload_n 1, 1, 0, 0, 0), (13, .baload, 1, 0, 0, 0), (14, .ifCond .ne 5, 3, 0, 0, 0), (17, .iload_n 1, 1, 0, 0, 0), (18, .ireturn, 1, 0, 0, 0), (19, .iinc 1 1, 3, 0, 0, 0), (22, .goto (-20), 3, 0, 0, 0), (25, .iconst (-1), 1, 0, 0, 0), (26, .ireturn, 1, 0, 0, 0)], [])
def zm_78 : zM := (⟨"NestedPager$Memory", "handStop", "()I"⟩, prog_7_method_9_code, 4, (some (.int)), (0, 0, 0, 0), (0, 5, 0, 0, 0, 0), [(0, .iconst 0, 1, 0, 0, 0), (1, .istore_n 1, 1, 0, 0, 0), (2, .iload_n 1, 1, 0, 0, 0), (3, .sipush 256, 3, 0, 0, 0), (6, .if_icmp .ge 70, 3, 0, 0, 0), (9, .aload_n 0, 1, 0, 0, 0), (10, .getfield 37, 3, 5, 8, 0), (13, .istore_n 2, 1, 0, 0, 0), (14, .aload_n 0, 1, 0, 0, 0), (15, .aload_n 0, 1, 0, 0, 0), (16, .getfield 37, 3, 5, 8, 0), (19, .iconst 1, 1, 0, 0, 0), (20, .iadd, 1, 0, 0, 0), (21, .sipush 128, 3, 0, 0, 0), (24, .irem, 1, 0, 0, 0), (25, .putfield 37, 3, 5, 8, 0), (28, .aload_n 0, 1, 0, 0, 0), (29, .getfield 15, 3, 5, 1, 0), (32, .iload_n 2, 1, 0, 0, 0), (33, .iaload, 1, 0, 0, 0), (34, .iconst 2, 1, 0, 0, 0), (35, .if_icmp .ne 35, 3, 0, 0, 0), (38, .aload_n 0, 1, 0, 0, 0), (39, .getfield 24, 3, 5, 4, 0), (42, .iload_n 2, 1, 0, 0, 0), (43, .iaload, 1, 0, 0, 0), (44, .istore_n 3, 1, 0, 0, 0), (45, .aload_n 0, 1, 0, 0, 0), (46, .getfield 9, 3, 5, 0, 0), (49, .iload_n 3, 1, 0, 0, 0), (50, .iaload, 1, 0, 0, 0), (51, .bipush 8, 2, 0, 0, 0), (53, .iand, 1, 0, 0, 0), (54, .ifCond .ne 5, 3, 0, 0, 0), (57, .iload_n 2, 1, 0, 0, 0), (58, .ireturn, 1, 0, 0, 0), (59, .aload_n 0, 1, 0, 0, 0), (60, .getfield 9, 3, 5, 0, 0), (63, .iload_n 3, 1, 0, 0, 0), (64, .dup2, 1, 0, 0, 0), (65, .iaload, 1, 0, 0, 0), (66, .bipush (-9), 2, 0, 0, 0), (68, .iand, 1, 0, 0, 0), (69, .iastore, 1, 0, 0, 0), (70, .iinc 1 1, 3, 0, 0, 0), (73, .goto (-71), 3, 0, 0, 0), (76, .iconst (-1), 1, 0, 0, 0), (77, .ireturn, 1, 0, 0, 0)], [])
def zm_79 : zM := (⟨"NestedPager$Memory", "storeInSlot", "(II)V"⟩, prog_7_method_10_code, 4, none, (0, 0, 0, 0), (0, 5, 2, 0, 0, 0), [(0, .iconst 0, 1, 0, 0, 0), (1, .istore_n 3, 1, 0, 0, 0), (2, .iload_n 3, 1, 0, 0, 0), (3, .bipush 16, 2, 0, 0, 0), (5, .if_icmp .ge 31, 3, 0, 0, 0), (8, .aload_n 0, 1, 0, 0, 0), (9, .getfield 27, 3, 5, 5, 0), (12, .iload_n 2, 1, 0, 0, 0), (13, .bipush 16, 2, 0, 0, 0), (15, .imul, 1, 0, 0, 0), (16, .iload_n 3, 1, 0, 0, 0), (17, .iadd, 1, 0, 0, 0), (18, .aload_n 0, 1, 0, 0, 0), (19, .getfield 9, 3, 5, 0, 0), (22, .iload_n 1, 1, 0, 0, 0), (23, .bipush 16, 2, 0, 0, 0), (25, .imul, 1, 0, 0, 0), (26, .iload_n 3, 1, 0, 0, 0), (27, .iadd, 1, 0, 0, 0), (28, .iaload, 1, 0, 0, 0), (29, .iastore, 1, 0, 0, 0), (30, .iinc 3 1, 3, 0, 0, 0), (33, .goto (-31), 3, 0, 0, 0), (36, .aload_n 0, 1, 0, 0, 0), (37, .getfield 30, 3, 5, 6, 0), (40, .iload_n 2, 1, 0, 0, 0), (41, .iconst 1, 1, 0, 0, 0), (42, .bastore, 1, 0, 0, 0), (43, .aload_n 0, 1, 0, 0, 0), (44, .getfield 24, 3, 5, 4, 0), (47, .iload_n 1, 1, 0, 0, 0), (48, .iaload, 1, 0, 0, 0), (49, .istore_n 3, 1, 0, 0, 0), (50, .aload_n 0, 1, 0, 0, 0), (51, .getfield 9, 3, 5, 0, 0), (54, .iload_n 3, 1, 0, 0, 0), (55, .aload_n 0, 1, 0, 0, 0), (56, .getfield 9, 3, 5, 0, 0), (59, .iload_n 3, 1, 0, 0, 0), (60, .iaload, 1, 0, 0, 0), (61, .bipush 23, 2, 0, 0, 0), (63, .iand, 1, 0, 0, 0), (64, .bipush 64, 2, 0, 0, 0), (66, .ior, 1, 0, 0, 0), (67, .iload_n 2, 1, 0, 0, 0), (68, .sipush 256, 3, 0, 0, 0), (71, .imul, 1, 0, 0, 0), (72, .ior, 1, 0, 0, 0), (73, .iastore, 1, 0, 0, 0), (74, .return_, 1, 0, 0, 0)], [])
def zm_80 : zM := (⟨"NestedPager$Memory", "newFrame", "()I"⟩, prog_7_method_8_code, 3, (some (.int)), (1, 23, 0, 0), (0, 5, 0, 0, 0, 0), [(0, .aload_n 0, 1, 0, 0, 0), (1, .invokevirtual 41, 3, 14, 0, 0), (4, .istore_n 1, 1, 0, 0, 0), (5, .iload_n 1, 1, 0, 0, 0), (6, .ifCond .lt 5, 3, 0, 0, 0), (9, .iload_n 1, 1, 0, 0, 0), (10, .ireturn, 1, 0, 0, 0), (11, .aload_n 0, 1, 0, 0, 0), (12, .invokevirtual 45, 3, 77, 0, 0), (15, .istore_n 2, 1, 0, 0, 0), (16, .iload_n 2, 1, 0, 0, 0), (17, .ifCond .ge 7, 3, 0, 0, 0), (20, .iconst (-1), 1, 0, 0, 0), (21, .goto 7, 3, 0, 0, 0), (24, .aload_n 0, 1, 0, 0, 0), (25, .invokevirtual 48, 3, 78, 0, 0), (28, .istore_n 1, 1, 0, 0, 0), (29, .iload_n 1, 1, 0, 0, 0), (30, .ifCond .lt 29, 3, 0, 0, 0), (33, .aload_n 0, 1, 0, 0, 0), (34, .getfield 34, 3, 5, 7, 0), (37, .aload_n 0, 1, 0, 0, 0), (38, .getfield 18, 3, 5, 2, 0), (41, .iload_n 1, 1, 0, 0, 0), (42, .iaload, 1, 0, 0, 0), (43, .dup2, 1, 0, 0, 0), (44, .iaload, 1, 0, 0, 0), (45, .iconst 1, 1, 0, 0, 0), (46, .iadd, 1, 0, 0, 0), (47, .iastore, 1, 0, 0, 0), (48, .aload_n 0, 1, 0, 0, 0), (49, .iload_n 1, 1, 0, 0, 0), (50, .iload_n 2, 1, 0, 0, 0), (51, .invokevirtual 51, 3, 79, 0, 2), (54, .aload_n 0, 1, 0, 0, 0), (55, .iload_n 1, 1, 0, 0, 0), (56, .invokevirtual 55, 3, 33, 0, 1), (59, .iload_n 1, 1, 0, 0, 0), (60, .ireturn, 1, 0, 0, 0)], [])
def zm_81 : zM := (⟨"NestedPager$Memory", "linkTable", "(IIII)I"⟩, prog_7_method_15_code, 5, (some (.int)), (1, 24, 0, 0), (0, 5, 4, 0, 0, 0), [(0, .iload 4, 2, 0, 0, 0), (2, .ifCond .ge 5, 3, 0, 0, 0), (5, .iconst (-1), 1, 0, 0, 0), (6, .ireturn, 1, 0, 0, 0), (7, .aload_n 0, 1, 0, 0, 0), (8, .iload 4, 2, 0, 0, 0), (10, .iconst 1, 1, 0, 0, 0), (11, .iload_n 2, 1, 0, 0, 0), (12, .iload_n 3, 1, 0, 0, 0), (13, .bipush 16, 2, 0, 0, 0), (15, .idiv, 1, 0, 0, 0), (16, .bipush 16, 2, 0, 0, 0), (18, .imul, 1, 0, 0, 0), (19, .invokevirtual 67, 3, 15, 0, 4), (22, .aload_n 0, 1, 0, 0, 0), (23, .getfield 9, 3, 5, 0, 0), (26, .iload_n 1, 1, 0, 0, 0), (27, .bipush 16, 2, 0, 0, 0), (29, .imul, 1, 0, 0, 0), (30, .iload_n 3, 1, 0, 0, 0), (31, .bipush 16, 2, 0, 0, 0), (33, .idiv, 1, 0, 0, 0), (34, .iadd, 1, 0, 0, 0), (35, .iload 4, 2, 0, 0, 0), (37, .sipush 256, 3, 0, 0, 0), (40, .imul, 1, 0, 0, 0), (41, .iconst 1, 1, 0, 0, 0), (42, .iadd, 1, 0, 0, 0), (43, .iastore, 1, 0, 0, 0), (44, .iload 4, 2, 0, 0, 0), (46, .bipush 16, 2, 0, 0, 0), (48, .imul, 1, 0, 0, 0), (49, .iload_n 3, 1, 0, 0, 0), (50, .bipush 16, 2, 0, 0, 0), (52, .irem, 1, 0, 0, 0), (53, .iadd, 1, 0, 0, 0), (54, .ireturn, 1, 0, 0, 0)], [])
def zm_82 : zM := (⟨"NestedPager$Memory", "settle", "(IIII)I"⟩, prog_7_method_16_code, 8, (some (.int)), (1, 24, 0, 0), (0, 5, 4, 0, 0, 0), [(0, .aload_n 0, 1, 0, 0, 0), (1, .getfield 9, 3, 5, 0, 0), (4, .iload 4, 2, 0, 0, 0), (6, .iaload, 1, 0, 0, 0), (7, .istore 5, 2, 0, 0, 0), (9, .iload 5, 2, 0, 0, 0), (11, .bipush 96, 2, 0, 0, 0), (13, .iand, 1, 0, 0, 0), (14, .bipush 64, 2, 0, 0, 0), (16, .if_icmp .ne 59, 3, 0, 0, 0), (19, .iload 5, 2, 0, 0, 0), (21, .invokestatic 71, 3, 34, 0, 1), (24, .istore 6, 2, 0, 0, 0), (26, .iconst 0, 1, 0, 0, 0), (27, .istore 7, 2, 0, 0, 0), (29, .iload 7, 2, 0, 0, 0), (31, .bipush 16, 2, 0, 0, 0), (33, .if_icmp .ge 34, 3, 0, 0, 0), (36, .aload_n 0, 1, 0, 0, 0), (37, .getfield 9, 3, 5, 0, 0), (40, .iload_n 1, 1, 0, 0, 0), (41, .bipush 16, 2, 0, 0, 0), (43, .imul, 1, 0, 0, 0), (44, .iload 7, 2, 0, 0, 0), (46, .iadd, 1, 0, 0, 0), (47, .aload_n 0, 1, 0, 0, 0), (48, .getfield 27, 3, 5, 5, 0), (51, .iload 6, 2, 0, 0, 0), (53, .bipush 16, 2, 0, 0, 0), (55, .imul, 1, 0, 0, 0), (56, .iload 7, 2, 0, 0, 0), (58, .iadd, 1, 0, 0, 0), (59, .iaload, 1, 0, 0, 0), (60, .iastore, 1, 0, 0, 0), (61, .iinc 7 1, 3, 0, 0, 0), (64, .goto (-35), 3, 0, 0, 0), (67, .aload_n 0, 1, 0, 0, 0), (68, .getfield 30, 3, 5, 6, 0), (71, .iload 6, 2, 0, 0, 0), (73, .iconst 0, 1, 0, 0, 0), (74, .bastore, 1, 0, 0, 0), (75, .aload_n 0, 1, 0, 0, 0), (76, .iload_n 1, 1, 0, 0, 0), (77, .iconst 2, 1, 0, 0, 0), (78, .iload_n 2, 1, 0, 0, 0), (79, .iload_n 3, 1, 0, 0, 0), (80, .invokevirtual 67, 3, 15, 0, 4), (83, .aload_n 0, 1, 0, 0, 0), (84, .getfield 24, 3, 5, 4, 0), (87, .iload_n 1, 1, 0, 0, 0), (88, .iload 4, 2, 0, 0, 0), (90, .iastore, 1, 0, 0, 0), (91, .aload_n 0, 1, 0, 0, 0), (92, .getfield 9, 3, 5, 0, 0), (95, .iload 4, 2, 0, 0, 0), (97, .iload 5, 2, 0, 0, 0), (99, .bipush 23, 2, 0, 0, 0), (101, .iand, 1, 0, 0, 0), (102, .bipush 32, 2, 0, 0, 0), (104, .ior, 1, 0, 0, 0), (105, .iload_n 1, 1, 0, 0, 0), (106, .sipush 256, 3, 0, 0, 0), (109, .imul, 1, 0, 0, 0), (110, .ior, 1, 0, 0, 0), (111, .iastore, 1, 0, 0, 0), (112, .aload_n 0, 1, 0, 0, 0), (113, .getfield 9, 3, 5, 0, 0), (116, .iload 4, 2, 0, 0, 0), (118, .iaload, 1, 0, 0, 0), (119, .ireturn, 1, 0, 0, 0)], [])
def zm_83 : zM := (⟨"NestedPager$Pager", "reach", "(LNestedPager$Guest;III)I"⟩, prog_8_method_4_code, 9, (some (.int)), (2, 51, 0, 0), (0, 6, 4, 0, 0, 0), [(0, .iload_n 2, 1, 0, 0, 0), (1, .aload_n 1, 1, 0, 0, 0), (2, .getfield 17, 3, 2, 2, 0), (5, .if_icmp .lt 17, 3, 0, 0, 0), (8, .iload_n 2, 1, 0, 0, 0), (9, .invokestatic 23, 3, 76, 1, 1), (12, .ifCond .eq 8, 3, 0, 0, 0), (15, .bipush (-5), 2, 0, 0, 0), (17, .goto 4, 3, 0, 0, 0), (20, .iconst (-1), 1, 0, 0, 0), (21, .ireturn, 1, 0, 0, 0), (22, .aload_n 0, 1, 0, 0, 0), (23, .getfield 9, 3, 6, 0, 0), (26, .aload_n 1, 1, 0, 0, 0), (27, .getfield 27, 3, 2, 3, 0), (30, .iload_n 2, 1, 0, 0, 0), (31, .invokevirtual 30, 3, 31, 0, 2), (34, .istore 5, 2, 0, 0, 0), (36, .iload 5, 2, 0, 0, 0), (38, .ifCond .ge 7, 3, 0, 0, 0), (41, .iconst 0, 1, 0, 0, 0), (42, .goto 13, 3, 0, 0, 0), (45, .aload_n 0, 1, 0, 0, 0), (46, .getfield 9, 3, 6, 0, 0), (49, .getfield 34, 3, 5, 0, 0), (52, .iload 5, 2, 0, 0, 0), (54, .iaload, 1, 0, 0, 0), (55, .istore 6, 2, 0, 0, 0), (57, .iload 6, 2, 0, 0, 0), (59, .iload_n 3, 1, 0, 0, 0), (60, .iand, 1, 0, 0, 0), (61, .ifCond .eq 6, 3, 0, 0, 0), (64, .bipush (-2), 2, 0, 0, 0), (66, .ireturn, 1, 0, 0, 0), (67, .iload 6, 2, 0, 0, 0), (69, .bipush 96, 2, 0, 0, 0), (71, .iand, 1, 0, 0, 0), (72, .istore 7, 2, 0, 0, 0), (74, .iload 7, 2, 0, 0, 0), (76, .bipush 96, 2, 0, 0, 0), (78, .if_icmp .ne 6, 3, 0, 0, 0), (81, .bipush (-3), 2, 0, 0, 0), (83, .ireturn, 1, 0, 0, 0), (84, .iload 7, 2, 0, 0, 0), (86, .bipush 32, 2, 0, 0, 0), (88, .if_icmp .eq 117, 3, 0, 0, 0), (91, .iload 5, 2, 0, 0, 0), (93, .ifCond .ge 28, 3, 0, 0, 0), (96, .aload_n 0, 1, 0, 0, 0), (97, .getfield 9, 3, 6, 0, 0), (100, .aload_n 1, 1, 0, 0, 0), (101, .getfield 27, 3, 2, 3, 0), (104, .aload_n 1, 1, 0, 0, 0), (105, .getfield 38, 3, 2, 0, 0), (108, .iload_n 2, 1, 0, 0, 0), (109, .aload_n 0, 1, 0, 0, 0), (110, .getfield 9, 3, 6, 0, 0), (113, .invokevirtual 41, 3, 80, 0, 0), (116, .invokevirtual 45, 3, 81, 0, 4), (119, .istore 5, 2, 0, 0, 0), (121, .iload 5, 2, 0, 0, 0), (123, .ifCond .ge 7, 3, 0, 0, 0), (126, .iconst (-1), 1, 0, 0, 0), (127, .goto 10, 3, 0, 0, 0), (130, .aload_n 0, 1, 0, 0, 0), (131, .getfield 9, 3, 6, 0, 0), (134, .invokevirtual 41, 3, 80, 0, 0), (137, .istore 8, 2, 0, 0, 0), (139, .iload 8, 2, 0, 0, 0), (141, .ifCond .ge 6, 3, 0, 0, 0), (144, .bipush (-4), 2, 0, 0, 0), (146, .ireturn, 1, 0, 0, 0), (147, .aload_n 0, 1, 0, 0, 0), (148, .getfield 9, 3, 6, 0, 0), (151, .iload 8, 2, 0, 0, 0), (153, .aload_n 1, 1, 0, 0, 0), (154, .getfield 38, 3, 2, 0, 0), (157, .iload_n 2, 1, 0, 0, 0), (158, .iload 5, 2, 0, 0, 0), (160, .invokevirtual 49, 3, 82, 0, 4), (163, .istore 6, 2, 0, 0, 0), (165, .aload_n 1, 1, 0, 0, 0), (166, .dup, 1, 0, 0, 0), (167, .getfield 52, 3, 2, 5, 0), (170, .iload 7, 2, 0, 0, 0), (172, .ifCond .ne 7, 3, 0, 0, 0), (175, .iconst 1, 1, 0, 0, 0), (176, .goto 4, 3, 0, 0, 0), (179, .iconst 0, 1, 0, 0, 0), (180, .iadd, 1, 0, 0, 0), (181, .putfield 52, 3, 2, 5, 0), (184, .aload_n 1, 1, 0, 0, 0), (185, .dup, 1, 0, 0, 0), (186, .getfield 55, 3, 2, 6, 0), (189, .iload 7, 2, 0, 0, 0), (191, .bipush 64, 2, 0, 0, 0), (193, .if_icmp .ne 7, 3, 0, 0, 0), (196, .iconst 1, 1, 0, 0, 0), (197, .goto 4, 3, 0, 0, 0), (200, .iconst 0, 1, 0, 0, 0), (201, .iadd, 1, 0, 0, 0), (202, .putfield 55, 3, 2, 6, 0), (205, .aload_n 0, 1, 0, 0, 0), (206, .getfield 9, 3, 6, 0, 0), (209, .getfield 34, 3, 5, 0, 0), (212, .iload 5, 2, 0, 0, 0), (214, .iload 6, 2, 0, 0, 0), (216, .iload 4, 2, 0, 0, 0), (218, .ior, 1, 0, 0, 0), (219, .iastore, 1, 0, 0, 0), (220, .iload 6, 2, 0, 0, 0), (222, .invokestatic 58, 3, 30, 0, 1), (225, .ireturn, 1, 0, 0, 0)], [])
def zm_84 : zM := (⟨"NestedPager$Translator", "loadEntry", "(LNestedPager$Vcpu;III)I"⟩, prog_10_method_5_code, 6, (some (.int)), (3, 79, 0, 0), (0, 8, 4, 0, 0, 0), [(0, .aload_n 0, 1, 0, 0, 0), (1, .getfield 9, 3, 8, 0, 0), (4, .aload_n 0, 1, 0, 0, 0), (5, .getfield 15, 3, 8, 1, 0), (8, .aload_n 1, 1, 0, 0, 0), (9, .invokevirtual 32, 3, 63, 0, 1), (12, .iload 4, 2, 0, 0, 0), (14, .bipush 16, 2, 0, 0, 0), (16, .idiv, 1, 0, 0, 0), (17, .iconst 0, 1, 0, 0, 0), (18, .invokestatic 49, 3, 74, 0, 1), (21, .iconst 0, 1, 0, 0, 0), (22, .invokestatic 55, 3, 75, 0, 1), (25, .invokevirtual 58, 3, 83, 0, 4), (28, .istore 5, 2, 0, 0, 0), (30, .iload 5, 2, 0, 0, 0), (32, .ifCond .ge 16, 3, 0, 0, 0), (35, .aload_n 1, 1, 0, 0, 0), (36, .iload 5, 2, 0, 0, 0), (38, .ineg, 1, 0, 0, 0), (39, .iload 4, 2, 0, 0, 0), (41, .iload_n 3, 1, 0, 0, 0), (42, .iload_n 2, 1, 0, 0, 0), (43, .iconst 1, 1, 0, 0, 0), (44, .invokevirtual 62, 3, 45, 0, 5), (47, .ireturn, 1, 0, 0, 0), (48, .aload_n 0, 1, 0, 0, 0), (49, .getfield 9, 3, 8, 0, 0), (52, .getfield 66, 3, 6, 0, 0), (55, .getfield 70, 3, 5, 0, 0), (58, .iload 5, 2, 0, 0, 0), (60, .bipush 16, 2, 0, 0, 0), (62, .imul, 1, 0, 0, 0), (63, .iload 4, 2, 0, 0, 0), (65, .bipush 16, 2, 0, 0, 0), (67, .irem, 1, 0, 0, 0), (68, .iadd, 1, 0, 0, 0), (69, .iaload, 1, 0, 0, 0), (70, .ireturn, 1, 0, 0, 0)], [])
def zm_85 : zM := (⟨"NestedPager$Vcpu", "noteFault", "(II)I"⟩, prog_11_method_8_code, 3, (some (.int)), (0, 0, 0, 0), (0, 9, 2, 0, 0, 0), [(0, .aload_n 0, 1, 0, 0, 0), (1, .getfield 15, 3, 9, 2, 0), (4, .bipush 17, 2, 0, 0, 0), (6, .iload_n 1, 1, 0, 0, 0), (7, .iastore, 1, 0, 0, 0), (8, .aload_n 0, 1, 0, 0, 0), (9, .getfield 15, 3, 9, 2, 0), (12, .bipush 18, 2, 0, 0, 0), (14, .iload_n 2, 1, 0, 0, 0), (15, .iastore, 1, 0, 0, 0), (16, .bipush (-2), 2, 0, 0, 0), (18, .ireturn, 1, 0, 0, 0)], [])
def zm_86 : zM := (⟨"NestedPager$Translator", "fault", "(LNestedPager$Vcpu;III)I"⟩, prog_10_method_10_code, 5, (some (.int)), (1, 22, 0, 0), (1, 8, 4, 0, 0, 0), [(0, .iload_n 3, 1, 0, 0, 0), (1, .iload_n 1, 1, 0, 0, 0), (2, .iconst 1, 1, 0, 0, 0), (3, .if_icmp .ne 7, 3, 0, 0, 0), (6, .iconst 2, 1, 0, 0, 0), (7, .goto 4, 3, 0, 0, 0), (10, .iconst 0, 1, 0, 0, 0), (11, .ior, 1, 0, 0, 0), (12, .aload_n 0, 1, 0, 0, 0), (13, .invokevirtual 125, 3, 69, 0, 0), (16, .ifCond .eq 7, 3, 0, 0, 0), (19, .iconst 4, 1, 0, 0, 0), (20, .goto 4, 3, 0, 0, 0), (23, .iconst 0, 1, 0, 0, 0), (24, .ior, 1, 0, 0, 0), (25, .iload_n 1, 1, 0, 0, 0), (26, .iconst 2, 1, 0, 0, 0), (27, .if_icmp .ne 8, 3, 0, 0, 0), (30, .bipush 16, 2, 0, 0, 0), (32, .goto 4, 3, 0, 0, 0), (35, .iconst 0, 1, 0, 0, 0), (36, .ior, 1, 0, 0, 0), (37, .istore 4, 2, 0, 0, 0), (39, .aload_n 0, 1, 0, 0, 0), (40, .iload 4, 2, 0, 0, 0), (42, .iload_n 2, 1, 0, 0, 0), (43, .invokevirtual 129, 3, 85, 0, 2), (46, .ireturn, 1, 0, 0, 0)], [])
def zm_87 : zM := (⟨"NestedPager$Translator", "rightsOf", "(II)I"⟩, prog_10_method_7_code, 4, (some (.int)), (0, 0, 0, 0), (1, 8, 2, 0, 0, 0), [(0, .iload_n 0, 1, 0, 0, 0), (1, .iload_n 1, 1, 0, 0, 0), (2, .iand, 1, 0, 0, 0), (3, .istore_n 2, 1, 0, 0, 0), (4, .iload_n 0, 1, 0, 0, 0), (5, .iload_n 1, 1, 0, 0, 0), (6, .ior, 1, 0, 0, 0), (7, .istore_n 3, 1, 0, 0, 0), (8, .iload_n 2, 1, 0, 0, 0), (9, .iconst 2, 1, 0, 0, 0), (10, .iand, 1, 0, 0, 0), (11, .ifCond .eq 7, 3, 0, 0, 0), (14, .iconst 1, 1, 0, 0, 0), (15, .goto 4, 3, 0, 0, 0), (18, .iconst 0, 1, 0, 0, 0), (19, .iload_n 2, 1, 0, 0, 0), (20, .iconst 4, 1, 0, 0, 0), (21, .iand, 1, 0, 0, 0), (22, .ifCond .eq 7, 3, 0, 0, 0), (25, .iconst 2, 1, 0, 0, 0), (26, .goto 4, 3, 0, 0, 0), (29, .iconst 0, 1, 0, 0, 0), (30, .ior, 1, 0, 0, 0), (31, .iload_n 3, 1, 0, 0, 0), (32, .bipush 8, 2, 0, 0, 0), (34, .iand, 1, 0, 0, 0), (35, .ifCond .eq 7, 3, 0, 0, 0), (38, .iconst 4, 1, 0, 0, 0), (39, .goto 4, 3, 0, 0, 0), (42, .iconst 0, 1, 0, 0, 0), (43, .ior, 1, 0, 0, 0), (44, .ireturn, 1, 0, 0, 0)], [])
def zm_88 : zM := (⟨"NestedPager$Translator", "markEntry", "(LNestedPager$Vcpu;IIIII)Z"⟩, prog_10_method_6_code, 8, (some (.boolean)), (3, 79, 0, 0), (0, 8, 6, 0, 0, 0), [(0, .iload 5, 2, 0, 0, 0), (2, .iload 6, 2, 0, 0, 0), (4, .iand, 1, 0, 0, 0), (5, .iload 6, 2, 0, 0, 0), (7, .if_icmp .ne 5, 3, 0, 0, 0), (10, .iconst 1, 1, 0, 0, 0), (11, .ireturn, 1, 0, 0, 0), (12, .aload_n 0, 1, 0, 0, 0), (13, .getfield 9, 3, 8, 0, 0), (16, .aload_n 0, 1, 0, 0, 0), (17, .getfield 15, 3, 8, 1, 0), (20, .aload_n 1, 1, 0, 0, 0), (21, .invokevirtual 32, 3, 63, 0, 1), (24, .iload 4, 2, 0, 0, 0), (26, .bipush 16, 2, 0, 0, 0), (28, .idiv, 1, 0, 0, 0), (29, .iconst 1, 1, 0, 0, 0), (30, .invokestatic 49, 3, 74, 0, 1), (33, .iconst 1, 1, 0, 0, 0), (34, .invokestatic 55, 3, 75, 0, 1), (37, .invokevirtual 58, 3, 83, 0, 4), (40, .istore 7, 2, 0, 0, 0), (42, .iload 7, 2, 0, 0, 0), (44, .ifCond .ge 18, 3, 0, 0, 0), (47, .aload_n 1, 1, 0, 0, 0), (48, .iload 7, 2, 0, 0, 0), (50, .ineg, 1, 0, 0, 0), (51, .iload 4, 2, 0, 0, 0), (53, .iload_n 3, 1, 0, 0, 0), (54, .iload_n 2, 1, 0, 0, 0), (55, .iconst 1, 1, 0, 0, 0), (56, .invokevirtual 62, 3, 45, 0, 5), (59, .pop, 1, 0, 0, 0), (60, .iconst 0, 1, 0, 0, 0), (61, .ireturn, 1, 0, 0, 0), (62, .aload_n 0, 1, 0, 0, 0), (63, .getfield 9, 3, 8, 0, 0), (66, .getfield 66, 3, 6, 0, 0), (69, .getfield 70, 3, 5, 0, 0), (72, .iload 7, 2, 0, 0, 0), (74, .bipush 16, 2, 0, 0, 0), (76, .imul, 1, 0, 0, 0), (77, .iload 4, 2, 0, 0, 0), (79, .bipush 16, 2, 0, 0, 0), (81, .irem, 1, 0, 0, 0), (82, .iadd, 1, 0, 0, 0), (83, .dup2, 1, 0, 0, 0), (84, .iaload, 1, 0, 0, 0), (85, .iload 6, 2, 0, 0, 0), (87, .ior, 1, 0, 0, 0), (88, .iastore, 1, 0, 0, 0), (89, .iconst 1, 1, 0, 0, 0), (90, .ireturn, 1, 0, 0, 0)], [])
def zm_89 : zM := (⟨"NestedPager$Translator", "natureOf", "(IZ)I"⟩, prog_10_method_8_code, 2, (some (.int)), (0, 0, 0, 0), (1, 8, 2, 0, 0, 0), [(0, .iload_n 0, 1, 0, 0, 0), (1, .bipush 32, 2, 0, 0, 0), (3, .iand, 1, 0, 0, 0), (4, .ifCond .eq 8, 3, 0, 0, 0), (7, .bipush 8, 2, 0, 0, 0), (9, .goto 4, 3, 0, 0, 0), (12, .iconst 0, 1, 0, 0, 0), (13, .iload_n 0, 1, 0, 0, 0), (14, .sipush 128, 3, 0, 0, 0), (17, .iand, 1, 0, 0, 0), (18, .ifCond .eq 8, 3, 0, 0, 0), (21, .bipush 16, 2, 0, 0, 0), (23, .goto 4, 3, 0, 0, 0), (26, .iconst 0, 1, 0, 0, 0), (27, .ior, 1, 0, 0, 0), (28, .iload_n 1, 1, 0, 0, 0), (29, .ifCond .eq 8, 3, 0, 0, 0), (32, .bipush 32, 2, 0, 0, 0), (34, .goto 4, 3, 0, 0, 0), (37, .iconst 0, 1, 0, 0, 0), (38, .ior, 1, 0, 0, 0), (39, .ireturn, 1, 0, 0, 0)], [])
def zm_90 : zM := (⟨"NestedPager$LookAside", "tell", "(IIII)V"⟩, prog_5_method_7_code, 5, none, (0, 0, 0, 0), (0, 3, 4, 0, 0, 0), [(0, .aload_n 0, 1, 0, 0, 0), (1, .getfield 11, 3, 3, 0, 0), (4, .aload_n 0, 1, 0, 0, 0), (5, .getfield 28, 3, 3, 5, 0), (8, .iconst 1, 1, 0, 0, 0), (9, .bastore, 1, 0, 0, 0), (10, .aload_n 0, 1, 0, 0, 0), (11, .getfield 15, 3, 3, 1, 0), (14, .aload_n 0, 1, 0, 0, 0), (15, .getfield 28, 3, 3, 5, 0), (18, .iload_n 1, 1, 0, 0, 0), (19, .iastore, 1, 0, 0, 0), (20, .aload_n 0, 1, 0, 0, 0), (21, .getfield 19, 3, 3, 2, 0), (24, .aload_n 0, 1, 0, 0, 0), (25, .getfield 28, 3, 3, 5, 0), (28, .iload_n 2, 1, 0, 0, 0), (29, .iastore, 1, 0, 0, 0), (30, .aload_n 0, 1, 0, 0, 0), (31, .getfield 22, 3, 3, 3, 0), (34, .aload_n 0, 1, 0, 0, 0), (35, .getfield 28, 3, 3, 5, 0), (38, .iload_n 3, 1, 0, 0, 0), (39, .iastore, 1, 0, 0, 0), (40, .aload_n 0, 1, 0, 0, 0), (41, .getfield 25, 3, 3, 4, 0), (44, .aload_n 0, 1, 0, 0, 0), (45, .getfield 28, 3, 3, 5, 0), (48, .iload 4, 2, 0, 0, 0), (50, .iastore, 1, 0, 0, 0), (51, .aload_n 0, 1, 0, 0, 0), (52, .aload_n 0, 1, 0, 0, 0), (53, .getfield 28, 3, 3, 5, 0), (56, .iconst 1, 1, 0, 0, 0), (57, .iadd, 1, 0, 0, 0), (58, .bipush 8, 2, 0, 0, 0), (60, .irem, 1, 0, 0, 0), (61, .putfield 28, 3, 3, 5, 0), (64, .return_, 1, 0, 0, 0)], [])
def zm_91 : zM := (⟨"NestedPager$Translator", "walk", "(LNestedPager$Vcpu;II)I"⟩, prog_10_method_4_code, 12, (some (.int)), (4, 106, 0, 0), (0, 8, 3, 0, 0, 0), [(0, .aload_n 1, 1, 0, 0, 0), (1, .getfield 80, 3, 9, 2, 0), (4, .iconst 5, 1, 0, 0, 0), (5, .iaload, 1, 0, 0, 0), (6, .bipush 16, 2, 0, 0, 0), (8, .imul, 1, 0, 0, 0), (9, .iload_n 3, 1, 0, 0, 0), (10, .sipush 256, 3, 0, 0, 0), (13, .idiv, 1, 0, 0, 0), (14, .iadd, 1, 0, 0, 0), (15, .istore 4, 2, 0, 0, 0), (17, .aload_n 0, 1, 0, 0, 0), (18, .aload_n 1, 1, 0, 0, 0), (19, .iload_n 2, 1, 0, 0, 0), (20, .iload_n 3, 1, 0, 0, 0), (21, .iload 4, 2, 0, 0, 0), (23, .invokevirtual 103, 3, 84, 0, 4), (26, .istore 5, 2, 0, 0, 0), (28, .iload 5, 2, 0, 0, 0), (30, .ifCond .ge 6, 3, 0, 0, 0), (33, .iload 5, 2, 0, 0, 0), (35, .ireturn, 1, 0, 0, 0), (36, .iload 5, 2, 0, 0, 0), (38, .iconst 1, 1, 0, 0, 0), (39, .iand, 1, 0, 0, 0), (40, .ifCond .ne 11, 3, 0, 0, 0), (43, .aload_n 1, 1, 0, 0, 0), (44, .iload_n 2, 1, 0, 0, 0), (45, .iload_n 3, 1, 0, 0, 0), (46, .iconst 0, 1, 0, 0, 0), (47, .invokestatic 107, 3, 86, 0, 4), (50, .ireturn, 1, 0, 0, 0), (51, .iload 5, 2, 0, 0, 0), (53, .bipush 64, 2, 0, 0, 0), (55, .iand, 1, 0, 0, 0), (56, .ifCond .eq 7, 3, 0, 0, 0), (59, .iconst 1, 1, 0, 0, 0), (60, .goto 4, 3, 0, 0, 0), (63, .iconst 0, 1, 0, 0, 0), (64, .istore 6, 2, 0, 0, 0), (66, .iload 6, 2, 0, 0, 0), (68, .ifCond .eq 24, 3, 0, 0, 0), (71, .iload 5, 2, 0, 0, 0), (73, .sipush 256, 3, 0, 0, 0), (76, .idiv, 1, 0, 0, 0), (77, .bipush 16, 2, 0, 0, 0), (79, .irem, 1, 0, 0, 0), (80, .ifCond .eq 12, 3, 0, 0, 0), (83, .aload_n 1, 1, 0, 0, 0), (84, .iload_n 2, 1, 0, 0, 0), (85, .iload_n 3, 1, 0, 0, 0), (86, .bipush 9, 2, 0, 0, 0), (88, .invokestatic 107, 3, 86, 0, 4), (91, .ireturn, 1, 0, 0, 0), (92, .iload 6, 2, 0, 0, 0), (94, .ifCond .eq 8, 3, 0, 0, 0), (97, .iload 4, 2, 0, 0, 0), (99, .goto 20, 3, 0, 0, 0), (102, .iload 5, 2, 0, 0, 0), (104, .sipush 256, 3, 0, 0, 0), (107, .idiv, 1, 0, 0, 0), (108, .bipush 16, 2, 0, 0, 0), (110, .imul, 1, 0, 0, 0), (111, .iload_n 3, 1, 0, 0, 0), (112, .bipush 16, 2, 0, 0, 0), (114, .idiv, 1, 0, 0, 0), (115, .bipush 16, 2, 0, 0, 0), (117, .irem, 1, 0, 0, 0), (118, .iadd, 1, 0, 0, 0), (119, .istore 7, 2, 0, 0, 0), (121, .iload 6, 2, 0, 0, 0), (123, .ifCond .eq 8, 3, 0, 0, 0), (126, .iload 5, 2, 0, 0, 0), (128, .goto 12, 3, 0, 0, 0), (131, .aload_n 0, 1, 0, 0, 0), (132, .aload_n 1, 1, 0, 0, 0), (133, .iload_n 2, 1, 0, 0, 0), (134, .iload_n 3, 1, 0, 0, 0), (135, .iload 7, 2, 0, 0, 0), (137, .invokevirtual 103, 3, 84, 0, 4), (140, .istore 8, 2, 0, 0, 0), (142, .iload 8, 2, 0, 0, 0), (144, .ifCond .ge 6, 3, 0, 0, 0), (147, .iload 8, 2, 0, 0, 0), (149, .ireturn, 1, 0, 0, 0), (150, .iload 8, 2, 0, 0, 0), (152, .iconst 1, 1, 0, 0, 0), (153, .iand, 1, 0, 0, 0), (154, .ifCond .ne 11, 3, 0, 0, 0), (157, .aload_n 1, 1, 0, 0, 0), (158, .iload_n 2, 1, 0, 0, 0), (159, .iload_n 3, 1, 0, 0, 0), (160, .iconst 0, 1, 0, 0, 0), (161, .invokestatic 107, 3, 86, 0, 4), (164, .ireturn, 1, 0, 0, 0), (165, .iload 5, 2, 0, 0, 0), (167, .iload 8, 2, 0, 0, 0), (169, .invokestatic 110, 3, 87, 0, 2), (172, .istore 9, 2, 0, 0, 0), (174, .aload_n 1, 1, 0, 0, 0), (175, .iload_n 2, 1, 0, 0, 0), (176, .iload 9, 2, 0, 0, 0), (178, .invokestatic 92, 3, 70, 0, 3), (181, .ifCond .ne 11, 3, 0, 0, 0), (184, .aload_n 1, 1, 0, 0, 0), (185, .iload_n 2, 1, 0, 0, 0), (186, .iload_n 3, 1, 0, 0, 0), (187, .iconst 1, 1, 0, 0, 0), (188, .invokestatic 107, 3, 86, 0, 4), (191, .ireturn, 1, 0, 0, 0), (192, .iload_n 2, 1, 0, 0, 0), (193, .iconst 1, 1, 0, 0, 0), (194, .if_icmp .ne 8, 3, 0, 0, 0), (197, .bipush 48, 2, 0, 0, 0), (199, .goto 5, 3, 0, 0, 0), (202, .bipush 16, 2, 0, 0, 0), (204, .istore 10, 2, 0, 0, 0), (206, .iload 6, 2, 0, 0, 0), (208, .ifCond .ne 22, 3, 0, 0, 0), (211, .aload_n 0, 1, 0, 0, 0), (212, .aload_n 1, 1, 0, 0, 0), (213, .iload_n 2, 1, 0, 0, 0), (214, .iload_n 3, 1, 0, 0, 0), (215, .iload 4, 2, 0, 0, 0), (217, .iload 5, 2, 0, 0, 0), (219, .bipush 16, 2, 0, 0, 0), (221, .invokevirtual 113, 3, 88, 0, 6), (224, .ifCond .ne 6, 3, 0, 0, 0), (227, .bipush (-3), 2, 0, 0, 0), (229, .ireturn, 1, 0, 0, 0), (230, .aload_n 0, 1, 0, 0, 0), (231, .aload_n 1, 1, 0, 0, 0), (232, .iload_n 2, 1, 0, 0, 0), (233, .iload_n 3, 1, 0, 0, 0), (234, .iload 7, 2, 0, 0, 0), (236, .iload 8, 2, 0, 0, 0), (238, .iload 10, 2, 0, 0, 0), (240, .invokevirtual 113, 3, 88, 0, 6), (243, .ifCond .ne 6, 3, 0, 0, 0), (246, .bipush (-3), 2, 0, 0, 0), (248, .ireturn, 1, 0, 0, 0), (249, .iload 9, 2, 0, 0, 0), (251, .iload 8, 2, 0, 0, 0), (253, .iload 10, 2, 0, 0, 0), (255, .ior, 1, 0, 0, 0), (256, .iload 6, 2, 0, 0, 0), (258, .invokestatic 117, 3, 89, 0, 2), (261, .ior, 1, 0, 0, 0), (262, .istore 9, 2, 0, 0, 0), (264, .iload 8, 2, 0, 0, 0), (266, .sipush 256, 3, 0, 0, 0), (269, .idiv, 1, 0, 0, 0), (270, .istore 11, 2, 0, 0, 0), (272, .aload_n 1, 1, 0, 0, 0), (273, .getfield 76, 3, 9, 4, 0), (276, .iload 6, 2, 0, 0, 0), (278, .ifCond .eq 11, 3, 0, 0, 0), (281, .iload_n 3, 1, 0, 0, 0), (282, .sipush 256, 3, 0, 0, 0), (285, .idiv, 1, 0, 0, 0), (286, .goto 7, 3, 0, 0, 0), (289, .iload_n 3, 1, 0, 0, 0), (290, .bipush 16, 2, 0, 0, 0), (292, .idiv, 1, 0, 0, 0), (293, .iload 11, 2, 0, 0, 0), (295, .iload 9, 2, 0, 0, 0), (297, .aload_n 1, 1, 0, 0, 0), (298, .getfield 80, 3, 9, 2, 0), (301, .bipush 6, 2, 0, 0, 0), (303, .iaload, 1, 0, 0, 0), (304, .invokevirtual 121, 3, 90, 0, 4), (307, .iload 6, 2, 0, 0, 0), (309, .ifCond .eq 16, 3, 0, 0, 0), (312, .iload 11, 2, 0, 0, 0), (314, .iload_n 3, 1, 0, 0, 0), (315, .bipush 16, 2, 0, 0, 0), (317, .idiv, 1, 0, 0, 0), (318, .bipush 16, 2, 0, 0, 0), (320, .irem, 1, 0, 0, 0), (321, .iadd, 1, 0, 0, 0), (322, .goto 5, 3, 0, 0, 0), (325, .iload 11, 2, 0, 0, 0), (327, .ireturn, 1, 0, 0, 0)], [])
def zm_92 : zM := (⟨"NestedPager$Disk", "wordShown", "(I)I"⟩, prog_3_method_3_code, 2, (some (.int)), (0, 0, 0, 0), (0, 1, 1, 0, 0, 0), [(0, .iload_n 1, 1, 0, 0, 0), (1, .tableswitch 46 0 3 #[31, 36, 46, 41], 31, 0, 0, 0), (32, .aload_n 0, 1, 0, 0, 0), (33, .getfield 15, 3, 1, 1, 0), (36, .ireturn, 1, 0, 0, 0), (37, .aload_n 0, 1, 0, 0, 0), (38, .getfield 19, 3, 1, 2, 0), (41, .ireturn, 1, 0, 0, 0), (42, .aload_n 0, 1, 0, 0, 0), (43, .getfield 22, 3, 1, 3, 0), (46, .ireturn, 1, 0, 0, 0), (47, .iconst 0, 1, 0, 0, 0), (48, .ireturn, 1, 0, 0, 0)], [])
def zm_93 : zM := (⟨"NestedPager$Mails", "take", "()I"⟩, prog_6_method_3_code, 3, (some (.int)), (0, 0, 0, 0), (0, 4, 0, 0, 0, 0), [(0, .aload_n 0, 1, 0, 0, 0), (1, .getfield 13, 3, 4, 1, 0), (4, .ifCond .ne 5, 3, 0, 0, 0), (7, .iconst 0, 1, 0, 0, 0), (8, .ireturn, 1, 0, 0, 0), (9, .aload_n 0, 1, 0, 0, 0), (10, .getfield 9, 3, 4, 0, 0), (13, .iconst 0, 1, 0, 0, 0), (14, .iaload, 1, 0, 0, 0), (15, .istore_n 1, 1, 0, 0, 0), (16, .aload_n 0, 1, 0, 0, 0), (17, .dup, 1, 0, 0, 0), (18, .getfield 13, 3, 4, 1, 0), (21, .iconst 1, 1, 0, 0, 0), (22, .isub, 1, 0, 0, 0), (23, .putfield 13, 3, 4, 1, 0), (26, .iconst 0, 1, 0, 0, 0), (27, .istore_n 2, 1, 0, 0, 0), (28, .iload_n 2, 1, 0, 0, 0), (29, .aload_n 0, 1, 0, 0, 0), (30, .getfield 13, 3, 4, 1, 0), (33, .if_icmp .ge 23, 3, 0, 0, 0), (36, .aload_n 0, 1, 0, 0, 0), (37, .getfield 9, 3, 4, 0, 0), (40, .iload_n 2, 1, 0, 0, 0), (41, .aload_n 0, 1, 0, 0, 0), (42, .getfield 9, 3, 4, 0, 0), (45, .iload_n 2, 1, 0, 0, 0), (46, .iconst 1, 1, 0, 0, 0), (47, .iadd, 1, 0, 0, 0), (48, .iaload, 1, 0, 0, 0), (49, .iastore, 1, 0, 0, 0), (50, .iinc 2 1, 3, 0, 0, 0), (53, .goto (-25), 3, 0, 0, 0), (56, .iload_n 1, 1, 0, 0, 0), (57, .ireturn, 1, 0, 0, 0)], [])
def zm_94 : zM := (⟨"NestedPager$Devices", "readWord", "(LNestedPager$Guest;II)I"⟩, prog_2_method_7_code, 4, (some (.int)), (1, 22, 0, 0), (0, 0, 3, 0, 0, 0), [(0, .iload_n 2, 1, 0, 0, 0), (1, .tableswitch 82 240 242 #[27, 45, 73], 27, 0, 0, 0), (28, .iload_n 3, 1, 0, 0, 0), (29, .ifCond .ne 15, 3, 0, 0, 0), (32, .aload_n 1, 1, 0, 0, 0), (33, .getfield 56, 3, 2, 10, 0), (36, .ldc 59, 2, 65535, 0, 0), (38, .invokestatic 60, 3, 0, 3, 0), (41, .goto 4, 3, 0, 0, 0), (44, .iconst 0, 1, 0, 0, 0), (45, .ireturn, 1, 0, 0, 0), (46, .iload_n 3, 1, 0, 0, 0), (47, .ifCond .ne 13, 3, 0, 0, 0), (50, .aload_n 1, 1, 0, 0, 0), (51, .getfield 40, 3, 2, 7, 0), (54, .ldc 66, 2, 65536, 0, 0), (56, .irem, 1, 0, 0, 0), (57, .goto 16, 3, 0, 0, 0), (60, .iload_n 3, 1, 0, 0, 0), (61, .iconst 1, 1, 0, 0, 0), (62, .if_icmp .ne 10, 3, 0, 0, 0), (65, .aload_n 1, 1, 0, 0, 0), (66, .getfield 44, 3, 2, 8, 0), (69, .goto 4, 3, 0, 0, 0), (72, .iconst 0, 1, 0, 0, 0), (73, .ireturn, 1, 0, 0, 0), (74, .aload_n 1, 1, 0, 0, 0), (75, .getfield 67, 3, 2, 12, 0), (78, .iload_n 3, 1, 0, 0, 0), (79, .invokevirtual 71, 3, 92, 0, 1), (82, .ireturn, 1, 0, 0, 0), (83, .iload_n 3, 1, 0, 0, 0), (84, .iconst 4, 1, 0, 0, 0), (85, .if_icmp .ne 13, 3, 0, 0, 0), (88, .aload_n 1, 1, 0, 0, 0), (89, .getfield 77, 3, 2, 13, 0), (92, .invokevirtual 81, 3, 93, 0, 0), (95, .goto 19, 3, 0, 0, 0), (98, .iload_n 3, 1, 0, 0, 0), (99, .iconst 5, 1, 0, 0, 0), (100, .if_icmp .ne 13, 3, 0, 0, 0), (103, .aload_n 1, 1, 0, 0, 0), (104, .getfield 77, 3, 2, 13, 0), (107, .getfield 87, 3, 4, 1, 0), (110, .goto 4, 3, 0, 0, 0), (113, .iconst 0, 1, 0, 0, 0), (114, .ireturn, 1, 0, 0, 0)], [])
def zm_95 : zM := (⟨"NestedPager$Guest", "print", "(I)V"⟩, prog_4_method_3_code, 2, none, (0, 0, 0, 0), (0, 2, 1, 0, 0, 0), [(0, .aload_n 0, 1, 0, 0, 0), (1, .getfield 61, 3, 2, 10, 0), (4, .sipush 200, 3, 0, 0, 0), (7, .if_icmp .ge 17, 3, 0, 0, 0), (10, .aload_n 0, 1, 0, 0, 0), (11, .getfield 15, 3, 2, 11, 0), (14, .aload_n 0, 1, 0, 0, 0), (15, .getfield 61, 3, 2, 10, 0), (18, .iload_n 1, 1, 0, 0, 0), (19, .sipush 256, 3, 0, 0, 0), (22, .irem, 1, 0, 0, 0), (23, .iastore, 1, 0, 0, 0), (24, .aload_n 0, 1, 0, 0, 0), (25, .dup, 1, 0, 0, 0), (26, .getfield 61, 3, 2, 10, 0), (29, .iconst 1, 1, 0, 0, 0), (30, .iadd, 1, 0, 0, 0), (31, .putfield 61, 3, 2, 10, 0), (34, .return_, 1, 0, 0, 0)], [])
def zm_96 : zM := (⟨"NestedPager$Devices", "transfer", "(LNestedPager$Disk;II)V"⟩, prog_2_method_11_code, 6, none, (0, 0, 0, 0), (0, 0, 3, 0, 0, 0), [(0, .aload_n 0, 1, 0, 0, 0), (1, .getfield 9, 3, 0, 0, 0), (4, .getfield 139, 3, 6, 0, 0), (7, .getfield 143, 3, 5, 0, 0), (10, .astore 4, 2, 0, 0, 0), (12, .iconst 0, 1, 0, 0, 0), (13, .istore 5, 2, 0, 0, 0), (15, .iload 5, 2, 0, 0, 0), (17, .bipush 16, 2, 0, 0, 0), (19, .if_icmp .ge 67, 3, 0, 0, 0), (22, .iload_n 2, 1, 0, 0, 0), (23, .iconst 1, 1, 0, 0, 0), (24, .if_icmp .ne 31, 3, 0, 0, 0), (27, .aload 4, 2, 0, 0, 0), (29, .iload_n 3, 1, 0, 0, 0), (30, .bipush 16, 2, 0, 0, 0), (32, .imul, 1, 0, 0, 0), (33, .iload 5, 2, 0, 0, 0), (35, .iadd, 1, 0, 0, 0), (36, .aload_n 1, 1, 0, 0, 0), (37, .getfield 148, 3, 1, 0, 0), (40, .aload_n 1, 1, 0, 0, 0), (41, .getfield 110, 3, 1, 1, 0), (44, .bipush 16, 2, 0, 0, 0), (46, .imul, 1, 0, 0, 0), (47, .iload 5, 2, 0, 0, 0), (49, .iadd, 1, 0, 0, 0), (50, .iaload, 1, 0, 0, 0), (51, .iastore, 1, 0, 0, 0), (52, .goto 28, 3, 0, 0, 0), (55, .aload_n 1, 1, 0, 0, 0), (56, .getfield 148, 3, 1, 0, 0), (59, .aload_n 1, 1, 0, 0, 0), (60, .getfield 110, 3, 1, 1, 0), (63, .bipush 16, 2, 0, 0, 0), (65, .imul, 1, 0, 0, 0), (66, .iload 5, 2, 0, 0, 0), (68, .iadd, 1, 0, 0, 0), (69, .aload 4, 2, 0, 0, 0), (71, .iload_n 3, 1, 0, 0, 0), (72, .bipush 16, 2, 0, 0, 0), (74, .imul, 1, 0, 0, 0), (75, .iload 5, 2, 0, 0, 0), (77, .iadd, 1, 0, 0, 0), (78, .iaload, 1, 0, 0, 0), (79, .iastore, 1, 0, 0, 0), (80, .iinc 5 1, 3, 0, 0, 0), (83, .goto (-68), 3, 0, 0, 0), (86, .return_, 1, 0, 0, 0)], [])
def zm_97 : zM := (⟨"NestedPager$Devices", "writeDisk", "(LNestedPager$Guest;II)V"⟩, prog_2_method_10_code, 7, none, (3, 79, 0, 0), (0, 0, 3, 0, 0, 0), [(0, .aload_n 1, 1, 0, 0, 0), (1, .getfield 67, 3, 2, 12, 0), (4, .astore 4, 2, 0, 0, 0), (6, .iload_n 2, 1, 0, 0, 0), (7, .ifCond .ne 15, 3, 0, 0, 0), (10, .aload 4, 2, 0, 0, 0), (12, .iload_n 3, 1, 0, 0, 0), (13, .bipush 16, 2, 0, 0, 0), (15, .irem, 1, 0, 0, 0), (16, .putfield 110, 3, 1, 1, 0), (19, .goto 103, 3, 0, 0, 0), (22, .iload_n 2, 1, 0, 0, 0), (23, .iconst 1, 1, 0, 0, 0), (24, .if_icmp .ne 16, 3, 0, 0, 0), (27, .aload 4, 2, 0, 0, 0), (29, .iload_n 3, 1, 0, 0, 0), (30, .sipush 256, 3, 0, 0, 0), (33, .irem, 1, 0, 0, 0), (34, .putfield 113, 3, 1, 2, 0), (37, .goto 85, 3, 0, 0, 0), (40, .iload_n 2, 1, 0, 0, 0), (41, .iconst 2, 1, 0, 0, 0), (42, .if_icmp .ne 80, 3, 0, 0, 0), (45, .iload_n 3, 1, 0, 0, 0), (46, .iconst 1, 1, 0, 0, 0), (47, .iconst 2, 1, 0, 0, 0), (48, .invokestatic 116, 3, 12, 1, 3), (51, .ifCond .eq 71, 3, 0, 0, 0), (54, .iload_n 3, 1, 0, 0, 0), (55, .iconst 1, 1, 0, 0, 0), (56, .if_icmp .ne 7, 3, 0, 0, 0), (59, .iconst 1, 1, 0, 0, 0), (60, .goto 4, 3, 0, 0, 0), (63, .iconst 0, 1, 0, 0, 0), (64, .istore 5, 2, 0, 0, 0), (66, .aload_n 0, 1, 0, 0, 0), (67, .getfield 9, 3, 0, 0, 0), (70, .aload_n 1, 1, 0, 0, 0), (71, .aload 4, 2, 0, 0, 0), (73, .getfield 113, 3, 1, 2, 0), (76, .iload 5, 2, 0, 0, 0), (78, .invokestatic 120, 3, 74, 0, 1), (81, .iload 5, 2, 0, 0, 0), (83, .invokestatic 125, 3, 75, 0, 1), (86, .invokevirtual 128, 3, 83, 0, 4), (89, .istore 6, 2, 0, 0, 0), (91, .aload 4, 2, 0, 0, 0), (93, .iload 6, 2, 0, 0, 0), (95, .ifCond .ge 9, 3, 0, 0, 0), (98, .iload 6, 2, 0, 0, 0), (100, .ineg, 1, 0, 0, 0), (101, .goto 4, 3, 0, 0, 0), (104, .iconst 0, 1, 0, 0, 0), (105, .putfield 132, 3, 1, 3, 0), (108, .iload 6, 2, 0, 0, 0), (110, .ifCond .lt 12, 3, 0, 0, 0), (113, .aload_n 0, 1, 0, 0, 0), (114, .aload 4, 2, 0, 0, 0), (116, .iload_n 3, 1, 0, 0, 0), (117, .iload 6, 2, 0, 0, 0), (119, .invokevirtual 135, 3, 96, 0, 3), (122, .return_, 1, 0, 0, 0)], [])
def zm_98 : zM := (⟨"NestedPager$Mails", "put", "(I)Z"⟩, prog_6_method_2_code, 2, (some (.boolean)), (0, 0, 0, 0), (0, 4, 1, 0, 0, 0), [(0, .aload_n 0, 1, 0, 0, 0), (1, .getfield 13, 3, 4, 1, 0), (4, .bipush 8, 2, 0, 0, 0), (6, .if_icmp .lt 5, 3, 0, 0, 0), (9, .iconst 0, 1, 0, 0, 0), (10, .ireturn, 1, 0, 0, 0), (11, .aload_n 0, 1, 0, 0, 0), (12, .getfield 9, 3, 4, 0, 0), (15, .aload_n 0, 1, 0, 0, 0), (16, .getfield 13, 3, 4, 1, 0), (19, .iload_n 1, 1, 0, 0, 0), (20, .iastore, 1, 0, 0, 0), (21, .aload_n 0, 1, 0, 0, 0), (22, .dup, 1, 0, 0, 0), (23, .getfield 13, 3, 4, 1, 0), (26, .iconst 1, 1, 0, 0, 0), (27, .iadd, 1, 0, 0, 0), (28, .putfield 13, 3, 4, 1, 0), (31, .iconst 1, 1, 0, 0, 0), (32, .ireturn, 1, 0, 0, 0)], [])
def zm_99 : zM := (⟨"NestedPager$Devices", "post", "(II)V"⟩, prog_2_method_9_code, 4, none, (2, 41, 0, 0), (0, 0, 2, 0, 0, 0), [(0, .aload_n 0, 1, 0, 0, 0), (1, .getfield 15, 3, 0, 1, 0), (4, .iload_n 1, 1, 0, 0, 0), (5, .aaload, 1, 0, 0, 0), (6, .getfield 29, 3, 2, 1, 0), (9, .ifCond .eq 55, 3, 0, 0, 0), (12, .aload_n 0, 1, 0, 0, 0), (13, .getfield 15, 3, 0, 1, 0), (16, .iload_n 1, 1, 0, 0, 0), (17, .aaload, 1, 0, 0, 0), (18, .getfield 77, 3, 2, 13, 0), (21, .iload_n 2, 1, 0, 0, 0), (22, .invokevirtual 107, 3, 98, 0, 1), (25, .ifCond .eq 39, 3, 0, 0, 0), (28, .iconst 0, 1, 0, 0, 0), (29, .istore_n 3, 1, 0, 0, 0), (30, .iload_n 3, 1, 0, 0, 0), (31, .bipush 8, 2, 0, 0, 0), (33, .if_icmp .ge 31, 3, 0, 0, 0), (36, .aload_n 0, 1, 0, 0, 0), (37, .getfield 19, 3, 0, 2, 0), (40, .iload_n 3, 1, 0, 0, 0), (41, .aaload, 1, 0, 0, 0), (42, .iload_n 1, 1, 0, 0, 0), (43, .invokevirtual 36, 3, 28, 0, 1), (46, .ifCond .eq 12, 3, 0, 0, 0), (49, .aload_n 0, 1, 0, 0, 0), (50, .getfield 19, 3, 0, 2, 0), (53, .iload_n 3, 1, 0, 0, 0), (54, .aaload, 1, 0, 0, 0), (55, .invokevirtual 53, 3, 64, 0, 0), (58, .iinc 3 1, 3, 0, 0, 0), (61, .goto (-31), 3, 0, 0, 0), (64, .return_, 1, 0, 0, 0)], [])
def zm_100 : zM := (⟨"NestedPager$Devices", "writeWord", "(LNestedPager$Vcpu;III)V"⟩, prog_2_method_8_code, 6, none, (4, 105, 0, 0), (0, 0, 4, 0, 0, 0), [(0, .aload_n 0, 1, 0, 0, 0), (1, .aload_n 1, 1, 0, 0, 0), (2, .invokevirtual 90, 3, 63, 0, 1), (5, .astore 5, 2, 0, 0, 0), (7, .iload_n 2, 1, 0, 0, 0), (8, .sipush 240, 3, 0, 0, 0), (11, .if_icmp .ne 17, 3, 0, 0, 0), (14, .iload_n 3, 1, 0, 0, 0), (15, .ifCond .ne 13, 3, 0, 0, 0), (18, .aload 5, 2, 0, 0, 0), (20, .iload 4, 2, 0, 0, 0), (22, .invokevirtual 94, 3, 95, 0, 1), (25, .goto 72, 3, 0, 0, 0), (28, .iload_n 2, 1, 0, 0, 0), (29, .sipush 241, 3, 0, 0, 0), (32, .if_icmp .ne 27, 3, 0, 0, 0), (35, .iload_n 3, 1, 0, 0, 0), (36, .iconst 1, 1, 0, 0, 0), (37, .if_icmp .ne 22, 3, 0, 0, 0), (40, .aload 5, 2, 0, 0, 0), (42, .iload 4, 2, 0, 0, 0), (44, .putfield 44, 3, 2, 8, 0), (47, .aload 5, 2, 0, 0, 0), (49, .aload_n 1, 1, 0, 0, 0), (50, .getfield 98, 3, 9, 0, 0), (53, .putfield 47, 3, 2, 9, 0), (56, .goto 41, 3, 0, 0, 0), (59, .iload_n 2, 1, 0, 0, 0), (60, .sipush 242, 3, 0, 0, 0), (63, .if_icmp .ne 15, 3, 0, 0, 0), (66, .aload_n 0, 1, 0, 0, 0), (67, .aload 5, 2, 0, 0, 0), (69, .iload_n 3, 1, 0, 0, 0), (70, .iload 4, 2, 0, 0, 0), (72, .invokevirtual 99, 3, 97, 0, 3), (75, .goto 22, 3, 0, 0, 0), (78, .iload_n 2, 1, 0, 0, 0), (79, .sipush 243, 3, 0, 0, 0), (82, .if_icmp .ne 15, 3, 0, 0, 0), (85, .iload_n 3, 1, 0, 0, 0), (86, .iconst 4, 1, 0, 0, 0), (87, .if_icmp .ge 10, 3, 0, 0, 0), (90, .aload_n 0, 1, 0, 0, 0), (91, .iload_n 3, 1, 0, 0, 0), (92, .iload 4, 2, 0, 0, 0), (94, .invokevirtual 103, 3, 99, 0, 2), (97, .return_, 1, 0, 0, 0)], [])
end
section
/-! METHODS, by program -/
def zm_101 : zM := (⟨"NestedPager$Translator", "touch", "(LNestedPager$Vcpu;III)I"⟩, prog_10_method_2_code, 9, (some (.int)), (5, 137, 0, 0), (0, 8, 4, 0, 0, 0), [(0, .iload_n 3, 1, 0, 0, 0), (1, .bipush 16, 2, 0, 0, 0), (3, .idiv, 1, 0, 0, 0), (4, .istore 5, 2, 0, 0, 0), (6, .aload_n 1, 1, 0, 0, 0), (7, .iconst 1, 1, 0, 0, 0), (8, .invokevirtual 21, 3, 66, 0, 1), (11, .ifCond .eq 34, 3, 0, 0, 0), (14, .aload_n 0, 1, 0, 0, 0), (15, .aload_n 1, 1, 0, 0, 0), (16, .iload_n 2, 1, 0, 0, 0), (17, .iload_n 3, 1, 0, 0, 0), (18, .invokevirtual 25, 3, 73, 0, 3), (21, .istore 5, 2, 0, 0, 0), (23, .iload 5, 2, 0, 0, 0), (25, .ifCond .ge 12, 3, 0, 0, 0), (28, .aload_n 0, 1, 0, 0, 0), (29, .aload_n 1, 1, 0, 0, 0), (30, .iload_n 2, 1, 0, 0, 0), (31, .iload_n 3, 1, 0, 0, 0), (32, .invokevirtual 29, 3, 91, 0, 3), (35, .istore 5, 2, 0, 0, 0), (37, .iload 5, 2, 0, 0, 0), (39, .ifCond .ge 6, 3, 0, 0, 0), (42, .iload 5, 2, 0, 0, 0), (44, .ireturn, 1, 0, 0, 0), (45, .iload_n 3, 1, 0, 0, 0), (46, .bipush 16, 2, 0, 0, 0), (48, .irem, 1, 0, 0, 0), (49, .istore 6, 2, 0, 0, 0), (51, .aload_n 0, 1, 0, 0, 0), (52, .getfield 15, 3, 8, 1, 0), (55, .aload_n 1, 1, 0, 0, 0), (56, .invokevirtual 32, 3, 63, 0, 1), (59, .astore 7, 2, 0, 0, 0), (61, .iload 5, 2, 0, 0, 0), (63, .invokestatic 38, 3, 76, 1, 1), (66, .ifCond .eq 21, 3, 0, 0, 0), (69, .iload_n 2, 1, 0, 0, 0), (70, .ifCond .ne 17, 3, 0, 0, 0), (73, .aload_n 0, 1, 0, 0, 0), (74, .getfield 15, 3, 8, 1, 0), (77, .aload 7, 2, 0, 0, 0), (79, .iload 5, 2, 0, 0, 0), (81, .iload 6, 2, 0, 0, 0), (83, .invokevirtual 41, 3, 94, 0, 3), (86, .ireturn, 1, 0, 0, 0), (87, .iload 5, 2, 0, 0, 0), (89, .invokestatic 38, 3, 76, 1, 1), (92, .ifCond .eq 24, 3, 0, 0, 0), (95, .iload_n 2, 1, 0, 0, 0), (96, .iconst 1, 1, 0, 0, 0), (97, .if_icmp .ne 19, 3, 0, 0, 0), (100, .aload_n 0, 1, 0, 0, 0), (101, .getfield 15, 3, 8, 1, 0), (104, .aload_n 1, 1, 0, 0, 0), (105, .iload 5, 2, 0, 0, 0), (107, .iload 6, 2, 0, 0, 0), (109, .iload 4, 2, 0, 0, 0), (111, .invokevirtual 45, 3, 100, 0, 4), (114, .iconst 0, 1, 0, 0, 0), (115, .ireturn, 1, 0, 0, 0), (116, .aload_n 0, 1, 0, 0, 0), (117, .getfield 9, 3, 8, 0, 0), (120, .aload 7, 2, 0, 0, 0), (122, .iload 5, 2, 0, 0, 0), (124, .iload_n 2, 1, 0, 0, 0), (125, .invokestatic 49, 3, 74, 0, 1), (128, .iload_n 2, 1, 0, 0, 0), (129, .invokestatic 55, 3, 75, 0, 1), (132, .invokevirtual 58, 3, 83, 0, 4), (135, .istore 8, 2, 0, 0, 0), (137, .iload 8, 2, 0, 0, 0), (139, .ifCond .ge 22, 3, 0, 0, 0), (142, .aload_n 1, 1, 0, 0, 0), (143, .iload 8, 2, 0, 0, 0), (145, .ineg, 1, 0, 0, 0), (146, .iload 5, 2, 0, 0, 0), (148, .bipush 16, 2, 0, 0, 0), (150, .imul, 1, 0, 0, 0), (151, .iload 6, 2, 0, 0, 0), (153, .iadd, 1, 0, 0, 0), (154, .iload_n 3, 1, 0, 0, 0), (155, .iload_n 2, 1, 0, 0, 0), (156, .iconst 0, 1, 0, 0, 0), (157, .invokevirtual 62, 3, 45, 0, 5), (160, .ireturn, 1, 0, 0, 0), (161, .iload_n 2, 1, 0, 0, 0), (162, .iconst 1, 1, 0, 0, 0), (163, .if_icmp .ne 26, 3, 0, 0, 0), (166, .aload_n 0, 1, 0, 0, 0), (167, .getfield 9, 3, 8, 0, 0), (170, .getfield 66, 3, 6, 0, 0), (173, .getfield 70, 3, 5, 0, 0), (176, .iload 8, 2, 0, 0, 0), (178, .bipush 16, 2, 0, 0, 0), (180, .imul, 1, 0, 0, 0), (181, .iload 6, 2, 0, 0, 0), (183, .iadd, 1, 0, 0, 0), (184, .iload 4, 2, 0, 0, 0), (186, .iastore, 1, 0, 0, 0), (187, .iconst 0, 1, 0, 0, 0), (188, .ireturn, 1, 0, 0, 0), (189, .aload_n 0, 1, 0, 0, 0), (190, .getfield 9, 3, 8, 0, 0), (193, .getfield 66, 3, 6, 0, 0), (196, .getfield 70, 3, 5, 0, 0), (199, .iload 8, 2, 0, 0, 0), (201, .bipush 16, 2, 0, 0, 0), (203, .imul, 1, 0, 0, 0), (204, .iload 6, 2, 0, 0, 0), (206, .iadd, 1, 0, 0, 0), (207, .iaload, 1, 0, 0, 0), (208, .ireturn, 1, 0, 0, 0)], [])
def zm_102 : zM := (⟨"NestedPager", "access", "(IIII)I"⟩, prog_1_method_7_code, 6, (some (.int)), (8, 165, 2, 12), (0, 10, 4, 0, 0, 0), [(0, .iload_n 1, 1, 0, 0, 0), (1, .invokestatic 127, 3, 52, 0, 1), (4, .ifCond .eq 31, 3, 0, 0, 0), (7, .iload_n 2, 1, 0, 0, 0), (8, .iconst 0, 1, 0, 0, 0), (9, .iconst 2, 1, 0, 0, 0), (10, .invokestatic 76, 3, 12, 0, 3), (13, .ifCond .eq 22, 3, 0, 0, 0), (16, .iload_n 3, 1, 0, 0, 0), (17, .invokestatic 140, 3, 61, 0, 1), (20, .ifCond .eq 15, 3, 0, 0, 0), (23, .iload 4, 2, 0, 0, 0), (25, .invokestatic 143, 3, 62, 0, 1), (28, .ifCond .eq 7, 3, 0, 0, 0), (31, .iconst 1, 1, 0, 0, 0), (32, .goto 4, 3, 0, 0, 0), (35, .iconst 0, 1, 0, 0, 0), (36, .invokestatic 80, 3, 13, 0, 1), (39, .aload_n 0, 1, 0, 0, 0), (40, .iload_n 1, 1, 0, 0, 0), (41, .invokevirtual 133, 3, 53, 0, 1), (44, .astore 5, 2, 0, 0, 0), (46, .aload_n 0, 1, 0, 0, 0), (47, .getfield 54, 3, 10, 6, 0), (50, .aload_n 0, 1, 0, 0, 0), (51, .getfield 54, 3, 10, 6, 0), (54, .aload 5, 2, 0, 0, 0), (56, .invokevirtual 146, 3, 63, 0, 1), (59, .invokevirtual 150, 3, 65, 0, 1), (62, .aload_n 0, 1, 0, 0, 0), (63, .getfield 63, 3, 10, 7, 0), (66, .aload 5, 2, 0, 0, 0), (68, .iload_n 2, 1, 0, 0, 0), (69, .iload_n 3, 1, 0, 0, 0), (70, .iload 4, 2, 0, 0, 0), (72, .invokevirtual 154, 3, 101, 0, 4), (75, .ireturn, 1, 0, 0, 0)], [])
def zm_103 : zM := (⟨"NestedPagerLaw", "access", "(LNestedPager;IIII[J)I"⟩, method_8_code, 7, (some (.int)), (9, 190, 2, 12), (1, 99, 6, 0, 0, 0), [(0, .aload 5, 2, 0, 0, 0), (2, .iconst 0, 1, 0, 0, 0), (3, .aload_n 0, 1, 0, 0, 0), (4, .iload_n 1, 1, 0, 0, 0), (5, .iload_n 2, 1, 0, 0, 0), (6, .iload_n 3, 1, 0, 0, 0), (7, .iload 4, 2, 0, 0, 0), (9, .invokevirtual 31, 3, 102, 0, 4), (12, .i2l, 1, 0, 0, 0), (13, .lastore, 1, 0, 0, 0), (14, .goto 11, 3, 0, 0, 0), (17, .astore 6, 2, 0, 0, 0), (19, .iconst 1, 1, 0, 0, 0), (20, .ireturn, 1, 0, 0, 0), (21, .astore 6, 2, 0, 0, 0), (23, .iconst 2, 1, 0, 0, 0), (24, .ireturn, 1, 0, 0, 0), (25, .iconst 0, 1, 0, 0, 0), (26, .ireturn, 1, 0, 0, 0)], [((0), (14), (17), (13)), ((0), (14), (21), (18))])
def zm_104 : zM := (⟨"NestedPagerModel", "happen", "(I)V"⟩, prog_13_method_26_code, 2, none, (1, 23, 0, 0), (0, 11, 1, 0, 0, 0), [(0, .aload_n 0, 1, 0, 0, 0), (1, .iload_n 1, 1, 0, 0, 0), (2, .bipush 13, 2, 0, 0, 0), (4, .sipush 255, 3, 0, 0, 0), (7, .aload_n 0, 1, 0, 0, 0), (8, .iload_n 1, 1, 0, 0, 0), (9, .bipush 13, 2, 0, 0, 0), (11, .invokevirtual 177, 3, 43, 0, 2), (14, .iconst 1, 1, 0, 0, 0), (15, .iadd, 1, 0, 0, 0), (16, .invokestatic 180, 3, 0, 3, 0), (19, .invokevirtual 174, 3, 50, 0, 3), (22, .return_, 1, 0, 0, 0)], [])
def zm_105 : zM := (⟨"NestedPagerModel", "tick", "(I)V"⟩, prog_13_method_27_code, 2, none, (2, 44, 0, 0), (0, 11, 1, 0, 0, 0), [(0, .aload_n 0, 1, 0, 0, 0), (1, .getfield 50, 3, 11, 15, 0), (4, .iload_n 1, 1, 0, 0, 0), (5, .dup2, 1, 0, 0, 0), (6, .iaload, 1, 0, 0, 0), (7, .iconst 1, 1, 0, 0, 0), (8, .iadd, 1, 0, 0, 0), (9, .iastore, 1, 0, 0, 0), (10, .aload_n 0, 1, 0, 0, 0), (11, .getfield 59, 3, 11, 18, 0), (14, .iload_n 1, 1, 0, 0, 0), (15, .iaload, 1, 0, 0, 0), (16, .ifCond .le 62, 3, 0, 0, 0), (19, .aload_n 0, 1, 0, 0, 0), (20, .getfield 59, 3, 11, 18, 0), (23, .iload_n 1, 1, 0, 0, 0), (24, .dup2, 1, 0, 0, 0), (25, .iaload, 1, 0, 0, 0), (26, .iconst 1, 1, 0, 0, 0), (27, .isub, 1, 0, 0, 0), (28, .iastore, 1, 0, 0, 0), (29, .aload_n 0, 1, 0, 0, 0), (30, .getfield 59, 3, 11, 18, 0), (33, .iload_n 1, 1, 0, 0, 0), (34, .iaload, 1, 0, 0, 0), (35, .ifCond .ne 43, 3, 0, 0, 0), (38, .aload_n 0, 1, 0, 0, 0), (39, .getfield 83, 3, 11, 26, 0), (42, .aload_n 0, 1, 0, 0, 0), (43, .getfield 62, 3, 11, 19, 0), (46, .iload_n 1, 1, 0, 0, 0), (47, .iaload, 1, 0, 0, 0), (48, .baload, 1, 0, 0, 0), (49, .ifCond .eq 29, 3, 0, 0, 0), (52, .aload_n 0, 1, 0, 0, 0), (53, .aload_n 0, 1, 0, 0, 0), (54, .getfield 62, 3, 11, 19, 0), (57, .iload_n 1, 1, 0, 0, 0), (58, .iaload, 1, 0, 0, 0), (59, .bipush 16, 2, 0, 0, 0), (61, .invokevirtual 177, 3, 43, 0, 2), (64, .iload_n 1, 1, 0, 0, 0), (65, .if_icmp .ne 13, 3, 0, 0, 0), (68, .aload_n 0, 1, 0, 0, 0), (69, .aload_n 0, 1, 0, 0, 0), (70, .getfield 62, 3, 11, 19, 0), (73, .iload_n 1, 1, 0, 0, 0), (74, .iaload, 1, 0, 0, 0), (75, .invokevirtual 185, 3, 104, 0, 1), (78, .return_, 1, 0, 0, 0)], [])
def zm_106 : zM := (⟨"NestedPagerModel", "fits", "(III)Z"⟩, prog_13_method_28_code, 6, (some (.boolean)), (1, 22, 0, 0), (0, 11, 3, 0, 0, 0), [(0, .bipush 8, 2, 0, 0, 0), (2, .iload_n 1, 1, 0, 0, 0), (3, .imul, 1, 0, 0, 0), (4, .iload_n 2, 1, 0, 0, 0), (5, .iadd, 1, 0, 0, 0), (6, .istore 4, 2, 0, 0, 0), (8, .aload_n 0, 1, 0, 0, 0), (9, .getfield 95, 3, 11, 30, 0), (12, .iload 4, 2, 0, 0, 0), (14, .baload, 1, 0, 0, 0), (15, .ifCond .ne 5, 3, 0, 0, 0), (18, .iconst 0, 1, 0, 0, 0), (19, .ireturn, 1, 0, 0, 0), (20, .aload_n 0, 1, 0, 0, 0), (21, .getfield 107, 3, 11, 34, 0), (24, .iload 4, 2, 0, 0, 0), (26, .iaload, 1, 0, 0, 0), (27, .aload_n 0, 1, 0, 0, 0), (28, .iload_n 1, 1, 0, 0, 0), (29, .bipush 6, 2, 0, 0, 0), (31, .invokevirtual 177, 3, 43, 0, 2), (34, .if_icmp .eq 16, 3, 0, 0, 0), (37, .aload_n 0, 1, 0, 0, 0), (38, .getfield 104, 3, 11, 33, 0), (41, .iload 4, 2, 0, 0, 0), (43, .iaload, 1, 0, 0, 0), (44, .bipush 16, 2, 0, 0, 0), (46, .iand, 1, 0, 0, 0), (47, .ifCond .eq 7, 3, 0, 0, 0), (50, .iconst 1, 1, 0, 0, 0), (51, .goto 4, 3, 0, 0, 0), (54, .iconst 0, 1, 0, 0, 0), (55, .istore 5, 2, 0, 0, 0), (57, .iload 5, 2, 0, 0, 0), (59, .ifCond .eq 48, 3, 0, 0, 0), (62, .aload_n 0, 1, 0, 0, 0), (63, .getfield 104, 3, 11, 33, 0), (66, .iload 4, 2, 0, 0, 0), (68, .iaload, 1, 0, 0, 0), (69, .bipush 32, 2, 0, 0, 0), (71, .iand, 1, 0, 0, 0), (72, .ifCond .eq 20, 3, 0, 0, 0), (75, .aload_n 0, 1, 0, 0, 0), (76, .getfield 98, 3, 11, 31, 0), (79, .iload 4, 2, 0, 0, 0), (81, .iaload, 1, 0, 0, 0), (82, .iload_n 3, 1, 0, 0, 0), (83, .bipush 16, 2, 0, 0, 0), (85, .idiv, 1, 0, 0, 0), (86, .if_icmp .ne 21, 3, 0, 0, 0), (89, .goto 14, 3, 0, 0, 0), (92, .aload_n 0, 1, 0, 0, 0), (93, .getfield 98, 3, 11, 31, 0), (96, .iload 4, 2, 0, 0, 0), (98, .iaload, 1, 0, 0, 0), (99, .iload_n 3, 1, 0, 0, 0), (100, .if_icmp .ne 7, 3, 0, 0, 0), (103, .iconst 1, 1, 0, 0, 0), (104, .goto 4, 3, 0, 0, 0), (107, .iconst 0, 1, 0, 0, 0), (108, .ireturn, 1, 0, 0, 0)], [])
def zm_107 : zM := (⟨"NestedPagerModel", "lets", "(IIZZZ)Z"⟩, prog_13_method_29_code, 6, (some (.boolean)), (1, 22, 0, 0), (0, 11, 5, 0, 0, 0), [(0, .aload_n 0, 1, 0, 0, 0), (1, .iload_n 1, 1, 0, 0, 0), (2, .iconst 3, 1, 0, 0, 0), (3, .invokevirtual 177, 3, 43, 0, 2), (6, .iconst 1, 1, 0, 0, 0), (7, .if_icmp .ne 10, 3, 0, 0, 0), (10, .iload 4, 2, 0, 0, 0), (12, .ifCond .ne 5, 3, 0, 0, 0), (15, .iconst 0, 1, 0, 0, 0), (16, .ireturn, 1, 0, 0, 0), (17, .iload_n 2, 1, 0, 0, 0), (18, .iconst 1, 1, 0, 0, 0), (19, .if_icmp .ne 33, 3, 0, 0, 0), (22, .iload_n 3, 1, 0, 0, 0), (23, .ifCond .ne 23, 3, 0, 0, 0), (26, .aload_n 0, 1, 0, 0, 0), (27, .iload_n 1, 1, 0, 0, 0), (28, .iconst 3, 1, 0, 0, 0), (29, .invokevirtual 177, 3, 43, 0, 2), (32, .ifCond .ne 18, 3, 0, 0, 0), (35, .aload_n 0, 1, 0, 0, 0), (36, .iload_n 1, 1, 0, 0, 0), (37, .iconst 4, 1, 0, 0, 0), (38, .invokevirtual 177, 3, 43, 0, 2), (41, .iconst 2, 1, 0, 0, 0), (42, .iand, 1, 0, 0, 0), (43, .ifCond .ne 7, 3, 0, 0, 0), (46, .iconst 1, 1, 0, 0, 0), (47, .goto 4, 3, 0, 0, 0), (50, .iconst 0, 1, 0, 0, 0), (51, .ireturn, 1, 0, 0, 0), (52, .iload_n 2, 1, 0, 0, 0), (53, .ifCond .eq 8, 3, 0, 0, 0), (56, .iload 5, 2, 0, 0, 0), (58, .ifCond .ne 7, 3, 0, 0, 0), (61, .iconst 1, 1, 0, 0, 0), (62, .goto 4, 3, 0, 0, 0), (65, .iconst 0, 1, 0, 0, 0), (66, .ireturn, 1, 0, 0, 0)], [])
def zm_108 : zM := (⟨"NestedPagerModel", "lookAside", "(III)I"⟩, prog_13_method_30_code, 7, (some (.int)), (2, 47, 0, 0), (0, 11, 3, 0, 0, 0), [(0, .iconst 0, 1, 0, 0, 0), (1, .istore 4, 2, 0, 0, 0), (3, .iload 4, 2, 0, 0, 0), (5, .bipush 8, 2, 0, 0, 0), (7, .if_icmp .ge 137, 3, 0, 0, 0), (10, .aload_n 0, 1, 0, 0, 0), (11, .iload_n 1, 1, 0, 0, 0), (12, .iload 4, 2, 0, 0, 0), (14, .iload_n 3, 1, 0, 0, 0), (15, .invokevirtual 188, 3, 106, 0, 3), (18, .ifCond .eq 120, 3, 0, 0, 0), (21, .bipush 8, 2, 0, 0, 0), (23, .iload_n 1, 1, 0, 0, 0), (24, .imul, 1, 0, 0, 0), (25, .iload 4, 2, 0, 0, 0), (27, .iadd, 1, 0, 0, 0), (28, .istore 5, 2, 0, 0, 0), (30, .aload_n 0, 1, 0, 0, 0), (31, .getfield 104, 3, 11, 33, 0), (34, .iload 5, 2, 0, 0, 0), (36, .iaload, 1, 0, 0, 0), (37, .istore 6, 2, 0, 0, 0), (39, .aload_n 0, 1, 0, 0, 0), (40, .iload_n 1, 1, 0, 0, 0), (41, .iload_n 2, 1, 0, 0, 0), (42, .iload 6, 2, 0, 0, 0), (44, .iconst 1, 1, 0, 0, 0), (45, .iand, 1, 0, 0, 0), (46, .ifCond .eq 7, 3, 0, 0, 0), (49, .iconst 1, 1, 0, 0, 0), (50, .goto 4, 3, 0, 0, 0), (53, .iconst 0, 1, 0, 0, 0), (54, .iload 6, 2, 0, 0, 0), (56, .iconst 2, 1, 0, 0, 0), (57, .iand, 1, 0, 0, 0), (58, .ifCond .eq 7, 3, 0, 0, 0), (61, .iconst 1, 1, 0, 0, 0), (62, .goto 4, 3, 0, 0, 0), (65, .iconst 0, 1, 0, 0, 0), (66, .iload 6, 2, 0, 0, 0), (68, .iconst 4, 1, 0, 0, 0), (69, .iand, 1, 0, 0, 0), (70, .ifCond .eq 7, 3, 0, 0, 0), (73, .iconst 1, 1, 0, 0, 0), (74, .goto 4, 3, 0, 0, 0), (77, .iconst 0, 1, 0, 0, 0), (78, .invokevirtual 191, 3, 107, 0, 5), (81, .ifCond .eq 47, 3, 0, 0, 0), (84, .iload_n 2, 1, 0, 0, 0), (85, .iconst 1, 1, 0, 0, 0), (86, .if_icmp .ne 11, 3, 0, 0, 0), (89, .iload 6, 2, 0, 0, 0), (91, .bipush 8, 2, 0, 0, 0), (93, .iand, 1, 0, 0, 0), (94, .ifCond .eq 34, 3, 0, 0, 0), (97, .iload 6, 2, 0, 0, 0), (99, .bipush 32, 2, 0, 0, 0), (101, .iand, 1, 0, 0, 0), (102, .ifCond .eq 18, 3, 0, 0, 0), (105, .aload_n 0, 1, 0, 0, 0), (106, .getfield 101, 3, 11, 32, 0), (109, .iload 5, 2, 0, 0, 0), (111, .iaload, 1, 0, 0, 0), (112, .iload_n 3, 1, 0, 0, 0), (113, .bipush 16, 2, 0, 0, 0), (115, .irem, 1, 0, 0, 0), (116, .iadd, 1, 0, 0, 0), (117, .goto 10, 3, 0, 0, 0), (120, .aload_n 0, 1, 0, 0, 0), (121, .getfield 101, 3, 11, 32, 0), (124, .iload 5, 2, 0, 0, 0), (126, .iaload, 1, 0, 0, 0), (127, .ireturn, 1, 0, 0, 0), (128, .aload_n 0, 1, 0, 0, 0), (129, .getfield 95, 3, 11, 30, 0), (132, .iload 5, 2, 0, 0, 0), (134, .iconst 0, 1, 0, 0, 0), (135, .bastore, 1, 0, 0, 0), (136, .iconst (-1), 1, 0, 0, 0), (137, .ireturn, 1, 0, 0, 0), (138, .iinc 4 1, 3, 0, 0, 0), (141, .goto (-138), 3, 0, 0, 0), (144, .iconst (-1), 1, 0, 0, 0), (145, .ireturn, 1, 0, 0, 0)], [])
def zm_109 : zM := (⟨"NestedPagerModel", "isDevice", "(I)Z"⟩, prog_13_method_23_code, 1, (some (.boolean)), (1, 22, 0, 0), (1, 11, 1, 0, 0, 0), [(0, .iload_n 0, 1, 0, 0, 0), (1, .sipush 240, 3, 0, 0, 0), (4, .sipush 243, 3, 0, 0, 0), (7, .invokestatic 120, 3, 20, 0, 3), (10, .ireturn, 1, 0, 0, 0)], [])
def zm_110 : zM := (⟨"NestedPagerModel", "isMemory", "(II)Z"⟩, prog_13_method_20_code, 3, (some (.boolean)), (0, 0, 0, 0), (0, 11, 2, 0, 0, 0), [(0, .iload_n 2, 1, 0, 0, 0), (1, .aload_n 0, 1, 0, 0, 0), (2, .getfield 32, 3, 11, 9, 0), (5, .iload_n 1, 1, 0, 0, 0), (6, .iaload, 1, 0, 0, 0), (7, .if_icmp .ge 7, 3, 0, 0, 0), (10, .iconst 1, 1, 0, 0, 0), (11, .goto 4, 3, 0, 0, 0), (14, .iconst 0, 1, 0, 0, 0), (15, .ireturn, 1, 0, 0, 0)], [])
def zm_111 : zM := (⟨"NestedPagerModel", "freeSlot", "()I"⟩, prog_13_method_10_code, 2, (some (.int)), (0, 0, 0, 0), (0, 11, 0, 0, 0, 0), [(0, .iconst 0, 1, 0, 0, 0), (1, .istore_n 1, 1, 0, 0, 0), (2, .iload_n 1, 1, 0, 0, 0), (3, .bipush 64, 2, 0, 0, 0), (5, .if_icmp .ge 20, 3, 0, 0, 0), (8, .aload_n 0, 1, 0, 0, 0), (9, .getfield 25, 3, 11, 6, 0), (12, .iload_n 1, 1, 0, 0, 0), (13, .baload, 1, 0, 0, 0), (14, .ifCond .ne 5, 3, 0, 0, 0), (17, .iload_n 1, 1, 0, 0, 0), (18, .ireturn, 1, 0, 0, 0), (19, .iinc 1 1, 3, 0, 0, 0), (22, .goto (-20), 3, 0, 0, 0), (25, .iconst (-1), 1, 0, 0, 0), (26, .ireturn, 1, 0, 0, 0)], [])
def zm_112 : zM := (⟨"NestedPagerModel", "setEntry", "(III)V"⟩, prog_13_method_17_code, 4, none, (1, 23, 0, 0), (0, 11, 3, 0, 0, 0), [(0, .aload_n 0, 1, 0, 0, 0), (1, .getfield 7, 3, 11, 1, 0), (4, .bipush 16, 2, 0, 0, 0), (6, .aload_n 0, 1, 0, 0, 0), (7, .iload_n 1, 1, 0, 0, 0), (8, .iload_n 2, 1, 0, 0, 0), (9, .invokevirtual 150, 3, 39, 0, 2), (12, .imul, 1, 0, 0, 0), (13, .iload_n 2, 1, 0, 0, 0), (14, .bipush 16, 2, 0, 0, 0), (16, .irem, 1, 0, 0, 0), (17, .iadd, 1, 0, 0, 0), (18, .iload_n 3, 1, 0, 0, 0), (19, .iastore, 1, 0, 0, 0), (20, .return_, 1, 0, 0, 0)], [])
def zm_113 : zM := (⟨"NestedPagerModel", "swapOut", "(II)V"⟩, prog_13_method_12_code, 6, none, (2, 46, 0, 0), (0, 11, 2, 0, 0, 0), [(0, .aload_n 0, 1, 0, 0, 0), (1, .getfield 16, 3, 11, 3, 0), (4, .iload_n 1, 1, 0, 0, 0), (5, .iaload, 1, 0, 0, 0), (6, .istore_n 3, 1, 0, 0, 0), (7, .aload_n 0, 1, 0, 0, 0), (8, .getfield 19, 3, 11, 4, 0), (11, .iload_n 1, 1, 0, 0, 0), (12, .iaload, 1, 0, 0, 0), (13, .istore 4, 2, 0, 0, 0), (15, .aload_n 0, 1, 0, 0, 0), (16, .getfield 25, 3, 11, 6, 0), (19, .iload_n 2, 1, 0, 0, 0), (20, .iconst 1, 1, 0, 0, 0), (21, .bastore, 1, 0, 0, 0), (22, .iconst 0, 1, 0, 0, 0), (23, .istore 5, 2, 0, 0, 0), (25, .iload 5, 2, 0, 0, 0), (27, .bipush 16, 2, 0, 0, 0), (29, .if_icmp .ge 33, 3, 0, 0, 0), (32, .aload_n 0, 1, 0, 0, 0), (33, .getfield 22, 3, 11, 5, 0), (36, .bipush 16, 2, 0, 0, 0), (38, .iload_n 2, 1, 0, 0, 0), (39, .imul, 1, 0, 0, 0), (40, .iload 5, 2, 0, 0, 0), (42, .iadd, 1, 0, 0, 0), (43, .aload_n 0, 1, 0, 0, 0), (44, .getfield 7, 3, 11, 1, 0), (47, .bipush 16, 2, 0, 0, 0), (49, .iload_n 1, 1, 0, 0, 0), (50, .imul, 1, 0, 0, 0), (51, .iload 5, 2, 0, 0, 0), (53, .iadd, 1, 0, 0, 0), (54, .iaload, 1, 0, 0, 0), (55, .iastore, 1, 0, 0, 0), (56, .iinc 5 1, 3, 0, 0, 0), (59, .goto (-34), 3, 0, 0, 0), (62, .aload_n 0, 1, 0, 0, 0), (63, .iload_n 3, 1, 0, 0, 0), (64, .iload 4, 2, 0, 0, 0), (66, .aload_n 0, 1, 0, 0, 0), (67, .iload_n 3, 1, 0, 0, 0), (68, .iload 4, 2, 0, 0, 0), (70, .invokevirtual 124, 3, 40, 0, 2), (73, .bipush 23, 2, 0, 0, 0), (75, .iand, 1, 0, 0, 0), (76, .bipush 64, 2, 0, 0, 0), (78, .ior, 1, 0, 0, 0), (79, .iload_n 2, 1, 0, 0, 0), (80, .bipush 8, 2, 0, 0, 0), (82, .ishl, 1, 0, 0, 0), (83, .ior, 1, 0, 0, 0), (84, .invokevirtual 128, 3, 112, 0, 3), (87, .aload_n 0, 1, 0, 0, 0), (88, .iload_n 1, 1, 0, 0, 0), (89, .invokevirtual 132, 3, 42, 0, 1), (92, .return_, 1, 0, 0, 0)], [])
def zm_114 : zM := (⟨"NestedPagerModel", "reclaim", "()I"⟩, prog_13_method_13_code, 7, (some (.int)), (3, 71, 0, 0), (0, 11, 0, 0, 0, 0), [(0, .aload_n 0, 1, 0, 0, 0), (1, .invokevirtual 136, 3, 111, 0, 0), (4, .istore_n 1, 1, 0, 0, 0), (5, .iload_n 1, 1, 0, 0, 0), (6, .ifCond .ge 5, 3, 0, 0, 0), (9, .iconst (-1), 1, 0, 0, 0), (10, .ireturn, 1, 0, 0, 0), (11, .aload_n 0, 1, 0, 0, 0), (12, .getfield 113, 3, 11, 7, 0), (15, .istore_n 2, 1, 0, 0, 0), (16, .iconst 0, 1, 0, 0, 0), (17, .istore_n 3, 1, 0, 0, 0), (18, .iload_n 3, 1, 0, 0, 0), (19, .sipush 256, 3, 0, 0, 0), (22, .if_icmp .ge 110, 3, 0, 0, 0), (25, .iload_n 2, 1, 0, 0, 0), (26, .istore 4, 2, 0, 0, 0), (28, .iload_n 2, 1, 0, 0, 0), (29, .iconst 1, 1, 0, 0, 0), (30, .iadd, 1, 0, 0, 0), (31, .sipush 128, 3, 0, 0, 0), (34, .irem, 1, 0, 0, 0), (35, .istore_n 2, 1, 0, 0, 0), (36, .aload_n 0, 1, 0, 0, 0), (37, .getfield 13, 3, 11, 2, 0), (40, .iload 4, 2, 0, 0, 0), (42, .iaload, 1, 0, 0, 0), (43, .iconst 2, 1, 0, 0, 0), (44, .if_icmp .ne 82, 3, 0, 0, 0), (47, .aload_n 0, 1, 0, 0, 0), (48, .getfield 16, 3, 11, 3, 0), (51, .iload 4, 2, 0, 0, 0), (53, .iaload, 1, 0, 0, 0), (54, .istore 5, 2, 0, 0, 0), (56, .aload_n 0, 1, 0, 0, 0), (57, .iload 5, 2, 0, 0, 0), (59, .aload_n 0, 1, 0, 0, 0), (60, .getfield 19, 3, 11, 4, 0), (63, .iload 4, 2, 0, 0, 0), (65, .iaload, 1, 0, 0, 0), (66, .invokevirtual 124, 3, 40, 0, 2), (69, .istore 6, 2, 0, 0, 0), (71, .iload 6, 2, 0, 0, 0), (73, .bipush 8, 2, 0, 0, 0), (75, .iand, 1, 0, 0, 0), (76, .ifCond .eq 24, 3, 0, 0, 0), (79, .aload_n 0, 1, 0, 0, 0), (80, .iload 5, 2, 0, 0, 0), (82, .aload_n 0, 1, 0, 0, 0), (83, .getfield 19, 3, 11, 4, 0), (86, .iload 4, 2, 0, 0, 0), (88, .iaload, 1, 0, 0, 0), (89, .iload 6, 2, 0, 0, 0), (91, .bipush (-9), 2, 0, 0, 0), (93, .iand, 1, 0, 0, 0), (94, .invokevirtual 128, 3, 112, 0, 3), (97, .goto 29, 3, 0, 0, 0), (100, .aload_n 0, 1, 0, 0, 0), (101, .getfield 47, 3, 11, 14, 0), (104, .iload 5, 2, 0, 0, 0), (106, .dup2, 1, 0, 0, 0), (107, .iaload, 1, 0, 0, 0), (108, .iconst 1, 1, 0, 0, 0), (109, .iadd, 1, 0, 0, 0), (110, .iastore, 1, 0, 0, 0), (111, .aload_n 0, 1, 0, 0, 0), (112, .iload 4, 2, 0, 0, 0), (114, .iload_n 1, 1, 0, 0, 0), (115, .invokevirtual 140, 3, 113, 0, 2), (118, .aload_n 0, 1, 0, 0, 0), (119, .iload_n 2, 1, 0, 0, 0), (120, .putfield 113, 3, 11, 7, 0), (123, .iload 4, 2, 0, 0, 0), (125, .ireturn, 1, 0, 0, 0), (126, .iinc 3 1, 3, 0, 0, 0), (129, .goto (-111), 3, 0, 0, 0), (132, .iconst (-1), 1, 0, 0, 0), (133, .ireturn, 1, 0, 0, 0)], [])
def zm_115 : zM := (⟨"NestedPagerModel", "newFrame", "(III)I"⟩, prog_13_method_14_code, 5, (some (.int)), (4, 97, 0, 0), (0, 11, 3, 0, 0, 0), [(0, .aload_n 0, 1, 0, 0, 0), (1, .invokevirtual 144, 3, 22, 0, 0), (4, .istore 4, 2, 0, 0, 0), (6, .iload 4, 2, 0, 0, 0), (8, .ifCond .ge 10, 3, 0, 0, 0), (11, .aload_n 0, 1, 0, 0, 0), (12, .invokevirtual 147, 3, 114, 0, 0), (15, .goto 5, 3, 0, 0, 0), (18, .iload 4, 2, 0, 0, 0), (20, .istore 4, 2, 0, 0, 0), (22, .iload 4, 2, 0, 0, 0), (24, .ifCond .lt 27, 3, 0, 0, 0), (27, .aload_n 0, 1, 0, 0, 0), (28, .getfield 13, 3, 11, 2, 0), (31, .iload 4, 2, 0, 0, 0), (33, .iload_n 1, 1, 0, 0, 0), (34, .iastore, 1, 0, 0, 0), (35, .aload_n 0, 1, 0, 0, 0), (36, .getfield 16, 3, 11, 3, 0), (39, .iload 4, 2, 0, 0, 0), (41, .iload_n 2, 1, 0, 0, 0), (42, .iastore, 1, 0, 0, 0), (43, .aload_n 0, 1, 0, 0, 0), (44, .getfield 19, 3, 11, 4, 0), (47, .iload 4, 2, 0, 0, 0), (49, .iload_n 3, 1, 0, 0, 0), (50, .iastore, 1, 0, 0, 0), (51, .iload 4, 2, 0, 0, 0), (53, .ireturn, 1, 0, 0, 0)], [])
def zm_116 : zM := (⟨"NestedPagerModel", "needTable", "(II)Z"⟩, prog_13_method_18_code, 4, (some (.boolean)), (5, 121, 0, 0), (0, 11, 2, 0, 0, 0), [(0, .aload_n 0, 1, 0, 0, 0), (1, .iload_n 1, 1, 0, 0, 0), (2, .iload_n 2, 1, 0, 0, 0), (3, .invokevirtual 150, 3, 39, 0, 2), (6, .ifCond .lt 5, 3, 0, 0, 0), (9, .iconst 1, 1, 0, 0, 0), (10, .ireturn, 1, 0, 0, 0), (11, .aload_n 0, 1, 0, 0, 0), (12, .iconst 1, 1, 0, 0, 0), (13, .iload_n 1, 1, 0, 0, 0), (14, .iload_n 2, 1, 0, 0, 0), (15, .bipush 16, 2, 0, 0, 0), (17, .idiv, 1, 0, 0, 0), (18, .bipush 16, 2, 0, 0, 0), (20, .imul, 1, 0, 0, 0), (21, .invokevirtual 153, 3, 115, 0, 3), (24, .istore_n 3, 1, 0, 0, 0), (25, .iload_n 3, 1, 0, 0, 0), (26, .ifCond .ge 5, 3, 0, 0, 0), (29, .iconst 0, 1, 0, 0, 0), (30, .ireturn, 1, 0, 0, 0), (31, .aload_n 0, 1, 0, 0, 0), (32, .getfield 7, 3, 11, 1, 0), (35, .bipush 16, 2, 0, 0, 0), (37, .aload_n 0, 1, 0, 0, 0), (38, .getfield 35, 3, 11, 10, 0), (41, .iload_n 1, 1, 0, 0, 0), (42, .iaload, 1, 0, 0, 0), (43, .imul, 1, 0, 0, 0), (44, .iload_n 2, 1, 0, 0, 0), (45, .bipush 16, 2, 0, 0, 0), (47, .idiv, 1, 0, 0, 0), (48, .iadd, 1, 0, 0, 0), (49, .sipush 256, 3, 0, 0, 0), (52, .iload_n 3, 1, 0, 0, 0), (53, .imul, 1, 0, 0, 0), (54, .iconst 1, 1, 0, 0, 0), (55, .iadd, 1, 0, 0, 0), (56, .iastore, 1, 0, 0, 0), (57, .iconst 1, 1, 0, 0, 0), (58, .ireturn, 1, 0, 0, 0)], [])
def zm_117 : zM := (⟨"NestedPagerModel", "reach", "(IIIZ)I"⟩, prog_13_method_21_code, 9, (some (.int)), (6, 144, 0, 0), (0, 11, 4, 0, 0, 0), [(0, .aload_n 0, 1, 0, 0, 0), (1, .iload_n 1, 1, 0, 0, 0), (2, .iload_n 2, 1, 0, 0, 0), (3, .invokevirtual 157, 3, 110, 0, 2), (6, .ifCond .ne 5, 3, 0, 0, 0), (9, .iconst 1, 1, 0, 0, 0), (10, .ireturn, 1, 0, 0, 0), (11, .aload_n 0, 1, 0, 0, 0), (12, .iload_n 1, 1, 0, 0, 0), (13, .iload_n 2, 1, 0, 0, 0), (14, .invokevirtual 124, 3, 40, 0, 2), (17, .istore 5, 2, 0, 0, 0), (19, .iload 4, 2, 0, 0, 0), (21, .ifCond .ne 15, 3, 0, 0, 0), (24, .iload 5, 2, 0, 0, 0), (26, .iload_n 3, 1, 0, 0, 0), (27, .ishr, 1, 0, 0, 0), (28, .iconst 1, 1, 0, 0, 0), (29, .iand, 1, 0, 0, 0), (30, .iconst 1, 1, 0, 0, 0), (31, .if_icmp .ne 5, 3, 0, 0, 0), (34, .iconst 2, 1, 0, 0, 0), (35, .ireturn, 1, 0, 0, 0), (36, .iload 5, 2, 0, 0, 0), (38, .invokestatic 161, 3, 41, 0, 1), (41, .iconst 3, 1, 0, 0, 0), (42, .if_icmp .ne 5, 3, 0, 0, 0), (45, .iconst 3, 1, 0, 0, 0), (46, .ireturn, 1, 0, 0, 0), (47, .iload 5, 2, 0, 0, 0), (49, .invokestatic 161, 3, 41, 0, 1), (52, .iconst 1, 1, 0, 0, 0), (53, .if_icmp .eq 135, 3, 0, 0, 0), (56, .aload_n 0, 1, 0, 0, 0), (57, .iload_n 1, 1, 0, 0, 0), (58, .iload_n 2, 1, 0, 0, 0), (59, .invokevirtual 165, 3, 116, 0, 2), (62, .ifCond .ne 5, 3, 0, 0, 0), (65, .iconst 4, 1, 0, 0, 0), (66, .ireturn, 1, 0, 0, 0), (67, .aload_n 0, 1, 0, 0, 0), (68, .iconst 2, 1, 0, 0, 0), (69, .iload_n 1, 1, 0, 0, 0), (70, .iload_n 2, 1, 0, 0, 0), (71, .invokevirtual 153, 3, 115, 0, 3), (74, .istore 6, 2, 0, 0, 0), (76, .iload 6, 2, 0, 0, 0), (78, .ifCond .ge 5, 3, 0, 0, 0), (81, .iconst 4, 1, 0, 0, 0), (82, .ireturn, 1, 0, 0, 0), (83, .iload 5, 2, 0, 0, 0), (85, .invokestatic 161, 3, 41, 0, 1), (88, .iconst 2, 1, 0, 0, 0), (89, .if_icmp .ne 73, 3, 0, 0, 0), (92, .iload 5, 2, 0, 0, 0), (94, .bipush 8, 2, 0, 0, 0), (96, .ishr, 1, 0, 0, 0), (97, .istore 7, 2, 0, 0, 0), (99, .iconst 0, 1, 0, 0, 0), (100, .istore 8, 2, 0, 0, 0), (102, .iload 8, 2, 0, 0, 0), (104, .bipush 16, 2, 0, 0, 0), (106, .if_icmp .ge 35, 3, 0, 0, 0), (109, .aload_n 0, 1, 0, 0, 0), (110, .getfield 7, 3, 11, 1, 0), (113, .bipush 16, 2, 0, 0, 0), (115, .iload 6, 2, 0, 0, 0), (117, .imul, 1, 0, 0, 0), (118, .iload 8, 2, 0, 0, 0), (120, .iadd, 1, 0, 0, 0), (121, .aload_n 0, 1, 0, 0, 0), (122, .getfield 22, 3, 11, 5, 0), (125, .bipush 16, 2, 0, 0, 0), (127, .iload 7, 2, 0, 0, 0), (129, .imul, 1, 0, 0, 0), (130, .iload 8, 2, 0, 0, 0), (132, .iadd, 1, 0, 0, 0), (133, .iaload, 1, 0, 0, 0), (134, .iastore, 1, 0, 0, 0), (135, .iinc 8 1, 3, 0, 0, 0), (138, .goto (-36), 3, 0, 0, 0), (141, .aload_n 0, 1, 0, 0, 0), (142, .getfield 25, 3, 11, 6, 0), (145, .iload 7, 2, 0, 0, 0), (147, .iconst 0, 1, 0, 0, 0), (148, .bastore, 1, 0, 0, 0), (149, .aload_n 0, 1, 0, 0, 0), (150, .getfield 44, 3, 11, 13, 0), (153, .iload_n 1, 1, 0, 0, 0), (154, .dup2, 1, 0, 0, 0), (155, .iaload, 1, 0, 0, 0), (156, .iconst 1, 1, 0, 0, 0), (157, .iadd, 1, 0, 0, 0), (158, .iastore, 1, 0, 0, 0), (159, .goto 13, 3, 0, 0, 0), (162, .aload_n 0, 1, 0, 0, 0), (163, .getfield 41, 3, 11, 12, 0), (166, .iload_n 1, 1, 0, 0, 0), (167, .dup2, 1, 0, 0, 0), (168, .iaload, 1, 0, 0, 0), (169, .iconst 1, 1, 0, 0, 0), (170, .iadd, 1, 0, 0, 0), (171, .iastore, 1, 0, 0, 0), (172, .iload 5, 2, 0, 0, 0), (174, .bipush 23, 2, 0, 0, 0), (176, .iand, 1, 0, 0, 0), (177, .bipush 32, 2, 0, 0, 0), (179, .ior, 1, 0, 0, 0), (180, .iload 6, 2, 0, 0, 0), (182, .bipush 8, 2, 0, 0, 0), (184, .ishl, 1, 0, 0, 0), (185, .ior, 1, 0, 0, 0), (186, .istore 5, 2, 0, 0, 0), (188, .iload 4, 2, 0, 0, 0), (190, .ifCond .eq 8, 3, 0, 0, 0), (193, .iload 5, 2, 0, 0, 0), (195, .goto 8, 3, 0, 0, 0), (198, .iload 5, 2, 0, 0, 0), (200, .bipush 8, 2, 0, 0, 0), (202, .ior, 1, 0, 0, 0), (203, .istore 5, 2, 0, 0, 0), (205, .aload_n 0, 1, 0, 0, 0), (206, .iload_n 1, 1, 0, 0, 0), (207, .iload_n 2, 1, 0, 0, 0), (208, .iload_n 3, 1, 0, 0, 0), (209, .iconst 1, 1, 0, 0, 0), (210, .if_icmp .ne 11, 3, 0, 0, 0), (213, .iload 5, 2, 0, 0, 0), (215, .bipush 16, 2, 0, 0, 0), (217, .ior, 1, 0, 0, 0), (218, .goto 5, 3, 0, 0, 0), (221, .iload 5, 2, 0, 0, 0), (223, .invokevirtual 128, 3, 112, 0, 3), (226, .iconst 0, 1, 0, 0, 0), (227, .ireturn, 1, 0, 0, 0)], [])
def zm_118 : zM := (⟨"NestedPagerModel", "leave", "(IIIIII)Z"⟩, prog_13_method_24_code, 7, (some (.boolean)), (0, 0, 0, 0), (0, 11, 6, 0, 0, 0), [(0, .aload_n 0, 1, 0, 0, 0), (1, .bipush (-3), 2, 0, 0, 0), (3, .putfield 168, 3, 11, 38, 0), (6, .aload_n 0, 1, 0, 0, 0), (7, .getfield 89, 3, 11, 28, 0), (10, .iconst 5, 1, 0, 0, 0), (11, .iload_n 1, 1, 0, 0, 0), (12, .imul, 1, 0, 0, 0), (13, .iload_n 2, 1, 0, 0, 0), (14, .iastore, 1, 0, 0, 0), (15, .aload_n 0, 1, 0, 0, 0), (16, .getfield 89, 3, 11, 28, 0), (19, .iconst 5, 1, 0, 0, 0), (20, .iload_n 1, 1, 0, 0, 0), (21, .imul, 1, 0, 0, 0), (22, .iconst 1, 1, 0, 0, 0), (23, .iadd, 1, 0, 0, 0), (24, .iload_n 3, 1, 0, 0, 0), (25, .iastore, 1, 0, 0, 0), (26, .aload_n 0, 1, 0, 0, 0), (27, .getfield 89, 3, 11, 28, 0), (30, .iconst 5, 1, 0, 0, 0), (31, .iload_n 1, 1, 0, 0, 0), (32, .imul, 1, 0, 0, 0), (33, .iconst 2, 1, 0, 0, 0), (34, .iadd, 1, 0, 0, 0), (35, .iload 4, 2, 0, 0, 0), (37, .iastore, 1, 0, 0, 0), (38, .aload_n 0, 1, 0, 0, 0), (39, .getfield 89, 3, 11, 28, 0), (42, .iconst 5, 1, 0, 0, 0), (43, .iload_n 1, 1, 0, 0, 0), (44, .imul, 1, 0, 0, 0), (45, .iconst 3, 1, 0, 0, 0), (46, .iadd, 1, 0, 0, 0), (47, .iload 5, 2, 0, 0, 0), (49, .iastore, 1, 0, 0, 0), (50, .aload_n 0, 1, 0, 0, 0), (51, .getfield 89, 3, 11, 28, 0), (54, .iconst 5, 1, 0, 0, 0), (55, .iload_n 1, 1, 0, 0, 0), (56, .imul, 1, 0, 0, 0), (57, .iconst 4, 1, 0, 0, 0), (58, .iadd, 1, 0, 0, 0), (59, .iload 6, 2, 0, 0, 0), (61, .iastore, 1, 0, 0, 0), (62, .iconst 0, 1, 0, 0, 0), (63, .ireturn, 1, 0, 0, 0)], [])
def zm_119 : zM := (⟨"NestedPagerModel", "walkTo", "(IIIIII)Z"⟩, prog_13_method_31_code, 8, (some (.boolean)), (7, 172, 0, 0), (0, 11, 6, 0, 0, 0), [(0, .iload_n 2, 1, 0, 0, 0), (1, .invokestatic 195, 3, 109, 0, 1), (4, .ifCond .eq 7, 3, 0, 0, 0), (7, .iconst 5, 1, 0, 0, 0), (8, .goto 18, 3, 0, 0, 0), (11, .aload_n 0, 1, 0, 0, 0), (12, .aload_n 0, 1, 0, 0, 0), (13, .iload_n 1, 1, 0, 0, 0), (14, .bipush 16, 2, 0, 0, 0), (16, .invokevirtual 177, 3, 43, 0, 2), (19, .iload_n 2, 1, 0, 0, 0), (20, .iload 4, 2, 0, 0, 0), (22, .iconst 0, 1, 0, 0, 0), (23, .invokevirtual 199, 3, 117, 0, 4), (26, .istore 7, 2, 0, 0, 0), (28, .iload 7, 2, 0, 0, 0), (30, .ifCond .eq 24, 3, 0, 0, 0), (33, .aload_n 0, 1, 0, 0, 0), (34, .iload_n 1, 1, 0, 0, 0), (35, .iload 7, 2, 0, 0, 0), (37, .bipush 16, 2, 0, 0, 0), (39, .iload_n 2, 1, 0, 0, 0), (40, .imul, 1, 0, 0, 0), (41, .iload_n 3, 1, 0, 0, 0), (42, .iadd, 1, 0, 0, 0), (43, .iload 5, 2, 0, 0, 0), (45, .iload 6, 2, 0, 0, 0), (47, .iconst 1, 1, 0, 0, 0), (48, .invokevirtual 203, 3, 118, 0, 6), (51, .ifCond .eq 7, 3, 0, 0, 0), (54, .iconst 1, 1, 0, 0, 0), (55, .goto 4, 3, 0, 0, 0), (58, .iconst 0, 1, 0, 0, 0), (59, .ireturn, 1, 0, 0, 0)], [])
def zm_120 : zM := (⟨"NestedPagerModel", "wordsOf", "(II)I"⟩, prog_13_method_22_code, 3, (some (.int)), (2, 46, 0, 0), (0, 11, 2, 0, 0, 0), [(0, .bipush 16, 2, 0, 0, 0), (2, .aload_n 0, 1, 0, 0, 0), (3, .iload_n 1, 1, 0, 0, 0), (4, .iload_n 2, 1, 0, 0, 0), (5, .invokevirtual 124, 3, 40, 0, 2), (8, .bipush 8, 2, 0, 0, 0), (10, .ishr, 1, 0, 0, 0), (11, .imul, 1, 0, 0, 0), (12, .ireturn, 1, 0, 0, 0)], [])
def zm_121 : zM := (⟨"NestedPagerModel", "faultCode", "(III)I"⟩, prog_13_method_32_code, 4, (some (.int)), (1, 22, 0, 0), (0, 11, 3, 0, 0, 0), [(0, .iload_n 3, 1, 0, 0, 0), (1, .iload_n 2, 1, 0, 0, 0), (2, .iconst 1, 1, 0, 0, 0), (3, .if_icmp .ne 7, 3, 0, 0, 0), (6, .iconst 2, 1, 0, 0, 0), (7, .goto 4, 3, 0, 0, 0), (10, .iconst 0, 1, 0, 0, 0), (11, .ior, 1, 0, 0, 0), (12, .aload_n 0, 1, 0, 0, 0), (13, .iload_n 1, 1, 0, 0, 0), (14, .iconst 3, 1, 0, 0, 0), (15, .invokevirtual 177, 3, 43, 0, 2), (18, .iconst 1, 1, 0, 0, 0), (19, .if_icmp .ne 7, 3, 0, 0, 0), (22, .iconst 4, 1, 0, 0, 0), (23, .goto 4, 3, 0, 0, 0), (26, .iconst 0, 1, 0, 0, 0), (27, .ior, 1, 0, 0, 0), (28, .iload_n 2, 1, 0, 0, 0), (29, .iconst 2, 1, 0, 0, 0), (30, .if_icmp .ne 8, 3, 0, 0, 0), (33, .bipush 16, 2, 0, 0, 0), (35, .goto 4, 3, 0, 0, 0), (38, .iconst 0, 1, 0, 0, 0), (39, .ior, 1, 0, 0, 0), (40, .ireturn, 1, 0, 0, 0)], [])
def zm_122 : zM := (⟨"NestedPagerModel", "fail", "(III)Z"⟩, prog_13_method_25_code, 4, (some (.boolean)), (1, 23, 0, 0), (0, 11, 3, 0, 0, 0), [(0, .aload_n 0, 1, 0, 0, 0), (1, .bipush (-2), 2, 0, 0, 0), (3, .putfield 168, 3, 11, 38, 0), (6, .aload_n 0, 1, 0, 0, 0), (7, .iload_n 2, 1, 0, 0, 0), (8, .putfield 171, 3, 11, 39, 0), (11, .aload_n 0, 1, 0, 0, 0), (12, .iload_n 1, 1, 0, 0, 0), (13, .bipush 17, 2, 0, 0, 0), (15, .iload_n 2, 1, 0, 0, 0), (16, .invokevirtual 174, 3, 50, 0, 3), (19, .aload_n 0, 1, 0, 0, 0), (20, .iload_n 1, 1, 0, 0, 0), (21, .bipush 18, 2, 0, 0, 0), (23, .iload_n 3, 1, 0, 0, 0), (24, .invokevirtual 174, 3, 50, 0, 3), (27, .iconst 0, 1, 0, 0, 0), (28, .ireturn, 1, 0, 0, 0)], [])
def zm_123 : zM := (⟨"NestedPagerModel", "mark", "(IIIIIII)Z"⟩, prog_13_method_33_code, 8, (some (.boolean)), (8, 199, 0, 0), (0, 11, 7, 0, 0, 0), [(0, .iload 4, 2, 0, 0, 0), (2, .iload 5, 2, 0, 0, 0), (4, .iand, 1, 0, 0, 0), (5, .iload 5, 2, 0, 0, 0), (7, .if_icmp .ne 5, 3, 0, 0, 0), (10, .iconst 1, 1, 0, 0, 0), (11, .ireturn, 1, 0, 0, 0), (12, .aload_n 0, 1, 0, 0, 0), (13, .iload_n 1, 1, 0, 0, 0), (14, .iload_n 2, 1, 0, 0, 0), (15, .iload_n 3, 1, 0, 0, 0), (16, .iconst 1, 1, 0, 0, 0), (17, .iload 6, 2, 0, 0, 0), (19, .iload 7, 2, 0, 0, 0), (21, .invokevirtual 207, 3, 119, 0, 6), (24, .ifCond .ne 5, 3, 0, 0, 0), (27, .iconst 0, 1, 0, 0, 0), (28, .ireturn, 1, 0, 0, 0), (29, .aload_n 0, 1, 0, 0, 0), (30, .getfield 7, 3, 11, 1, 0), (33, .aload_n 0, 1, 0, 0, 0), (34, .aload_n 0, 1, 0, 0, 0), (35, .iload_n 1, 1, 0, 0, 0), (36, .bipush 16, 2, 0, 0, 0), (38, .invokevirtual 177, 3, 43, 0, 2), (41, .iload_n 2, 1, 0, 0, 0), (42, .invokevirtual 210, 3, 120, 0, 2), (45, .iload_n 3, 1, 0, 0, 0), (46, .iadd, 1, 0, 0, 0), (47, .iload 4, 2, 0, 0, 0), (49, .iload 5, 2, 0, 0, 0), (51, .ior, 1, 0, 0, 0), (52, .iastore, 1, 0, 0, 0), (53, .iconst 1, 1, 0, 0, 0), (54, .ireturn, 1, 0, 0, 0)], [])
def zl_124_0 : List zN := [(0, .aload_n 0, 1, 0, 0, 0), (1, .iload_n 1, 1, 0, 0, 0), (2, .bipush 16, 2, 0, 0, 0), (4, .invokevirtual 177, 3, 43, 0, 2), (7, .istore 4, 2, 0, 0, 0), (9, .iload_n 3, 1, 0, 0, 0), (10, .bipush 16, 2, 0, 0, 0), (12, .idiv, 1, 0, 0, 0), (13, .istore 5, 2, 0, 0, 0), (15, .aload_n 0, 1, 0, 0, 0), (16, .iload_n 1, 1, 0, 0, 0), (17, .iconst 5, 1, 0, 0, 0), (18, .invokevirtual 177, 3, 43, 0, 2), (21, .istore 6, 2, 0, 0, 0), (23, .aload_n 0, 1, 0, 0, 0), (24, .iload_n 1, 1, 0, 0, 0), (25, .iload 6, 2, 0, 0, 0), (27, .iload_n 3, 1, 0, 0, 0), (28, .sipush 256, 3, 0, 0, 0), (31, .idiv, 1, 0, 0, 0), (32, .iconst 0, 1, 0, 0, 0), (33, .iload_n 3, 1, 0, 0, 0), (34, .iload_n 2, 1, 0, 0, 0), (35, .invokevirtual 207, 3, 119, 0, 6), (38, .ifCond .ne 5, 3, 0, 0, 0), (41, .iconst 0, 1, 0, 0, 0), (42, .ireturn, 1, 0, 0, 0), (43, .aload_n 0, 1, 0, 0, 0), (44, .getfield 7, 3, 11, 1, 0), (47, .aload_n 0, 1, 0, 0, 0), (48, .iload 4, 2, 0, 0, 0), (50, .iload 6, 2, 0, 0, 0), (52, .invokevirtual 210, 3, 120, 0, 2), (55, .iload_n 3, 1, 0, 0, 0), (56, .sipush 256, 3, 0, 0, 0), (59, .idiv, 1, 0, 0, 0), (60, .iadd, 1, 0, 0, 0), (61, .iaload, 1, 0, 0, 0), (62, .istore 7, 2, 0, 0, 0), (64, .iload 7, 2, 0, 0, 0), (66, .iconst 1, 1, 0, 0, 0), (67, .iand, 1, 0, 0, 0), (68, .ifCond .ne 17, 3, 0, 0, 0), (71, .aload_n 0, 1, 0, 0, 0), (72, .iload_n 1, 1, 0, 0, 0), (73, .aload_n 0, 1, 0, 0, 0), (74, .iload_n 1, 1, 0, 0, 0), (75, .iload_n 2, 1, 0, 0, 0), (76, .iconst 0, 1, 0, 0, 0), (77, .invokevirtual 213, 3, 121, 0, 3), (80, .iload_n 3, 1, 0, 0, 0), (81, .invokevirtual 216, 3, 122, 0, 3), (84, .ireturn, 1, 0, 0, 0), (85, .iload 7, 2, 0, 0, 0), (87, .bipush 64, 2, 0, 0, 0), (89, .iand, 1, 0, 0, 0), (90, .ifCond .eq 7, 3, 0, 0, 0), (93, .iconst 1, 1, 0, 0, 0), (94, .goto 4, 3, 0, 0, 0), (97, .iconst 0, 1, 0, 0, 0)]
def zl_124_1 : List zN := [(98, .istore 8, 2, 0, 0, 0), (100, .iload 7, 2, 0, 0, 0), (102, .istore 9, 2, 0, 0, 0), (104, .iload 6, 2, 0, 0, 0), (106, .istore 10, 2, 0, 0, 0), (108, .iload_n 3, 1, 0, 0, 0), (109, .sipush 256, 3, 0, 0, 0), (112, .idiv, 1, 0, 0, 0), (113, .istore 11, 2, 0, 0, 0), (115, .iload 8, 2, 0, 0, 0), (117, .ifCond .eq 29, 3, 0, 0, 0), (120, .iload 7, 2, 0, 0, 0), (122, .bipush 8, 2, 0, 0, 0), (124, .ishr, 1, 0, 0, 0), (125, .bipush 16, 2, 0, 0, 0), (127, .irem, 1, 0, 0, 0), (128, .ifCond .eq 88, 3, 0, 0, 0), (131, .aload_n 0, 1, 0, 0, 0), (132, .iload_n 1, 1, 0, 0, 0), (133, .aload_n 0, 1, 0, 0, 0), (134, .iload_n 1, 1, 0, 0, 0), (135, .iload_n 2, 1, 0, 0, 0), (136, .bipush 9, 2, 0, 0, 0), (138, .invokevirtual 213, 3, 121, 0, 3), (141, .iload_n 3, 1, 0, 0, 0), (142, .invokevirtual 216, 3, 122, 0, 3), (145, .ireturn, 1, 0, 0, 0), (146, .iload 7, 2, 0, 0, 0), (148, .bipush 8, 2, 0, 0, 0), (150, .ishr, 1, 0, 0, 0), (151, .istore 10, 2, 0, 0, 0), (153, .iload 5, 2, 0, 0, 0), (155, .bipush 16, 2, 0, 0, 0), (157, .irem, 1, 0, 0, 0), (158, .istore 11, 2, 0, 0, 0), (160, .aload_n 0, 1, 0, 0, 0), (161, .iload_n 1, 1, 0, 0, 0), (162, .iload 10, 2, 0, 0, 0), (164, .iload 11, 2, 0, 0, 0), (166, .iconst 0, 1, 0, 0, 0), (167, .iload_n 3, 1, 0, 0, 0), (168, .iload_n 2, 1, 0, 0, 0), (169, .invokevirtual 207, 3, 119, 0, 6), (172, .ifCond .ne 5, 3, 0, 0, 0), (175, .iconst 0, 1, 0, 0, 0), (176, .ireturn, 1, 0, 0, 0), (177, .aload_n 0, 1, 0, 0, 0), (178, .getfield 7, 3, 11, 1, 0), (181, .aload_n 0, 1, 0, 0, 0), (182, .iload 4, 2, 0, 0, 0), (184, .iload 10, 2, 0, 0, 0), (186, .invokevirtual 210, 3, 120, 0, 2), (189, .iload 11, 2, 0, 0, 0), (191, .iadd, 1, 0, 0, 0), (192, .iaload, 1, 0, 0, 0), (193, .istore 9, 2, 0, 0, 0), (195, .iload 9, 2, 0, 0, 0), (197, .iconst 1, 1, 0, 0, 0), (198, .iand, 1, 0, 0, 0), (199, .ifCond .ne 17, 3, 0, 0, 0)]
def zl_124_2 : List zN := [(202, .aload_n 0, 1, 0, 0, 0), (203, .iload_n 1, 1, 0, 0, 0), (204, .aload_n 0, 1, 0, 0, 0), (205, .iload_n 1, 1, 0, 0, 0), (206, .iload_n 2, 1, 0, 0, 0), (207, .iconst 0, 1, 0, 0, 0), (208, .invokevirtual 213, 3, 121, 0, 3), (211, .iload_n 3, 1, 0, 0, 0), (212, .invokevirtual 216, 3, 122, 0, 3), (215, .ireturn, 1, 0, 0, 0), (216, .iload 8, 2, 0, 0, 0), (218, .ifCond .eq 8, 3, 0, 0, 0), (221, .iload 9, 2, 0, 0, 0), (223, .goto 8, 3, 0, 0, 0), (226, .iload 7, 2, 0, 0, 0), (228, .iload 9, 2, 0, 0, 0), (230, .iand, 1, 0, 0, 0), (231, .istore 12, 2, 0, 0, 0), (233, .iload 8, 2, 0, 0, 0), (235, .ifCond .eq 8, 3, 0, 0, 0), (238, .iload 9, 2, 0, 0, 0), (240, .goto 8, 3, 0, 0, 0), (243, .iload 7, 2, 0, 0, 0), (245, .iload 9, 2, 0, 0, 0), (247, .ior, 1, 0, 0, 0), (248, .istore 13, 2, 0, 0, 0), (250, .aload_n 0, 1, 0, 0, 0), (251, .iload_n 1, 1, 0, 0, 0), (252, .iload_n 2, 1, 0, 0, 0), (253, .iload 12, 2, 0, 0, 0), (255, .iconst 2, 1, 0, 0, 0), (256, .iand, 1, 0, 0, 0), (257, .ifCond .eq 7, 3, 0, 0, 0), (260, .iconst 1, 1, 0, 0, 0), (261, .goto 4, 3, 0, 0, 0), (264, .iconst 0, 1, 0, 0, 0), (265, .iload 12, 2, 0, 0, 0), (267, .iconst 4, 1, 0, 0, 0), (268, .iand, 1, 0, 0, 0), (269, .ifCond .eq 7, 3, 0, 0, 0), (272, .iconst 1, 1, 0, 0, 0), (273, .goto 4, 3, 0, 0, 0), (276, .iconst 0, 1, 0, 0, 0), (277, .iload 13, 2, 0, 0, 0), (279, .bipush 8, 2, 0, 0, 0), (281, .iand, 1, 0, 0, 0), (282, .ifCond .eq 7, 3, 0, 0, 0), (285, .iconst 1, 1, 0, 0, 0), (286, .goto 4, 3, 0, 0, 0), (289, .iconst 0, 1, 0, 0, 0), (290, .invokevirtual 191, 3, 107, 0, 5), (293, .ifCond .ne 17, 3, 0, 0, 0), (296, .aload_n 0, 1, 0, 0, 0), (297, .iload_n 1, 1, 0, 0, 0), (298, .aload_n 0, 1, 0, 0, 0), (299, .iload_n 1, 1, 0, 0, 0), (300, .iload_n 2, 1, 0, 0, 0), (301, .iconst 1, 1, 0, 0, 0), (302, .invokevirtual 213, 3, 121, 0, 3), (305, .iload_n 3, 1, 0, 0, 0)]
def zl_124_3 : List zN := [(306, .invokevirtual 216, 3, 122, 0, 3), (309, .ireturn, 1, 0, 0, 0), (310, .iload 8, 2, 0, 0, 0), (312, .ifCond .ne 26, 3, 0, 0, 0), (315, .aload_n 0, 1, 0, 0, 0), (316, .iload_n 1, 1, 0, 0, 0), (317, .iload 6, 2, 0, 0, 0), (319, .iload_n 3, 1, 0, 0, 0), (320, .sipush 256, 3, 0, 0, 0), (323, .idiv, 1, 0, 0, 0), (324, .iload 7, 2, 0, 0, 0), (326, .bipush 16, 2, 0, 0, 0), (328, .iload_n 3, 1, 0, 0, 0), (329, .iload_n 2, 1, 0, 0, 0), (330, .invokevirtual 219, 3, 123, 0, 7), (333, .ifCond .ne 5, 3, 0, 0, 0), (336, .iconst 0, 1, 0, 0, 0), (337, .ireturn, 1, 0, 0, 0), (338, .iload_n 2, 1, 0, 0, 0), (339, .iconst 1, 1, 0, 0, 0), (340, .if_icmp .ne 8, 3, 0, 0, 0), (343, .bipush 48, 2, 0, 0, 0), (345, .goto 5, 3, 0, 0, 0), (348, .bipush 16, 2, 0, 0, 0), (350, .istore 14, 2, 0, 0, 0), (352, .aload_n 0, 1, 0, 0, 0), (353, .iload_n 1, 1, 0, 0, 0), (354, .iload 10, 2, 0, 0, 0), (356, .iload 11, 2, 0, 0, 0), (358, .iload 9, 2, 0, 0, 0), (360, .iload 14, 2, 0, 0, 0), (362, .iload_n 3, 1, 0, 0, 0), (363, .iload_n 2, 1, 0, 0, 0), (364, .invokevirtual 219, 3, 123, 0, 7), (367, .ifCond .ne 5, 3, 0, 0, 0), (370, .iconst 0, 1, 0, 0, 0), (371, .ireturn, 1, 0, 0, 0), (372, .bipush 8, 2, 0, 0, 0), (374, .iload_n 1, 1, 0, 0, 0), (375, .imul, 1, 0, 0, 0), (376, .aload_n 0, 1, 0, 0, 0), (377, .getfield 92, 3, 11, 29, 0), (380, .iload_n 1, 1, 0, 0, 0), (381, .iaload, 1, 0, 0, 0), (382, .iadd, 1, 0, 0, 0), (383, .istore 15, 2, 0, 0, 0), (385, .aload_n 0, 1, 0, 0, 0), (386, .getfield 92, 3, 11, 29, 0), (389, .iload_n 1, 1, 0, 0, 0), (390, .aload_n 0, 1, 0, 0, 0), (391, .getfield 92, 3, 11, 29, 0), (394, .iload_n 1, 1, 0, 0, 0), (395, .iaload, 1, 0, 0, 0), (396, .iconst 1, 1, 0, 0, 0), (397, .iadd, 1, 0, 0, 0), (398, .bipush 8, 2, 0, 0, 0), (400, .irem, 1, 0, 0, 0), (401, .iastore, 1, 0, 0, 0), (402, .aload_n 0, 1, 0, 0, 0), (403, .getfield 95, 3, 11, 30, 0)]
def zl_124_4 : List zN := [(406, .iload 15, 2, 0, 0, 0), (408, .iconst 1, 1, 0, 0, 0), (409, .bastore, 1, 0, 0, 0), (410, .aload_n 0, 1, 0, 0, 0), (411, .getfield 98, 3, 11, 31, 0), (414, .iload 15, 2, 0, 0, 0), (416, .iload 8, 2, 0, 0, 0), (418, .ifCond .eq 11, 3, 0, 0, 0), (421, .iload 5, 2, 0, 0, 0), (423, .bipush 16, 2, 0, 0, 0), (425, .idiv, 1, 0, 0, 0), (426, .goto 5, 3, 0, 0, 0), (429, .iload 5, 2, 0, 0, 0), (431, .iastore, 1, 0, 0, 0), (432, .aload_n 0, 1, 0, 0, 0), (433, .getfield 101, 3, 11, 32, 0), (436, .iload 15, 2, 0, 0, 0), (438, .iload 9, 2, 0, 0, 0), (440, .bipush 8, 2, 0, 0, 0), (442, .ishr, 1, 0, 0, 0), (443, .iastore, 1, 0, 0, 0), (444, .aload_n 0, 1, 0, 0, 0), (445, .getfield 107, 3, 11, 34, 0), (448, .iload 15, 2, 0, 0, 0), (450, .aload_n 0, 1, 0, 0, 0), (451, .iload_n 1, 1, 0, 0, 0), (452, .bipush 6, 2, 0, 0, 0), (454, .invokevirtual 177, 3, 43, 0, 2), (457, .iastore, 1, 0, 0, 0), (458, .aload_n 0, 1, 0, 0, 0), (459, .getfield 104, 3, 11, 33, 0), (462, .iload 15, 2, 0, 0, 0), (464, .iload 12, 2, 0, 0, 0), (466, .iconst 2, 1, 0, 0, 0), (467, .iand, 1, 0, 0, 0), (468, .ifCond .eq 7, 3, 0, 0, 0), (471, .iconst 1, 1, 0, 0, 0), (472, .goto 4, 3, 0, 0, 0), (475, .iconst 0, 1, 0, 0, 0), (476, .iload 12, 2, 0, 0, 0), (478, .iconst 4, 1, 0, 0, 0), (479, .iand, 1, 0, 0, 0), (480, .ifCond .eq 7, 3, 0, 0, 0), (483, .iconst 2, 1, 0, 0, 0), (484, .goto 4, 3, 0, 0, 0), (487, .iconst 0, 1, 0, 0, 0), (488, .ior, 1, 0, 0, 0), (489, .iload 13, 2, 0, 0, 0), (491, .bipush 8, 2, 0, 0, 0), (493, .iand, 1, 0, 0, 0), (494, .ifCond .eq 7, 3, 0, 0, 0), (497, .iconst 4, 1, 0, 0, 0), (498, .goto 4, 3, 0, 0, 0), (501, .iconst 0, 1, 0, 0, 0), (502, .ior, 1, 0, 0, 0), (503, .iload 9, 2, 0, 0, 0), (505, .iload 14, 2, 0, 0, 0), (507, .ior, 1, 0, 0, 0), (508, .bipush 32, 2, 0, 0, 0), (510, .iand, 1, 0, 0, 0)]
def zl_124_5 : List zN := [(511, .ifCond .eq 8, 3, 0, 0, 0), (514, .bipush 8, 2, 0, 0, 0), (516, .goto 4, 3, 0, 0, 0), (519, .iconst 0, 1, 0, 0, 0), (520, .ior, 1, 0, 0, 0), (521, .iload 9, 2, 0, 0, 0), (523, .sipush 128, 3, 0, 0, 0), (526, .iand, 1, 0, 0, 0), (527, .ifCond .eq 8, 3, 0, 0, 0), (530, .bipush 16, 2, 0, 0, 0), (532, .goto 4, 3, 0, 0, 0), (535, .iconst 0, 1, 0, 0, 0), (536, .ior, 1, 0, 0, 0), (537, .iload 8, 2, 0, 0, 0), (539, .ifCond .eq 8, 3, 0, 0, 0), (542, .bipush 32, 2, 0, 0, 0), (544, .goto 4, 3, 0, 0, 0), (547, .iconst 0, 1, 0, 0, 0), (548, .ior, 1, 0, 0, 0), (549, .iastore, 1, 0, 0, 0), (550, .aload_n 0, 1, 0, 0, 0), (551, .iload 8, 2, 0, 0, 0), (553, .ifCond .eq 17, 3, 0, 0, 0), (556, .iload 9, 2, 0, 0, 0), (558, .bipush 8, 2, 0, 0, 0), (560, .ishr, 1, 0, 0, 0), (561, .iload 5, 2, 0, 0, 0), (563, .bipush 16, 2, 0, 0, 0), (565, .irem, 1, 0, 0, 0), (566, .iadd, 1, 0, 0, 0), (567, .goto 8, 3, 0, 0, 0), (570, .iload 9, 2, 0, 0, 0), (572, .bipush 8, 2, 0, 0, 0), (574, .ishr, 1, 0, 0, 0), (575, .putfield 223, 3, 11, 37, 0), (578, .iconst 1, 1, 0, 0, 0), (579, .ireturn, 1, 0, 0, 0)]
def zm_124 : zM := (⟨"NestedPagerModel", "walk", "(III)Z"⟩, prog_13_method_34_code, 16, (some (.boolean)), (9, 226, 0, 0), (0, 11, 3, 0, 0, 0), zl_124_0 ++ (zl_124_1 ++ (zl_124_2 ++ (zl_124_3 ++ (zl_124_4 ++ (zl_124_5))))), [])
def zm_125 : zM := (⟨"NestedPagerModel", "readDevice", "(III)I"⟩, prog_13_method_36_code, 6, (some (.int)), (1, 21, 0, 0), (0, 11, 3, 0, 0, 0), [(0, .iload_n 2, 1, 0, 0, 0), (1, .sipush 240, 3, 0, 0, 0), (4, .if_icmp .ne 23, 3, 0, 0, 0), (7, .iload_n 3, 1, 0, 0, 0), (8, .ifCond .ne 17, 3, 0, 0, 0), (11, .ldc 239, 2, 65535, 0, 0), (13, .aload_n 0, 1, 0, 0, 0), (14, .getfield 53, 3, 11, 16, 0), (17, .iload_n 1, 1, 0, 0, 0), (18, .iaload, 1, 0, 0, 0), (19, .invokestatic 180, 3, 0, 3, 0), (22, .goto 4, 3, 0, 0, 0), (25, .iconst 0, 1, 0, 0, 0), (26, .ireturn, 1, 0, 0, 0), (27, .iload_n 2, 1, 0, 0, 0), (28, .sipush 241, 3, 0, 0, 0), (31, .if_icmp .ne 35, 3, 0, 0, 0), (34, .iload_n 3, 1, 0, 0, 0), (35, .ifCond .ne 15, 3, 0, 0, 0), (38, .aload_n 0, 1, 0, 0, 0), (39, .getfield 50, 3, 11, 15, 0), (42, .iload_n 1, 1, 0, 0, 0), (43, .iaload, 1, 0, 0, 0), (44, .ldc 240, 2, 65536, 0, 0), (46, .irem, 1, 0, 0, 0), (47, .goto 18, 3, 0, 0, 0), (50, .iload_n 3, 1, 0, 0, 0), (51, .iconst 1, 1, 0, 0, 0), (52, .if_icmp .ne 12, 3, 0, 0, 0), (55, .aload_n 0, 1, 0, 0, 0), (56, .getfield 59, 3, 11, 18, 0), (59, .iload_n 1, 1, 0, 0, 0), (60, .iaload, 1, 0, 0, 0), (61, .goto 4, 3, 0, 0, 0), (64, .iconst 0, 1, 0, 0, 0), (65, .ireturn, 1, 0, 0, 0), (66, .iload_n 2, 1, 0, 0, 0), (67, .sipush 242, 3, 0, 0, 0), (70, .if_icmp .ne 46, 3, 0, 0, 0), (73, .iload_n 3, 1, 0, 0, 0), (74, .ifCond .ne 12, 3, 0, 0, 0), (77, .aload_n 0, 1, 0, 0, 0), (78, .getfield 68, 3, 11, 21, 0), (81, .iload_n 1, 1, 0, 0, 0), (82, .iaload, 1, 0, 0, 0), (83, .goto 32, 3, 0, 0, 0), (86, .iload_n 3, 1, 0, 0, 0), (87, .iconst 1, 1, 0, 0, 0), (88, .if_icmp .ne 12, 3, 0, 0, 0), (91, .aload_n 0, 1, 0, 0, 0), (92, .getfield 71, 3, 11, 22, 0), (95, .iload_n 1, 1, 0, 0, 0), (96, .iaload, 1, 0, 0, 0), (97, .goto 18, 3, 0, 0, 0), (100, .iload_n 3, 1, 0, 0, 0), (101, .iconst 3, 1, 0, 0, 0), (102, .if_icmp .ne 12, 3, 0, 0, 0), (105, .aload_n 0, 1, 0, 0, 0), (106, .getfield 74, 3, 11, 23, 0), (109, .iload_n 1, 1, 0, 0, 0), (110, .iaload, 1, 0, 0, 0), (111, .goto 4, 3, 0, 0, 0), (114, .iconst 0, 1, 0, 0, 0), (115, .ireturn, 1, 0, 0, 0), (116, .iload_n 3, 1, 0, 0, 0), (117, .iconst 4, 1, 0, 0, 0), (118, .if_icmp .ne 84, 3, 0, 0, 0), (121, .aload_n 0, 1, 0, 0, 0), (122, .getfield 80, 3, 11, 25, 0), (125, .iload_n 1, 1, 0, 0, 0), (126, .iaload, 1, 0, 0, 0), (127, .ifCond .ne 5, 3, 0, 0, 0), (130, .iconst 0, 1, 0, 0, 0), (131, .ireturn, 1, 0, 0, 0), (132, .aload_n 0, 1, 0, 0, 0), (133, .getfield 77, 3, 11, 24, 0), (136, .bipush 8, 2, 0, 0, 0), (138, .iload_n 1, 1, 0, 0, 0), (139, .imul, 1, 0, 0, 0), (140, .iaload, 1, 0, 0, 0), (141, .istore 4, 2, 0, 0, 0), (143, .aload_n 0, 1, 0, 0, 0), (144, .getfield 80, 3, 11, 25, 0), (147, .iload_n 1, 1, 0, 0, 0), (148, .dup2, 1, 0, 0, 0), (149, .iaload, 1, 0, 0, 0), (150, .iconst 1, 1, 0, 0, 0), (151, .isub, 1, 0, 0, 0), (152, .iastore, 1, 0, 0, 0), (153, .iconst 0, 1, 0, 0, 0), (154, .istore 5, 2, 0, 0, 0), (156, .iload 5, 2, 0, 0, 0), (158, .aload_n 0, 1, 0, 0, 0), (159, .getfield 80, 3, 11, 25, 0), (162, .iload_n 1, 1, 0, 0, 0), (163, .iaload, 1, 0, 0, 0), (164, .if_icmp .ge 35, 3, 0, 0, 0), (167, .aload_n 0, 1, 0, 0, 0), (168, .getfield 77, 3, 11, 24, 0), (171, .bipush 8, 2, 0, 0, 0), (173, .iload_n 1, 1, 0, 0, 0), (174, .imul, 1, 0, 0, 0), (175, .iload 5, 2, 0, 0, 0), (177, .iadd, 1, 0, 0, 0), (178, .aload_n 0, 1, 0, 0, 0), (179, .getfield 77, 3, 11, 24, 0), (182, .bipush 8, 2, 0, 0, 0), (184, .iload_n 1, 1, 0, 0, 0), (185, .imul, 1, 0, 0, 0), (186, .iload 5, 2, 0, 0, 0), (188, .iadd, 1, 0, 0, 0), (189, .iconst 1, 1, 0, 0, 0), (190, .iadd, 1, 0, 0, 0), (191, .iaload, 1, 0, 0, 0), (192, .iastore, 1, 0, 0, 0), (193, .iinc 5 1, 3, 0, 0, 0), (196, .goto (-40), 3, 0, 0, 0), (199, .iload 4, 2, 0, 0, 0), (201, .ireturn, 1, 0, 0, 0), (202, .iload_n 3, 1, 0, 0, 0), (203, .iconst 5, 1, 0, 0, 0), (204, .if_icmp .ne 12, 3, 0, 0, 0), (207, .aload_n 0, 1, 0, 0, 0), (208, .getfield 80, 3, 11, 25, 0), (211, .iload_n 1, 1, 0, 0, 0), (212, .iaload, 1, 0, 0, 0), (213, .goto 4, 3, 0, 0, 0), (216, .iconst 0, 1, 0, 0, 0), (217, .ireturn, 1, 0, 0, 0)], [])
def zm_126 : zM := (⟨"NestedPagerModel", "writeDisk", "(III)V"⟩, prog_13_method_38_code, 8, none, (7, 172, 0, 0), (0, 11, 3, 0, 0, 0), [(0, .iload_n 2, 1, 0, 0, 0), (1, .ifCond .ne 16, 3, 0, 0, 0), (4, .aload_n 0, 1, 0, 0, 0), (5, .getfield 68, 3, 11, 21, 0), (8, .iload_n 1, 1, 0, 0, 0), (9, .iload_n 3, 1, 0, 0, 0), (10, .bipush 16, 2, 0, 0, 0), (12, .irem, 1, 0, 0, 0), (13, .iastore, 1, 0, 0, 0), (14, .goto 181, 3, 0, 0, 0), (17, .iload_n 2, 1, 0, 0, 0), (18, .iconst 1, 1, 0, 0, 0), (19, .if_icmp .ne 17, 3, 0, 0, 0), (22, .aload_n 0, 1, 0, 0, 0), (23, .getfield 71, 3, 11, 22, 0), (26, .iload_n 1, 1, 0, 0, 0), (27, .iload_n 3, 1, 0, 0, 0), (28, .sipush 256, 3, 0, 0, 0), (31, .irem, 1, 0, 0, 0), (32, .iastore, 1, 0, 0, 0), (33, .goto 162, 3, 0, 0, 0), (36, .iload_n 2, 1, 0, 0, 0), (37, .iconst 2, 1, 0, 0, 0), (38, .if_icmp .ne 157, 3, 0, 0, 0), (41, .iload_n 3, 1, 0, 0, 0), (42, .iconst 1, 1, 0, 0, 0), (43, .if_icmp .eq 8, 3, 0, 0, 0), (46, .iload_n 3, 1, 0, 0, 0), (47, .iconst 2, 1, 0, 0, 0), (48, .if_icmp .ne 147, 3, 0, 0, 0), (51, .aload_n 0, 1, 0, 0, 0), (52, .getfield 71, 3, 11, 22, 0), (55, .iload_n 1, 1, 0, 0, 0), (56, .iaload, 1, 0, 0, 0), (57, .istore 4, 2, 0, 0, 0), (59, .aload_n 0, 1, 0, 0, 0), (60, .getfield 74, 3, 11, 23, 0), (63, .iload_n 1, 1, 0, 0, 0), (64, .iload 4, 2, 0, 0, 0), (66, .invokestatic 195, 3, 109, 0, 1), (69, .ifCond .eq 7, 3, 0, 0, 0), (72, .iconst 5, 1, 0, 0, 0), (73, .goto 21, 3, 0, 0, 0), (76, .aload_n 0, 1, 0, 0, 0), (77, .iload_n 1, 1, 0, 0, 0), (78, .iload 4, 2, 0, 0, 0), (80, .iload_n 3, 1, 0, 0, 0), (81, .iconst 1, 1, 0, 0, 0), (82, .if_icmp .ne 7, 3, 0, 0, 0), (85, .iconst 1, 1, 0, 0, 0), (86, .goto 4, 3, 0, 0, 0), (89, .iconst 0, 1, 0, 0, 0), (90, .iconst 0, 1, 0, 0, 0), (91, .invokevirtual 199, 3, 117, 0, 4), (94, .iastore, 1, 0, 0, 0), (95, .aload_n 0, 1, 0, 0, 0), (96, .getfield 74, 3, 11, 23, 0), (99, .iload_n 1, 1, 0, 0, 0), (100, .iaload, 1, 0, 0, 0), (101, .ifCond .eq 4, 3, 0, 0, 0), (104, .return_, 1, 0, 0, 0), (105, .aload_n 0, 1, 0, 0, 0), (106, .iload_n 1, 1, 0, 0, 0), (107, .iload 4, 2, 0, 0, 0), (109, .invokevirtual 210, 3, 120, 0, 2), (112, .istore 5, 2, 0, 0, 0), (114, .sipush 256, 3, 0, 0, 0), (117, .iload_n 1, 1, 0, 0, 0), (118, .imul, 1, 0, 0, 0), (119, .bipush 16, 2, 0, 0, 0), (121, .aload_n 0, 1, 0, 0, 0), (122, .getfield 68, 3, 11, 21, 0), (125, .iload_n 1, 1, 0, 0, 0), (126, .iaload, 1, 0, 0, 0), (127, .imul, 1, 0, 0, 0), (128, .iadd, 1, 0, 0, 0), (129, .istore 6, 2, 0, 0, 0), (131, .iconst 0, 1, 0, 0, 0), (132, .istore 7, 2, 0, 0, 0), (134, .iload 7, 2, 0, 0, 0), (136, .bipush 16, 2, 0, 0, 0), (138, .if_icmp .ge 57, 3, 0, 0, 0), (141, .iload_n 3, 1, 0, 0, 0), (142, .iconst 1, 1, 0, 0, 0), (143, .if_icmp .ne 26, 3, 0, 0, 0), (146, .aload_n 0, 1, 0, 0, 0), (147, .getfield 7, 3, 11, 1, 0), (150, .iload 5, 2, 0, 0, 0), (152, .iload 7, 2, 0, 0, 0), (154, .iadd, 1, 0, 0, 0), (155, .aload_n 0, 1, 0, 0, 0), (156, .getfield 65, 3, 11, 20, 0), (159, .iload 6, 2, 0, 0, 0), (161, .iload 7, 2, 0, 0, 0), (163, .iadd, 1, 0, 0, 0), (164, .iaload, 1, 0, 0, 0), (165, .iastore, 1, 0, 0, 0), (166, .goto 23, 3, 0, 0, 0), (169, .aload_n 0, 1, 0, 0, 0), (170, .getfield 65, 3, 11, 20, 0), (173, .iload 6, 2, 0, 0, 0), (175, .iload 7, 2, 0, 0, 0), (177, .iadd, 1, 0, 0, 0), (178, .aload_n 0, 1, 0, 0, 0), (179, .getfield 7, 3, 11, 1, 0), (182, .iload 5, 2, 0, 0, 0), (184, .iload 7, 2, 0, 0, 0), (186, .iadd, 1, 0, 0, 0), (187, .iaload, 1, 0, 0, 0), (188, .iastore, 1, 0, 0, 0), (189, .iinc 7 1, 3, 0, 0, 0), (192, .goto (-58), 3, 0, 0, 0), (195, .return_, 1, 0, 0, 0)], [])
end
section
/-! METHODS, by program -/
def zm_127 : zM := (⟨"NestedPagerModel", "writeDevice", "(IIIII)V"⟩, prog_13_method_37_code, 7, none, (8, 199, 0, 0), (0, 11, 5, 0, 0, 0), [(0, .iload_n 3, 1, 0, 0, 0), (1, .sipush 240, 3, 0, 0, 0), (4, .if_icmp .ne 56, 3, 0, 0, 0), (7, .iload 4, 2, 0, 0, 0), (9, .ifCond .ne 51, 3, 0, 0, 0), (12, .aload_n 0, 1, 0, 0, 0), (13, .getfield 53, 3, 11, 16, 0), (16, .iload_n 2, 1, 0, 0, 0), (17, .iaload, 1, 0, 0, 0), (18, .sipush 200, 3, 0, 0, 0), (21, .if_icmp .ge 26, 3, 0, 0, 0), (24, .aload_n 0, 1, 0, 0, 0), (25, .getfield 56, 3, 11, 17, 0), (28, .sipush 200, 3, 0, 0, 0), (31, .iload_n 2, 1, 0, 0, 0), (32, .imul, 1, 0, 0, 0), (33, .aload_n 0, 1, 0, 0, 0), (34, .getfield 53, 3, 11, 16, 0), (37, .iload_n 2, 1, 0, 0, 0), (38, .iaload, 1, 0, 0, 0), (39, .iadd, 1, 0, 0, 0), (40, .iload 5, 2, 0, 0, 0), (42, .sipush 255, 3, 0, 0, 0), (45, .iand, 1, 0, 0, 0), (46, .iastore, 1, 0, 0, 0), (47, .aload_n 0, 1, 0, 0, 0), (48, .getfield 53, 3, 11, 16, 0), (51, .iload_n 2, 1, 0, 0, 0), (52, .dup2, 1, 0, 0, 0), (53, .iaload, 1, 0, 0, 0), (54, .iconst 1, 1, 0, 0, 0), (55, .iadd, 1, 0, 0, 0), (56, .iastore, 1, 0, 0, 0), (57, .goto 164, 3, 0, 0, 0), (60, .iload_n 3, 1, 0, 0, 0), (61, .sipush 241, 3, 0, 0, 0), (64, .if_icmp .ne 27, 3, 0, 0, 0), (67, .iload 4, 2, 0, 0, 0), (69, .iconst 1, 1, 0, 0, 0), (70, .if_icmp .ne 21, 3, 0, 0, 0), (73, .aload_n 0, 1, 0, 0, 0), (74, .getfield 59, 3, 11, 18, 0), (77, .iload_n 2, 1, 0, 0, 0), (78, .iload 5, 2, 0, 0, 0), (80, .iastore, 1, 0, 0, 0), (81, .aload_n 0, 1, 0, 0, 0), (82, .getfield 62, 3, 11, 19, 0), (85, .iload_n 2, 1, 0, 0, 0), (86, .iload_n 1, 1, 0, 0, 0), (87, .iastore, 1, 0, 0, 0), (88, .goto 133, 3, 0, 0, 0), (91, .iload_n 3, 1, 0, 0, 0), (92, .sipush 242, 3, 0, 0, 0), (95, .if_icmp .ne 15, 3, 0, 0, 0), (98, .aload_n 0, 1, 0, 0, 0), (99, .iload_n 2, 1, 0, 0, 0), (100, .iload 4, 2, 0, 0, 0), (102, .iload 5, 2, 0, 0, 0), (104, .invokevirtual 241, 3, 126, 0, 3), (107, .goto 114, 3, 0, 0, 0), (110, .iload_n 3, 1, 0, 0, 0), (111, .sipush 243, 3, 0, 0, 0), (114, .if_icmp .ne 107, 3, 0, 0, 0), (117, .iload 4, 2, 0, 0, 0), (119, .iconst 4, 1, 0, 0, 0), (120, .if_icmp .ge 101, 3, 0, 0, 0), (123, .aload_n 0, 1, 0, 0, 0), (124, .getfield 29, 3, 11, 8, 0), (127, .iload 4, 2, 0, 0, 0), (129, .baload, 1, 0, 0, 0), (130, .ifCond .eq 91, 3, 0, 0, 0), (133, .aload_n 0, 1, 0, 0, 0), (134, .getfield 80, 3, 11, 25, 0), (137, .iload 4, 2, 0, 0, 0), (139, .iaload, 1, 0, 0, 0), (140, .bipush 8, 2, 0, 0, 0), (142, .if_icmp .ge 79, 3, 0, 0, 0), (145, .aload_n 0, 1, 0, 0, 0), (146, .getfield 77, 3, 11, 24, 0), (149, .bipush 8, 2, 0, 0, 0), (151, .iload 4, 2, 0, 0, 0), (153, .imul, 1, 0, 0, 0), (154, .aload_n 0, 1, 0, 0, 0), (155, .getfield 80, 3, 11, 25, 0), (158, .iload 4, 2, 0, 0, 0), (160, .iaload, 1, 0, 0, 0), (161, .iadd, 1, 0, 0, 0), (162, .iload 5, 2, 0, 0, 0), (164, .iastore, 1, 0, 0, 0), (165, .aload_n 0, 1, 0, 0, 0), (166, .getfield 80, 3, 11, 25, 0), (169, .iload 4, 2, 0, 0, 0), (171, .dup2, 1, 0, 0, 0), (172, .iaload, 1, 0, 0, 0), (173, .iconst 1, 1, 0, 0, 0), (174, .iadd, 1, 0, 0, 0), (175, .iastore, 1, 0, 0, 0), (176, .iconst 0, 1, 0, 0, 0), (177, .istore 6, 2, 0, 0, 0), (179, .iload 6, 2, 0, 0, 0), (181, .bipush 8, 2, 0, 0, 0), (183, .if_icmp .ge 38, 3, 0, 0, 0), (186, .aload_n 0, 1, 0, 0, 0), (187, .getfield 83, 3, 11, 26, 0), (190, .iload 6, 2, 0, 0, 0), (192, .baload, 1, 0, 0, 0), (193, .ifCond .eq 22, 3, 0, 0, 0), (196, .aload_n 0, 1, 0, 0, 0), (197, .iload 6, 2, 0, 0, 0), (199, .bipush 16, 2, 0, 0, 0), (201, .invokevirtual 177, 3, 43, 0, 2), (204, .iload 4, 2, 0, 0, 0), (206, .if_icmp .ne 9, 3, 0, 0, 0), (209, .aload_n 0, 1, 0, 0, 0), (210, .iload 6, 2, 0, 0, 0), (212, .invokevirtual 185, 3, 104, 0, 1), (215, .iinc 6 1, 3, 0, 0, 0), (218, .goto (-39), 3, 0, 0, 0), (221, .return_, 1, 0, 0, 0)], [])
def zm_128 : zM := (⟨"NestedPagerModel", "go", "(IIII)Z"⟩, prog_13_method_35_code, 10, (some (.boolean)), (10, 261, 0, 0), (0, 11, 4, 0, 0, 0), [(0, .aload_n 0, 1, 0, 0, 0), (1, .iload_n 1, 1, 0, 0, 0), (2, .bipush 16, 2, 0, 0, 0), (4, .invokevirtual 177, 3, 43, 0, 2), (7, .istore 5, 2, 0, 0, 0), (9, .iload_n 3, 1, 0, 0, 0), (10, .bipush 16, 2, 0, 0, 0), (12, .idiv, 1, 0, 0, 0), (13, .istore 6, 2, 0, 0, 0), (15, .aload_n 0, 1, 0, 0, 0), (16, .iload_n 1, 1, 0, 0, 0), (17, .iconst 4, 1, 0, 0, 0), (18, .invokevirtual 177, 3, 43, 0, 2), (21, .iconst 1, 1, 0, 0, 0), (22, .iand, 1, 0, 0, 0), (23, .iconst 1, 1, 0, 0, 0), (24, .if_icmp .ne 43, 3, 0, 0, 0), (27, .aload_n 0, 1, 0, 0, 0), (28, .iload_n 1, 1, 0, 0, 0), (29, .iload_n 2, 1, 0, 0, 0), (30, .iload 6, 2, 0, 0, 0), (32, .invokevirtual 226, 3, 108, 0, 3), (35, .istore 7, 2, 0, 0, 0), (37, .iload 7, 2, 0, 0, 0), (39, .ifCond .ge 24, 3, 0, 0, 0), (42, .aload_n 0, 1, 0, 0, 0), (43, .iload_n 1, 1, 0, 0, 0), (44, .iload_n 2, 1, 0, 0, 0), (45, .iload_n 3, 1, 0, 0, 0), (46, .invokevirtual 229, 3, 124, 0, 3), (49, .ifCond .ne 5, 3, 0, 0, 0), (52, .iconst 0, 1, 0, 0, 0), (53, .ireturn, 1, 0, 0, 0), (54, .aload_n 0, 1, 0, 0, 0), (55, .getfield 223, 3, 11, 37, 0), (58, .istore 6, 2, 0, 0, 0), (60, .goto 7, 3, 0, 0, 0), (63, .iload 7, 2, 0, 0, 0), (65, .istore 6, 2, 0, 0, 0), (67, .iload_n 3, 1, 0, 0, 0), (68, .bipush 16, 2, 0, 0, 0), (70, .irem, 1, 0, 0, 0), (71, .istore 7, 2, 0, 0, 0), (73, .iload 6, 2, 0, 0, 0), (75, .invokestatic 195, 3, 109, 0, 1), (78, .ifCond .eq 68, 3, 0, 0, 0), (81, .iload_n 2, 1, 0, 0, 0), (82, .iconst 2, 1, 0, 0, 0), (83, .if_icmp .ne 21, 3, 0, 0, 0), (86, .aload_n 0, 1, 0, 0, 0), (87, .iload_n 1, 1, 0, 0, 0), (88, .iconst 5, 1, 0, 0, 0), (89, .bipush 16, 2, 0, 0, 0), (91, .iload 6, 2, 0, 0, 0), (93, .imul, 1, 0, 0, 0), (94, .iload 7, 2, 0, 0, 0), (96, .iadd, 1, 0, 0, 0), (97, .iload_n 3, 1, 0, 0, 0), (98, .iload_n 2, 1, 0, 0, 0), (99, .iconst 0, 1, 0, 0, 0), (100, .invokevirtual 203, 3, 118, 0, 6), (103, .ireturn, 1, 0, 0, 0), (104, .aload_n 0, 1, 0, 0, 0), (105, .iload_n 2, 1, 0, 0, 0), (106, .ifCond .ne 16, 3, 0, 0, 0), (109, .aload_n 0, 1, 0, 0, 0), (110, .iload 5, 2, 0, 0, 0), (112, .iload 6, 2, 0, 0, 0), (114, .iload 7, 2, 0, 0, 0), (116, .invokevirtual 232, 3, 125, 0, 3), (119, .goto 4, 3, 0, 0, 0), (122, .iconst 0, 1, 0, 0, 0), (123, .putfield 223, 3, 11, 37, 0), (126, .iload_n 2, 1, 0, 0, 0), (127, .iconst 1, 1, 0, 0, 0), (128, .if_icmp .ne 16, 3, 0, 0, 0), (131, .aload_n 0, 1, 0, 0, 0), (132, .iload_n 1, 1, 0, 0, 0), (133, .iload 5, 2, 0, 0, 0), (135, .iload 6, 2, 0, 0, 0), (137, .iload 7, 2, 0, 0, 0), (139, .iload 4, 2, 0, 0, 0), (141, .invokevirtual 235, 3, 127, 0, 5), (144, .iconst 1, 1, 0, 0, 0), (145, .ireturn, 1, 0, 0, 0), (146, .aload_n 0, 1, 0, 0, 0), (147, .iload 5, 2, 0, 0, 0), (149, .iload 6, 2, 0, 0, 0), (151, .iload_n 2, 1, 0, 0, 0), (152, .iconst 0, 1, 0, 0, 0), (153, .invokevirtual 199, 3, 117, 0, 4), (156, .istore 8, 2, 0, 0, 0), (158, .iload 8, 2, 0, 0, 0), (160, .ifCond .eq 22, 3, 0, 0, 0), (163, .aload_n 0, 1, 0, 0, 0), (164, .iload_n 1, 1, 0, 0, 0), (165, .iload 8, 2, 0, 0, 0), (167, .bipush 16, 2, 0, 0, 0), (169, .iload 6, 2, 0, 0, 0), (171, .imul, 1, 0, 0, 0), (172, .iload 7, 2, 0, 0, 0), (174, .iadd, 1, 0, 0, 0), (175, .iload_n 3, 1, 0, 0, 0), (176, .iload_n 2, 1, 0, 0, 0), (177, .iconst 0, 1, 0, 0, 0), (178, .invokevirtual 203, 3, 118, 0, 6), (181, .ireturn, 1, 0, 0, 0), (182, .aload_n 0, 1, 0, 0, 0), (183, .iload 5, 2, 0, 0, 0), (185, .iload 6, 2, 0, 0, 0), (187, .invokevirtual 210, 3, 120, 0, 2), (190, .iload 7, 2, 0, 0, 0), (192, .iadd, 1, 0, 0, 0), (193, .istore 9, 2, 0, 0, 0), (195, .aload_n 0, 1, 0, 0, 0), (196, .iload_n 2, 1, 0, 0, 0), (197, .iconst 1, 1, 0, 0, 0), (198, .if_icmp .ne 7, 3, 0, 0, 0), (201, .iconst 0, 1, 0, 0, 0), (202, .goto 10, 3, 0, 0, 0), (205, .aload_n 0, 1, 0, 0, 0), (206, .getfield 7, 3, 11, 1, 0), (209, .iload 9, 2, 0, 0, 0), (211, .iaload, 1, 0, 0, 0), (212, .putfield 223, 3, 11, 37, 0), (215, .iload_n 2, 1, 0, 0, 0), (216, .iconst 1, 1, 0, 0, 0), (217, .if_icmp .ne 12, 3, 0, 0, 0), (220, .aload_n 0, 1, 0, 0, 0), (221, .getfield 7, 3, 11, 1, 0), (224, .iload 9, 2, 0, 0, 0), (226, .iload 4, 2, 0, 0, 0), (228, .iastore, 1, 0, 0, 0), (229, .iconst 1, 1, 0, 0, 0), (230, .ireturn, 1, 0, 0, 0)], [])
def zm_129 : zM := (⟨"NestedPagerModel", "access", "(IIII)I"⟩, prog_13_method_45_code, 6, (some (.int)), (11, 290, 0, 0), (0, 11, 4, 0, 0, 0), [(0, .iload_n 1, 1, 0, 0, 0), (1, .iconst 0, 1, 0, 0, 0), (2, .bipush 7, 2, 0, 0, 0), (4, .invokestatic 120, 3, 20, 0, 3), (7, .ifCond .eq 38, 3, 0, 0, 0), (10, .iload_n 2, 1, 0, 0, 0), (11, .iconst 0, 1, 0, 0, 0), (12, .iconst 2, 1, 0, 0, 0), (13, .invokestatic 120, 3, 20, 0, 3), (16, .ifCond .eq 29, 3, 0, 0, 0), (19, .iload_n 3, 1, 0, 0, 0), (20, .iconst 0, 1, 0, 0, 0), (21, .sipush 4095, 3, 0, 0, 0), (24, .invokestatic 120, 3, 20, 0, 3), (27, .ifCond .eq 18, 3, 0, 0, 0), (30, .iload 4, 2, 0, 0, 0), (32, .iconst 0, 1, 0, 0, 0), (33, .ldc 239, 2, 65535, 0, 0), (35, .invokestatic 120, 3, 20, 0, 3), (38, .ifCond .eq 7, 3, 0, 0, 0), (41, .iconst 1, 1, 0, 0, 0), (42, .goto 4, 3, 0, 0, 0), (45, .iconst 0, 1, 0, 0, 0), (46, .istore 5, 2, 0, 0, 0), (48, .aload_n 0, 1, 0, 0, 0), (49, .iload 5, 2, 0, 0, 0), (51, .ifCond .ne 7, 3, 0, 0, 0), (54, .iconst 1, 1, 0, 0, 0), (55, .goto 17, 3, 0, 0, 0), (58, .aload_n 0, 1, 0, 0, 0), (59, .getfield 83, 3, 11, 26, 0), (62, .iload_n 1, 1, 0, 0, 0), (63, .baload, 1, 0, 0, 0), (64, .ifCond .ne 7, 3, 0, 0, 0), (67, .iconst 2, 1, 0, 0, 0), (68, .goto 4, 3, 0, 0, 0), (71, .iconst 0, 1, 0, 0, 0), (72, .invokevirtual 244, 3, 21, 0, 1), (75, .ifCond .eq 5, 3, 0, 0, 0), (78, .iconst 0, 1, 0, 0, 0), (79, .ireturn, 1, 0, 0, 0), (80, .aload_n 0, 1, 0, 0, 0), (81, .aload_n 0, 1, 0, 0, 0), (82, .iload_n 1, 1, 0, 0, 0), (83, .bipush 16, 2, 0, 0, 0), (85, .invokevirtual 177, 3, 43, 0, 2), (88, .invokevirtual 250, 3, 105, 0, 1), (91, .aload_n 0, 1, 0, 0, 0), (92, .iload_n 1, 1, 0, 0, 0), (93, .iload_n 2, 1, 0, 0, 0), (94, .iload_n 3, 1, 0, 0, 0), (95, .iload 4, 2, 0, 0, 0), (97, .invokevirtual 253, 3, 128, 0, 4), (100, .ifCond .eq 10, 3, 0, 0, 0), (103, .aload_n 0, 1, 0, 0, 0), (104, .getfield 223, 3, 11, 37, 0), (107, .goto 7, 3, 0, 0, 0), (110, .aload_n 0, 1, 0, 0, 0), (111, .getfield 168, 3, 11, 38, 0), (114, .ireturn, 1, 0, 0, 0)], [])
def zm_130 : zM := (⟨"NestedPager$Processor", "isHandled", "(LNestedPager$Vcpu;I)Z"⟩, prog_9_method_5_code, 5, (some (.boolean)), (1, 25, 0, 0), (0, 7, 2, 0, 0, 0), [(0, .aload_n 1, 1, 0, 0, 0), (1, .getfield 33, 3, 9, 2, 0), (4, .astore_n 3, 1, 0, 0, 0), (5, .iload_n 2, 1, 0, 0, 0), (6, .bipush (-3), 2, 0, 0, 0), (8, .if_icmp .ne 10, 3, 0, 0, 0), (11, .aload_n 3, 1, 0, 0, 0), (12, .bipush 12, 2, 0, 0, 0), (14, .iconst 2, 1, 0, 0, 0), (15, .iastore, 1, 0, 0, 0), (16, .iconst 0, 1, 0, 0, 0), (17, .ireturn, 1, 0, 0, 0), (18, .aload_n 3, 1, 0, 0, 0), (19, .bipush 7, 2, 0, 0, 0), (21, .iaload, 1, 0, 0, 0), (22, .ifCond .lt 11, 3, 0, 0, 0), (25, .aload_n 3, 1, 0, 0, 0), (26, .bipush 14, 2, 0, 0, 0), (28, .iaload, 1, 0, 0, 0), (29, .iconst 1, 1, 0, 0, 0), (30, .if_icmp .ne 24, 3, 0, 0, 0), (33, .aload_n 1, 1, 0, 0, 0), (34, .bipush 6, 2, 0, 0, 0), (36, .iconst 0, 1, 0, 0, 0), (37, .aload_n 3, 1, 0, 0, 0), (38, .bipush 18, 2, 0, 0, 0), (40, .iaload, 1, 0, 0, 0), (41, .iconst 0, 1, 0, 0, 0), (42, .iconst 0, 1, 0, 0, 0), (43, .invokevirtual 69, 3, 45, 0, 5), (46, .pop, 1, 0, 0, 0), (47, .aload_n 3, 1, 0, 0, 0), (48, .bipush 12, 2, 0, 0, 0), (50, .iconst 2, 1, 0, 0, 0), (51, .iastore, 1, 0, 0, 0), (52, .iconst 0, 1, 0, 0, 0), (53, .ireturn, 1, 0, 0, 0), (54, .aload_n 3, 1, 0, 0, 0), (55, .bipush 17, 2, 0, 0, 0), (57, .iaload, 1, 0, 0, 0), (58, .bipush 64, 2, 0, 0, 0), (60, .if_icmp .ne 7, 3, 0, 0, 0), (63, .iconst 1, 1, 0, 0, 0), (64, .goto 4, 3, 0, 0, 0), (67, .iconst 0, 1, 0, 0, 0), (68, .istore 4, 2, 0, 0, 0), (70, .aload_n 3, 1, 0, 0, 0), (71, .bipush 8, 2, 0, 0, 0), (73, .aload_n 3, 1, 0, 0, 0), (74, .iconst 2, 1, 0, 0, 0), (75, .iaload, 1, 0, 0, 0), (76, .iload 4, 2, 0, 0, 0), (78, .iadd, 1, 0, 0, 0), (79, .sipush 4096, 3, 0, 0, 0), (82, .irem, 1, 0, 0, 0), (83, .iastore, 1, 0, 0, 0), (84, .aload_n 3, 1, 0, 0, 0), (85, .bipush 9, 2, 0, 0, 0), (87, .aload_n 3, 1, 0, 0, 0), (88, .iconst 3, 1, 0, 0, 0), (89, .iaload, 1, 0, 0, 0), (90, .iastore, 1, 0, 0, 0), (91, .aload_n 3, 1, 0, 0, 0), (92, .bipush 10, 2, 0, 0, 0), (94, .aload_n 3, 1, 0, 0, 0), (95, .bipush 17, 2, 0, 0, 0), (97, .iaload, 1, 0, 0, 0), (98, .iastore, 1, 0, 0, 0), (99, .aload_n 3, 1, 0, 0, 0), (100, .bipush 11, 2, 0, 0, 0), (102, .aload_n 3, 1, 0, 0, 0), (103, .bipush 18, 2, 0, 0, 0), (105, .iaload, 1, 0, 0, 0), (106, .iastore, 1, 0, 0, 0), (107, .aload_n 3, 1, 0, 0, 0), (108, .iconst 3, 1, 0, 0, 0), (109, .iconst 0, 1, 0, 0, 0), (110, .iastore, 1, 0, 0, 0), (111, .aload_n 3, 1, 0, 0, 0), (112, .iconst 2, 1, 0, 0, 0), (113, .aload_n 3, 1, 0, 0, 0), (114, .bipush 7, 2, 0, 0, 0), (116, .iaload, 1, 0, 0, 0), (117, .iastore, 1, 0, 0, 0), (118, .aload_n 3, 1, 0, 0, 0), (119, .bipush 14, 2, 0, 0, 0), (121, .iconst 1, 1, 0, 0, 0), (122, .iastore, 1, 0, 0, 0), (123, .iconst 1, 1, 0, 0, 0), (124, .ireturn, 1, 0, 0, 0)], [])
def zm_131 : zM := (⟨"NestedPager$Processor", "ownFault", "(IIZ)I"⟩, prog_9_method_3_code, 3, (some (.int)), (0, 0, 0, 0), (1, 7, 3, 0, 0, 0), [(0, .iload_n 0, 1, 0, 0, 0), (1, .lookupswitch 89 #[(0, 43), (13, 72), (14, 75), (15, 86)], 43, 0, 0, 0), (44, .iload_n 1, 1, 0, 0, 0), (45, .bipush 16, 2, 0, 0, 0), (47, .if_icmp .gt 19, 3, 0, 0, 0), (50, .iload_n 2, 1, 0, 0, 0), (51, .ifCond .eq 20, 3, 0, 0, 0), (54, .iload_n 1, 1, 0, 0, 0), (55, .bipush 14, 2, 0, 0, 0), (57, .if_icmp .eq 14, 3, 0, 0, 0), (60, .iload_n 1, 1, 0, 0, 0), (61, .bipush 15, 2, 0, 0, 0), (63, .if_icmp .eq 8, 3, 0, 0, 0), (66, .bipush 32, 2, 0, 0, 0), (68, .goto 4, 3, 0, 0, 0), (71, .iconst 0, 1, 0, 0, 0), (72, .ireturn, 1, 0, 0, 0), (73, .bipush 64, 2, 0, 0, 0), (75, .ireturn, 1, 0, 0, 0), (76, .iload_n 2, 1, 0, 0, 0), (77, .ifCond .eq 8, 3, 0, 0, 0), (80, .bipush 32, 2, 0, 0, 0), (82, .goto 4, 3, 0, 0, 0), (85, .iconst 0, 1, 0, 0, 0), (86, .ireturn, 1, 0, 0, 0), (87, .bipush 32, 2, 0, 0, 0), (89, .ireturn, 1, 0, 0, 0), (90, .iconst 0, 1, 0, 0, 0), (91, .ireturn, 1, 0, 0, 0)], [])
def zm_132 : zM := (⟨"NestedPager$Processor", "accessOf", "(I)I"⟩, prog_9_method_4_code, 1, (some (.int)), (0, 0, 0, 0), (1, 7, 1, 0, 0, 0), [(0, .iload_n 0, 1, 0, 0, 0), (1, .tableswitch 67 1 12 #[63, 65, 63, 63, 63, 67, 67, 67, 67, 63, 63, 65], 63, 0, 0, 0), (64, .iconst 0, 1, 0, 0, 0), (65, .ireturn, 1, 0, 0, 0), (66, .iconst 1, 1, 0, 0, 0), (67, .ireturn, 1, 0, 0, 0), (68, .iconst (-1), 1, 0, 0, 0), (69, .ireturn, 1, 0, 0, 0)], [])
def zm_133 : zM := (⟨"NestedPager$Processor", "goBack", "([I)V"⟩, prog_9_method_8_code, 1, none, (0, 0, 0, 0), (1, 7, 1, 0, 0, 0), [(0, .aload_n 0, 1, 0, 0, 0), (1, .iconst 2, 1, 0, 0, 0), (2, .aload_n 0, 1, 0, 0, 0), (3, .bipush 8, 2, 0, 0, 0), (5, .iaload, 1, 0, 0, 0), (6, .iastore, 1, 0, 0, 0), (7, .aload_n 0, 1, 0, 0, 0), (8, .iconst 3, 1, 0, 0, 0), (9, .aload_n 0, 1, 0, 0, 0), (10, .bipush 9, 2, 0, 0, 0), (12, .iaload, 1, 0, 0, 0), (13, .iastore, 1, 0, 0, 0), (14, .aload_n 0, 1, 0, 0, 0), (15, .bipush 14, 2, 0, 0, 0), (17, .iconst 0, 1, 0, 0, 0), (18, .iastore, 1, 0, 0, 0), (19, .return_, 1, 0, 0, 0)], [])
def zm_134 : zM := (⟨"NestedPager$LookAside", "isMeant", "(IIII)Z"⟩, prog_5_method_9_code, 5, (some (.boolean)), (1, 25, 0, 0), (0, 3, 4, 0, 0, 0), [(0, .iload_n 2, 1, 0, 0, 0), (1, .lookupswitch 57 #[(0, 27), (1, 29)], 27, 0, 0, 0), (28, .iconst 1, 1, 0, 0, 0), (29, .ireturn, 1, 0, 0, 0), (30, .aload_n 0, 1, 0, 0, 0), (31, .getfield 25, 3, 3, 4, 0), (34, .iload_n 1, 1, 0, 0, 0), (35, .iaload, 1, 0, 0, 0), (36, .iload_n 3, 1, 0, 0, 0), (37, .if_icmp .ne 19, 3, 0, 0, 0), (40, .aload_n 0, 1, 0, 0, 0), (41, .getfield 22, 3, 3, 3, 0), (44, .iload_n 1, 1, 0, 0, 0), (45, .iaload, 1, 0, 0, 0), (46, .bipush 16, 2, 0, 0, 0), (48, .iand, 1, 0, 0, 0), (49, .ifCond .ne 7, 3, 0, 0, 0), (52, .iconst 1, 1, 0, 0, 0), (53, .goto 4, 3, 0, 0, 0), (56, .iconst 0, 1, 0, 0, 0), (57, .ireturn, 1, 0, 0, 0), (58, .aload_n 0, 1, 0, 0, 0), (59, .iload_n 1, 1, 0, 0, 0), (60, .iload_n 3, 1, 0, 0, 0), (61, .iload 4, 2, 0, 0, 0), (63, .invokevirtual 32, 3, 67, 0, 3), (66, .ireturn, 1, 0, 0, 0)], [])
def zm_135 : zM := (⟨"NestedPager$LookAside", "clear", "(III)I"⟩, prog_5_method_8_code, 6, (some (.int)), (2, 49, 0, 0), (0, 3, 3, 0, 0, 0), [(0, .iconst 0, 1, 0, 0, 0), (1, .istore 4, 2, 0, 0, 0), (3, .iconst 0, 1, 0, 0, 0), (4, .istore 5, 2, 0, 0, 0), (6, .iload 5, 2, 0, 0, 0), (8, .bipush 8, 2, 0, 0, 0), (10, .if_icmp .ge 42, 3, 0, 0, 0), (13, .aload_n 0, 1, 0, 0, 0), (14, .getfield 11, 3, 3, 0, 0), (17, .iload 5, 2, 0, 0, 0), (19, .baload, 1, 0, 0, 0), (20, .ifCond .eq 26, 3, 0, 0, 0), (23, .aload_n 0, 1, 0, 0, 0), (24, .iload 5, 2, 0, 0, 0), (26, .iload_n 1, 1, 0, 0, 0), (27, .iload_n 2, 1, 0, 0, 0), (28, .iload_n 3, 1, 0, 0, 0), (29, .invokevirtual 40, 3, 134, 0, 4), (32, .ifCond .eq 14, 3, 0, 0, 0), (35, .aload_n 0, 1, 0, 0, 0), (36, .getfield 11, 3, 3, 0, 0), (39, .iload 5, 2, 0, 0, 0), (41, .iconst 0, 1, 0, 0, 0), (42, .bastore, 1, 0, 0, 0), (43, .iinc 4 1, 3, 0, 0, 0), (46, .iinc 5 1, 3, 0, 0, 0), (49, .goto (-43), 3, 0, 0, 0), (52, .iload 4, 2, 0, 0, 0), (54, .ireturn, 1, 0, 0, 0)], [])
def zm_136 : zM := (⟨"NestedPager$Processor", "control", "(LNestedPager$Vcpu;I)V"⟩, prog_9_method_7_code, 5, none, (3, 74, 0, 0), (0, 7, 2, 0, 0, 0), [(0, .aload_n 1, 1, 0, 0, 0), (1, .getfield 33, 3, 9, 2, 0), (4, .astore_n 3, 1, 0, 0, 0), (5, .aload_n 3, 1, 0, 0, 0), (6, .iconst 0, 1, 0, 0, 0), (7, .iaload, 1, 0, 0, 0), (8, .istore 4, 2, 0, 0, 0), (10, .iload_n 2, 1, 0, 0, 0), (11, .tableswitch 276 0 15 #[77, 85, 92, 109, 126, 144, 170, 182, 193, 203, 216, 229, 239, 249, 259, 267], 77, 0, 0, 0), (88, .aload_n 3, 1, 0, 0, 0), (89, .bipush 12, 2, 0, 0, 0), (91, .iconst 1, 1, 0, 0, 0), (92, .iastore, 1, 0, 0, 0), (93, .goto 202, 3, 0, 0, 0), (96, .aload_n 3, 1, 0, 0, 0), (97, .invokestatic 82, 3, 133, 0, 1), (100, .goto 195, 3, 0, 0, 0), (103, .aload_n 1, 1, 0, 0, 0), (104, .getfield 86, 3, 9, 4, 0), (107, .iconst 0, 1, 0, 0, 0), (108, .aload_n 3, 1, 0, 0, 0), (109, .bipush 6, 2, 0, 0, 0), (111, .iaload, 1, 0, 0, 0), (112, .iconst 0, 1, 0, 0, 0), (113, .invokevirtual 92, 3, 135, 0, 3), (116, .pop, 1, 0, 0, 0), (117, .goto 178, 3, 0, 0, 0), (120, .aload_n 1, 1, 0, 0, 0), (121, .getfield 86, 3, 9, 4, 0), (124, .iconst 1, 1, 0, 0, 0), (125, .aload_n 3, 1, 0, 0, 0), (126, .bipush 6, 2, 0, 0, 0), (128, .iaload, 1, 0, 0, 0), (129, .iconst 0, 1, 0, 0, 0), (130, .invokevirtual 92, 3, 135, 0, 3), (133, .pop, 1, 0, 0, 0), (134, .goto 161, 3, 0, 0, 0), (137, .aload_n 1, 1, 0, 0, 0), (138, .getfield 86, 3, 9, 4, 0), (141, .iconst 2, 1, 0, 0, 0), (142, .aload_n 3, 1, 0, 0, 0), (143, .bipush 6, 2, 0, 0, 0), (145, .iaload, 1, 0, 0, 0), (146, .iload 4, 2, 0, 0, 0), (148, .invokevirtual 92, 3, 135, 0, 3), (151, .pop, 1, 0, 0, 0), (152, .goto 143, 3, 0, 0, 0), (155, .aload_n 3, 1, 0, 0, 0), (156, .iconst 5, 1, 0, 0, 0), (157, .iload 4, 2, 0, 0, 0), (159, .sipush 256, 3, 0, 0, 0), (162, .irem, 1, 0, 0, 0), (163, .iastore, 1, 0, 0, 0), (164, .aload_n 1, 1, 0, 0, 0), (165, .getfield 86, 3, 9, 4, 0), (168, .iconst 1, 1, 0, 0, 0), (169, .aload_n 3, 1, 0, 0, 0), (170, .bipush 6, 2, 0, 0, 0), (172, .iaload, 1, 0, 0, 0), (173, .iconst 0, 1, 0, 0, 0), (174, .invokevirtual 92, 3, 135, 0, 3), (177, .pop, 1, 0, 0, 0), (178, .goto 117, 3, 0, 0, 0), (181, .aload_n 3, 1, 0, 0, 0), (182, .iconst 5, 1, 0, 0, 0), (183, .iload 4, 2, 0, 0, 0), (185, .sipush 256, 3, 0, 0, 0), (188, .irem, 1, 0, 0, 0), (189, .iastore, 1, 0, 0, 0), (190, .goto 105, 3, 0, 0, 0), (193, .aload_n 3, 1, 0, 0, 0), (194, .bipush 6, 2, 0, 0, 0), (196, .iload 4, 2, 0, 0, 0), (198, .iconst 4, 1, 0, 0, 0), (199, .irem, 1, 0, 0, 0), (200, .iastore, 1, 0, 0, 0), (201, .goto 94, 3, 0, 0, 0), (204, .aload_n 3, 1, 0, 0, 0), (205, .iconst 4, 1, 0, 0, 0), (206, .iload 4, 2, 0, 0, 0), (208, .iconst 4, 1, 0, 0, 0), (209, .irem, 1, 0, 0, 0), (210, .iastore, 1, 0, 0, 0), (211, .goto 84, 3, 0, 0, 0), (214, .aload_n 3, 1, 0, 0, 0), (215, .bipush 7, 2, 0, 0, 0), (217, .iload 4, 2, 0, 0, 0), (219, .sipush 4096, 3, 0, 0, 0), (222, .irem, 1, 0, 0, 0), (223, .iastore, 1, 0, 0, 0), (224, .goto 71, 3, 0, 0, 0), (227, .aload_n 3, 1, 0, 0, 0), (228, .bipush 8, 2, 0, 0, 0), (230, .iload 4, 2, 0, 0, 0), (232, .sipush 4096, 3, 0, 0, 0), (235, .irem, 1, 0, 0, 0), (236, .iastore, 1, 0, 0, 0), (237, .goto 58, 3, 0, 0, 0), (240, .aload_n 3, 1, 0, 0, 0), (241, .iconst 0, 1, 0, 0, 0), (242, .aload_n 3, 1, 0, 0, 0), (243, .bipush 8, 2, 0, 0, 0), (245, .iaload, 1, 0, 0, 0), (246, .iastore, 1, 0, 0, 0), (247, .goto 48, 3, 0, 0, 0), (250, .aload_n 3, 1, 0, 0, 0), (251, .iconst 0, 1, 0, 0, 0), (252, .aload_n 3, 1, 0, 0, 0), (253, .bipush 10, 2, 0, 0, 0), (255, .iaload, 1, 0, 0, 0), (256, .iastore, 1, 0, 0, 0), (257, .goto 38, 3, 0, 0, 0), (260, .aload_n 3, 1, 0, 0, 0), (261, .iconst 0, 1, 0, 0, 0), (262, .aload_n 3, 1, 0, 0, 0), (263, .bipush 11, 2, 0, 0, 0), (265, .iaload, 1, 0, 0, 0), (266, .iastore, 1, 0, 0, 0), (267, .goto 28, 3, 0, 0, 0), (270, .aload_n 3, 1, 0, 0, 0), (271, .iconst 1, 1, 0, 0, 0), (272, .iload 4, 2, 0, 0, 0), (274, .iastore, 1, 0, 0, 0), (275, .goto 20, 3, 0, 0, 0), (278, .aload_n 3, 1, 0, 0, 0), (279, .iconst 0, 1, 0, 0, 0), (280, .aload_n 3, 1, 0, 0, 0), (281, .iconst 1, 1, 0, 0, 0), (282, .iaload, 1, 0, 0, 0), (283, .iastore, 1, 0, 0, 0), (284, .goto 11, 3, 0, 0, 0), (287, .aload_n 3, 1, 0, 0, 0), (288, .bipush 9, 2, 0, 0, 0), (290, .iload 4, 2, 0, 0, 0), (292, .iconst 2, 1, 0, 0, 0), (293, .irem, 1, 0, 0, 0), (294, .iastore, 1, 0, 0, 0), (295, .return_, 1, 0, 0, 0)], [])
def zm_137 : zM := (⟨"NestedPager$Pager", "give", "(LNestedPager$Guest;I)I"⟩, prog_8_method_5_code, 5, (some (.int)), (3, 66, 0, 0), (0, 6, 2, 0, 0, 0), [(0, .iload_n 2, 1, 0, 0, 0), (1, .aload_n 1, 1, 0, 0, 0), (2, .getfield 17, 3, 2, 2, 0), (5, .if_icmp .ge 18, 3, 0, 0, 0), (8, .aload_n 0, 1, 0, 0, 0), (9, .getfield 9, 3, 6, 0, 0), (12, .aload_n 1, 1, 0, 0, 0), (13, .getfield 27, 3, 2, 3, 0), (16, .iload_n 2, 1, 0, 0, 0), (17, .invokevirtual 62, 3, 32, 0, 2), (20, .goto 5, 3, 0, 0, 0), (23, .bipush 96, 2, 0, 0, 0), (25, .istore_n 3, 1, 0, 0, 0), (26, .iload_n 3, 1, 0, 0, 0), (27, .bipush 96, 2, 0, 0, 0), (29, .iand, 1, 0, 0, 0), (30, .bipush 96, 2, 0, 0, 0), (32, .if_icmp .ne 6, 3, 0, 0, 0), (35, .ldc 65, 2, 65535, 0, 0), (37, .ireturn, 1, 0, 0, 0), (38, .aload_n 0, 1, 0, 0, 0), (39, .getfield 9, 3, 6, 0, 0), (42, .aload_n 1, 1, 0, 0, 0), (43, .getfield 27, 3, 2, 3, 0), (46, .iload_n 2, 1, 0, 0, 0), (47, .invokevirtual 30, 3, 31, 0, 2), (50, .istore 4, 2, 0, 0, 0), (52, .iload 4, 2, 0, 0, 0), (54, .ifCond .ge 28, 3, 0, 0, 0), (57, .aload_n 0, 1, 0, 0, 0), (58, .getfield 9, 3, 6, 0, 0), (61, .aload_n 1, 1, 0, 0, 0), (62, .getfield 27, 3, 2, 3, 0), (65, .aload_n 1, 1, 0, 0, 0), (66, .getfield 38, 3, 2, 0, 0), (69, .iload_n 2, 1, 0, 0, 0), (70, .aload_n 0, 1, 0, 0, 0), (71, .getfield 9, 3, 6, 0, 0), (74, .invokevirtual 41, 3, 80, 0, 0), (77, .invokevirtual 45, 3, 81, 0, 4), (80, .istore 4, 2, 0, 0, 0), (82, .iload 4, 2, 0, 0, 0), (84, .ifCond .ge 6, 3, 0, 0, 0), (87, .ldc 66, 2, 65534, 0, 0), (89, .ireturn, 1, 0, 0, 0), (90, .aload_n 0, 1, 0, 0, 0), (91, .getfield 9, 3, 6, 0, 0), (94, .iload_n 3, 1, 0, 0, 0), (95, .invokevirtual 67, 3, 35, 0, 1), (98, .aload_n 0, 1, 0, 0, 0), (99, .getfield 9, 3, 6, 0, 0), (102, .getfield 34, 3, 5, 0, 0), (105, .iload 4, 2, 0, 0, 0), (107, .iload_n 3, 1, 0, 0, 0), (108, .bipush 7, 2, 0, 0, 0), (110, .iand, 1, 0, 0, 0), (111, .bipush 96, 2, 0, 0, 0), (113, .ior, 1, 0, 0, 0), (114, .iastore, 1, 0, 0, 0), (115, .iconst 0, 1, 0, 0, 0), (116, .ireturn, 1, 0, 0, 0)], [])
def zm_138 : zM := (⟨"NestedPager$Pager", "takeBack", "(LNestedPager$Guest;I)I"⟩, prog_8_method_6_code, 4, (some (.int)), (2, 43, 0, 0), (0, 6, 2, 0, 0, 0), [(0, .iload_n 2, 1, 0, 0, 0), (1, .aload_n 1, 1, 0, 0, 0), (2, .getfield 17, 3, 2, 2, 0), (5, .if_icmp .ge 18, 3, 0, 0, 0), (8, .aload_n 0, 1, 0, 0, 0), (9, .getfield 9, 3, 6, 0, 0), (12, .aload_n 1, 1, 0, 0, 0), (13, .getfield 27, 3, 2, 3, 0), (16, .iload_n 2, 1, 0, 0, 0), (17, .invokevirtual 30, 3, 31, 0, 2), (20, .goto 4, 3, 0, 0, 0), (23, .iconst (-1), 1, 0, 0, 0), (24, .istore_n 3, 1, 0, 0, 0), (25, .iload_n 3, 1, 0, 0, 0), (26, .ifCond .lt 20, 3, 0, 0, 0), (29, .aload_n 0, 1, 0, 0, 0), (30, .getfield 9, 3, 6, 0, 0), (33, .getfield 34, 3, 5, 0, 0), (36, .iload_n 3, 1, 0, 0, 0), (37, .iaload, 1, 0, 0, 0), (38, .bipush 96, 2, 0, 0, 0), (40, .iand, 1, 0, 0, 0), (41, .bipush 96, 2, 0, 0, 0), (43, .if_icmp .eq 6, 3, 0, 0, 0), (46, .ldc 65, 2, 65535, 0, 0), (48, .ireturn, 1, 0, 0, 0), (49, .aload_n 0, 1, 0, 0, 0), (50, .getfield 9, 3, 6, 0, 0), (53, .getfield 34, 3, 5, 0, 0), (56, .iload_n 3, 1, 0, 0, 0), (57, .dup2, 1, 0, 0, 0), (58, .iaload, 1, 0, 0, 0), (59, .bipush 7, 2, 0, 0, 0), (61, .iand, 1, 0, 0, 0), (62, .iastore, 1, 0, 0, 0), (63, .iconst 0, 1, 0, 0, 0), (64, .ireturn, 1, 0, 0, 0)], [])
def zm_139 : zM := (⟨"NestedPager$Devices", "vcpusOf", "(I)I"⟩, prog_2_method_5_code, 4, (some (.int)), (1, 21, 0, 0), (0, 0, 1, 0, 0, 0), [(0, .iconst 0, 1, 0, 0, 0), (1, .istore_n 2, 1, 0, 0, 0), (2, .iconst 0, 1, 0, 0, 0), (3, .istore_n 3, 1, 0, 0, 0), (4, .iload_n 3, 1, 0, 0, 0), (5, .bipush 8, 2, 0, 0, 0), (7, .if_icmp .ge 30, 3, 0, 0, 0), (10, .iload_n 2, 1, 0, 0, 0), (11, .aload_n 0, 1, 0, 0, 0), (12, .getfield 19, 3, 0, 2, 0), (15, .iload_n 3, 1, 0, 0, 0), (16, .aaload, 1, 0, 0, 0), (17, .iload_n 1, 1, 0, 0, 0), (18, .invokevirtual 36, 3, 28, 0, 1), (21, .ifCond .eq 7, 3, 0, 0, 0), (24, .iconst 1, 1, 0, 0, 0), (25, .goto 4, 3, 0, 0, 0), (28, .iconst 0, 1, 0, 0, 0), (29, .iadd, 1, 0, 0, 0), (30, .istore_n 2, 1, 0, 0, 0), (31, .iinc 3 1, 3, 0, 0, 0), (34, .goto (-30), 3, 0, 0, 0), (37, .iload_n 2, 1, 0, 0, 0), (38, .ireturn, 1, 0, 0, 0)], [])
def zm_140 : zM := (⟨"NestedPager$Processor", "clearAll", "(I)I"⟩, prog_9_method_10_code, 3, (some (.int)), (3, 74, 0, 0), (0, 7, 1, 0, 0, 0), [(0, .iconst 0, 1, 0, 0, 0), (1, .istore_n 2, 1, 0, 0, 0), (2, .iload_n 2, 1, 0, 0, 0), (3, .bipush 8, 2, 0, 0, 0), (5, .if_icmp .ge 44, 3, 0, 0, 0), (8, .aload_n 0, 1, 0, 0, 0), (9, .getfield 15, 3, 7, 1, 0), (12, .getfield 124, 3, 0, 2, 0), (15, .iload_n 2, 1, 0, 0, 0), (16, .aaload, 1, 0, 0, 0), (17, .iload_n 1, 1, 0, 0, 0), (18, .invokevirtual 128, 3, 28, 0, 1), (21, .ifCond .eq 22, 3, 0, 0, 0), (24, .aload_n 0, 1, 0, 0, 0), (25, .getfield 15, 3, 7, 1, 0), (28, .getfield 124, 3, 0, 2, 0), (31, .iload_n 2, 1, 0, 0, 0), (32, .aaload, 1, 0, 0, 0), (33, .getfield 86, 3, 9, 4, 0), (36, .iconst 0, 1, 0, 0, 0), (37, .iconst 0, 1, 0, 0, 0), (38, .iconst 0, 1, 0, 0, 0), (39, .invokevirtual 92, 3, 135, 0, 3), (42, .pop, 1, 0, 0, 0), (43, .iinc 2 1, 3, 0, 0, 0), (46, .goto (-44), 3, 0, 0, 0), (49, .aload_n 0, 1, 0, 0, 0), (50, .getfield 15, 3, 7, 1, 0), (53, .iload_n 1, 1, 0, 0, 0), (54, .invokevirtual 132, 3, 139, 0, 1), (57, .ireturn, 1, 0, 0, 0)], [])
def zm_141 : zM := (⟨"NestedPager$Processor", "sendEvent", "(II)I"⟩, prog_9_method_11_code, 3, (some (.int)), (2, 41, 0, 0), (0, 7, 2, 0, 0, 0), [(0, .iload_n 2, 1, 0, 0, 0), (1, .bipush 8, 2, 0, 0, 0), (3, .if_icmp .ge 19, 3, 0, 0, 0), (6, .aload_n 0, 1, 0, 0, 0), (7, .getfield 15, 3, 7, 1, 0), (10, .getfield 124, 3, 0, 2, 0), (13, .iload_n 2, 1, 0, 0, 0), (14, .aaload, 1, 0, 0, 0), (15, .iload_n 1, 1, 0, 0, 0), (16, .invokevirtual 128, 3, 28, 0, 1), (19, .ifCond .ne 6, 3, 0, 0, 0), (22, .ldc 77, 2, 65535, 0, 0), (24, .ireturn, 1, 0, 0, 0), (25, .aload_n 0, 1, 0, 0, 0), (26, .getfield 15, 3, 7, 1, 0), (29, .getfield 124, 3, 0, 2, 0), (32, .iload_n 2, 1, 0, 0, 0), (33, .aaload, 1, 0, 0, 0), (34, .invokevirtual 135, 3, 64, 0, 0), (37, .iconst 0, 1, 0, 0, 0), (38, .ireturn, 1, 0, 0, 0)], [])
def zm_142 : zM := (⟨"NestedPager$Processor", "takeEvents", "(LNestedPager$Vcpu;)I"⟩, prog_9_method_12_code, 2, (some (.int)), (0, 0, 0, 0), (1, 7, 1, 0, 0, 0), [(0, .aload_n 0, 1, 0, 0, 0), (1, .getfield 33, 3, 9, 2, 0), (4, .bipush 13, 2, 0, 0, 0), (6, .iaload, 1, 0, 0, 0), (7, .istore_n 1, 1, 0, 0, 0), (8, .aload_n 0, 1, 0, 0, 0), (9, .getfield 33, 3, 9, 2, 0), (12, .bipush 13, 2, 0, 0, 0), (14, .iconst 0, 1, 0, 0, 0), (15, .iastore, 1, 0, 0, 0), (16, .iload_n 1, 1, 0, 0, 0), (17, .ireturn, 1, 0, 0, 0)], [])
def zm_143 : zM := (⟨"NestedPager$Processor", "callHost", "(LNestedPager$Vcpu;I)I"⟩, prog_9_method_9_code, 5, (some (.int)), (4, 96, 0, 0), (0, 7, 2, 0, 0, 0), [(0, .aload_n 0, 1, 0, 0, 0), (1, .getfield 15, 3, 7, 1, 0), (4, .aload_n 1, 1, 0, 0, 0), (5, .invokevirtual 23, 3, 63, 0, 1), (8, .astore_n 3, 1, 0, 0, 0), (9, .aload_n 1, 1, 0, 0, 0), (10, .getfield 33, 3, 9, 2, 0), (13, .iconst 0, 1, 0, 0, 0), (14, .iaload, 1, 0, 0, 0), (15, .istore 4, 2, 0, 0, 0), (17, .iload_n 2, 1, 0, 0, 0), (18, .tableswitch 98 1 6 #[38, 53, 68, 73, 82, 93], 38, 0, 0, 0), (56, .aload_n 0, 1, 0, 0, 0), (57, .getfield 9, 3, 7, 0, 0), (60, .aload_n 3, 1, 0, 0, 0), (61, .iload 4, 2, 0, 0, 0), (63, .sipush 256, 3, 0, 0, 0), (66, .irem, 1, 0, 0, 0), (67, .invokevirtual 96, 3, 137, 0, 2), (70, .ireturn, 1, 0, 0, 0), (71, .aload_n 0, 1, 0, 0, 0), (72, .getfield 9, 3, 7, 0, 0), (75, .aload_n 3, 1, 0, 0, 0), (76, .iload 4, 2, 0, 0, 0), (78, .sipush 256, 3, 0, 0, 0), (81, .irem, 1, 0, 0, 0), (82, .invokevirtual 102, 3, 138, 0, 2), (85, .ireturn, 1, 0, 0, 0), (86, .aload_n 3, 1, 0, 0, 0), (87, .getfield 105, 3, 2, 4, 0), (90, .ireturn, 1, 0, 0, 0), (91, .aload_n 0, 1, 0, 0, 0), (92, .aload_n 3, 1, 0, 0, 0), (93, .getfield 111, 3, 2, 0, 0), (96, .invokevirtual 114, 3, 140, 0, 1), (99, .ireturn, 1, 0, 0, 0), (100, .aload_n 0, 1, 0, 0, 0), (101, .aload_n 3, 1, 0, 0, 0), (102, .getfield 111, 3, 2, 0, 0), (105, .iload 4, 2, 0, 0, 0), (107, .invokevirtual 117, 3, 141, 0, 2), (110, .ireturn, 1, 0, 0, 0), (111, .aload_n 1, 1, 0, 0, 0), (112, .invokestatic 120, 3, 142, 0, 1), (115, .ireturn, 1, 0, 0, 0), (116, .ldc 77, 2, 65535, 0, 0), (118, .ireturn, 1, 0, 0, 0)], [])
def zm_144 : zM := (⟨"NestedPager$Processor", "execute", "(LNestedPager$Vcpu;III)V"⟩, prog_9_method_6_code, 7, none, (5, 120, 0, 0), (0, 7, 4, 0, 0, 0), [(0, .aload_n 1, 1, 0, 0, 0), (1, .getfield 33, 3, 9, 2, 0), (4, .astore 5, 2, 0, 0, 0), (6, .aload 5, 2, 0, 0, 0), (8, .iconst 0, 1, 0, 0, 0), (9, .iaload, 1, 0, 0, 0), (10, .istore 6, 2, 0, 0, 0), (12, .iload_n 2, 1, 0, 0, 0), (13, .tableswitch 231 0 14 #[75, 84, 231, 93, 108, 123, 135, 143, 163, 183, 209, 84, 231, 231, 218], 75, 0, 0, 0), (88, .aload_n 0, 1, 0, 0, 0), (89, .aload_n 1, 1, 0, 0, 0), (90, .iload_n 3, 1, 0, 0, 0), (91, .invokevirtual 73, 3, 136, 0, 2), (94, .goto 150, 3, 0, 0, 0), (97, .aload 5, 2, 0, 0, 0), (99, .iconst 0, 1, 0, 0, 0), (100, .iload 4, 2, 0, 0, 0), (102, .iastore, 1, 0, 0, 0), (103, .goto 141, 3, 0, 0, 0), (106, .aload 5, 2, 0, 0, 0), (108, .iconst 0, 1, 0, 0, 0), (109, .iload 6, 2, 0, 0, 0), (111, .iload 4, 2, 0, 0, 0), (113, .iadd, 1, 0, 0, 0), (114, .ldc 77, 2, 65535, 0, 0), (116, .iand, 1, 0, 0, 0), (117, .iastore, 1, 0, 0, 0), (118, .goto 126, 3, 0, 0, 0), (121, .aload 5, 2, 0, 0, 0), (123, .iconst 0, 1, 0, 0, 0), (124, .iload 6, 2, 0, 0, 0), (126, .iload 4, 2, 0, 0, 0), (128, .isub, 1, 0, 0, 0), (129, .ldc 77, 2, 65535, 0, 0), (131, .iand, 1, 0, 0, 0), (132, .iastore, 1, 0, 0, 0), (133, .goto 111, 3, 0, 0, 0), (136, .aload 5, 2, 0, 0, 0), (138, .iconst 0, 1, 0, 0, 0), (139, .iload 6, 2, 0, 0, 0), (141, .iload 4, 2, 0, 0, 0), (143, .iand, 1, 0, 0, 0), (144, .iastore, 1, 0, 0, 0), (145, .goto 99, 3, 0, 0, 0), (148, .aload 5, 2, 0, 0, 0), (150, .iconst 2, 1, 0, 0, 0), (151, .iload_n 3, 1, 0, 0, 0), (152, .iastore, 1, 0, 0, 0), (153, .goto 91, 3, 0, 0, 0), (156, .aload 5, 2, 0, 0, 0), (158, .iconst 2, 1, 0, 0, 0), (159, .iload 6, 2, 0, 0, 0), (161, .ifCond .ne 7, 3, 0, 0, 0), (164, .iload_n 3, 1, 0, 0, 0), (165, .goto 7, 3, 0, 0, 0), (168, .aload 5, 2, 0, 0, 0), (170, .iconst 2, 1, 0, 0, 0), (171, .iaload, 1, 0, 0, 0), (172, .iastore, 1, 0, 0, 0), (173, .goto 71, 3, 0, 0, 0), (176, .aload 5, 2, 0, 0, 0), (178, .iconst 2, 1, 0, 0, 0), (179, .iload 6, 2, 0, 0, 0), (181, .ifCond .eq 7, 3, 0, 0, 0), (184, .iload_n 3, 1, 0, 0, 0), (185, .goto 7, 3, 0, 0, 0), (188, .aload 5, 2, 0, 0, 0), (190, .iconst 2, 1, 0, 0, 0), (191, .iaload, 1, 0, 0, 0), (192, .iastore, 1, 0, 0, 0), (193, .goto 51, 3, 0, 0, 0), (196, .aload 5, 2, 0, 0, 0), (198, .iconst 0, 1, 0, 0, 0), (199, .iload_n 3, 1, 0, 0, 0), (200, .sipush 2048, 3, 0, 0, 0), (203, .if_icmp .lt 11, 3, 0, 0, 0), (206, .iload_n 3, 1, 0, 0, 0), (207, .sipush 4096, 3, 0, 0, 0), (210, .isub, 1, 0, 0, 0), (211, .goto 4, 3, 0, 0, 0), (214, .iload_n 3, 1, 0, 0, 0), (215, .ldc 77, 2, 65535, 0, 0), (217, .iand, 1, 0, 0, 0), (218, .iastore, 1, 0, 0, 0), (219, .goto 25, 3, 0, 0, 0), (222, .aload 5, 2, 0, 0, 0), (224, .iconst 1, 1, 0, 0, 0), (225, .iload 4, 2, 0, 0, 0), (227, .iastore, 1, 0, 0, 0), (228, .goto 16, 3, 0, 0, 0), (231, .aload 5, 2, 0, 0, 0), (233, .iconst 0, 1, 0, 0, 0), (234, .aload_n 0, 1, 0, 0, 0), (235, .aload_n 1, 1, 0, 0, 0), (236, .iload_n 3, 1, 0, 0, 0), (237, .invokevirtual 78, 3, 143, 0, 2), (240, .iastore, 1, 0, 0, 0), (241, .goto 3, 3, 0, 0, 0), (244, .return_, 1, 0, 0, 0)], [])
def zm_145 : zM := (⟨"NestedPager$Processor", "step", "(LNestedPager$Vcpu;)Z"⟩, prog_9_method_2_code, 10, (some (.boolean)), (6, 165, 0, 0), (0, 7, 1, 0, 0, 0), [(0, .aload_n 0, 1, 0, 0, 0), (1, .getfield 15, 3, 7, 1, 0), (4, .aload_n 0, 1, 0, 0, 0), (5, .getfield 15, 3, 7, 1, 0), (8, .aload_n 1, 1, 0, 0, 0), (9, .invokevirtual 23, 3, 63, 0, 1), (12, .invokevirtual 29, 3, 65, 0, 1), (15, .aload_n 1, 1, 0, 0, 0), (16, .getfield 33, 3, 9, 2, 0), (19, .iconst 2, 1, 0, 0, 0), (20, .iaload, 1, 0, 0, 0), (21, .istore_n 2, 1, 0, 0, 0), (22, .aload_n 0, 1, 0, 0, 0), (23, .getfield 19, 3, 7, 2, 0), (26, .aload_n 1, 1, 0, 0, 0), (27, .iconst 2, 1, 0, 0, 0), (28, .iload_n 2, 1, 0, 0, 0), (29, .iconst 0, 1, 0, 0, 0), (30, .invokevirtual 39, 3, 101, 0, 4), (33, .istore_n 3, 1, 0, 0, 0), (34, .iload_n 3, 1, 0, 0, 0), (35, .ifCond .ge 10, 3, 0, 0, 0), (38, .aload_n 0, 1, 0, 0, 0), (39, .aload_n 1, 1, 0, 0, 0), (40, .iload_n 3, 1, 0, 0, 0), (41, .invokevirtual 45, 3, 130, 0, 2), (44, .ireturn, 1, 0, 0, 0), (45, .iload_n 3, 1, 0, 0, 0), (46, .sipush 4096, 3, 0, 0, 0), (49, .idiv, 1, 0, 0, 0), (50, .istore 4, 2, 0, 0, 0), (52, .iload_n 3, 1, 0, 0, 0), (53, .sipush 4096, 3, 0, 0, 0), (56, .irem, 1, 0, 0, 0), (57, .istore 5, 2, 0, 0, 0), (59, .iload 4, 2, 0, 0, 0), (61, .iload 5, 2, 0, 0, 0), (63, .aload_n 1, 1, 0, 0, 0), (64, .invokevirtual 49, 3, 69, 0, 0), (67, .invokestatic 53, 3, 131, 0, 3), (70, .istore 6, 2, 0, 0, 0), (72, .iload 6, 2, 0, 0, 0), (74, .ifCond .eq 28, 3, 0, 0, 0), (77, .aload_n 0, 1, 0, 0, 0), (78, .aload_n 1, 1, 0, 0, 0), (79, .aload_n 1, 1, 0, 0, 0), (80, .iload 6, 2, 0, 0, 0), (82, .iload 6, 2, 0, 0, 0), (84, .bipush 64, 2, 0, 0, 0), (86, .if_icmp .ne 8, 3, 0, 0, 0), (89, .iload 5, 2, 0, 0, 0), (91, .goto 4, 3, 0, 0, 0), (94, .iload_n 2, 1, 0, 0, 0), (95, .invokevirtual 57, 3, 85, 0, 2), (98, .invokevirtual 45, 3, 130, 0, 2), (101, .ireturn, 1, 0, 0, 0), (102, .iload 4, 2, 0, 0, 0), (104, .invokestatic 61, 3, 132, 0, 1), (107, .istore 7, 2, 0, 0, 0), (109, .iconst 0, 1, 0, 0, 0), (110, .istore 8, 2, 0, 0, 0), (112, .iload 7, 2, 0, 0, 0), (114, .iconst (-1), 1, 0, 0, 0), (115, .if_icmp .eq 50, 3, 0, 0, 0), (118, .iload 4, 2, 0, 0, 0), (120, .bipush 11, 2, 0, 0, 0), (122, .if_icmp .lt 19, 3, 0, 0, 0), (125, .iload 5, 2, 0, 0, 0), (127, .aload_n 1, 1, 0, 0, 0), (128, .getfield 33, 3, 9, 2, 0), (131, .iconst 1, 1, 0, 0, 0), (132, .iaload, 1, 0, 0, 0), (133, .iadd, 1, 0, 0, 0), (134, .sipush 4096, 3, 0, 0, 0), (137, .irem, 1, 0, 0, 0), (138, .goto 5, 3, 0, 0, 0), (141, .iload 5, 2, 0, 0, 0), (143, .istore 9, 2, 0, 0, 0), (145, .aload_n 0, 1, 0, 0, 0), (146, .getfield 19, 3, 7, 2, 0), (149, .aload_n 1, 1, 0, 0, 0), (150, .iload 7, 2, 0, 0, 0), (152, .iload 9, 2, 0, 0, 0), (154, .aload_n 1, 1, 0, 0, 0), (155, .getfield 33, 3, 9, 2, 0), (158, .iconst 0, 1, 0, 0, 0), (159, .iaload, 1, 0, 0, 0), (160, .invokevirtual 39, 3, 101, 0, 4), (163, .istore 8, 2, 0, 0, 0), (165, .iload 8, 2, 0, 0, 0), (167, .ifCond .ge 11, 3, 0, 0, 0), (170, .aload_n 0, 1, 0, 0, 0), (171, .aload_n 1, 1, 0, 0, 0), (172, .iload 8, 2, 0, 0, 0), (174, .invokevirtual 45, 3, 130, 0, 2), (177, .ireturn, 1, 0, 0, 0), (178, .aload_n 1, 1, 0, 0, 0), (179, .getfield 33, 3, 9, 2, 0), (182, .iconst 2, 1, 0, 0, 0), (183, .iload_n 2, 1, 0, 0, 0), (184, .iconst 1, 1, 0, 0, 0), (185, .iadd, 1, 0, 0, 0), (186, .sipush 4096, 3, 0, 0, 0), (189, .irem, 1, 0, 0, 0), (190, .iastore, 1, 0, 0, 0), (191, .aload_n 0, 1, 0, 0, 0), (192, .aload_n 1, 1, 0, 0, 0), (193, .iload 4, 2, 0, 0, 0), (195, .iload 5, 2, 0, 0, 0), (197, .iload 8, 2, 0, 0, 0), (199, .invokevirtual 65, 3, 144, 0, 4), (202, .iconst 1, 1, 0, 0, 0), (203, .ireturn, 1, 0, 0, 0)], [])
def zm_146 : zM := (⟨"NestedPager", "run", "(II)I"⟩, prog_1_method_8_code, 6, (some (.int)), (8, 194, 2, 12), (0, 10, 2, 0, 0, 0), [(0, .iload_n 1, 1, 0, 0, 0), (1, .invokestatic 127, 3, 52, 0, 1), (4, .ifCond .eq 18, 3, 0, 0, 0), (7, .iload_n 2, 1, 0, 0, 0), (8, .iconst 1, 1, 0, 0, 0), (9, .sipush 1000, 3, 0, 0, 0), (12, .invokestatic 76, 3, 12, 0, 3), (15, .ifCond .eq 7, 3, 0, 0, 0), (18, .iconst 1, 1, 0, 0, 0), (19, .goto 4, 3, 0, 0, 0), (22, .iconst 0, 1, 0, 0, 0), (23, .invokestatic 80, 3, 13, 0, 1), (26, .aload_n 0, 1, 0, 0, 0), (27, .iload_n 1, 1, 0, 0, 0), (28, .invokevirtual 133, 3, 53, 0, 1), (31, .astore_n 3, 1, 0, 0, 0), (32, .aload_n 3, 1, 0, 0, 0), (33, .getfield 137, 3, 9, 2, 0), (36, .bipush 12, 2, 0, 0, 0), (38, .iaload, 1, 0, 0, 0), (39, .iconst 1, 1, 0, 0, 0), (40, .if_icmp .ne 15, 3, 0, 0, 0), (43, .aload_n 3, 1, 0, 0, 0), (44, .getfield 137, 3, 9, 2, 0), (47, .bipush 13, 2, 0, 0, 0), (49, .iaload, 1, 0, 0, 0), (50, .ifCond .ne 5, 3, 0, 0, 0), (53, .iconst 0, 1, 0, 0, 0), (54, .ireturn, 1, 0, 0, 0), (55, .aload_n 3, 1, 0, 0, 0), (56, .getfield 137, 3, 9, 2, 0), (59, .bipush 12, 2, 0, 0, 0), (61, .iconst 0, 1, 0, 0, 0), (62, .iastore, 1, 0, 0, 0), (63, .iconst 0, 1, 0, 0, 0), (64, .istore 4, 2, 0, 0, 0), (66, .iconst 0, 1, 0, 0, 0), (67, .istore 5, 2, 0, 0, 0), (69, .iload 5, 2, 0, 0, 0), (71, .iload_n 2, 1, 0, 0, 0), (72, .if_icmp .ge 33, 3, 0, 0, 0), (75, .aload_n 3, 1, 0, 0, 0), (76, .getfield 137, 3, 9, 2, 0), (79, .bipush 12, 2, 0, 0, 0), (81, .iaload, 1, 0, 0, 0), (82, .ifCond .ne 23, 3, 0, 0, 0), (85, .aload_n 0, 1, 0, 0, 0), (86, .getfield 72, 3, 10, 8, 0), (89, .aload_n 3, 1, 0, 0, 0), (90, .invokevirtual 158, 3, 145, 0, 1), (93, .ifCond .eq 6, 3, 0, 0, 0), (96, .iinc 4 1, 3, 0, 0, 0), (99, .iinc 5 1, 3, 0, 0, 0), (102, .goto (-33), 3, 0, 0, 0), (105, .aload_n 3, 1, 0, 0, 0), (106, .getfield 137, 3, 9, 2, 0), (109, .bipush 15, 2, 0, 0, 0), (111, .dup2, 1, 0, 0, 0), (112, .iaload, 1, 0, 0, 0), (113, .iload 4, 2, 0, 0, 0), (115, .iadd, 1, 0, 0, 0), (116, .iastore, 1, 0, 0, 0), (117, .iload 4, 2, 0, 0, 0), (119, .ireturn, 1, 0, 0, 0)], [])
def zm_147 : zM := (⟨"NestedPagerLaw", "run", "(LNestedPager;II[J)I"⟩, method_9_code, 5, (some (.int)), (9, 219, 2, 12), (1, 99, 4, 0, 0, 0), [(0, .aload_n 3, 1, 0, 0, 0), (1, .iconst 0, 1, 0, 0, 0), (2, .aload_n 0, 1, 0, 0, 0), (3, .iload_n 1, 1, 0, 0, 0), (4, .iload_n 2, 1, 0, 0, 0), (5, .invokevirtual 35, 3, 146, 0, 2), (8, .i2l, 1, 0, 0, 0), (9, .lastore, 1, 0, 0, 0), (10, .goto 11, 3, 0, 0, 0), (13, .astore 4, 2, 0, 0, 0), (15, .iconst 1, 1, 0, 0, 0), (16, .ireturn, 1, 0, 0, 0), (17, .astore 4, 2, 0, 0, 0), (19, .iconst 2, 1, 0, 0, 0), (20, .ireturn, 1, 0, 0, 0), (21, .iconst 0, 1, 0, 0, 0), (22, .ireturn, 1, 0, 0, 0)], [((0), (10), (13), (13)), ((0), (10), (17), (18))])
def zm_148 : zM := (⟨"NestedPagerModel", "flushAll", "(III)I"⟩, prog_13_method_53_code, 8, (some (.int)), (2, 47, 0, 0), (0, 11, 3, 0, 0, 0), [(0, .iconst 0, 1, 0, 0, 0), (1, .istore 4, 2, 0, 0, 0), (3, .iconst 0, 1, 0, 0, 0), (4, .istore 5, 2, 0, 0, 0), (6, .iload 5, 2, 0, 0, 0), (8, .bipush 8, 2, 0, 0, 0), (10, .if_icmp .ge 109, 3, 0, 0, 0), (13, .bipush 8, 2, 0, 0, 0), (15, .iload_n 1, 1, 0, 0, 0), (16, .imul, 1, 0, 0, 0), (17, .iload 5, 2, 0, 0, 0), (19, .iadd, 1, 0, 0, 0), (20, .istore 6, 2, 0, 0, 0), (22, .iload_n 2, 1, 0, 0, 0), (23, .ifCond .eq 57, 3, 0, 0, 0), (26, .iload_n 2, 1, 0, 0, 0), (27, .iconst 1, 1, 0, 0, 0), (28, .if_icmp .ne 33, 3, 0, 0, 0), (31, .aload_n 0, 1, 0, 0, 0), (32, .getfield 107, 3, 11, 34, 0), (35, .iload 6, 2, 0, 0, 0), (37, .iaload, 1, 0, 0, 0), (38, .aload_n 0, 1, 0, 0, 0), (39, .iload_n 1, 1, 0, 0, 0), (40, .bipush 6, 2, 0, 0, 0), (42, .invokevirtual 177, 3, 43, 0, 2), (45, .if_icmp .ne 16, 3, 0, 0, 0), (48, .aload_n 0, 1, 0, 0, 0), (49, .getfield 104, 3, 11, 33, 0), (52, .iload 6, 2, 0, 0, 0), (54, .iaload, 1, 0, 0, 0), (55, .bipush 16, 2, 0, 0, 0), (57, .iand, 1, 0, 0, 0), (58, .ifCond .eq 22, 3, 0, 0, 0), (61, .iload_n 2, 1, 0, 0, 0), (62, .iconst 2, 1, 0, 0, 0), (63, .if_icmp .ne 21, 3, 0, 0, 0), (66, .aload_n 0, 1, 0, 0, 0), (67, .iload_n 1, 1, 0, 0, 0), (68, .iload 5, 2, 0, 0, 0), (70, .iload_n 3, 1, 0, 0, 0), (71, .bipush 16, 2, 0, 0, 0), (73, .idiv, 1, 0, 0, 0), (74, .invokevirtual 188, 3, 106, 0, 3), (77, .ifCond .eq 7, 3, 0, 0, 0), (80, .iconst 1, 1, 0, 0, 0), (81, .goto 4, 3, 0, 0, 0), (84, .iconst 0, 1, 0, 0, 0), (85, .istore 7, 2, 0, 0, 0), (87, .aload_n 0, 1, 0, 0, 0), (88, .getfield 95, 3, 11, 30, 0), (91, .iload 6, 2, 0, 0, 0), (93, .baload, 1, 0, 0, 0), (94, .ifCond .eq 19, 3, 0, 0, 0), (97, .iload 7, 2, 0, 0, 0), (99, .ifCond .eq 14, 3, 0, 0, 0), (102, .aload_n 0, 1, 0, 0, 0), (103, .getfield 95, 3, 11, 30, 0), (106, .iload 6, 2, 0, 0, 0), (108, .iconst 0, 1, 0, 0, 0), (109, .bastore, 1, 0, 0, 0), (110, .iinc 4 1, 3, 0, 0, 0), (113, .iinc 5 1, 3, 0, 0, 0), (116, .goto (-110), 3, 0, 0, 0), (119, .iload 4, 2, 0, 0, 0), (121, .ireturn, 1, 0, 0, 0)], [])
def zm_149 : zM := (⟨"NestedPagerModel", "special", "(III)Z"⟩, prog_13_method_47_code, 6, (some (.boolean)), (3, 74, 0, 0), (0, 11, 3, 0, 0, 0), [(0, .aload_n 0, 1, 0, 0, 0), (1, .iload_n 1, 1, 0, 0, 0), (2, .iconst 0, 1, 0, 0, 0), (3, .invokevirtual 177, 3, 43, 0, 2), (6, .istore 4, 2, 0, 0, 0), (8, .iload_n 2, 1, 0, 0, 0), (9, .bipush 14, 2, 0, 0, 0), (11, .if_icmp .eq 9, 3, 0, 0, 0), (14, .iload_n 2, 1, 0, 0, 0), (15, .bipush 15, 2, 0, 0, 0), (17, .if_icmp .ne 7, 3, 0, 0, 0), (20, .iconst 1, 1, 0, 0, 0), (21, .goto 4, 3, 0, 0, 0), (24, .iconst 0, 1, 0, 0, 0), (25, .istore 5, 2, 0, 0, 0), (27, .iload_n 2, 1, 0, 0, 0), (28, .bipush 16, 2, 0, 0, 0), (30, .if_icmp .gt 18, 3, 0, 0, 0), (33, .aload_n 0, 1, 0, 0, 0), (34, .iload_n 1, 1, 0, 0, 0), (35, .iconst 3, 1, 0, 0, 0), (36, .invokevirtual 177, 3, 43, 0, 2), (39, .iconst 1, 1, 0, 0, 0), (40, .if_icmp .ne 17, 3, 0, 0, 0), (43, .iload 5, 2, 0, 0, 0), (45, .ifCond .ne 12, 3, 0, 0, 0), (48, .aload_n 0, 1, 0, 0, 0), (49, .iload_n 1, 1, 0, 0, 0), (50, .bipush 32, 2, 0, 0, 0), (52, .iload_n 3, 1, 0, 0, 0), (53, .invokevirtual 216, 3, 122, 0, 3), (56, .ireturn, 1, 0, 0, 0), (57, .iload_n 2, 1, 0, 0, 0), (58, .tableswitch 338 0 15 #[78, 94, 129, 140, 151, 167, 190, 205, 219, 232, 248, 264, 280, 296, 312, 323], 78, 0, 0, 0), (136, .aload_n 0, 1, 0, 0, 0), (137, .iload_n 1, 1, 0, 0, 0), (138, .bipush 12, 2, 0, 0, 0), (140, .iconst 1, 1, 0, 0, 0), (141, .invokevirtual 174, 3, 50, 0, 3), (144, .aload_n 0, 1, 0, 0, 0), (145, .iconst 0, 1, 0, 0, 0), (146, .putfield 260, 3, 11, 41, 0), (149, .goto 258, 3, 0, 0, 0), (152, .aload_n 0, 1, 0, 0, 0), (153, .aload_n 0, 1, 0, 0, 0), (154, .iload_n 1, 1, 0, 0, 0), (155, .bipush 8, 2, 0, 0, 0), (157, .invokevirtual 177, 3, 43, 0, 2), (160, .putfield 257, 3, 11, 40, 0), (163, .aload_n 0, 1, 0, 0, 0), (164, .iload_n 1, 1, 0, 0, 0), (165, .iconst 3, 1, 0, 0, 0), (166, .aload_n 0, 1, 0, 0, 0), (167, .iload_n 1, 1, 0, 0, 0), (168, .bipush 9, 2, 0, 0, 0), (170, .invokevirtual 177, 3, 43, 0, 2), (173, .invokevirtual 174, 3, 50, 0, 3), (176, .aload_n 0, 1, 0, 0, 0), (177, .iload_n 1, 1, 0, 0, 0), (178, .bipush 14, 2, 0, 0, 0), (180, .iconst 0, 1, 0, 0, 0), (181, .invokevirtual 174, 3, 50, 0, 3), (184, .goto 223, 3, 0, 0, 0), (187, .aload_n 0, 1, 0, 0, 0), (188, .iload_n 1, 1, 0, 0, 0), (189, .iconst 0, 1, 0, 0, 0), (190, .iconst 0, 1, 0, 0, 0), (191, .invokevirtual 270, 3, 148, 0, 3), (194, .pop, 1, 0, 0, 0), (195, .goto 212, 3, 0, 0, 0), (198, .aload_n 0, 1, 0, 0, 0), (199, .iload_n 1, 1, 0, 0, 0), (200, .iconst 1, 1, 0, 0, 0), (201, .iconst 0, 1, 0, 0, 0), (202, .invokevirtual 270, 3, 148, 0, 3), (205, .pop, 1, 0, 0, 0), (206, .goto 201, 3, 0, 0, 0), (209, .aload_n 0, 1, 0, 0, 0), (210, .iload_n 1, 1, 0, 0, 0), (211, .iconst 2, 1, 0, 0, 0), (212, .iload 4, 2, 0, 0, 0), (214, .sipush 4096, 3, 0, 0, 0), (217, .irem, 1, 0, 0, 0), (218, .invokevirtual 270, 3, 148, 0, 3), (221, .pop, 1, 0, 0, 0), (222, .goto 185, 3, 0, 0, 0), (225, .aload_n 0, 1, 0, 0, 0), (226, .iload_n 1, 1, 0, 0, 0), (227, .iconst 5, 1, 0, 0, 0), (228, .iload 4, 2, 0, 0, 0), (230, .sipush 256, 3, 0, 0, 0), (233, .irem, 1, 0, 0, 0), (234, .invokevirtual 174, 3, 50, 0, 3), (237, .aload_n 0, 1, 0, 0, 0), (238, .iload_n 1, 1, 0, 0, 0), (239, .iconst 1, 1, 0, 0, 0), (240, .iconst 0, 1, 0, 0, 0), (241, .invokevirtual 270, 3, 148, 0, 3), (244, .pop, 1, 0, 0, 0), (245, .goto 162, 3, 0, 0, 0), (248, .aload_n 0, 1, 0, 0, 0), (249, .iload_n 1, 1, 0, 0, 0), (250, .iconst 5, 1, 0, 0, 0), (251, .iload 4, 2, 0, 0, 0), (253, .sipush 256, 3, 0, 0, 0), (256, .irem, 1, 0, 0, 0), (257, .invokevirtual 174, 3, 50, 0, 3), (260, .goto 147, 3, 0, 0, 0), (263, .aload_n 0, 1, 0, 0, 0), (264, .iload_n 1, 1, 0, 0, 0), (265, .bipush 6, 2, 0, 0, 0), (267, .iload 4, 2, 0, 0, 0), (269, .iconst 4, 1, 0, 0, 0), (270, .irem, 1, 0, 0, 0), (271, .invokevirtual 174, 3, 50, 0, 3), (274, .goto 133, 3, 0, 0, 0), (277, .aload_n 0, 1, 0, 0, 0), (278, .iload_n 1, 1, 0, 0, 0), (279, .iconst 4, 1, 0, 0, 0), (280, .iload 4, 2, 0, 0, 0), (282, .iconst 4, 1, 0, 0, 0), (283, .irem, 1, 0, 0, 0), (284, .invokevirtual 174, 3, 50, 0, 3), (287, .goto 120, 3, 0, 0, 0), (290, .aload_n 0, 1, 0, 0, 0), (291, .iload_n 1, 1, 0, 0, 0), (292, .bipush 7, 2, 0, 0, 0), (294, .iload 4, 2, 0, 0, 0), (296, .sipush 4096, 3, 0, 0, 0), (299, .irem, 1, 0, 0, 0), (300, .invokevirtual 174, 3, 50, 0, 3), (303, .goto 104, 3, 0, 0, 0), (306, .aload_n 0, 1, 0, 0, 0), (307, .iload_n 1, 1, 0, 0, 0), (308, .bipush 8, 2, 0, 0, 0), (310, .iload 4, 2, 0, 0, 0), (312, .sipush 4096, 3, 0, 0, 0), (315, .irem, 1, 0, 0, 0), (316, .invokevirtual 174, 3, 50, 0, 3), (319, .goto 88, 3, 0, 0, 0), (322, .aload_n 0, 1, 0, 0, 0), (323, .iload_n 1, 1, 0, 0, 0), (324, .iconst 0, 1, 0, 0, 0), (325, .aload_n 0, 1, 0, 0, 0), (326, .iload_n 1, 1, 0, 0, 0), (327, .bipush 8, 2, 0, 0, 0), (329, .invokevirtual 177, 3, 43, 0, 2), (332, .invokevirtual 174, 3, 50, 0, 3), (335, .goto 72, 3, 0, 0, 0), (338, .aload_n 0, 1, 0, 0, 0), (339, .iload_n 1, 1, 0, 0, 0), (340, .iconst 0, 1, 0, 0, 0), (341, .aload_n 0, 1, 0, 0, 0), (342, .iload_n 1, 1, 0, 0, 0), (343, .bipush 10, 2, 0, 0, 0), (345, .invokevirtual 177, 3, 43, 0, 2), (348, .invokevirtual 174, 3, 50, 0, 3), (351, .goto 56, 3, 0, 0, 0), (354, .aload_n 0, 1, 0, 0, 0), (355, .iload_n 1, 1, 0, 0, 0), (356, .iconst 0, 1, 0, 0, 0), (357, .aload_n 0, 1, 0, 0, 0), (358, .iload_n 1, 1, 0, 0, 0), (359, .bipush 11, 2, 0, 0, 0), (361, .invokevirtual 177, 3, 43, 0, 2), (364, .invokevirtual 174, 3, 50, 0, 3), (367, .goto 40, 3, 0, 0, 0), (370, .aload_n 0, 1, 0, 0, 0), (371, .iload_n 1, 1, 0, 0, 0), (372, .iconst 1, 1, 0, 0, 0), (373, .iload 4, 2, 0, 0, 0), (375, .invokevirtual 174, 3, 50, 0, 3), (378, .goto 29, 3, 0, 0, 0), (381, .aload_n 0, 1, 0, 0, 0), (382, .iload_n 1, 1, 0, 0, 0), (383, .iconst 0, 1, 0, 0, 0), (384, .aload_n 0, 1, 0, 0, 0), (385, .iload_n 1, 1, 0, 0, 0), (386, .iconst 1, 1, 0, 0, 0), (387, .invokevirtual 177, 3, 43, 0, 2), (390, .invokevirtual 174, 3, 50, 0, 3), (393, .goto 14, 3, 0, 0, 0), (396, .aload_n 0, 1, 0, 0, 0), (397, .iload_n 1, 1, 0, 0, 0), (398, .bipush 9, 2, 0, 0, 0), (400, .iload 4, 2, 0, 0, 0), (402, .iconst 2, 1, 0, 0, 0), (403, .irem, 1, 0, 0, 0), (404, .invokevirtual 174, 3, 50, 0, 3), (407, .iconst 1, 1, 0, 0, 0), (408, .ireturn, 1, 0, 0, 0)], [])
def zm_150 : zM := (⟨"NestedPagerModel", "giveBack", "(II)I"⟩, prog_13_method_48_code, 4, (some (.int)), (6, 144, 0, 0), (0, 11, 2, 0, 0, 0), [(0, .aload_n 0, 1, 0, 0, 0), (1, .iload_n 1, 1, 0, 0, 0), (2, .iload_n 2, 1, 0, 0, 0), (3, .invokevirtual 157, 3, 110, 0, 2), (6, .ifCond .eq 16, 3, 0, 0, 0), (9, .aload_n 0, 1, 0, 0, 0), (10, .iload_n 1, 1, 0, 0, 0), (11, .iload_n 2, 1, 0, 0, 0), (12, .invokevirtual 124, 3, 40, 0, 2), (15, .invokestatic 161, 3, 41, 0, 1), (18, .iconst 3, 1, 0, 0, 0), (19, .if_icmp .ne 6, 3, 0, 0, 0), (22, .ldc 239, 2, 65535, 0, 0), (24, .ireturn, 1, 0, 0, 0), (25, .aload_n 0, 1, 0, 0, 0), (26, .iload_n 1, 1, 0, 0, 0), (27, .iload_n 2, 1, 0, 0, 0), (28, .invokevirtual 165, 3, 116, 0, 2), (31, .ifCond .ne 7, 3, 0, 0, 0), (34, .ldc_w 273, 3, 65534, 0, 0), (37, .ireturn, 1, 0, 0, 0), (38, .aload_n 0, 1, 0, 0, 0), (39, .iload_n 1, 1, 0, 0, 0), (40, .iload_n 2, 1, 0, 0, 0), (41, .invokevirtual 124, 3, 40, 0, 2), (44, .istore_n 3, 1, 0, 0, 0), (45, .iload_n 3, 1, 0, 0, 0), (46, .invokestatic 161, 3, 41, 0, 1), (49, .iconst 1, 1, 0, 0, 0), (50, .if_icmp .ne 14, 3, 0, 0, 0), (53, .aload_n 0, 1, 0, 0, 0), (54, .iload_n 3, 1, 0, 0, 0), (55, .bipush 8, 2, 0, 0, 0), (57, .ishr, 1, 0, 0, 0), (58, .invokevirtual 132, 3, 42, 0, 1), (61, .goto 21, 3, 0, 0, 0), (64, .iload_n 3, 1, 0, 0, 0), (65, .invokestatic 161, 3, 41, 0, 1), (68, .iconst 2, 1, 0, 0, 0), (69, .if_icmp .ne 13, 3, 0, 0, 0), (72, .aload_n 0, 1, 0, 0, 0), (73, .getfield 25, 3, 11, 6, 0), (76, .iload_n 3, 1, 0, 0, 0), (77, .bipush 8, 2, 0, 0, 0), (79, .ishr, 1, 0, 0, 0), (80, .iconst 0, 1, 0, 0, 0), (81, .bastore, 1, 0, 0, 0), (82, .aload_n 0, 1, 0, 0, 0), (83, .iload_n 1, 1, 0, 0, 0), (84, .iload_n 2, 1, 0, 0, 0), (85, .iload_n 3, 1, 0, 0, 0), (86, .bipush 7, 2, 0, 0, 0), (88, .iand, 1, 0, 0, 0), (89, .bipush 96, 2, 0, 0, 0), (91, .ior, 1, 0, 0, 0), (92, .invokevirtual 128, 3, 112, 0, 3), (95, .iconst 0, 1, 0, 0, 0), (96, .ireturn, 1, 0, 0, 0)], [])
def zm_151 : zM := (⟨"NestedPagerModel", "call", "(II)V"⟩, prog_13_method_49_code, 9, none, (7, 167, 0, 0), (0, 11, 2, 0, 0, 0), [(0, .aload_n 0, 1, 0, 0, 0), (1, .iload_n 1, 1, 0, 0, 0), (2, .bipush 16, 2, 0, 0, 0), (4, .invokevirtual 177, 3, 43, 0, 2), (7, .istore_n 3, 1, 0, 0, 0), (8, .aload_n 0, 1, 0, 0, 0), (9, .iload_n 1, 1, 0, 0, 0), (10, .iconst 0, 1, 0, 0, 0), (11, .invokevirtual 177, 3, 43, 0, 2), (14, .istore 4, 2, 0, 0, 0), (16, .iload 4, 2, 0, 0, 0), (18, .sipush 256, 3, 0, 0, 0), (21, .irem, 1, 0, 0, 0), (22, .istore 5, 2, 0, 0, 0), (24, .ldc 239, 2, 65535, 0, 0), (26, .istore 6, 2, 0, 0, 0), (28, .iload_n 2, 1, 0, 0, 0), (29, .iconst 1, 1, 0, 0, 0), (30, .if_icmp .ne 15, 3, 0, 0, 0), (33, .aload_n 0, 1, 0, 0, 0), (34, .iload_n 3, 1, 0, 0, 0), (35, .iload 5, 2, 0, 0, 0), (37, .invokevirtual 274, 3, 150, 0, 2), (40, .istore 6, 2, 0, 0, 0), (42, .goto 215, 3, 0, 0, 0), (45, .iload_n 2, 1, 0, 0, 0), (46, .iconst 2, 1, 0, 0, 0), (47, .if_icmp .ne 50, 3, 0, 0, 0), (50, .aload_n 0, 1, 0, 0, 0), (51, .iload_n 3, 1, 0, 0, 0), (52, .iload 5, 2, 0, 0, 0), (54, .invokevirtual 157, 3, 110, 0, 2), (57, .ifCond .eq 200, 3, 0, 0, 0), (60, .aload_n 0, 1, 0, 0, 0), (61, .iload_n 3, 1, 0, 0, 0), (62, .iload 5, 2, 0, 0, 0), (64, .invokevirtual 124, 3, 40, 0, 2), (67, .invokestatic 161, 3, 41, 0, 1), (70, .iconst 3, 1, 0, 0, 0), (71, .if_icmp .ne 186, 3, 0, 0, 0), (74, .aload_n 0, 1, 0, 0, 0), (75, .iload_n 3, 1, 0, 0, 0), (76, .iload 5, 2, 0, 0, 0), (78, .aload_n 0, 1, 0, 0, 0), (79, .iload_n 3, 1, 0, 0, 0), (80, .iload 5, 2, 0, 0, 0), (82, .invokevirtual 124, 3, 40, 0, 2), (85, .bipush 7, 2, 0, 0, 0), (87, .iand, 1, 0, 0, 0), (88, .invokevirtual 128, 3, 112, 0, 3), (91, .iconst 0, 1, 0, 0, 0), (92, .istore 6, 2, 0, 0, 0), (94, .goto 163, 3, 0, 0, 0), (97, .iload_n 2, 1, 0, 0, 0), (98, .iconst 3, 1, 0, 0, 0), (99, .if_icmp .ne 14, 3, 0, 0, 0), (102, .aload_n 0, 1, 0, 0, 0), (103, .getfield 38, 3, 11, 11, 0), (106, .iload_n 3, 1, 0, 0, 0), (107, .iaload, 1, 0, 0, 0), (108, .istore 6, 2, 0, 0, 0), (110, .goto 147, 3, 0, 0, 0), (113, .iload_n 2, 1, 0, 0, 0), (114, .iconst 4, 1, 0, 0, 0), (115, .if_icmp .ne 73, 3, 0, 0, 0), (118, .iconst 0, 1, 0, 0, 0), (119, .istore 6, 2, 0, 0, 0), (121, .iconst 0, 1, 0, 0, 0), (122, .istore 7, 2, 0, 0, 0), (124, .iload 7, 2, 0, 0, 0), (126, .bipush 8, 2, 0, 0, 0), (128, .if_icmp .ge 57, 3, 0, 0, 0), (131, .aload_n 0, 1, 0, 0, 0), (132, .getfield 83, 3, 11, 26, 0), (135, .iload 7, 2, 0, 0, 0), (137, .baload, 1, 0, 0, 0), (138, .ifCond .eq 41, 3, 0, 0, 0), (141, .aload_n 0, 1, 0, 0, 0), (142, .iload 7, 2, 0, 0, 0), (144, .bipush 16, 2, 0, 0, 0), (146, .invokevirtual 177, 3, 43, 0, 2), (149, .iload_n 3, 1, 0, 0, 0), (150, .if_icmp .ne 29, 3, 0, 0, 0), (153, .aload_n 0, 1, 0, 0, 0), (154, .iload 7, 2, 0, 0, 0), (156, .iconst 0, 1, 0, 0, 0), (157, .iconst 0, 1, 0, 0, 0), (158, .invokevirtual 270, 3, 148, 0, 3), (161, .istore 8, 2, 0, 0, 0), (163, .iload 8, 2, 0, 0, 0), (165, .ifCond .lt 10, 3, 0, 0, 0), (168, .iload 6, 2, 0, 0, 0), (170, .iconst 1, 1, 0, 0, 0), (171, .iadd, 1, 0, 0, 0), (172, .goto 5, 3, 0, 0, 0), (175, .iload 6, 2, 0, 0, 0), (177, .istore 6, 2, 0, 0, 0), (179, .iinc 7 1, 3, 0, 0, 0), (182, .goto (-58), 3, 0, 0, 0), (185, .goto 72, 3, 0, 0, 0), (188, .iload_n 2, 1, 0, 0, 0), (189, .iconst 5, 1, 0, 0, 0), (190, .if_icmp .ne 44, 3, 0, 0, 0), (193, .iload 4, 2, 0, 0, 0), (195, .bipush 8, 2, 0, 0, 0), (197, .if_icmp .ge 60, 3, 0, 0, 0), (200, .aload_n 0, 1, 0, 0, 0), (201, .getfield 83, 3, 11, 26, 0), (204, .iload 4, 2, 0, 0, 0), (206, .baload, 1, 0, 0, 0), (207, .ifCond .eq 50, 3, 0, 0, 0), (210, .aload_n 0, 1, 0, 0, 0), (211, .iload 4, 2, 0, 0, 0), (213, .bipush 16, 2, 0, 0, 0), (215, .invokevirtual 177, 3, 43, 0, 2), (218, .iload_n 3, 1, 0, 0, 0), (219, .if_icmp .ne 38, 3, 0, 0, 0), (222, .aload_n 0, 1, 0, 0, 0), (223, .iload 4, 2, 0, 0, 0), (225, .invokevirtual 185, 3, 104, 0, 1), (228, .iconst 0, 1, 0, 0, 0), (229, .istore 6, 2, 0, 0, 0), (231, .goto 26, 3, 0, 0, 0), (234, .iload_n 2, 1, 0, 0, 0), (235, .bipush 6, 2, 0, 0, 0), (237, .if_icmp .ne 20, 3, 0, 0, 0), (240, .aload_n 0, 1, 0, 0, 0), (241, .iload_n 1, 1, 0, 0, 0), (242, .bipush 13, 2, 0, 0, 0), (244, .invokevirtual 177, 3, 43, 0, 2), (247, .istore 6, 2, 0, 0, 0), (249, .aload_n 0, 1, 0, 0, 0), (250, .iload_n 1, 1, 0, 0, 0), (251, .bipush 13, 2, 0, 0, 0), (253, .iconst 0, 1, 0, 0, 0), (254, .invokevirtual 174, 3, 50, 0, 3), (257, .aload_n 0, 1, 0, 0, 0), (258, .iload_n 1, 1, 0, 0, 0), (259, .iconst 0, 1, 0, 0, 0), (260, .iload 6, 2, 0, 0, 0), (262, .invokevirtual 174, 3, 50, 0, 3), (265, .return_, 1, 0, 0, 0)], [])
end
section
/-! METHODS, by program -/
def zl_152_0 : List zN := [(0, .aload_n 0, 1, 0, 0, 0), (1, .iload_n 1, 1, 0, 0, 0), (2, .iconst 2, 1, 0, 0, 0), (3, .invokevirtual 177, 3, 43, 0, 2), (6, .istore_n 2, 1, 0, 0, 0), (7, .aload_n 0, 1, 0, 0, 0), (8, .iload_n 1, 1, 0, 0, 0), (9, .iconst 2, 1, 0, 0, 0), (10, .iload_n 2, 1, 0, 0, 0), (11, .iconst 0, 1, 0, 0, 0), (12, .invokevirtual 253, 3, 128, 0, 4), (15, .ifCond .ne 5, 3, 0, 0, 0), (18, .iconst 0, 1, 0, 0, 0), (19, .ireturn, 1, 0, 0, 0), (20, .aload_n 0, 1, 0, 0, 0), (21, .getfield 223, 3, 11, 37, 0), (24, .istore_n 3, 1, 0, 0, 0), (25, .iload_n 3, 1, 0, 0, 0), (26, .sipush 4095, 3, 0, 0, 0), (29, .iand, 1, 0, 0, 0), (30, .istore 4, 2, 0, 0, 0), (32, .aload_n 0, 1, 0, 0, 0), (33, .iload_n 1, 1, 0, 0, 0), (34, .iconst 0, 1, 0, 0, 0), (35, .invokevirtual 177, 3, 43, 0, 2), (38, .istore 5, 2, 0, 0, 0), (40, .aload_n 0, 1, 0, 0, 0), (41, .iload_n 2, 1, 0, 0, 0), (42, .iconst 1, 1, 0, 0, 0), (43, .iadd, 1, 0, 0, 0), (44, .sipush 4096, 3, 0, 0, 0), (47, .irem, 1, 0, 0, 0), (48, .putfield 257, 3, 11, 40, 0), (51, .aload_n 0, 1, 0, 0, 0), (52, .iconst 1, 1, 0, 0, 0), (53, .putfield 260, 3, 11, 41, 0), (56, .iload_n 3, 1, 0, 0, 0), (57, .bipush 12, 2, 0, 0, 0), (59, .ishr, 1, 0, 0, 0), (60, .tableswitch 383 0 14 #[76, 85, 171, 85, 85, 85, 182, 190, 210, 230, 260, 286, 323, 345, 355], 76, 0, 0, 0), (136, .aload_n 0, 1, 0, 0, 0), (137, .iload_n 1, 1, 0, 0, 0), (138, .iload 4, 2, 0, 0, 0), (140, .iload_n 2, 1, 0, 0, 0), (141, .invokevirtual 264, 3, 149, 0, 3), (144, .ireturn, 1, 0, 0, 0), (145, .aload_n 0, 1, 0, 0, 0), (146, .iload_n 1, 1, 0, 0, 0), (147, .iconst 0, 1, 0, 0, 0), (148, .iload 4, 2, 0, 0, 0), (150, .iconst 0, 1, 0, 0, 0), (151, .invokevirtual 253, 3, 128, 0, 4), (154, .ifCond .ne 5, 3, 0, 0, 0), (157, .iconst 0, 1, 0, 0, 0), (158, .ireturn, 1, 0, 0, 0), (159, .iload_n 3, 1, 0, 0, 0), (160, .bipush 12, 2, 0, 0, 0), (162, .ishr, 1, 0, 0, 0), (163, .istore 6, 2, 0, 0, 0), (165, .aload_n 0, 1, 0, 0, 0)]
def zl_152_1 : List zN := [(166, .iload_n 1, 1, 0, 0, 0), (167, .iconst 0, 1, 0, 0, 0), (168, .iload 6, 2, 0, 0, 0), (170, .iconst 1, 1, 0, 0, 0), (171, .if_icmp .ne 10, 3, 0, 0, 0), (174, .aload_n 0, 1, 0, 0, 0), (175, .getfield 223, 3, 11, 37, 0), (178, .goto 48, 3, 0, 0, 0), (181, .iload 6, 2, 0, 0, 0), (183, .iconst 3, 1, 0, 0, 0), (184, .if_icmp .ne 16, 3, 0, 0, 0), (187, .iload 5, 2, 0, 0, 0), (189, .aload_n 0, 1, 0, 0, 0), (190, .getfield 223, 3, 11, 37, 0), (193, .iadd, 1, 0, 0, 0), (194, .ldc 239, 2, 65535, 0, 0), (196, .iand, 1, 0, 0, 0), (197, .goto 29, 3, 0, 0, 0), (200, .iload 6, 2, 0, 0, 0), (202, .iconst 4, 1, 0, 0, 0), (203, .if_icmp .ne 16, 3, 0, 0, 0), (206, .iload 5, 2, 0, 0, 0), (208, .aload_n 0, 1, 0, 0, 0), (209, .getfield 223, 3, 11, 37, 0), (212, .isub, 1, 0, 0, 0), (213, .ldc 239, 2, 65535, 0, 0), (215, .iand, 1, 0, 0, 0), (216, .goto 10, 3, 0, 0, 0), (219, .iload 5, 2, 0, 0, 0), (221, .aload_n 0, 1, 0, 0, 0), (222, .getfield 223, 3, 11, 37, 0), (225, .iand, 1, 0, 0, 0), (226, .invokevirtual 174, 3, 50, 0, 3), (229, .iconst 1, 1, 0, 0, 0), (230, .ireturn, 1, 0, 0, 0), (231, .aload_n 0, 1, 0, 0, 0), (232, .iload_n 1, 1, 0, 0, 0), (233, .iconst 1, 1, 0, 0, 0), (234, .iload 4, 2, 0, 0, 0), (236, .iload 5, 2, 0, 0, 0), (238, .invokevirtual 253, 3, 128, 0, 4), (241, .ireturn, 1, 0, 0, 0), (242, .aload_n 0, 1, 0, 0, 0), (243, .iload 4, 2, 0, 0, 0), (245, .putfield 257, 3, 11, 40, 0), (248, .iconst 1, 1, 0, 0, 0), (249, .ireturn, 1, 0, 0, 0), (250, .aload_n 0, 1, 0, 0, 0), (251, .iload 5, 2, 0, 0, 0), (253, .ifCond .ne 8, 3, 0, 0, 0), (256, .iload 4, 2, 0, 0, 0), (258, .goto 7, 3, 0, 0, 0), (261, .aload_n 0, 1, 0, 0, 0), (262, .getfield 257, 3, 11, 40, 0), (265, .putfield 257, 3, 11, 40, 0), (268, .iconst 1, 1, 0, 0, 0), (269, .ireturn, 1, 0, 0, 0), (270, .aload_n 0, 1, 0, 0, 0), (271, .iload 5, 2, 0, 0, 0), (273, .ifCond .eq 8, 3, 0, 0, 0)]
def zl_152_2 : List zN := [(276, .iload 4, 2, 0, 0, 0), (278, .goto 7, 3, 0, 0, 0), (281, .aload_n 0, 1, 0, 0, 0), (282, .getfield 257, 3, 11, 40, 0), (285, .putfield 257, 3, 11, 40, 0), (288, .iconst 1, 1, 0, 0, 0), (289, .ireturn, 1, 0, 0, 0), (290, .aload_n 0, 1, 0, 0, 0), (291, .iload_n 1, 1, 0, 0, 0), (292, .iconst 0, 1, 0, 0, 0), (293, .iload 4, 2, 0, 0, 0), (295, .sipush 2047, 3, 0, 0, 0), (298, .if_icmp .le 12, 3, 0, 0, 0), (301, .iload 4, 2, 0, 0, 0), (303, .sipush 4096, 3, 0, 0, 0), (306, .isub, 1, 0, 0, 0), (307, .goto 5, 3, 0, 0, 0), (310, .iload 4, 2, 0, 0, 0), (312, .ldc 239, 2, 65535, 0, 0), (314, .iand, 1, 0, 0, 0), (315, .invokevirtual 174, 3, 50, 0, 3), (318, .iconst 1, 1, 0, 0, 0), (319, .ireturn, 1, 0, 0, 0), (320, .aload_n 0, 1, 0, 0, 0), (321, .iload_n 1, 1, 0, 0, 0), (322, .iconst 0, 1, 0, 0, 0), (323, .iload 4, 2, 0, 0, 0), (325, .iconst 0, 1, 0, 0, 0), (326, .invokevirtual 253, 3, 128, 0, 4), (329, .ifCond .ne 5, 3, 0, 0, 0), (332, .iconst 0, 1, 0, 0, 0), (333, .ireturn, 1, 0, 0, 0), (334, .aload_n 0, 1, 0, 0, 0), (335, .iload_n 1, 1, 0, 0, 0), (336, .iconst 1, 1, 0, 0, 0), (337, .aload_n 0, 1, 0, 0, 0), (338, .getfield 223, 3, 11, 37, 0), (341, .invokevirtual 174, 3, 50, 0, 3), (344, .iconst 1, 1, 0, 0, 0), (345, .ireturn, 1, 0, 0, 0), (346, .aload_n 0, 1, 0, 0, 0), (347, .iload_n 1, 1, 0, 0, 0), (348, .iconst 0, 1, 0, 0, 0), (349, .iload 4, 2, 0, 0, 0), (351, .aload_n 0, 1, 0, 0, 0), (352, .iload_n 1, 1, 0, 0, 0), (353, .iconst 1, 1, 0, 0, 0), (354, .invokevirtual 177, 3, 43, 0, 2), (357, .iadd, 1, 0, 0, 0), (358, .sipush 4096, 3, 0, 0, 0), (361, .irem, 1, 0, 0, 0), (362, .iconst 0, 1, 0, 0, 0), (363, .invokevirtual 253, 3, 128, 0, 4), (366, .ifCond .ne 5, 3, 0, 0, 0), (369, .iconst 0, 1, 0, 0, 0), (370, .ireturn, 1, 0, 0, 0), (371, .aload_n 0, 1, 0, 0, 0), (372, .iload_n 1, 1, 0, 0, 0), (373, .iconst 0, 1, 0, 0, 0), (374, .aload_n 0, 1, 0, 0, 0)]
def zl_152_3 : List zN := [(375, .getfield 223, 3, 11, 37, 0), (378, .invokevirtual 174, 3, 50, 0, 3), (381, .iconst 1, 1, 0, 0, 0), (382, .ireturn, 1, 0, 0, 0), (383, .aload_n 0, 1, 0, 0, 0), (384, .iload_n 1, 1, 0, 0, 0), (385, .iconst 1, 1, 0, 0, 0), (386, .iload 4, 2, 0, 0, 0), (388, .aload_n 0, 1, 0, 0, 0), (389, .iload_n 1, 1, 0, 0, 0), (390, .iconst 1, 1, 0, 0, 0), (391, .invokevirtual 177, 3, 43, 0, 2), (394, .iadd, 1, 0, 0, 0), (395, .sipush 4096, 3, 0, 0, 0), (398, .irem, 1, 0, 0, 0), (399, .iload 5, 2, 0, 0, 0), (401, .invokevirtual 253, 3, 128, 0, 4), (404, .ireturn, 1, 0, 0, 0), (405, .aload_n 0, 1, 0, 0, 0), (406, .iload_n 1, 1, 0, 0, 0), (407, .bipush 64, 2, 0, 0, 0), (409, .iload 4, 2, 0, 0, 0), (411, .invokevirtual 216, 3, 122, 0, 3), (414, .ireturn, 1, 0, 0, 0), (415, .aload_n 0, 1, 0, 0, 0), (416, .iload_n 1, 1, 0, 0, 0), (417, .iconst 3, 1, 0, 0, 0), (418, .invokevirtual 177, 3, 43, 0, 2), (421, .iconst 1, 1, 0, 0, 0), (422, .if_icmp .ne 12, 3, 0, 0, 0), (425, .aload_n 0, 1, 0, 0, 0), (426, .iload_n 1, 1, 0, 0, 0), (427, .bipush 32, 2, 0, 0, 0), (429, .iload_n 2, 1, 0, 0, 0), (430, .invokevirtual 216, 3, 122, 0, 3), (433, .ireturn, 1, 0, 0, 0), (434, .aload_n 0, 1, 0, 0, 0), (435, .iload_n 1, 1, 0, 0, 0), (436, .iload 4, 2, 0, 0, 0), (438, .invokevirtual 267, 3, 151, 0, 2), (441, .iconst 1, 1, 0, 0, 0), (442, .ireturn, 1, 0, 0, 0), (443, .aload_n 0, 1, 0, 0, 0), (444, .iload_n 1, 1, 0, 0, 0), (445, .bipush 32, 2, 0, 0, 0), (447, .iload_n 2, 1, 0, 0, 0), (448, .invokevirtual 216, 3, 122, 0, 3), (451, .ireturn, 1, 0, 0, 0)]
def zm_152 : zM := (⟨"NestedPagerModel", "step", "(I)Z"⟩, prog_13_method_46_code, 7, (some (.boolean)), (11, 290, 0, 0), (0, 11, 1, 0, 0, 0), zl_152_0 ++ (zl_152_1 ++ (zl_152_2 ++ (zl_152_3))), [])
def zm_153 : zM := (⟨"NestedPagerModel", "handle", "(I)V"⟩, prog_13_method_51_code, 3, none, (1, 23, 0, 0), (0, 11, 1, 0, 0, 0), [(0, .aload_n 0, 1, 0, 0, 0), (1, .iload_n 1, 1, 0, 0, 0), (2, .iconst 2, 1, 0, 0, 0), (3, .invokevirtual 177, 3, 43, 0, 2), (6, .istore_n 2, 1, 0, 0, 0), (7, .aload_n 0, 1, 0, 0, 0), (8, .iload_n 1, 1, 0, 0, 0), (9, .bipush 8, 2, 0, 0, 0), (11, .aload_n 0, 1, 0, 0, 0), (12, .getfield 171, 3, 11, 39, 0), (15, .bipush 64, 2, 0, 0, 0), (17, .if_icmp .ne 13, 3, 0, 0, 0), (20, .iload_n 2, 1, 0, 0, 0), (21, .iconst 1, 1, 0, 0, 0), (22, .iadd, 1, 0, 0, 0), (23, .sipush 4096, 3, 0, 0, 0), (26, .irem, 1, 0, 0, 0), (27, .goto 4, 3, 0, 0, 0), (30, .iload_n 2, 1, 0, 0, 0), (31, .invokevirtual 174, 3, 50, 0, 3), (34, .aload_n 0, 1, 0, 0, 0), (35, .iload_n 1, 1, 0, 0, 0), (36, .bipush 9, 2, 0, 0, 0), (38, .aload_n 0, 1, 0, 0, 0), (39, .iload_n 1, 1, 0, 0, 0), (40, .iconst 3, 1, 0, 0, 0), (41, .invokevirtual 177, 3, 43, 0, 2), (44, .invokevirtual 174, 3, 50, 0, 3), (47, .aload_n 0, 1, 0, 0, 0), (48, .iload_n 1, 1, 0, 0, 0), (49, .bipush 10, 2, 0, 0, 0), (51, .aload_n 0, 1, 0, 0, 0), (52, .getfield 171, 3, 11, 39, 0), (55, .invokevirtual 174, 3, 50, 0, 3), (58, .aload_n 0, 1, 0, 0, 0), (59, .iload_n 1, 1, 0, 0, 0), (60, .bipush 11, 2, 0, 0, 0), (62, .aload_n 0, 1, 0, 0, 0), (63, .iload_n 1, 1, 0, 0, 0), (64, .bipush 18, 2, 0, 0, 0), (66, .invokevirtual 177, 3, 43, 0, 2), (69, .invokevirtual 174, 3, 50, 0, 3), (72, .aload_n 0, 1, 0, 0, 0), (73, .iload_n 1, 1, 0, 0, 0), (74, .iconst 3, 1, 0, 0, 0), (75, .iconst 0, 1, 0, 0, 0), (76, .invokevirtual 174, 3, 50, 0, 3), (79, .aload_n 0, 1, 0, 0, 0), (80, .iload_n 1, 1, 0, 0, 0), (81, .iconst 2, 1, 0, 0, 0), (82, .aload_n 0, 1, 0, 0, 0), (83, .iload_n 1, 1, 0, 0, 0), (84, .bipush 7, 2, 0, 0, 0), (86, .invokevirtual 177, 3, 43, 0, 2), (89, .invokevirtual 174, 3, 50, 0, 3), (92, .aload_n 0, 1, 0, 0, 0), (93, .iload_n 1, 1, 0, 0, 0), (94, .bipush 14, 2, 0, 0, 0), (96, .iconst 1, 1, 0, 0, 0), (97, .invokevirtual 174, 3, 50, 0, 3), (100, .return_, 1, 0, 0, 0)], [])
def zm_154 : zM := (⟨"NestedPagerModel", "run", "(II)I"⟩, prog_13_method_50_code, 5, (some (.int)), (12, 316, 0, 0), (0, 11, 2, 0, 0, 0), [(0, .aload_n 0, 1, 0, 0, 0), (1, .iload_n 1, 1, 0, 0, 0), (2, .iconst 0, 1, 0, 0, 0), (3, .bipush 7, 2, 0, 0, 0), (5, .invokestatic 120, 3, 20, 0, 3), (8, .ifCond .eq 14, 3, 0, 0, 0), (11, .iload_n 2, 1, 0, 0, 0), (12, .iconst 1, 1, 0, 0, 0), (13, .sipush 1000, 3, 0, 0, 0), (16, .invokestatic 120, 3, 20, 0, 3), (19, .ifCond .ne 7, 3, 0, 0, 0), (22, .iconst 1, 1, 0, 0, 0), (23, .goto 17, 3, 0, 0, 0), (26, .aload_n 0, 1, 0, 0, 0), (27, .getfield 83, 3, 11, 26, 0), (30, .iload_n 1, 1, 0, 0, 0), (31, .baload, 1, 0, 0, 0), (32, .ifCond .ne 7, 3, 0, 0, 0), (35, .iconst 2, 1, 0, 0, 0), (36, .goto 4, 3, 0, 0, 0), (39, .iconst 0, 1, 0, 0, 0), (40, .invokevirtual 244, 3, 21, 0, 1), (43, .ifCond .eq 5, 3, 0, 0, 0), (46, .iconst 0, 1, 0, 0, 0), (47, .ireturn, 1, 0, 0, 0), (48, .aload_n 0, 1, 0, 0, 0), (49, .iload_n 1, 1, 0, 0, 0), (50, .bipush 12, 2, 0, 0, 0), (52, .invokevirtual 177, 3, 43, 0, 2), (55, .iconst 1, 1, 0, 0, 0), (56, .if_icmp .ne 15, 3, 0, 0, 0), (59, .aload_n 0, 1, 0, 0, 0), (60, .iload_n 1, 1, 0, 0, 0), (61, .bipush 13, 2, 0, 0, 0), (63, .invokevirtual 177, 3, 43, 0, 2), (66, .ifCond .ne 5, 3, 0, 0, 0), (69, .iconst 0, 1, 0, 0, 0), (70, .ireturn, 1, 0, 0, 0), (71, .aload_n 0, 1, 0, 0, 0), (72, .iload_n 1, 1, 0, 0, 0), (73, .bipush 12, 2, 0, 0, 0), (75, .iconst 0, 1, 0, 0, 0), (76, .invokevirtual 174, 3, 50, 0, 3), (79, .iconst 0, 1, 0, 0, 0), (80, .istore_n 3, 1, 0, 0, 0), (81, .iconst 1, 1, 0, 0, 0), (82, .istore 4, 2, 0, 0, 0), (84, .iload 4, 2, 0, 0, 0), (86, .ifCond .eq 163, 3, 0, 0, 0), (89, .iload_n 3, 1, 0, 0, 0), (90, .iload_n 2, 1, 0, 0, 0), (91, .if_icmp .ge 158, 3, 0, 0, 0), (94, .aload_n 0, 1, 0, 0, 0), (95, .aload_n 0, 1, 0, 0, 0), (96, .iload_n 1, 1, 0, 0, 0), (97, .bipush 16, 2, 0, 0, 0), (99, .invokevirtual 177, 3, 43, 0, 2), (102, .invokevirtual 250, 3, 105, 0, 1), (105, .aload_n 0, 1, 0, 0, 0), (106, .iload_n 1, 1, 0, 0, 0), (107, .invokevirtual 277, 3, 152, 0, 1), (110, .ifCond .eq 41, 3, 0, 0, 0), (113, .aload_n 0, 1, 0, 0, 0), (114, .iload_n 1, 1, 0, 0, 0), (115, .iconst 2, 1, 0, 0, 0), (116, .aload_n 0, 1, 0, 0, 0), (117, .getfield 257, 3, 11, 40, 0), (120, .invokevirtual 174, 3, 50, 0, 3), (123, .iinc 3 1, 3, 0, 0, 0), (126, .aload_n 0, 1, 0, 0, 0), (127, .iload_n 1, 1, 0, 0, 0), (128, .bipush 15, 2, 0, 0, 0), (130, .aload_n 0, 1, 0, 0, 0), (131, .iload_n 1, 1, 0, 0, 0), (132, .bipush 15, 2, 0, 0, 0), (134, .invokevirtual 177, 3, 43, 0, 2), (137, .iconst 1, 1, 0, 0, 0), (138, .iadd, 1, 0, 0, 0), (139, .invokevirtual 174, 3, 50, 0, 3), (142, .aload_n 0, 1, 0, 0, 0), (143, .getfield 260, 3, 11, 41, 0), (146, .istore 4, 2, 0, 0, 0), (148, .goto (-64), 3, 0, 0, 0), (151, .aload_n 0, 1, 0, 0, 0), (152, .getfield 168, 3, 11, 38, 0), (155, .bipush (-2), 2, 0, 0, 0), (157, .if_icmp .ne 50, 3, 0, 0, 0), (160, .aload_n 0, 1, 0, 0, 0), (161, .iload_n 1, 1, 0, 0, 0), (162, .bipush 7, 2, 0, 0, 0), (164, .invokevirtual 177, 3, 43, 0, 2), (167, .ifCond .lt 40, 3, 0, 0, 0), (170, .aload_n 0, 1, 0, 0, 0), (171, .iload_n 1, 1, 0, 0, 0), (172, .bipush 14, 2, 0, 0, 0), (174, .invokevirtual 177, 3, 43, 0, 2), (177, .ifCond .ne 30, 3, 0, 0, 0), (180, .aload_n 0, 1, 0, 0, 0), (181, .iload_n 1, 1, 0, 0, 0), (182, .invokevirtual 280, 3, 153, 0, 1), (185, .iinc 3 1, 3, 0, 0, 0), (188, .aload_n 0, 1, 0, 0, 0), (189, .iload_n 1, 1, 0, 0, 0), (190, .bipush 15, 2, 0, 0, 0), (192, .aload_n 0, 1, 0, 0, 0), (193, .iload_n 1, 1, 0, 0, 0), (194, .bipush 15, 2, 0, 0, 0), (196, .invokevirtual 177, 3, 43, 0, 2), (199, .iconst 1, 1, 0, 0, 0), (200, .iadd, 1, 0, 0, 0), (201, .invokevirtual 174, 3, 50, 0, 3), (204, .goto (-120), 3, 0, 0, 0), (207, .aload_n 0, 1, 0, 0, 0), (208, .getfield 168, 3, 11, 38, 0), (211, .bipush (-2), 2, 0, 0, 0), (213, .if_icmp .ne 22, 3, 0, 0, 0), (216, .aload_n 0, 1, 0, 0, 0), (217, .iload_n 1, 1, 0, 0, 0), (218, .bipush 6, 2, 0, 0, 0), (220, .iconst 0, 1, 0, 0, 0), (221, .aload_n 0, 1, 0, 0, 0), (222, .iload_n 1, 1, 0, 0, 0), (223, .bipush 18, 2, 0, 0, 0), (225, .invokevirtual 177, 3, 43, 0, 2), (228, .iconst 0, 1, 0, 0, 0), (229, .iconst 0, 1, 0, 0, 0), (230, .invokevirtual 203, 3, 118, 0, 6), (233, .istore 4, 2, 0, 0, 0), (235, .aload_n 0, 1, 0, 0, 0), (236, .iload_n 1, 1, 0, 0, 0), (237, .bipush 12, 2, 0, 0, 0), (239, .iconst 2, 1, 0, 0, 0), (240, .invokevirtual 174, 3, 50, 0, 3), (243, .iconst 0, 1, 0, 0, 0), (244, .istore 4, 2, 0, 0, 0), (246, .goto (-162), 3, 0, 0, 0), (249, .iload_n 3, 1, 0, 0, 0), (250, .ireturn, 1, 0, 0, 0)], [])
def zm_155 : zM := (⟨"NestedPager", "exit", "(II)I"⟩, prog_1_method_9_code, 3, (some (.int)), (8, 130, 2, 12), (0, 10, 2, 0, 0, 0), [(0, .iload_n 1, 1, 0, 0, 0), (1, .invokestatic 127, 3, 52, 0, 1), (4, .ifCond .eq 16, 3, 0, 0, 0), (7, .iload_n 2, 1, 0, 0, 0), (8, .iconst 0, 1, 0, 0, 0), (9, .iconst 4, 1, 0, 0, 0), (10, .invokestatic 76, 3, 12, 0, 3), (13, .ifCond .eq 7, 3, 0, 0, 0), (16, .iconst 1, 1, 0, 0, 0), (17, .goto 4, 3, 0, 0, 0), (20, .iconst 0, 1, 0, 0, 0), (21, .invokestatic 80, 3, 13, 0, 1), (24, .aload_n 0, 1, 0, 0, 0), (25, .iload_n 1, 1, 0, 0, 0), (26, .invokevirtual 133, 3, 53, 0, 1), (29, .getfield 162, 3, 9, 3, 0), (32, .iload_n 2, 1, 0, 0, 0), (33, .iaload, 1, 0, 0, 0), (34, .ireturn, 1, 0, 0, 0)], [])
def zm_156 : zM := (⟨"NestedPagerLaw", "exit", "(LNestedPager;II[J)I"⟩, method_10_code, 5, (some (.int)), (9, 152, 2, 12), (1, 99, 4, 0, 0, 0), [(0, .aload_n 3, 1, 0, 0, 0), (1, .iconst 0, 1, 0, 0, 0), (2, .aload_n 0, 1, 0, 0, 0), (3, .iload_n 1, 1, 0, 0, 0), (4, .iload_n 2, 1, 0, 0, 0), (5, .invokevirtual 38, 3, 155, 0, 2), (8, .i2l, 1, 0, 0, 0), (9, .lastore, 1, 0, 0, 0), (10, .goto 11, 3, 0, 0, 0), (13, .astore 4, 2, 0, 0, 0), (15, .iconst 1, 1, 0, 0, 0), (16, .ireturn, 1, 0, 0, 0), (17, .astore 4, 2, 0, 0, 0), (19, .iconst 2, 1, 0, 0, 0), (20, .ireturn, 1, 0, 0, 0), (21, .iconst 0, 1, 0, 0, 0), (22, .ireturn, 1, 0, 0, 0)], [((0), (10), (13), (13)), ((0), (10), (17), (18))])
def zm_157 : zM := (⟨"NestedPagerModel", "exit", "(II)I"⟩, prog_13_method_52_code, 3, (some (.int)), (1, 22, 0, 0), (0, 11, 2, 0, 0, 0), [(0, .aload_n 0, 1, 0, 0, 0), (1, .iload_n 1, 1, 0, 0, 0), (2, .iconst 0, 1, 0, 0, 0), (3, .bipush 7, 2, 0, 0, 0), (5, .invokestatic 120, 3, 20, 0, 3), (8, .ifCond .eq 12, 3, 0, 0, 0), (11, .iload_n 2, 1, 0, 0, 0), (12, .iconst 0, 1, 0, 0, 0), (13, .iconst 4, 1, 0, 0, 0), (14, .invokestatic 120, 3, 20, 0, 3), (17, .ifCond .ne 7, 3, 0, 0, 0), (20, .iconst 1, 1, 0, 0, 0), (21, .goto 17, 3, 0, 0, 0), (24, .aload_n 0, 1, 0, 0, 0), (25, .getfield 83, 3, 11, 26, 0), (28, .iload_n 1, 1, 0, 0, 0), (29, .baload, 1, 0, 0, 0), (30, .ifCond .ne 7, 3, 0, 0, 0), (33, .iconst 2, 1, 0, 0, 0), (34, .goto 4, 3, 0, 0, 0), (37, .iconst 0, 1, 0, 0, 0), (38, .invokevirtual 244, 3, 21, 0, 1), (41, .ifCond .eq 5, 3, 0, 0, 0), (44, .iconst 0, 1, 0, 0, 0), (45, .ireturn, 1, 0, 0, 0), (46, .aload_n 0, 1, 0, 0, 0), (47, .getfield 89, 3, 11, 28, 0), (50, .iconst 5, 1, 0, 0, 0), (51, .iload_n 1, 1, 0, 0, 0), (52, .imul, 1, 0, 0, 0), (53, .iload_n 2, 1, 0, 0, 0), (54, .iadd, 1, 0, 0, 0), (55, .iaload, 1, 0, 0, 0), (56, .ireturn, 1, 0, 0, 0)], [])
def zm_158 : zM := (⟨"NestedPager", "flush", "(III)I"⟩, prog_1_method_10_code, 5, (some (.int)), (8, 130, 2, 12), (0, 10, 3, 0, 0, 0), [(0, .iload_n 1, 1, 0, 0, 0), (1, .invokestatic 127, 3, 52, 0, 1), (4, .ifCond .eq 23, 3, 0, 0, 0), (7, .iload_n 2, 1, 0, 0, 0), (8, .iconst 0, 1, 0, 0, 0), (9, .iconst 2, 1, 0, 0, 0), (10, .invokestatic 76, 3, 12, 0, 3), (13, .ifCond .eq 14, 3, 0, 0, 0), (16, .iload_n 3, 1, 0, 0, 0), (17, .invokestatic 140, 3, 61, 0, 1), (20, .ifCond .eq 7, 3, 0, 0, 0), (23, .iconst 1, 1, 0, 0, 0), (24, .goto 4, 3, 0, 0, 0), (27, .iconst 0, 1, 0, 0, 0), (28, .invokestatic 80, 3, 13, 0, 1), (31, .aload_n 0, 1, 0, 0, 0), (32, .iload_n 1, 1, 0, 0, 0), (33, .invokevirtual 133, 3, 53, 0, 1), (36, .astore 4, 2, 0, 0, 0), (38, .aload 4, 2, 0, 0, 0), (40, .getfield 167, 3, 9, 4, 0), (43, .iload_n 2, 1, 0, 0, 0), (44, .aload 4, 2, 0, 0, 0), (46, .getfield 137, 3, 9, 2, 0), (49, .bipush 6, 2, 0, 0, 0), (51, .iaload, 1, 0, 0, 0), (52, .iload_n 3, 1, 0, 0, 0), (53, .invokevirtual 171, 3, 135, 0, 3), (56, .ireturn, 1, 0, 0, 0)], [])
def zm_159 : zM := (⟨"NestedPagerLaw", "flush", "(LNestedPager;III[J)I"⟩, method_11_code, 6, (some (.int)), (9, 154, 2, 12), (1, 99, 5, 0, 0, 0), [(0, .aload 4, 2, 0, 0, 0), (2, .iconst 0, 1, 0, 0, 0), (3, .aload_n 0, 1, 0, 0, 0), (4, .iload_n 1, 1, 0, 0, 0), (5, .iload_n 2, 1, 0, 0, 0), (6, .iload_n 3, 1, 0, 0, 0), (7, .invokevirtual 41, 3, 158, 0, 3), (10, .i2l, 1, 0, 0, 0), (11, .lastore, 1, 0, 0, 0), (12, .goto 11, 3, 0, 0, 0), (15, .astore 5, 2, 0, 0, 0), (17, .iconst 1, 1, 0, 0, 0), (18, .ireturn, 1, 0, 0, 0), (19, .astore 5, 2, 0, 0, 0), (21, .iconst 2, 1, 0, 0, 0), (22, .ireturn, 1, 0, 0, 0), (23, .iconst 0, 1, 0, 0, 0), (24, .ireturn, 1, 0, 0, 0)], [((0), (12), (15), (13)), ((0), (12), (19), (18))])
def zm_160 : zM := (⟨"NestedPagerModel", "flush", "(III)I"⟩, prog_13_method_54_code, 4, (some (.int)), (3, 74, 0, 0), (0, 11, 3, 0, 0, 0), [(0, .aload_n 0, 1, 0, 0, 0), (1, .iload_n 1, 1, 0, 0, 0), (2, .iconst 0, 1, 0, 0, 0), (3, .bipush 7, 2, 0, 0, 0), (5, .invokestatic 120, 3, 20, 0, 3), (8, .ifCond .eq 23, 3, 0, 0, 0), (11, .iload_n 2, 1, 0, 0, 0), (12, .iconst 0, 1, 0, 0, 0), (13, .iconst 2, 1, 0, 0, 0), (14, .invokestatic 120, 3, 20, 0, 3), (17, .ifCond .eq 14, 3, 0, 0, 0), (20, .iload_n 3, 1, 0, 0, 0), (21, .iconst 0, 1, 0, 0, 0), (22, .sipush 4095, 3, 0, 0, 0), (25, .invokestatic 120, 3, 20, 0, 3), (28, .ifCond .ne 7, 3, 0, 0, 0), (31, .iconst 1, 1, 0, 0, 0), (32, .goto 17, 3, 0, 0, 0), (35, .aload_n 0, 1, 0, 0, 0), (36, .getfield 83, 3, 11, 26, 0), (39, .iload_n 1, 1, 0, 0, 0), (40, .baload, 1, 0, 0, 0), (41, .ifCond .ne 7, 3, 0, 0, 0), (44, .iconst 2, 1, 0, 0, 0), (45, .goto 4, 3, 0, 0, 0), (48, .iconst 0, 1, 0, 0, 0), (49, .invokevirtual 244, 3, 21, 0, 1), (52, .ifCond .eq 5, 3, 0, 0, 0), (55, .iconst 0, 1, 0, 0, 0), (56, .ireturn, 1, 0, 0, 0), (57, .aload_n 0, 1, 0, 0, 0), (58, .iload_n 1, 1, 0, 0, 0), (59, .iload_n 2, 1, 0, 0, 0), (60, .iload_n 3, 1, 0, 0, 0), (61, .invokevirtual 270, 3, 148, 0, 3), (64, .ireturn, 1, 0, 0, 0)], [])
def zm_161 : zM := (⟨"NestedPager$LookAside", "told", "(II)I"⟩, prog_5_method_10_code, 3, (some (.int)), (1, 21, 0, 0), (0, 3, 2, 0, 0, 0), [(0, .aload_n 0, 1, 0, 0, 0), (1, .getfield 11, 3, 3, 0, 0), (4, .iload_n 1, 1, 0, 0, 0), (5, .baload, 1, 0, 0, 0), (6, .ifCond .ne 5, 3, 0, 0, 0), (9, .iconst (-1), 1, 0, 0, 0), (10, .ireturn, 1, 0, 0, 0), (11, .iload_n 2, 1, 0, 0, 0), (12, .tableswitch 69 0 2 #[28, 55, 62], 28, 0, 0, 0), (40, .aload_n 0, 1, 0, 0, 0), (41, .iload_n 1, 1, 0, 0, 0), (42, .invokevirtual 36, 3, 71, 0, 1), (45, .ifCond .eq 15, 3, 0, 0, 0), (48, .aload_n 0, 1, 0, 0, 0), (49, .getfield 15, 3, 3, 1, 0), (52, .iload_n 1, 1, 0, 0, 0), (53, .iaload, 1, 0, 0, 0), (54, .bipush 16, 2, 0, 0, 0), (56, .imul, 1, 0, 0, 0), (57, .goto 9, 3, 0, 0, 0), (60, .aload_n 0, 1, 0, 0, 0), (61, .getfield 15, 3, 3, 1, 0), (64, .iload_n 1, 1, 0, 0, 0), (65, .iaload, 1, 0, 0, 0), (66, .ireturn, 1, 0, 0, 0), (67, .aload_n 0, 1, 0, 0, 0), (68, .getfield 19, 3, 3, 2, 0), (71, .iload_n 1, 1, 0, 0, 0), (72, .iaload, 1, 0, 0, 0), (73, .ireturn, 1, 0, 0, 0), (74, .aload_n 0, 1, 0, 0, 0), (75, .getfield 22, 3, 3, 3, 0), (78, .iload_n 1, 1, 0, 0, 0), (79, .iaload, 1, 0, 0, 0), (80, .ireturn, 1, 0, 0, 0), (81, .aload_n 0, 1, 0, 0, 0), (82, .getfield 25, 3, 3, 4, 0), (85, .iload_n 1, 1, 0, 0, 0), (86, .iaload, 1, 0, 0, 0), (87, .ireturn, 1, 0, 0, 0)], [])
def zm_162 : zM := (⟨"NestedPager", "aside", "(III)I"⟩, prog_1_method_11_code, 4, (some (.int)), (8, 130, 2, 12), (0, 10, 3, 0, 0, 0), [(0, .iload_n 1, 1, 0, 0, 0), (1, .invokestatic 127, 3, 52, 0, 1), (4, .ifCond .eq 26, 3, 0, 0, 0), (7, .iload_n 2, 1, 0, 0, 0), (8, .iconst 0, 1, 0, 0, 0), (9, .bipush 7, 2, 0, 0, 0), (11, .invokestatic 76, 3, 12, 0, 3), (14, .ifCond .eq 16, 3, 0, 0, 0), (17, .iload_n 3, 1, 0, 0, 0), (18, .iconst 0, 1, 0, 0, 0), (19, .iconst 3, 1, 0, 0, 0), (20, .invokestatic 76, 3, 12, 0, 3), (23, .ifCond .eq 7, 3, 0, 0, 0), (26, .iconst 1, 1, 0, 0, 0), (27, .goto 4, 3, 0, 0, 0), (30, .iconst 0, 1, 0, 0, 0), (31, .invokestatic 80, 3, 13, 0, 1), (34, .aload_n 0, 1, 0, 0, 0), (35, .iload_n 1, 1, 0, 0, 0), (36, .invokevirtual 133, 3, 53, 0, 1), (39, .getfield 167, 3, 9, 4, 0), (42, .iload_n 2, 1, 0, 0, 0), (43, .iload_n 3, 1, 0, 0, 0), (44, .invokevirtual 174, 3, 161, 0, 2), (47, .ireturn, 1, 0, 0, 0)], [])
def zm_163 : zM := (⟨"NestedPagerLaw", "aside", "(LNestedPager;III[J)I"⟩, method_12_code, 6, (some (.int)), (9, 153, 2, 12), (1, 99, 5, 0, 0, 0), [(0, .aload 4, 2, 0, 0, 0), (2, .iconst 0, 1, 0, 0, 0), (3, .aload_n 0, 1, 0, 0, 0), (4, .iload_n 1, 1, 0, 0, 0), (5, .iload_n 2, 1, 0, 0, 0), (6, .iload_n 3, 1, 0, 0, 0), (7, .invokevirtual 45, 3, 162, 0, 3), (10, .i2l, 1, 0, 0, 0), (11, .lastore, 1, 0, 0, 0), (12, .goto 11, 3, 0, 0, 0), (15, .astore 5, 2, 0, 0, 0), (17, .iconst 1, 1, 0, 0, 0), (18, .ireturn, 1, 0, 0, 0), (19, .astore 5, 2, 0, 0, 0), (21, .iconst 2, 1, 0, 0, 0), (22, .ireturn, 1, 0, 0, 0), (23, .iconst 0, 1, 0, 0, 0), (24, .ireturn, 1, 0, 0, 0)], [((0), (12), (15), (13)), ((0), (12), (19), (18))])
def zm_164 : zM := (⟨"NestedPagerModel", "aside", "(III)I"⟩, prog_13_method_55_code, 5, (some (.int)), (1, 22, 0, 0), (0, 11, 3, 0, 0, 0), [(0, .aload_n 0, 1, 0, 0, 0), (1, .iload_n 1, 1, 0, 0, 0), (2, .iconst 0, 1, 0, 0, 0), (3, .bipush 7, 2, 0, 0, 0), (5, .invokestatic 120, 3, 20, 0, 3), (8, .ifCond .eq 22, 3, 0, 0, 0), (11, .iload_n 2, 1, 0, 0, 0), (12, .iconst 0, 1, 0, 0, 0), (13, .bipush 7, 2, 0, 0, 0), (15, .invokestatic 120, 3, 20, 0, 3), (18, .ifCond .eq 12, 3, 0, 0, 0), (21, .iload_n 3, 1, 0, 0, 0), (22, .iconst 0, 1, 0, 0, 0), (23, .iconst 3, 1, 0, 0, 0), (24, .invokestatic 120, 3, 20, 0, 3), (27, .ifCond .ne 7, 3, 0, 0, 0), (30, .iconst 1, 1, 0, 0, 0), (31, .goto 17, 3, 0, 0, 0), (34, .aload_n 0, 1, 0, 0, 0), (35, .getfield 83, 3, 11, 26, 0), (38, .iload_n 1, 1, 0, 0, 0), (39, .baload, 1, 0, 0, 0), (40, .ifCond .ne 7, 3, 0, 0, 0), (43, .iconst 2, 1, 0, 0, 0), (44, .goto 4, 3, 0, 0, 0), (47, .iconst 0, 1, 0, 0, 0), (48, .invokevirtual 244, 3, 21, 0, 1), (51, .ifCond .eq 5, 3, 0, 0, 0), (54, .iconst 0, 1, 0, 0, 0), (55, .ireturn, 1, 0, 0, 0), (56, .bipush 8, 2, 0, 0, 0), (58, .iload_n 1, 1, 0, 0, 0), (59, .imul, 1, 0, 0, 0), (60, .iload_n 2, 1, 0, 0, 0), (61, .iadd, 1, 0, 0, 0), (62, .istore 4, 2, 0, 0, 0), (64, .aload_n 0, 1, 0, 0, 0), (65, .getfield 95, 3, 11, 30, 0), (68, .iload 4, 2, 0, 0, 0), (70, .baload, 1, 0, 0, 0), (71, .ifCond .ne 5, 3, 0, 0, 0), (74, .iconst (-1), 1, 0, 0, 0), (75, .ireturn, 1, 0, 0, 0), (76, .iload_n 3, 1, 0, 0, 0), (77, .ifCond .ne 39, 3, 0, 0, 0), (80, .aload_n 0, 1, 0, 0, 0), (81, .getfield 104, 3, 11, 33, 0), (84, .iload 4, 2, 0, 0, 0), (86, .iaload, 1, 0, 0, 0), (87, .bipush 32, 2, 0, 0, 0), (89, .iand, 1, 0, 0, 0), (90, .ifCond .eq 16, 3, 0, 0, 0), (93, .bipush 16, 2, 0, 0, 0), (95, .aload_n 0, 1, 0, 0, 0), (96, .getfield 98, 3, 11, 31, 0), (99, .iload 4, 2, 0, 0, 0), (101, .iaload, 1, 0, 0, 0), (102, .imul, 1, 0, 0, 0), (103, .goto 50, 3, 0, 0, 0), (106, .aload_n 0, 1, 0, 0, 0), (107, .getfield 98, 3, 11, 31, 0), (110, .iload 4, 2, 0, 0, 0), (112, .iaload, 1, 0, 0, 0), (113, .goto 40, 3, 0, 0, 0), (116, .iload_n 3, 1, 0, 0, 0), (117, .iconst 1, 1, 0, 0, 0), (118, .if_icmp .ne 13, 3, 0, 0, 0), (121, .aload_n 0, 1, 0, 0, 0), (122, .getfield 101, 3, 11, 32, 0), (125, .iload 4, 2, 0, 0, 0), (127, .iaload, 1, 0, 0, 0), (128, .goto 25, 3, 0, 0, 0), (131, .iload_n 3, 1, 0, 0, 0), (132, .iconst 2, 1, 0, 0, 0), (133, .if_icmp .ne 13, 3, 0, 0, 0), (136, .aload_n 0, 1, 0, 0, 0), (137, .getfield 104, 3, 11, 33, 0), (140, .iload 4, 2, 0, 0, 0), (142, .iaload, 1, 0, 0, 0), (143, .goto 10, 3, 0, 0, 0), (146, .aload_n 0, 1, 0, 0, 0), (147, .getfield 107, 3, 11, 34, 0), (150, .iload 4, 2, 0, 0, 0), (152, .iaload, 1, 0, 0, 0), (153, .ireturn, 1, 0, 0, 0)], [])
def zm_165 : zM := (⟨"NestedPager", "isMemoryPage", "(I)Z"⟩, prog_1_method_31_code, 1, (some (.boolean)), (1, 22, 0, 0), (1, 10, 1, 0, 0, 0), [(0, .iload_n 0, 1, 0, 0, 0), (1, .iconst 0, 1, 0, 0, 0), (2, .bipush 127, 2, 0, 0, 0), (4, .invokestatic 76, 3, 12, 0, 3), (7, .ireturn, 1, 0, 0, 0)], [])
def zm_166 : zM := (⟨"NestedPager", "deny", "(III)I"⟩, prog_1_method_12_code, 7, (some (.int)), (8, 130, 3, 18), (0, 10, 3, 0, 0, 0), [(0, .iload_n 1, 1, 0, 0, 0), (1, .invokestatic 103, 3, 25, 0, 1), (4, .ifCond .eq 24, 3, 0, 0, 0), (7, .iload_n 2, 1, 0, 0, 0), (8, .invokestatic 178, 3, 165, 0, 1), (11, .ifCond .eq 17, 3, 0, 0, 0), (14, .iload_n 3, 1, 0, 0, 0), (15, .iconst 0, 1, 0, 0, 0), (16, .bipush 7, 2, 0, 0, 0), (18, .invokestatic 76, 3, 12, 0, 3), (21, .ifCond .eq 7, 3, 0, 0, 0), (24, .iconst 1, 1, 0, 0, 0), (25, .goto 4, 3, 0, 0, 0), (28, .iconst 0, 1, 0, 0, 0), (29, .invokestatic 80, 3, 13, 0, 1), (32, .aload_n 0, 1, 0, 0, 0), (33, .iload_n 1, 1, 0, 0, 0), (34, .invokevirtual 107, 3, 27, 0, 1), (37, .astore 4, 2, 0, 0, 0), (39, .iload_n 2, 1, 0, 0, 0), (40, .aload 4, 2, 0, 0, 0), (42, .getfield 118, 3, 2, 2, 0), (45, .if_icmp .ge 7, 3, 0, 0, 0), (48, .iconst 1, 1, 0, 0, 0), (49, .goto 4, 3, 0, 0, 0), (52, .iconst 0, 1, 0, 0, 0), (53, .invokestatic 181, 3, 26, 0, 1), (56, .aload_n 0, 1, 0, 0, 0), (57, .getfield 10, 3, 10, 0, 0), (60, .aload 4, 2, 0, 0, 0), (62, .getfield 115, 3, 2, 3, 0), (65, .iload_n 2, 1, 0, 0, 0), (66, .invokevirtual 184, 3, 32, 0, 2), (69, .istore 5, 2, 0, 0, 0), (71, .aload_n 0, 1, 0, 0, 0), (72, .getfield 10, 3, 10, 0, 0), (75, .aload 4, 2, 0, 0, 0), (77, .getfield 115, 3, 2, 3, 0), (80, .iload_n 2, 1, 0, 0, 0), (81, .invokevirtual 187, 3, 31, 0, 2), (84, .istore 6, 2, 0, 0, 0), (86, .iload 6, 2, 0, 0, 0), (88, .ifCond .ge 9, 3, 0, 0, 0), (91, .iload_n 3, 1, 0, 0, 0), (92, .ifCond .ne 5, 3, 0, 0, 0), (95, .iconst 0, 1, 0, 0, 0), (96, .ireturn, 1, 0, 0, 0), (97, .iload 6, 2, 0, 0, 0), (99, .ifCond .ge 26, 3, 0, 0, 0), (102, .aload_n 0, 1, 0, 0, 0), (103, .getfield 10, 3, 10, 0, 0), (106, .aload 4, 2, 0, 0, 0), (108, .getfield 115, 3, 2, 3, 0), (111, .iload_n 1, 1, 0, 0, 0), (112, .iload_n 2, 1, 0, 0, 0), (113, .aload_n 0, 1, 0, 0, 0), (114, .getfield 10, 3, 10, 0, 0), (117, .invokevirtual 190, 3, 80, 0, 0), (120, .invokevirtual 193, 3, 81, 0, 4), (123, .istore 6, 2, 0, 0, 0), (125, .iload 6, 2, 0, 0, 0), (127, .ifCond .ge 6, 3, 0, 0, 0), (130, .bipush (-4), 2, 0, 0, 0), (132, .ireturn, 1, 0, 0, 0), (133, .aload_n 0, 1, 0, 0, 0), (134, .getfield 10, 3, 10, 0, 0), (137, .getfield 197, 3, 5, 0, 0), (140, .iload 6, 2, 0, 0, 0), (142, .iload 5, 2, 0, 0, 0), (144, .bipush (-8), 2, 0, 0, 0), (146, .iand, 1, 0, 0, 0), (147, .iload_n 3, 1, 0, 0, 0), (148, .ior, 1, 0, 0, 0), (149, .iastore, 1, 0, 0, 0), (150, .iload 5, 2, 0, 0, 0), (152, .bipush 7, 2, 0, 0, 0), (154, .iand, 1, 0, 0, 0), (155, .ireturn, 1, 0, 0, 0)], [])
def zm_167 : zM := (⟨"NestedPagerLaw", "deny", "(LNestedPager;III[J)I"⟩, method_13_code, 6, (some (.int)), (9, 156, 3, 18), (1, 99, 5, 0, 0, 0), [(0, .aload 4, 2, 0, 0, 0), (2, .iconst 0, 1, 0, 0, 0), (3, .aload_n 0, 1, 0, 0, 0), (4, .iload_n 1, 1, 0, 0, 0), (5, .iload_n 2, 1, 0, 0, 0), (6, .iload_n 3, 1, 0, 0, 0), (7, .invokevirtual 48, 3, 166, 0, 3), (10, .i2l, 1, 0, 0, 0), (11, .lastore, 1, 0, 0, 0), (12, .goto 11, 3, 0, 0, 0), (15, .astore 5, 2, 0, 0, 0), (17, .iconst 1, 1, 0, 0, 0), (18, .ireturn, 1, 0, 0, 0), (19, .astore 5, 2, 0, 0, 0), (21, .iconst 2, 1, 0, 0, 0), (22, .ireturn, 1, 0, 0, 0), (23, .iconst 0, 1, 0, 0, 0), (24, .ireturn, 1, 0, 0, 0)], [((0), (12), (15), (13)), ((0), (12), (19), (18))])
def zm_168 : zM := (⟨"NestedPagerModel", "pageRefusal", "(IIZ)I"⟩, prog_13_method_56_code, 5, (some (.int)), (2, 46, 0, 0), (0, 11, 3, 0, 0, 0), [(0, .iload_n 1, 1, 0, 0, 0), (1, .iconst 0, 1, 0, 0, 0), (2, .iconst 3, 1, 0, 0, 0), (3, .invokestatic 120, 3, 20, 0, 3), (6, .ifCond .eq 13, 3, 0, 0, 0), (9, .iload_n 2, 1, 0, 0, 0), (10, .iconst 0, 1, 0, 0, 0), (11, .bipush 127, 2, 0, 0, 0), (13, .invokestatic 120, 3, 20, 0, 3), (16, .ifCond .ne 5, 3, 0, 0, 0), (19, .iconst 1, 1, 0, 0, 0), (20, .ireturn, 1, 0, 0, 0), (21, .aload_n 0, 1, 0, 0, 0), (22, .getfield 29, 3, 11, 8, 0), (25, .iload_n 1, 1, 0, 0, 0), (26, .baload, 1, 0, 0, 0), (27, .istore 4, 2, 0, 0, 0), (29, .iload 4, 2, 0, 0, 0), (31, .ifCond .eq 17, 3, 0, 0, 0), (34, .iload_n 2, 1, 0, 0, 0), (35, .aload_n 0, 1, 0, 0, 0), (36, .getfield 32, 3, 11, 9, 0), (39, .iload_n 1, 1, 0, 0, 0), (40, .iaload, 1, 0, 0, 0), (41, .if_icmp .ge 7, 3, 0, 0, 0), (44, .iconst 1, 1, 0, 0, 0), (45, .goto 4, 3, 0, 0, 0), (48, .iconst 0, 1, 0, 0, 0), (49, .istore 4, 2, 0, 0, 0), (51, .iload 4, 2, 0, 0, 0), (53, .ifCond .eq 20, 3, 0, 0, 0), (56, .iload_n 3, 1, 0, 0, 0), (57, .ifCond .eq 20, 3, 0, 0, 0), (60, .aload_n 0, 1, 0, 0, 0), (61, .iload_n 1, 1, 0, 0, 0), (62, .iload_n 2, 1, 0, 0, 0), (63, .invokevirtual 124, 3, 40, 0, 2), (66, .invokestatic 161, 3, 41, 0, 1), (69, .iconst 1, 1, 0, 0, 0), (70, .if_icmp .eq 7, 3, 0, 0, 0), (73, .iconst 2, 1, 0, 0, 0), (74, .goto 4, 3, 0, 0, 0), (77, .iconst 0, 1, 0, 0, 0), (78, .ireturn, 1, 0, 0, 0)], [])
def zm_169 : zM := (⟨"NestedPagerModel", "deny", "(III)I"⟩, prog_13_method_57_code, 5, (some (.int)), (6, 144, 0, 0), (0, 11, 3, 0, 0, 0), [(0, .aload_n 0, 1, 0, 0, 0), (1, .iload_n 3, 1, 0, 0, 0), (2, .iconst 0, 1, 0, 0, 0), (3, .bipush 7, 2, 0, 0, 0), (5, .invokestatic 120, 3, 20, 0, 3), (8, .ifCond .ne 7, 3, 0, 0, 0), (11, .iconst 1, 1, 0, 0, 0), (12, .goto 10, 3, 0, 0, 0), (15, .aload_n 0, 1, 0, 0, 0), (16, .iload_n 1, 1, 0, 0, 0), (17, .iload_n 2, 1, 0, 0, 0), (18, .iconst 0, 1, 0, 0, 0), (19, .invokevirtual 283, 3, 168, 0, 3), (22, .invokevirtual 244, 3, 21, 0, 1), (25, .ifCond .eq 5, 3, 0, 0, 0), (28, .iconst 0, 1, 0, 0, 0), (29, .ireturn, 1, 0, 0, 0), (30, .aload_n 0, 1, 0, 0, 0), (31, .iload_n 1, 1, 0, 0, 0), (32, .iload_n 2, 1, 0, 0, 0), (33, .invokevirtual 124, 3, 40, 0, 2), (36, .bipush 7, 2, 0, 0, 0), (38, .iand, 1, 0, 0, 0), (39, .istore 4, 2, 0, 0, 0), (41, .iload_n 3, 1, 0, 0, 0), (42, .ifCond .eq 15, 3, 0, 0, 0), (45, .aload_n 0, 1, 0, 0, 0), (46, .iload_n 1, 1, 0, 0, 0), (47, .iload_n 2, 1, 0, 0, 0), (48, .invokevirtual 165, 3, 116, 0, 2), (51, .ifCond .ne 6, 3, 0, 0, 0), (54, .bipush (-4), 2, 0, 0, 0), (56, .ireturn, 1, 0, 0, 0), (57, .aload_n 0, 1, 0, 0, 0), (58, .iload_n 1, 1, 0, 0, 0), (59, .iload_n 2, 1, 0, 0, 0), (60, .invokevirtual 150, 3, 39, 0, 2), (63, .ifCond .lt 20, 3, 0, 0, 0), (66, .aload_n 0, 1, 0, 0, 0), (67, .iload_n 1, 1, 0, 0, 0), (68, .iload_n 2, 1, 0, 0, 0), (69, .aload_n 0, 1, 0, 0, 0), (70, .iload_n 1, 1, 0, 0, 0), (71, .iload_n 2, 1, 0, 0, 0), (72, .invokevirtual 124, 3, 40, 0, 2), (75, .bipush (-8), 2, 0, 0, 0), (77, .iand, 1, 0, 0, 0), (78, .iload_n 3, 1, 0, 0, 0), (79, .ior, 1, 0, 0, 0), (80, .invokevirtual 128, 3, 112, 0, 3), (83, .iload 4, 2, 0, 0, 0), (85, .ireturn, 1, 0, 0, 0)], [])
def zm_170 : zM := (⟨"NestedPager", "frameOfPageHere", "(LNestedPager$Guest;I)I"⟩, prog_1_method_39_code, 4, (some (.int)), (7, 109, 1, 6), (0, 10, 2, 0, 0, 0), [(0, .aload_n 0, 1, 0, 0, 0), (1, .getfield 10, 3, 10, 0, 0), (4, .aload_n 1, 1, 0, 0, 0), (5, .getfield 115, 3, 2, 3, 0), (8, .iload_n 2, 1, 0, 0, 0), (9, .invokevirtual 184, 3, 32, 0, 2), (12, .istore_n 3, 1, 0, 0, 0), (13, .iload_n 3, 1, 0, 0, 0), (14, .bipush 96, 2, 0, 0, 0), (16, .iand, 1, 0, 0, 0), (17, .bipush 32, 2, 0, 0, 0), (19, .if_icmp .ne 7, 3, 0, 0, 0), (22, .iconst 1, 1, 0, 0, 0), (23, .goto 4, 3, 0, 0, 0), (26, .iconst 0, 1, 0, 0, 0), (27, .invokestatic 181, 3, 26, 0, 1), (30, .iload_n 3, 1, 0, 0, 0), (31, .invokestatic 294, 3, 30, 0, 1), (34, .ireturn, 1, 0, 0, 0)], [])
def zm_171 : zM := (⟨"NestedPager", "swap", "(II)I"⟩, prog_1_method_13_code, 5, (some (.int)), (8, 132, 3, 18), (0, 10, 2, 0, 0, 0), [(0, .iload_n 1, 1, 0, 0, 0), (1, .invokestatic 103, 3, 25, 0, 1), (4, .ifCond .eq 14, 3, 0, 0, 0), (7, .iload_n 2, 1, 0, 0, 0), (8, .invokestatic 178, 3, 165, 0, 1), (11, .ifCond .eq 7, 3, 0, 0, 0), (14, .iconst 1, 1, 0, 0, 0), (15, .goto 4, 3, 0, 0, 0), (18, .iconst 0, 1, 0, 0, 0), (19, .invokestatic 80, 3, 13, 0, 1), (22, .aload_n 0, 1, 0, 0, 0), (23, .aload_n 0, 1, 0, 0, 0), (24, .iload_n 1, 1, 0, 0, 0), (25, .invokevirtual 107, 3, 27, 0, 1), (28, .iload_n 2, 1, 0, 0, 0), (29, .invokevirtual 200, 3, 170, 0, 2), (32, .istore_n 3, 1, 0, 0, 0), (33, .aload_n 0, 1, 0, 0, 0), (34, .getfield 10, 3, 10, 0, 0), (37, .invokevirtual 204, 3, 77, 0, 0), (40, .istore 4, 2, 0, 0, 0), (42, .iload 4, 2, 0, 0, 0), (44, .ifCond .ge 6, 3, 0, 0, 0), (47, .bipush (-4), 2, 0, 0, 0), (49, .ireturn, 1, 0, 0, 0), (50, .aload_n 0, 1, 0, 0, 0), (51, .getfield 10, 3, 10, 0, 0), (54, .iload_n 3, 1, 0, 0, 0), (55, .iload 4, 2, 0, 0, 0), (57, .invokevirtual 207, 3, 79, 0, 2), (60, .aload_n 0, 1, 0, 0, 0), (61, .getfield 10, 3, 10, 0, 0), (64, .iload_n 3, 1, 0, 0, 0), (65, .invokevirtual 210, 3, 33, 0, 1), (68, .iload 4, 2, 0, 0, 0), (70, .ireturn, 1, 0, 0, 0)], [])
def zm_172 : zM := (⟨"NestedPagerLaw", "swap", "(LNestedPager;II[J)I"⟩, method_14_code, 5, (some (.int)), (9, 156, 3, 18), (1, 99, 4, 0, 0, 0), [(0, .aload_n 3, 1, 0, 0, 0), (1, .iconst 0, 1, 0, 0, 0), (2, .aload_n 0, 1, 0, 0, 0), (3, .iload_n 1, 1, 0, 0, 0), (4, .iload_n 2, 1, 0, 0, 0), (5, .invokevirtual 51, 3, 171, 0, 2), (8, .i2l, 1, 0, 0, 0), (9, .lastore, 1, 0, 0, 0), (10, .goto 11, 3, 0, 0, 0), (13, .astore 4, 2, 0, 0, 0), (15, .iconst 1, 1, 0, 0, 0), (16, .ireturn, 1, 0, 0, 0), (17, .astore 4, 2, 0, 0, 0), (19, .iconst 2, 1, 0, 0, 0), (20, .ireturn, 1, 0, 0, 0), (21, .iconst 0, 1, 0, 0, 0), (22, .ireturn, 1, 0, 0, 0)], [((0), (10), (13), (13)), ((0), (10), (17), (18))])
def zm_173 : zM := (⟨"NestedPagerModel", "swap", "(II)I"⟩, prog_13_method_58_code, 4, (some (.int)), (3, 71, 0, 0), (0, 11, 2, 0, 0, 0), [(0, .aload_n 0, 1, 0, 0, 0), (1, .aload_n 0, 1, 0, 0, 0), (2, .iload_n 1, 1, 0, 0, 0), (3, .iload_n 2, 1, 0, 0, 0), (4, .iconst 1, 1, 0, 0, 0), (5, .invokevirtual 283, 3, 168, 0, 3), (8, .invokevirtual 244, 3, 21, 0, 1), (11, .ifCond .eq 5, 3, 0, 0, 0), (14, .iconst 0, 1, 0, 0, 0), (15, .ireturn, 1, 0, 0, 0), (16, .aload_n 0, 1, 0, 0, 0), (17, .invokevirtual 136, 3, 111, 0, 0), (20, .istore_n 3, 1, 0, 0, 0), (21, .iload_n 3, 1, 0, 0, 0), (22, .ifCond .ge 6, 3, 0, 0, 0), (25, .bipush (-4), 2, 0, 0, 0), (27, .ireturn, 1, 0, 0, 0), (28, .aload_n 0, 1, 0, 0, 0), (29, .aload_n 0, 1, 0, 0, 0), (30, .iload_n 1, 1, 0, 0, 0), (31, .iload_n 2, 1, 0, 0, 0), (32, .invokevirtual 124, 3, 40, 0, 2), (35, .bipush 8, 2, 0, 0, 0), (37, .ishr, 1, 0, 0, 0), (38, .iload_n 3, 1, 0, 0, 0), (39, .invokevirtual 140, 3, 113, 0, 2), (42, .iload_n 3, 1, 0, 0, 0), (43, .ireturn, 1, 0, 0, 0)], [])
def zm_174 : zM := (⟨"NestedPager$Memory", "moveFrame", "(II)V"⟩, prog_7_method_17_code, 4, none, (1, 24, 0, 0), (0, 5, 2, 0, 0, 0), [(0, .iconst 0, 1, 0, 0, 0), (1, .istore_n 3, 1, 0, 0, 0), (2, .iload_n 3, 1, 0, 0, 0), (3, .bipush 16, 2, 0, 0, 0), (5, .if_icmp .ge 31, 3, 0, 0, 0), (8, .aload_n 0, 1, 0, 0, 0), (9, .getfield 9, 3, 5, 0, 0), (12, .iload_n 2, 1, 0, 0, 0), (13, .bipush 16, 2, 0, 0, 0), (15, .imul, 1, 0, 0, 0), (16, .iload_n 3, 1, 0, 0, 0), (17, .iadd, 1, 0, 0, 0), (18, .aload_n 0, 1, 0, 0, 0), (19, .getfield 9, 3, 5, 0, 0), (22, .iload_n 1, 1, 0, 0, 0), (23, .bipush 16, 2, 0, 0, 0), (25, .imul, 1, 0, 0, 0), (26, .iload_n 3, 1, 0, 0, 0), (27, .iadd, 1, 0, 0, 0), (28, .iaload, 1, 0, 0, 0), (29, .iastore, 1, 0, 0, 0), (30, .iinc 3 1, 3, 0, 0, 0), (33, .goto (-31), 3, 0, 0, 0), (36, .aload_n 0, 1, 0, 0, 0), (37, .getfield 24, 3, 5, 4, 0), (40, .iload_n 1, 1, 0, 0, 0), (41, .iaload, 1, 0, 0, 0), (42, .istore_n 3, 1, 0, 0, 0), (43, .aload_n 0, 1, 0, 0, 0), (44, .iload_n 2, 1, 0, 0, 0), (45, .iconst 2, 1, 0, 0, 0), (46, .aload_n 0, 1, 0, 0, 0), (47, .getfield 18, 3, 5, 2, 0), (50, .iload_n 1, 1, 0, 0, 0), (51, .iaload, 1, 0, 0, 0), (52, .aload_n 0, 1, 0, 0, 0), (53, .getfield 21, 3, 5, 3, 0), (56, .iload_n 1, 1, 0, 0, 0), (57, .iaload, 1, 0, 0, 0), (58, .invokevirtual 67, 3, 15, 0, 4), (61, .aload_n 0, 1, 0, 0, 0), (62, .getfield 24, 3, 5, 4, 0), (65, .iload_n 2, 1, 0, 0, 0), (66, .iload_n 3, 1, 0, 0, 0), (67, .iastore, 1, 0, 0, 0), (68, .aload_n 0, 1, 0, 0, 0), (69, .getfield 9, 3, 5, 0, 0), (72, .iload_n 3, 1, 0, 0, 0), (73, .aload_n 0, 1, 0, 0, 0), (74, .getfield 9, 3, 5, 0, 0), (77, .iload_n 3, 1, 0, 0, 0), (78, .iaload, 1, 0, 0, 0), (79, .sipush 256, 3, 0, 0, 0), (82, .irem, 1, 0, 0, 0), (83, .iload_n 2, 1, 0, 0, 0), (84, .sipush 256, 3, 0, 0, 0), (87, .imul, 1, 0, 0, 0), (88, .iadd, 1, 0, 0, 0), (89, .iastore, 1, 0, 0, 0), (90, .aload_n 0, 1, 0, 0, 0), (91, .iload_n 1, 1, 0, 0, 0), (92, .invokevirtual 55, 3, 33, 0, 1), (95, .return_, 1, 0, 0, 0)], [])
def zm_175 : zM := (⟨"NestedPager", "move", "(II)I"⟩, prog_1_method_14_code, 5, (some (.int)), (8, 132, 3, 18), (0, 10, 2, 0, 0, 0), [(0, .iload_n 1, 1, 0, 0, 0), (1, .invokestatic 103, 3, 25, 0, 1), (4, .ifCond .eq 14, 3, 0, 0, 0), (7, .iload_n 2, 1, 0, 0, 0), (8, .invokestatic 178, 3, 165, 0, 1), (11, .ifCond .eq 7, 3, 0, 0, 0), (14, .iconst 1, 1, 0, 0, 0), (15, .goto 4, 3, 0, 0, 0), (18, .iconst 0, 1, 0, 0, 0), (19, .invokestatic 80, 3, 13, 0, 1), (22, .aload_n 0, 1, 0, 0, 0), (23, .aload_n 0, 1, 0, 0, 0), (24, .iload_n 1, 1, 0, 0, 0), (25, .invokevirtual 107, 3, 27, 0, 1), (28, .iload_n 2, 1, 0, 0, 0), (29, .invokevirtual 200, 3, 170, 0, 2), (32, .istore_n 3, 1, 0, 0, 0), (33, .aload_n 0, 1, 0, 0, 0), (34, .getfield 10, 3, 10, 0, 0), (37, .invokevirtual 84, 3, 14, 0, 0), (40, .istore 4, 2, 0, 0, 0), (42, .iload 4, 2, 0, 0, 0), (44, .ifCond .ge 6, 3, 0, 0, 0), (47, .bipush (-4), 2, 0, 0, 0), (49, .ireturn, 1, 0, 0, 0), (50, .aload_n 0, 1, 0, 0, 0), (51, .getfield 10, 3, 10, 0, 0), (54, .iload_n 3, 1, 0, 0, 0), (55, .iload 4, 2, 0, 0, 0), (57, .invokevirtual 213, 3, 174, 0, 2), (60, .iload 4, 2, 0, 0, 0), (62, .ireturn, 1, 0, 0, 0)], [])
def zm_176 : zM := (⟨"NestedPagerLaw", "move", "(LNestedPager;II[J)I"⟩, method_15_code, 5, (some (.int)), (9, 156, 3, 18), (1, 99, 4, 0, 0, 0), [(0, .aload_n 3, 1, 0, 0, 0), (1, .iconst 0, 1, 0, 0, 0), (2, .aload_n 0, 1, 0, 0, 0), (3, .iload_n 1, 1, 0, 0, 0), (4, .iload_n 2, 1, 0, 0, 0), (5, .invokevirtual 54, 3, 175, 0, 2), (8, .i2l, 1, 0, 0, 0), (9, .lastore, 1, 0, 0, 0), (10, .goto 11, 3, 0, 0, 0), (13, .astore 4, 2, 0, 0, 0), (15, .iconst 1, 1, 0, 0, 0), (16, .ireturn, 1, 0, 0, 0), (17, .astore 4, 2, 0, 0, 0), (19, .iconst 2, 1, 0, 0, 0), (20, .ireturn, 1, 0, 0, 0), (21, .iconst 0, 1, 0, 0, 0), (22, .ireturn, 1, 0, 0, 0)], [((0), (10), (13), (13)), ((0), (10), (17), (18))])
def zm_177 : zM := (⟨"NestedPagerModel", "move", "(II)I"⟩, prog_13_method_59_code, 7, (some (.int)), (3, 70, 0, 0), (0, 11, 2, 0, 0, 0), [(0, .aload_n 0, 1, 0, 0, 0), (1, .aload_n 0, 1, 0, 0, 0), (2, .iload_n 1, 1, 0, 0, 0), (3, .iload_n 2, 1, 0, 0, 0), (4, .iconst 1, 1, 0, 0, 0), (5, .invokevirtual 283, 3, 168, 0, 3), (8, .invokevirtual 244, 3, 21, 0, 1), (11, .ifCond .eq 5, 3, 0, 0, 0), (14, .iconst 0, 1, 0, 0, 0), (15, .ireturn, 1, 0, 0, 0), (16, .aload_n 0, 1, 0, 0, 0), (17, .invokevirtual 144, 3, 22, 0, 0), (20, .istore_n 3, 1, 0, 0, 0), (21, .iload_n 3, 1, 0, 0, 0), (22, .ifCond .ge 6, 3, 0, 0, 0), (25, .bipush (-4), 2, 0, 0, 0), (27, .ireturn, 1, 0, 0, 0), (28, .aload_n 0, 1, 0, 0, 0), (29, .iload_n 1, 1, 0, 0, 0), (30, .iload_n 2, 1, 0, 0, 0), (31, .invokevirtual 124, 3, 40, 0, 2), (34, .istore 4, 2, 0, 0, 0), (36, .iload 4, 2, 0, 0, 0), (38, .bipush 8, 2, 0, 0, 0), (40, .ishr, 1, 0, 0, 0), (41, .istore 5, 2, 0, 0, 0), (43, .aload_n 0, 1, 0, 0, 0), (44, .getfield 13, 3, 11, 2, 0), (47, .iload_n 3, 1, 0, 0, 0), (48, .iconst 2, 1, 0, 0, 0), (49, .iastore, 1, 0, 0, 0), (50, .aload_n 0, 1, 0, 0, 0), (51, .getfield 16, 3, 11, 3, 0), (54, .iload_n 3, 1, 0, 0, 0), (55, .iload_n 1, 1, 0, 0, 0), (56, .iastore, 1, 0, 0, 0), (57, .aload_n 0, 1, 0, 0, 0), (58, .getfield 19, 3, 11, 4, 0), (61, .iload_n 3, 1, 0, 0, 0), (62, .iload_n 2, 1, 0, 0, 0), (63, .iastore, 1, 0, 0, 0), (64, .iconst 0, 1, 0, 0, 0), (65, .istore 6, 2, 0, 0, 0), (67, .iload 6, 2, 0, 0, 0), (69, .bipush 16, 2, 0, 0, 0), (71, .if_icmp .ge 34, 3, 0, 0, 0), (74, .aload_n 0, 1, 0, 0, 0), (75, .getfield 7, 3, 11, 1, 0), (78, .bipush 16, 2, 0, 0, 0), (80, .iload_n 3, 1, 0, 0, 0), (81, .imul, 1, 0, 0, 0), (82, .iload 6, 2, 0, 0, 0), (84, .iadd, 1, 0, 0, 0), (85, .aload_n 0, 1, 0, 0, 0), (86, .getfield 7, 3, 11, 1, 0), (89, .bipush 16, 2, 0, 0, 0), (91, .iload 5, 2, 0, 0, 0), (93, .imul, 1, 0, 0, 0), (94, .iload 6, 2, 0, 0, 0), (96, .iadd, 1, 0, 0, 0), (97, .iaload, 1, 0, 0, 0), (98, .iastore, 1, 0, 0, 0), (99, .iinc 6 1, 3, 0, 0, 0), (102, .goto (-35), 3, 0, 0, 0), (105, .aload_n 0, 1, 0, 0, 0), (106, .iload 5, 2, 0, 0, 0), (108, .invokevirtual 132, 3, 42, 0, 1), (111, .aload_n 0, 1, 0, 0, 0), (112, .iload_n 1, 1, 0, 0, 0), (113, .iload_n 2, 1, 0, 0, 0), (114, .iload 4, 2, 0, 0, 0), (116, .sipush 255, 3, 0, 0, 0), (119, .iand, 1, 0, 0, 0), (120, .iload_n 3, 1, 0, 0, 0), (121, .bipush 8, 2, 0, 0, 0), (123, .ishl, 1, 0, 0, 0), (124, .ior, 1, 0, 0, 0), (125, .invokevirtual 128, 3, 112, 0, 3), (128, .iload_n 3, 1, 0, 0, 0), (129, .ireturn, 1, 0, 0, 0)], [])
def zm_178 : zM := (⟨"NestedPager", "target", "(II)I"⟩, prog_1_method_15_code, 5, (some (.int)), (8, 130, 2, 12), (0, 10, 2, 0, 0, 0), [(0, .iload_n 1, 1, 0, 0, 0), (1, .invokestatic 103, 3, 25, 0, 1), (4, .ifCond .eq 18, 3, 0, 0, 0), (7, .iload_n 2, 1, 0, 0, 0), (8, .iconst 0, 1, 0, 0, 0), (9, .sipush 128, 3, 0, 0, 0), (12, .invokestatic 76, 3, 12, 0, 3), (15, .ifCond .eq 7, 3, 0, 0, 0), (18, .iconst 1, 1, 0, 0, 0), (19, .goto 4, 3, 0, 0, 0), (22, .iconst 0, 1, 0, 0, 0), (23, .invokestatic 80, 3, 13, 0, 1), (26, .aload_n 0, 1, 0, 0, 0), (27, .iload_n 1, 1, 0, 0, 0), (28, .invokevirtual 107, 3, 27, 0, 1), (31, .astore_n 3, 1, 0, 0, 0), (32, .aload_n 3, 1, 0, 0, 0), (33, .getfield 216, 3, 2, 4, 0), (36, .istore 4, 2, 0, 0, 0), (38, .aload_n 3, 1, 0, 0, 0), (39, .iload_n 2, 1, 0, 0, 0), (40, .putfield 216, 3, 2, 4, 0), (43, .iload 4, 2, 0, 0, 0), (45, .ireturn, 1, 0, 0, 0)], [])
def zm_179 : zM := (⟨"NestedPagerLaw", "target", "(LNestedPager;II[J)I"⟩, method_16_code, 5, (some (.int)), (9, 154, 2, 12), (1, 99, 4, 0, 0, 0), [(0, .aload_n 3, 1, 0, 0, 0), (1, .iconst 0, 1, 0, 0, 0), (2, .aload_n 0, 1, 0, 0, 0), (3, .iload_n 1, 1, 0, 0, 0), (4, .iload_n 2, 1, 0, 0, 0), (5, .invokevirtual 57, 3, 178, 0, 2), (8, .i2l, 1, 0, 0, 0), (9, .lastore, 1, 0, 0, 0), (10, .goto 11, 3, 0, 0, 0), (13, .astore 4, 2, 0, 0, 0), (15, .iconst 1, 1, 0, 0, 0), (16, .ireturn, 1, 0, 0, 0), (17, .astore 4, 2, 0, 0, 0), (19, .iconst 2, 1, 0, 0, 0), (20, .ireturn, 1, 0, 0, 0), (21, .iconst 0, 1, 0, 0, 0), (22, .ireturn, 1, 0, 0, 0)], [((0), (10), (13), (13)), ((0), (10), (17), (18))])
def zm_180 : zM := (⟨"NestedPagerModel", "target", "(II)I"⟩, prog_13_method_60_code, 4, (some (.int)), (1, 22, 0, 0), (0, 11, 2, 0, 0, 0), [(0, .aload_n 0, 1, 0, 0, 0), (1, .iload_n 1, 1, 0, 0, 0), (2, .iconst 0, 1, 0, 0, 0), (3, .iconst 3, 1, 0, 0, 0), (4, .invokestatic 120, 3, 20, 0, 3), (7, .ifCond .eq 14, 3, 0, 0, 0), (10, .iload_n 2, 1, 0, 0, 0), (11, .iconst 0, 1, 0, 0, 0), (12, .sipush 128, 3, 0, 0, 0), (15, .invokestatic 120, 3, 20, 0, 3), (18, .ifCond .ne 7, 3, 0, 0, 0), (21, .iconst 1, 1, 0, 0, 0), (22, .goto 17, 3, 0, 0, 0), (25, .aload_n 0, 1, 0, 0, 0), (26, .getfield 29, 3, 11, 8, 0), (29, .iload_n 1, 1, 0, 0, 0), (30, .baload, 1, 0, 0, 0), (31, .ifCond .ne 7, 3, 0, 0, 0), (34, .iconst 2, 1, 0, 0, 0), (35, .goto 4, 3, 0, 0, 0), (38, .iconst 0, 1, 0, 0, 0), (39, .invokevirtual 244, 3, 21, 0, 1), (42, .ifCond .eq 5, 3, 0, 0, 0), (45, .iconst 0, 1, 0, 0, 0), (46, .ireturn, 1, 0, 0, 0), (47, .aload_n 0, 1, 0, 0, 0), (48, .getfield 38, 3, 11, 11, 0), (51, .iload_n 1, 1, 0, 0, 0), (52, .iaload, 1, 0, 0, 0), (53, .istore_n 3, 1, 0, 0, 0), (54, .aload_n 0, 1, 0, 0, 0), (55, .getfield 38, 3, 11, 11, 0), (58, .iload_n 1, 1, 0, 0, 0), (59, .iload_n 2, 1, 0, 0, 0), (60, .iastore, 1, 0, 0, 0), (61, .iload_n 3, 1, 0, 0, 0), (62, .ireturn, 1, 0, 0, 0)], [])
def zm_181 : zM := (⟨"NestedPager", "harvest", "(I)I"⟩, prog_1_method_16_code, 5, (some (.int)), (8, 130, 2, 12), (0, 10, 1, 0, 0, 0), [(0, .iload_n 1, 1, 0, 0, 0), (1, .invokestatic 103, 3, 25, 0, 1), (4, .invokestatic 80, 3, 13, 0, 1), (7, .aload_n 0, 1, 0, 0, 0), (8, .iload_n 1, 1, 0, 0, 0), (9, .invokevirtual 107, 3, 27, 0, 1), (12, .astore_n 2, 1, 0, 0, 0), (13, .aload_n 0, 1, 0, 0, 0), (14, .iconst 0, 1, 0, 0, 0), (15, .putfield 32, 3, 10, 4, 0), (18, .iconst 0, 1, 0, 0, 0), (19, .istore_n 3, 1, 0, 0, 0), (20, .iload_n 3, 1, 0, 0, 0), (21, .aload_n 2, 1, 0, 0, 0), (22, .getfield 118, 3, 2, 2, 0), (25, .if_icmp .ge 79, 3, 0, 0, 0), (28, .aload_n 0, 1, 0, 0, 0), (29, .getfield 10, 3, 10, 0, 0), (32, .aload_n 2, 1, 0, 0, 0), (33, .getfield 115, 3, 2, 3, 0), (36, .iload_n 3, 1, 0, 0, 0), (37, .invokevirtual 187, 3, 31, 0, 2), (40, .istore 4, 2, 0, 0, 0), (42, .iload 4, 2, 0, 0, 0), (44, .ifCond .lt 54, 3, 0, 0, 0), (47, .aload_n 0, 1, 0, 0, 0), (48, .getfield 10, 3, 10, 0, 0), (51, .getfield 197, 3, 5, 0, 0), (54, .iload 4, 2, 0, 0, 0), (56, .iaload, 1, 0, 0, 0), (57, .bipush 16, 2, 0, 0, 0), (59, .iand, 1, 0, 0, 0), (60, .ifCond .eq 38, 3, 0, 0, 0), (63, .aload_n 0, 1, 0, 0, 0), (64, .getfield 10, 3, 10, 0, 0), (67, .getfield 197, 3, 5, 0, 0), (70, .iload 4, 2, 0, 0, 0), (72, .dup2, 1, 0, 0, 0), (73, .iaload, 1, 0, 0, 0), (74, .bipush (-17), 2, 0, 0, 0), (76, .iand, 1, 0, 0, 0), (77, .iastore, 1, 0, 0, 0), (78, .aload_n 0, 1, 0, 0, 0), (79, .getfield 28, 3, 10, 3, 0), (82, .aload_n 0, 1, 0, 0, 0), (83, .getfield 32, 3, 10, 4, 0), (86, .iload_n 3, 1, 0, 0, 0), (87, .iastore, 1, 0, 0, 0), (88, .aload_n 0, 1, 0, 0, 0), (89, .dup, 1, 0, 0, 0), (90, .getfield 32, 3, 10, 4, 0), (93, .iconst 1, 1, 0, 0, 0), (94, .iadd, 1, 0, 0, 0), (95, .putfield 32, 3, 10, 4, 0), (98, .iinc 3 1, 3, 0, 0, 0), (101, .goto (-81), 3, 0, 0, 0), (104, .aload_n 0, 1, 0, 0, 0), (105, .getfield 32, 3, 10, 4, 0), (108, .ireturn, 1, 0, 0, 0)], [])
def zm_182 : zM := (⟨"NestedPagerLaw", "harvest", "(LNestedPager;I[J)I"⟩, method_17_code, 4, (some (.int)), (9, 154, 2, 12), (1, 99, 3, 0, 0, 0), [(0, .aload_n 2, 1, 0, 0, 0), (1, .iconst 0, 1, 0, 0, 0), (2, .aload_n 0, 1, 0, 0, 0), (3, .iload_n 1, 1, 0, 0, 0), (4, .invokevirtual 60, 3, 181, 0, 1), (7, .i2l, 1, 0, 0, 0), (8, .lastore, 1, 0, 0, 0), (9, .goto 9, 3, 0, 0, 0), (12, .astore_n 3, 1, 0, 0, 0), (13, .iconst 1, 1, 0, 0, 0), (14, .ireturn, 1, 0, 0, 0), (15, .astore_n 3, 1, 0, 0, 0), (16, .iconst 2, 1, 0, 0, 0), (17, .ireturn, 1, 0, 0, 0), (18, .iconst 0, 1, 0, 0, 0), (19, .ireturn, 1, 0, 0, 0)], [((0), (9), (12), (13)), ((0), (9), (15), (18))])
def zm_183 : zM := (⟨"NestedPagerModel", "harvest", "(I)I"⟩, prog_13_method_61_code, 4, (some (.int)), (2, 46, 0, 0), (0, 11, 1, 0, 0, 0), [(0, .aload_n 0, 1, 0, 0, 0), (1, .iload_n 1, 1, 0, 0, 0), (2, .iconst 0, 1, 0, 0, 0), (3, .iconst 3, 1, 0, 0, 0), (4, .invokestatic 120, 3, 20, 0, 3), (7, .ifCond .ne 7, 3, 0, 0, 0), (10, .iconst 1, 1, 0, 0, 0), (11, .goto 17, 3, 0, 0, 0), (14, .aload_n 0, 1, 0, 0, 0), (15, .getfield 29, 3, 11, 8, 0), (18, .iload_n 1, 1, 0, 0, 0), (19, .baload, 1, 0, 0, 0), (20, .ifCond .ne 7, 3, 0, 0, 0), (23, .iconst 2, 1, 0, 0, 0), (24, .goto 4, 3, 0, 0, 0), (27, .iconst 0, 1, 0, 0, 0), (28, .invokevirtual 244, 3, 21, 0, 1), (31, .ifCond .eq 5, 3, 0, 0, 0), (34, .iconst 0, 1, 0, 0, 0), (35, .ireturn, 1, 0, 0, 0), (36, .aload_n 0, 1, 0, 0, 0), (37, .iconst 0, 1, 0, 0, 0), (38, .putfield 287, 3, 11, 35, 0), (41, .iconst 0, 1, 0, 0, 0), (42, .istore_n 2, 1, 0, 0, 0), (43, .iload_n 2, 1, 0, 0, 0), (44, .aload_n 0, 1, 0, 0, 0), (45, .getfield 32, 3, 11, 9, 0), (48, .iload_n 1, 1, 0, 0, 0), (49, .iaload, 1, 0, 0, 0), (50, .if_icmp .ge 53, 3, 0, 0, 0), (53, .aload_n 0, 1, 0, 0, 0), (54, .iload_n 1, 1, 0, 0, 0), (55, .iload_n 2, 1, 0, 0, 0), (56, .invokevirtual 124, 3, 40, 0, 2), (59, .istore_n 3, 1, 0, 0, 0), (60, .iload_n 3, 1, 0, 0, 0), (61, .bipush 16, 2, 0, 0, 0), (63, .iand, 1, 0, 0, 0), (64, .ifCond .eq 33, 3, 0, 0, 0), (67, .aload_n 0, 1, 0, 0, 0), (68, .iload_n 1, 1, 0, 0, 0), (69, .iload_n 2, 1, 0, 0, 0), (70, .iload_n 3, 1, 0, 0, 0), (71, .bipush (-17), 2, 0, 0, 0), (73, .iand, 1, 0, 0, 0), (74, .invokevirtual 128, 3, 112, 0, 3), (77, .aload_n 0, 1, 0, 0, 0), (78, .getfield 110, 3, 11, 36, 0), (81, .aload_n 0, 1, 0, 0, 0), (82, .getfield 287, 3, 11, 35, 0), (85, .iload_n 2, 1, 0, 0, 0), (86, .iastore, 1, 0, 0, 0), (87, .aload_n 0, 1, 0, 0, 0), (88, .dup, 1, 0, 0, 0), (89, .getfield 287, 3, 11, 35, 0), (92, .iconst 1, 1, 0, 0, 0), (93, .iadd, 1, 0, 0, 0), (94, .putfield 287, 3, 11, 35, 0), (97, .iinc 2 1, 3, 0, 0, 0), (100, .goto (-57), 3, 0, 0, 0), (103, .aload_n 0, 1, 0, 0, 0), (104, .getfield 287, 3, 11, 35, 0), (107, .ireturn, 1, 0, 0, 0)], [])
def zm_184 : zM := (⟨"NestedPager", "dirty", "(I)I"⟩, prog_1_method_17_code, 2, (some (.int)), (1, 22, 0, 0), (0, 10, 1, 0, 0, 0), [(0, .iload_n 1, 1, 0, 0, 0), (1, .iconst 0, 1, 0, 0, 0), (2, .aload_n 0, 1, 0, 0, 0), (3, .getfield 32, 3, 10, 4, 0), (6, .iconst 1, 1, 0, 0, 0), (7, .isub, 1, 0, 0, 0), (8, .invokestatic 76, 3, 12, 0, 3), (11, .ifCond .eq 12, 3, 0, 0, 0), (14, .aload_n 0, 1, 0, 0, 0), (15, .getfield 28, 3, 10, 3, 0), (18, .iload_n 1, 1, 0, 0, 0), (19, .iaload, 1, 0, 0, 0), (20, .goto 4, 3, 0, 0, 0), (23, .iconst (-1), 1, 0, 0, 0), (24, .ireturn, 1, 0, 0, 0)], [])
def zm_185 : zM := (⟨"NestedPagerModel", "dirty", "(I)I"⟩, prog_13_method_62_code, 2, (some (.int)), (1, 22, 0, 0), (0, 11, 1, 0, 0, 0), [(0, .aload_n 0, 1, 0, 0, 0), (1, .iconst 0, 1, 0, 0, 0), (2, .putfield 117, 3, 11, 0, 0), (5, .iload_n 1, 1, 0, 0, 0), (6, .iconst 0, 1, 0, 0, 0), (7, .aload_n 0, 1, 0, 0, 0), (8, .getfield 287, 3, 11, 35, 0), (11, .iconst 1, 1, 0, 0, 0), (12, .isub, 1, 0, 0, 0), (13, .invokestatic 120, 3, 20, 0, 3), (16, .ifCond .eq 12, 3, 0, 0, 0), (19, .aload_n 0, 1, 0, 0, 0), (20, .getfield 110, 3, 11, 36, 0), (23, .iload_n 1, 1, 0, 0, 0), (24, .iaload, 1, 0, 0, 0), (25, .goto 4, 3, 0, 0, 0), (28, .iconst (-1), 1, 0, 0, 0), (29, .ireturn, 1, 0, 0, 0)], [])
def zm_186 : zM := (⟨"NestedPager", "entry", "(II)I"⟩, prog_1_method_18_code, 3, (some (.int)), (8, 130, 2, 12), (0, 10, 2, 0, 0, 0), [(0, .iload_n 1, 1, 0, 0, 0), (1, .invokestatic 103, 3, 25, 0, 1), (4, .ifCond .eq 14, 3, 0, 0, 0), (7, .iload_n 2, 1, 0, 0, 0), (8, .invokestatic 178, 3, 165, 0, 1), (11, .ifCond .eq 7, 3, 0, 0, 0), (14, .iconst 1, 1, 0, 0, 0), (15, .goto 4, 3, 0, 0, 0), (18, .iconst 0, 1, 0, 0, 0), (19, .invokestatic 80, 3, 13, 0, 1), (22, .aload_n 0, 1, 0, 0, 0), (23, .getfield 10, 3, 10, 0, 0), (26, .aload_n 0, 1, 0, 0, 0), (27, .iload_n 1, 1, 0, 0, 0), (28, .invokevirtual 107, 3, 27, 0, 1), (31, .getfield 115, 3, 2, 3, 0), (34, .iload_n 2, 1, 0, 0, 0), (35, .invokevirtual 184, 3, 32, 0, 2), (38, .ireturn, 1, 0, 0, 0)], [])
end
section
/-! METHODS, by program -/
def zm_187 : zM := (⟨"NestedPagerLaw", "entry", "(LNestedPager;II[J)I"⟩, method_18_code, 5, (some (.int)), (9, 152, 2, 12), (1, 99, 4, 0, 0, 0), [(0, .aload_n 3, 1, 0, 0, 0), (1, .iconst 0, 1, 0, 0, 0), (2, .aload_n 0, 1, 0, 0, 0), (3, .iload_n 1, 1, 0, 0, 0), (4, .iload_n 2, 1, 0, 0, 0), (5, .invokevirtual 63, 3, 186, 0, 2), (8, .i2l, 1, 0, 0, 0), (9, .lastore, 1, 0, 0, 0), (10, .goto 11, 3, 0, 0, 0), (13, .astore 4, 2, 0, 0, 0), (15, .iconst 1, 1, 0, 0, 0), (16, .ireturn, 1, 0, 0, 0), (17, .astore 4, 2, 0, 0, 0), (19, .iconst 2, 1, 0, 0, 0), (20, .ireturn, 1, 0, 0, 0), (21, .iconst 0, 1, 0, 0, 0), (22, .ireturn, 1, 0, 0, 0)], [((0), (10), (13), (13)), ((0), (10), (17), (18))])
def zm_188 : zM := (⟨"NestedPagerModel", "entry", "(II)I"⟩, prog_13_method_63_code, 3, (some (.int)), (2, 46, 0, 0), (0, 11, 2, 0, 0, 0), [(0, .aload_n 0, 1, 0, 0, 0), (1, .iload_n 1, 1, 0, 0, 0), (2, .iconst 0, 1, 0, 0, 0), (3, .iconst 3, 1, 0, 0, 0), (4, .invokestatic 120, 3, 20, 0, 3), (7, .ifCond .eq 13, 3, 0, 0, 0), (10, .iload_n 2, 1, 0, 0, 0), (11, .iconst 0, 1, 0, 0, 0), (12, .bipush 127, 2, 0, 0, 0), (14, .invokestatic 120, 3, 20, 0, 3), (17, .ifCond .ne 7, 3, 0, 0, 0), (20, .iconst 1, 1, 0, 0, 0), (21, .goto 17, 3, 0, 0, 0), (24, .aload_n 0, 1, 0, 0, 0), (25, .getfield 29, 3, 11, 8, 0), (28, .iload_n 1, 1, 0, 0, 0), (29, .baload, 1, 0, 0, 0), (30, .ifCond .ne 7, 3, 0, 0, 0), (33, .iconst 2, 1, 0, 0, 0), (34, .goto 4, 3, 0, 0, 0), (37, .iconst 0, 1, 0, 0, 0), (38, .invokevirtual 244, 3, 21, 0, 1), (41, .ifCond .eq 5, 3, 0, 0, 0), (44, .iconst 0, 1, 0, 0, 0), (45, .ireturn, 1, 0, 0, 0), (46, .aload_n 0, 1, 0, 0, 0), (47, .iload_n 1, 1, 0, 0, 0), (48, .iload_n 2, 1, 0, 0, 0), (49, .invokevirtual 124, 3, 40, 0, 2), (52, .ireturn, 1, 0, 0, 0)], [])
def zm_189 : zM := (⟨"NestedPager", "isHostAddress", "(I)Z"⟩, prog_1_method_33_code, 1, (some (.boolean)), (1, 22, 0, 0), (1, 10, 1, 0, 0, 0), [(0, .iload_n 0, 1, 0, 0, 0), (1, .iconst 0, 1, 0, 0, 0), (2, .sipush 2047, 3, 0, 0, 0), (5, .invokestatic 76, 3, 12, 0, 3), (8, .ireturn, 1, 0, 0, 0)], [])
def zm_190 : zM := (⟨"NestedPager", "poke", "(IIIIII)I"⟩, prog_1_method_19_code, 9, (some (.int)), (8, 130, 3, 18), (0, 10, 6, 0, 0, 0), [(0, .iload_n 1, 1, 0, 0, 0), (1, .invokestatic 103, 3, 25, 0, 1), (4, .ifCond .eq 20, 3, 0, 0, 0), (7, .iload_n 2, 1, 0, 0, 0), (8, .invokestatic 219, 3, 189, 0, 1), (11, .ifCond .eq 13, 3, 0, 0, 0), (14, .iload_n 2, 1, 0, 0, 0), (15, .iconst 4, 1, 0, 0, 0), (16, .irem, 1, 0, 0, 0), (17, .ifCond .ne 7, 3, 0, 0, 0), (20, .iconst 1, 1, 0, 0, 0), (21, .goto 4, 3, 0, 0, 0), (24, .iconst 0, 1, 0, 0, 0), (25, .invokestatic 80, 3, 13, 0, 1), (28, .iload_n 3, 1, 0, 0, 0), (29, .invokestatic 143, 3, 62, 0, 1), (32, .ifCond .eq 31, 3, 0, 0, 0), (35, .iload 4, 2, 0, 0, 0), (37, .invokestatic 143, 3, 62, 0, 1), (40, .ifCond .eq 23, 3, 0, 0, 0), (43, .iload 5, 2, 0, 0, 0), (45, .invokestatic 143, 3, 62, 0, 1), (48, .ifCond .eq 15, 3, 0, 0, 0), (51, .iload 6, 2, 0, 0, 0), (53, .invokestatic 143, 3, 62, 0, 1), (56, .ifCond .eq 7, 3, 0, 0, 0), (59, .iconst 1, 1, 0, 0, 0), (60, .goto 4, 3, 0, 0, 0), (63, .iconst 0, 1, 0, 0, 0), (64, .invokestatic 80, 3, 13, 0, 1), (67, .aload_n 0, 1, 0, 0, 0), (68, .getfield 45, 3, 10, 5, 0), (71, .aload_n 0, 1, 0, 0, 0), (72, .iload_n 1, 1, 0, 0, 0), (73, .invokevirtual 107, 3, 27, 0, 1), (76, .iload_n 2, 1, 0, 0, 0), (77, .bipush 16, 2, 0, 0, 0), (79, .idiv, 1, 0, 0, 0), (80, .iconst 0, 1, 0, 0, 0), (81, .bipush 16, 2, 0, 0, 0), (83, .invokevirtual 222, 3, 83, 0, 4), (86, .istore 7, 2, 0, 0, 0), (88, .iload 7, 2, 0, 0, 0), (90, .ifCond .ge 7, 3, 0, 0, 0), (93, .iload 7, 2, 0, 0, 0), (95, .ineg, 1, 0, 0, 0), (96, .ireturn, 1, 0, 0, 0), (97, .iload 7, 2, 0, 0, 0), (99, .bipush 16, 2, 0, 0, 0), (101, .imul, 1, 0, 0, 0), (102, .iload_n 2, 1, 0, 0, 0), (103, .bipush 16, 2, 0, 0, 0), (105, .irem, 1, 0, 0, 0), (106, .iadd, 1, 0, 0, 0), (107, .istore 8, 2, 0, 0, 0), (109, .aload_n 0, 1, 0, 0, 0), (110, .getfield 10, 3, 10, 0, 0), (113, .getfield 197, 3, 5, 0, 0), (116, .iload 8, 2, 0, 0, 0), (118, .iload_n 3, 1, 0, 0, 0), (119, .iastore, 1, 0, 0, 0), (120, .aload_n 0, 1, 0, 0, 0), (121, .getfield 10, 3, 10, 0, 0), (124, .getfield 197, 3, 5, 0, 0), (127, .iload 8, 2, 0, 0, 0), (129, .iconst 1, 1, 0, 0, 0), (130, .iadd, 1, 0, 0, 0), (131, .iload 4, 2, 0, 0, 0), (133, .iastore, 1, 0, 0, 0), (134, .aload_n 0, 1, 0, 0, 0), (135, .getfield 10, 3, 10, 0, 0), (138, .getfield 197, 3, 5, 0, 0), (141, .iload 8, 2, 0, 0, 0), (143, .iconst 2, 1, 0, 0, 0), (144, .iadd, 1, 0, 0, 0), (145, .iload 5, 2, 0, 0, 0), (147, .iastore, 1, 0, 0, 0), (148, .aload_n 0, 1, 0, 0, 0), (149, .getfield 10, 3, 10, 0, 0), (152, .getfield 197, 3, 5, 0, 0), (155, .iload 8, 2, 0, 0, 0), (157, .iconst 3, 1, 0, 0, 0), (158, .iadd, 1, 0, 0, 0), (159, .iload 6, 2, 0, 0, 0), (161, .iastore, 1, 0, 0, 0), (162, .iconst 0, 1, 0, 0, 0), (163, .ireturn, 1, 0, 0, 0)], [])
def zm_191 : zM := (⟨"NestedPagerLaw", "poke", "(LNestedPager;IIIIII[J)I"⟩, method_19_code, 9, (some (.int)), (9, 158, 3, 18), (1, 99, 8, 0, 0, 0), [(0, .aload 7, 2, 0, 0, 0), (2, .iconst 0, 1, 0, 0, 0), (3, .aload_n 0, 1, 0, 0, 0), (4, .iload_n 1, 1, 0, 0, 0), (5, .iload_n 2, 1, 0, 0, 0), (6, .iload_n 3, 1, 0, 0, 0), (7, .iload 4, 2, 0, 0, 0), (9, .iload 5, 2, 0, 0, 0), (11, .iload 6, 2, 0, 0, 0), (13, .invokevirtual 66, 3, 190, 0, 6), (16, .i2l, 1, 0, 0, 0), (17, .lastore, 1, 0, 0, 0), (18, .goto 11, 3, 0, 0, 0), (21, .astore 8, 2, 0, 0, 0), (23, .iconst 1, 1, 0, 0, 0), (24, .ireturn, 1, 0, 0, 0), (25, .astore 8, 2, 0, 0, 0), (27, .iconst 2, 1, 0, 0, 0), (28, .ireturn, 1, 0, 0, 0), (29, .iconst 0, 1, 0, 0, 0), (30, .ireturn, 1, 0, 0, 0)], [((0), (18), (21), (13)), ((0), (18), (25), (18))])
def zm_192 : zM := (⟨"NestedPagerModel", "isWord", "(I)Z"⟩, prog_13_method_64_code, 1, (some (.boolean)), (1, 22, 0, 0), (1, 11, 1, 0, 0, 0), [(0, .iload_n 0, 1, 0, 0, 0), (1, .iconst 0, 1, 0, 0, 0), (2, .ldc 239, 2, 65535, 0, 0), (4, .invokestatic 120, 3, 20, 0, 3), (7, .ireturn, 1, 0, 0, 0)], [])
def zm_193 : zM := (⟨"NestedPagerModel", "poke", "(IIIIII)I"⟩, prog_13_method_65_code, 11, (some (.int)), (7, 172, 0, 0), (0, 11, 6, 0, 0, 0), [(0, .iload_n 1, 1, 0, 0, 0), (1, .iconst 0, 1, 0, 0, 0), (2, .iconst 3, 1, 0, 0, 0), (3, .invokestatic 120, 3, 20, 0, 3), (6, .ifCond .eq 55, 3, 0, 0, 0), (9, .iload_n 2, 1, 0, 0, 0), (10, .iconst 0, 1, 0, 0, 0), (11, .sipush 2047, 3, 0, 0, 0), (14, .invokestatic 120, 3, 20, 0, 3), (17, .ifCond .eq 44, 3, 0, 0, 0), (20, .iload_n 2, 1, 0, 0, 0), (21, .iconst 4, 1, 0, 0, 0), (22, .irem, 1, 0, 0, 0), (23, .ifCond .ne 38, 3, 0, 0, 0), (26, .iload_n 3, 1, 0, 0, 0), (27, .invokestatic 290, 3, 192, 0, 1), (30, .ifCond .eq 31, 3, 0, 0, 0), (33, .iload 4, 2, 0, 0, 0), (35, .invokestatic 290, 3, 192, 0, 1), (38, .ifCond .eq 23, 3, 0, 0, 0), (41, .iload 5, 2, 0, 0, 0), (43, .invokestatic 290, 3, 192, 0, 1), (46, .ifCond .eq 15, 3, 0, 0, 0), (49, .iload 6, 2, 0, 0, 0), (51, .invokestatic 290, 3, 192, 0, 1), (54, .ifCond .eq 7, 3, 0, 0, 0), (57, .iconst 1, 1, 0, 0, 0), (58, .goto 4, 3, 0, 0, 0), (61, .iconst 0, 1, 0, 0, 0), (62, .istore 7, 2, 0, 0, 0), (64, .aload_n 0, 1, 0, 0, 0), (65, .iload 7, 2, 0, 0, 0), (67, .ifCond .ne 7, 3, 0, 0, 0), (70, .iconst 1, 1, 0, 0, 0), (71, .goto 17, 3, 0, 0, 0), (74, .aload_n 0, 1, 0, 0, 0), (75, .getfield 29, 3, 11, 8, 0), (78, .iload_n 1, 1, 0, 0, 0), (79, .baload, 1, 0, 0, 0), (80, .ifCond .ne 7, 3, 0, 0, 0), (83, .iconst 2, 1, 0, 0, 0), (84, .goto 4, 3, 0, 0, 0), (87, .iconst 0, 1, 0, 0, 0), (88, .invokevirtual 244, 3, 21, 0, 1), (91, .ifCond .eq 5, 3, 0, 0, 0), (94, .iconst 0, 1, 0, 0, 0), (95, .ireturn, 1, 0, 0, 0), (96, .iload_n 2, 1, 0, 0, 0), (97, .bipush 16, 2, 0, 0, 0), (99, .idiv, 1, 0, 0, 0), (100, .istore 8, 2, 0, 0, 0), (102, .aload_n 0, 1, 0, 0, 0), (103, .iload_n 1, 1, 0, 0, 0), (104, .iload 8, 2, 0, 0, 0), (106, .iconst 1, 1, 0, 0, 0), (107, .iconst 1, 1, 0, 0, 0), (108, .invokevirtual 199, 3, 117, 0, 4), (111, .istore 9, 2, 0, 0, 0), (113, .iload 9, 2, 0, 0, 0), (115, .ifCond .ne 58, 3, 0, 0, 0), (118, .aload_n 0, 1, 0, 0, 0), (119, .iload_n 1, 1, 0, 0, 0), (120, .iload 8, 2, 0, 0, 0), (122, .invokevirtual 210, 3, 120, 0, 2), (125, .iload_n 2, 1, 0, 0, 0), (126, .bipush 16, 2, 0, 0, 0), (128, .irem, 1, 0, 0, 0), (129, .iadd, 1, 0, 0, 0), (130, .istore 10, 2, 0, 0, 0), (132, .aload_n 0, 1, 0, 0, 0), (133, .getfield 7, 3, 11, 1, 0), (136, .iload 10, 2, 0, 0, 0), (138, .iload_n 3, 1, 0, 0, 0), (139, .iastore, 1, 0, 0, 0), (140, .aload_n 0, 1, 0, 0, 0), (141, .getfield 7, 3, 11, 1, 0), (144, .iload 10, 2, 0, 0, 0), (146, .iconst 1, 1, 0, 0, 0), (147, .iadd, 1, 0, 0, 0), (148, .iload 4, 2, 0, 0, 0), (150, .iastore, 1, 0, 0, 0), (151, .aload_n 0, 1, 0, 0, 0), (152, .getfield 7, 3, 11, 1, 0), (155, .iload 10, 2, 0, 0, 0), (157, .iconst 2, 1, 0, 0, 0), (158, .iadd, 1, 0, 0, 0), (159, .iload 5, 2, 0, 0, 0), (161, .iastore, 1, 0, 0, 0), (162, .aload_n 0, 1, 0, 0, 0), (163, .getfield 7, 3, 11, 1, 0), (166, .iload 10, 2, 0, 0, 0), (168, .iconst 3, 1, 0, 0, 0), (169, .iadd, 1, 0, 0, 0), (170, .iload 6, 2, 0, 0, 0), (172, .iastore, 1, 0, 0, 0), (173, .iload 9, 2, 0, 0, 0), (175, .ireturn, 1, 0, 0, 0)], [])
def zm_194 : zM := (⟨"NestedPager$Memory", "wordBehind", "(II)I"⟩, prog_7_method_19_code, 3, (some (.int)), (1, 20, 0, 0), (0, 5, 2, 0, 0, 0), [(0, .iload_n 1, 1, 0, 0, 0), (1, .bipush 96, 2, 0, 0, 0), (3, .iand, 1, 0, 0, 0), (4, .lookupswitch 58 #[(32, 28), (64, 43)], 28, 0, 0, 0), (32, .aload_n 0, 1, 0, 0, 0), (33, .getfield 9, 3, 5, 0, 0), (36, .iload_n 1, 1, 0, 0, 0), (37, .invokestatic 59, 3, 30, 0, 1), (40, .bipush 16, 2, 0, 0, 0), (42, .imul, 1, 0, 0, 0), (43, .iload_n 2, 1, 0, 0, 0), (44, .iadd, 1, 0, 0, 0), (45, .iaload, 1, 0, 0, 0), (46, .ireturn, 1, 0, 0, 0), (47, .aload_n 0, 1, 0, 0, 0), (48, .getfield 27, 3, 5, 5, 0), (51, .iload_n 1, 1, 0, 0, 0), (52, .invokestatic 71, 3, 34, 0, 1), (55, .bipush 16, 2, 0, 0, 0), (57, .imul, 1, 0, 0, 0), (58, .iload_n 2, 1, 0, 0, 0), (59, .iadd, 1, 0, 0, 0), (60, .iaload, 1, 0, 0, 0), (61, .ireturn, 1, 0, 0, 0), (62, .iconst 0, 1, 0, 0, 0), (63, .ireturn, 1, 0, 0, 0)], [])
def zm_195 : zM := (⟨"NestedPager", "peek", "(II)I"⟩, prog_1_method_20_code, 4, (some (.int)), (8, 130, 2, 12), (0, 10, 2, 0, 0, 0), [(0, .iload_n 1, 1, 0, 0, 0), (1, .invokestatic 103, 3, 25, 0, 1), (4, .ifCond .eq 14, 3, 0, 0, 0), (7, .iload_n 2, 1, 0, 0, 0), (8, .invokestatic 219, 3, 189, 0, 1), (11, .ifCond .eq 7, 3, 0, 0, 0), (14, .iconst 1, 1, 0, 0, 0), (15, .goto 4, 3, 0, 0, 0), (18, .iconst 0, 1, 0, 0, 0), (19, .invokestatic 80, 3, 13, 0, 1), (22, .aload_n 0, 1, 0, 0, 0), (23, .getfield 10, 3, 10, 0, 0), (26, .aload_n 0, 1, 0, 0, 0), (27, .iload_n 1, 1, 0, 0, 0), (28, .invokevirtual 107, 3, 27, 0, 1), (31, .getfield 115, 3, 2, 3, 0), (34, .iload_n 2, 1, 0, 0, 0), (35, .bipush 16, 2, 0, 0, 0), (37, .idiv, 1, 0, 0, 0), (38, .invokevirtual 184, 3, 32, 0, 2), (41, .istore_n 3, 1, 0, 0, 0), (42, .aload_n 0, 1, 0, 0, 0), (43, .getfield 10, 3, 10, 0, 0), (46, .iload_n 3, 1, 0, 0, 0), (47, .iload_n 2, 1, 0, 0, 0), (48, .bipush 16, 2, 0, 0, 0), (50, .irem, 1, 0, 0, 0), (51, .invokevirtual 226, 3, 194, 0, 2), (54, .ireturn, 1, 0, 0, 0)], [])
def zm_196 : zM := (⟨"NestedPagerLaw", "peek", "(LNestedPager;II[J)I"⟩, method_20_code, 5, (some (.int)), (9, 153, 2, 12), (1, 99, 4, 0, 0, 0), [(0, .aload_n 3, 1, 0, 0, 0), (1, .iconst 0, 1, 0, 0, 0), (2, .aload_n 0, 1, 0, 0, 0), (3, .iload_n 1, 1, 0, 0, 0), (4, .iload_n 2, 1, 0, 0, 0), (5, .invokevirtual 70, 3, 195, 0, 2), (8, .i2l, 1, 0, 0, 0), (9, .lastore, 1, 0, 0, 0), (10, .goto 11, 3, 0, 0, 0), (13, .astore 4, 2, 0, 0, 0), (15, .iconst 1, 1, 0, 0, 0), (16, .ireturn, 1, 0, 0, 0), (17, .astore 4, 2, 0, 0, 0), (19, .iconst 2, 1, 0, 0, 0), (20, .ireturn, 1, 0, 0, 0), (21, .iconst 0, 1, 0, 0, 0), (22, .ireturn, 1, 0, 0, 0)], [((0), (10), (13), (13)), ((0), (10), (17), (18))])
def zm_197 : zM := (⟨"NestedPagerModel", "peek", "(II)I"⟩, prog_13_method_66_code, 5, (some (.int)), (2, 46, 0, 0), (0, 11, 2, 0, 0, 0), [(0, .aload_n 0, 1, 0, 0, 0), (1, .iload_n 1, 1, 0, 0, 0), (2, .iconst 0, 1, 0, 0, 0), (3, .iconst 3, 1, 0, 0, 0), (4, .invokestatic 120, 3, 20, 0, 3), (7, .ifCond .eq 14, 3, 0, 0, 0), (10, .iload_n 2, 1, 0, 0, 0), (11, .iconst 0, 1, 0, 0, 0), (12, .sipush 2047, 3, 0, 0, 0), (15, .invokestatic 120, 3, 20, 0, 3), (18, .ifCond .ne 7, 3, 0, 0, 0), (21, .iconst 1, 1, 0, 0, 0), (22, .goto 17, 3, 0, 0, 0), (25, .aload_n 0, 1, 0, 0, 0), (26, .getfield 29, 3, 11, 8, 0), (29, .iload_n 1, 1, 0, 0, 0), (30, .baload, 1, 0, 0, 0), (31, .ifCond .ne 7, 3, 0, 0, 0), (34, .iconst 2, 1, 0, 0, 0), (35, .goto 4, 3, 0, 0, 0), (38, .iconst 0, 1, 0, 0, 0), (39, .invokevirtual 244, 3, 21, 0, 1), (42, .ifCond .eq 5, 3, 0, 0, 0), (45, .iconst 0, 1, 0, 0, 0), (46, .ireturn, 1, 0, 0, 0), (47, .aload_n 0, 1, 0, 0, 0), (48, .iload_n 1, 1, 0, 0, 0), (49, .iload_n 2, 1, 0, 0, 0), (50, .bipush 16, 2, 0, 0, 0), (52, .idiv, 1, 0, 0, 0), (53, .invokevirtual 124, 3, 40, 0, 2), (56, .istore_n 3, 1, 0, 0, 0), (57, .bipush 16, 2, 0, 0, 0), (59, .iload_n 3, 1, 0, 0, 0), (60, .bipush 8, 2, 0, 0, 0), (62, .ishr, 1, 0, 0, 0), (63, .imul, 1, 0, 0, 0), (64, .iload_n 2, 1, 0, 0, 0), (65, .bipush 16, 2, 0, 0, 0), (67, .irem, 1, 0, 0, 0), (68, .iadd, 1, 0, 0, 0), (69, .istore 4, 2, 0, 0, 0), (71, .iload_n 3, 1, 0, 0, 0), (72, .invokestatic 161, 3, 41, 0, 1), (75, .iconst 1, 1, 0, 0, 0), (76, .if_icmp .ne 13, 3, 0, 0, 0), (79, .aload_n 0, 1, 0, 0, 0), (80, .getfield 7, 3, 11, 1, 0), (83, .iload 4, 2, 0, 0, 0), (85, .iaload, 1, 0, 0, 0), (86, .goto 22, 3, 0, 0, 0), (89, .iload_n 3, 1, 0, 0, 0), (90, .invokestatic 161, 3, 41, 0, 1), (93, .iconst 2, 1, 0, 0, 0), (94, .if_icmp .ne 13, 3, 0, 0, 0), (97, .aload_n 0, 1, 0, 0, 0), (98, .getfield 22, 3, 11, 5, 0), (101, .iload 4, 2, 0, 0, 0), (103, .iaload, 1, 0, 0, 0), (104, .goto 4, 3, 0, 0, 0), (107, .iconst 0, 1, 0, 0, 0), (108, .ireturn, 1, 0, 0, 0)], [])
def zm_198 : zM := (⟨"NestedPager", "isFrame", "(I)Z"⟩, prog_1_method_35_code, 1, (some (.boolean)), (1, 22, 0, 0), (1, 10, 1, 0, 0, 0), [(0, .iload_n 0, 1, 0, 0, 0), (1, .iconst 0, 1, 0, 0, 0), (2, .bipush 127, 2, 0, 0, 0), (4, .invokestatic 76, 3, 12, 0, 3), (7, .ireturn, 1, 0, 0, 0)], [])
def zm_199 : zM := (⟨"NestedPager", "frame", "(II)I"⟩, prog_1_method_21_code, 3, (some (.int)), (7, 109, 1, 6), (0, 10, 2, 0, 0, 0), [(0, .iload_n 1, 1, 0, 0, 0), (1, .invokestatic 229, 3, 198, 0, 1), (4, .ifCond .eq 17, 3, 0, 0, 0), (7, .iload_n 2, 1, 0, 0, 0), (8, .iconst 0, 1, 0, 0, 0), (9, .bipush 15, 2, 0, 0, 0), (11, .invokestatic 76, 3, 12, 0, 3), (14, .ifCond .eq 7, 3, 0, 0, 0), (17, .iconst 1, 1, 0, 0, 0), (18, .goto 4, 3, 0, 0, 0), (21, .iconst 0, 1, 0, 0, 0), (22, .invokestatic 80, 3, 13, 0, 1), (25, .aload_n 0, 1, 0, 0, 0), (26, .getfield 10, 3, 10, 0, 0), (29, .getfield 197, 3, 5, 0, 0), (32, .iload_n 1, 1, 0, 0, 0), (33, .bipush 16, 2, 0, 0, 0), (35, .imul, 1, 0, 0, 0), (36, .iload_n 2, 1, 0, 0, 0), (37, .iadd, 1, 0, 0, 0), (38, .iaload, 1, 0, 0, 0), (39, .ireturn, 1, 0, 0, 0)], [])
def zm_200 : zM := (⟨"NestedPagerLaw", "frame", "(LNestedPager;II[J)I"⟩, method_21_code, 5, (some (.int)), (8, 131, 1, 6), (1, 99, 4, 0, 0, 0), [(0, .aload_n 3, 1, 0, 0, 0), (1, .iconst 0, 1, 0, 0, 0), (2, .aload_n 0, 1, 0, 0, 0), (3, .iload_n 1, 1, 0, 0, 0), (4, .iload_n 2, 1, 0, 0, 0), (5, .invokevirtual 73, 3, 199, 0, 2), (8, .i2l, 1, 0, 0, 0), (9, .lastore, 1, 0, 0, 0), (10, .goto 7, 3, 0, 0, 0), (13, .astore 4, 2, 0, 0, 0), (15, .iconst 1, 1, 0, 0, 0), (16, .ireturn, 1, 0, 0, 0), (17, .iconst 0, 1, 0, 0, 0), (18, .ireturn, 1, 0, 0, 0)], [((0), (10), (13), (13))])
def zm_201 : zM := (⟨"NestedPagerModel", "frame", "(II)I"⟩, prog_13_method_67_code, 3, (some (.int)), (1, 22, 0, 0), (0, 11, 2, 0, 0, 0), [(0, .aload_n 0, 1, 0, 0, 0), (1, .iload_n 1, 1, 0, 0, 0), (2, .iconst 0, 1, 0, 0, 0), (3, .bipush 127, 2, 0, 0, 0), (5, .invokestatic 120, 3, 20, 0, 3), (8, .ifCond .eq 17, 3, 0, 0, 0), (11, .iload_n 2, 1, 0, 0, 0), (12, .iconst 0, 1, 0, 0, 0), (13, .bipush 15, 2, 0, 0, 0), (15, .invokestatic 120, 3, 20, 0, 3), (18, .ifCond .eq 7, 3, 0, 0, 0), (21, .iconst 0, 1, 0, 0, 0), (22, .goto 4, 3, 0, 0, 0), (25, .iconst 1, 1, 0, 0, 0), (26, .invokevirtual 244, 3, 21, 0, 1), (29, .ifCond .eq 5, 3, 0, 0, 0), (32, .iconst 0, 1, 0, 0, 0), (33, .ireturn, 1, 0, 0, 0), (34, .aload_n 0, 1, 0, 0, 0), (35, .getfield 7, 3, 11, 1, 0), (38, .bipush 16, 2, 0, 0, 0), (40, .iload_n 1, 1, 0, 0, 0), (41, .imul, 1, 0, 0, 0), (42, .iload_n 2, 1, 0, 0, 0), (43, .iadd, 1, 0, 0, 0), (44, .iaload, 1, 0, 0, 0), (45, .ireturn, 1, 0, 0, 0)], [])
def zm_202 : zM := (⟨"NestedPager", "owner", "(II)I"⟩, prog_1_method_22_code, 3, (some (.int)), (7, 109, 1, 6), (0, 10, 2, 0, 0, 0), [(0, .iload_n 1, 1, 0, 0, 0), (1, .invokestatic 229, 3, 198, 0, 1), (4, .ifCond .eq 16, 3, 0, 0, 0), (7, .iload_n 2, 1, 0, 0, 0), (8, .iconst 0, 1, 0, 0, 0), (9, .iconst 2, 1, 0, 0, 0), (10, .invokestatic 76, 3, 12, 0, 3), (13, .ifCond .eq 7, 3, 0, 0, 0), (16, .iconst 1, 1, 0, 0, 0), (17, .goto 4, 3, 0, 0, 0), (20, .iconst 0, 1, 0, 0, 0), (21, .invokestatic 80, 3, 13, 0, 1), (24, .iload_n 2, 1, 0, 0, 0), (25, .lookupswitch 47 #[(0, 27), (1, 37)], 27, 0, 0, 0), (52, .aload_n 0, 1, 0, 0, 0), (53, .getfield 10, 3, 10, 0, 0), (56, .getfield 232, 3, 5, 1, 0), (59, .iload_n 1, 1, 0, 0, 0), (60, .iaload, 1, 0, 0, 0), (61, .ireturn, 1, 0, 0, 0), (62, .aload_n 0, 1, 0, 0, 0), (63, .getfield 10, 3, 10, 0, 0), (66, .getfield 235, 3, 5, 2, 0), (69, .iload_n 1, 1, 0, 0, 0), (70, .iaload, 1, 0, 0, 0), (71, .ireturn, 1, 0, 0, 0), (72, .aload_n 0, 1, 0, 0, 0), (73, .getfield 10, 3, 10, 0, 0), (76, .getfield 238, 3, 5, 3, 0), (79, .iload_n 1, 1, 0, 0, 0), (80, .iaload, 1, 0, 0, 0), (81, .ireturn, 1, 0, 0, 0)], [])
def zm_203 : zM := (⟨"NestedPagerLaw", "owner", "(LNestedPager;II[J)I"⟩, method_22_code, 5, (some (.int)), (8, 131, 1, 6), (1, 99, 4, 0, 0, 0), [(0, .aload_n 3, 1, 0, 0, 0), (1, .iconst 0, 1, 0, 0, 0), (2, .aload_n 0, 1, 0, 0, 0), (3, .iload_n 1, 1, 0, 0, 0), (4, .iload_n 2, 1, 0, 0, 0), (5, .invokevirtual 76, 3, 202, 0, 2), (8, .i2l, 1, 0, 0, 0), (9, .lastore, 1, 0, 0, 0), (10, .goto 7, 3, 0, 0, 0), (13, .astore 4, 2, 0, 0, 0), (15, .iconst 1, 1, 0, 0, 0), (16, .ireturn, 1, 0, 0, 0), (17, .iconst 0, 1, 0, 0, 0), (18, .ireturn, 1, 0, 0, 0)], [((0), (10), (13), (13))])
def zm_204 : zM := (⟨"NestedPagerModel", "owner", "(II)I"⟩, prog_13_method_68_code, 3, (some (.int)), (1, 22, 0, 0), (0, 11, 2, 0, 0, 0), [(0, .aload_n 0, 1, 0, 0, 0), (1, .iload_n 1, 1, 0, 0, 0), (2, .iconst 0, 1, 0, 0, 0), (3, .bipush 127, 2, 0, 0, 0), (5, .invokestatic 120, 3, 20, 0, 3), (8, .ifCond .eq 16, 3, 0, 0, 0), (11, .iload_n 2, 1, 0, 0, 0), (12, .iconst 0, 1, 0, 0, 0), (13, .iconst 2, 1, 0, 0, 0), (14, .invokestatic 120, 3, 20, 0, 3), (17, .ifCond .eq 7, 3, 0, 0, 0), (20, .iconst 0, 1, 0, 0, 0), (21, .goto 4, 3, 0, 0, 0), (24, .iconst 1, 1, 0, 0, 0), (25, .invokevirtual 244, 3, 21, 0, 1), (28, .ifCond .eq 5, 3, 0, 0, 0), (31, .iconst 0, 1, 0, 0, 0), (32, .ireturn, 1, 0, 0, 0), (33, .iload_n 2, 1, 0, 0, 0), (34, .ifCond .ne 12, 3, 0, 0, 0), (37, .aload_n 0, 1, 0, 0, 0), (38, .getfield 13, 3, 11, 2, 0), (41, .iload_n 1, 1, 0, 0, 0), (42, .iaload, 1, 0, 0, 0), (43, .goto 36, 3, 0, 0, 0), (46, .aload_n 0, 1, 0, 0, 0), (47, .getfield 13, 3, 11, 2, 0), (50, .iload_n 1, 1, 0, 0, 0), (51, .iaload, 1, 0, 0, 0), (52, .ifCond .ne 7, 3, 0, 0, 0), (55, .iconst (-1), 1, 0, 0, 0), (56, .goto 23, 3, 0, 0, 0), (59, .iload_n 2, 1, 0, 0, 0), (60, .iconst 1, 1, 0, 0, 0), (61, .if_icmp .ne 12, 3, 0, 0, 0), (64, .aload_n 0, 1, 0, 0, 0), (65, .getfield 16, 3, 11, 3, 0), (68, .iload_n 1, 1, 0, 0, 0), (69, .iaload, 1, 0, 0, 0), (70, .goto 9, 3, 0, 0, 0), (73, .aload_n 0, 1, 0, 0, 0), (74, .getfield 19, 3, 11, 4, 0), (77, .iload_n 1, 1, 0, 0, 0), (78, .iaload, 1, 0, 0, 0), (79, .ireturn, 1, 0, 0, 0)], [])
def zm_205 : zM := (⟨"NestedPager$Memory", "pagesOfKind", "(III)I"⟩, prog_7_method_20_code, 6, (some (.int)), (3, 66, 0, 0), (0, 5, 3, 0, 0, 0), [(0, .iconst 0, 1, 0, 0, 0), (1, .istore 4, 2, 0, 0, 0), (3, .iconst 0, 1, 0, 0, 0), (4, .istore 5, 2, 0, 0, 0), (6, .iload 5, 2, 0, 0, 0), (8, .iload_n 2, 1, 0, 0, 0), (9, .if_icmp .ge 33, 3, 0, 0, 0), (12, .iload 4, 2, 0, 0, 0), (14, .aload_n 0, 1, 0, 0, 0), (15, .iload_n 1, 1, 0, 0, 0), (16, .iload 5, 2, 0, 0, 0), (18, .invokevirtual 74, 3, 32, 0, 2), (21, .bipush 96, 2, 0, 0, 0), (23, .iand, 1, 0, 0, 0), (24, .iload_n 3, 1, 0, 0, 0), (25, .if_icmp .ne 7, 3, 0, 0, 0), (28, .iconst 1, 1, 0, 0, 0), (29, .goto 4, 3, 0, 0, 0), (32, .iconst 0, 1, 0, 0, 0), (33, .iadd, 1, 0, 0, 0), (34, .istore 4, 2, 0, 0, 0), (36, .iinc 5 1, 3, 0, 0, 0), (39, .goto (-33), 3, 0, 0, 0), (42, .iload 4, 2, 0, 0, 0), (44, .ireturn, 1, 0, 0, 0)], [])
def zm_206 : zM := (⟨"NestedPager", "count", "(II)I"⟩, prog_1_method_23_code, 4, (some (.int)), (8, 130, 2, 12), (0, 10, 2, 0, 0, 0), [(0, .iload_n 1, 1, 0, 0, 0), (1, .invokestatic 103, 3, 25, 0, 1), (4, .ifCond .eq 17, 3, 0, 0, 0), (7, .iload_n 2, 1, 0, 0, 0), (8, .iconst 0, 1, 0, 0, 0), (9, .bipush 11, 2, 0, 0, 0), (11, .invokestatic 76, 3, 12, 0, 3), (14, .ifCond .eq 7, 3, 0, 0, 0), (17, .iconst 1, 1, 0, 0, 0), (18, .goto 4, 3, 0, 0, 0), (21, .iconst 0, 1, 0, 0, 0), (22, .invokestatic 80, 3, 13, 0, 1), (25, .aload_n 0, 1, 0, 0, 0), (26, .iload_n 1, 1, 0, 0, 0), (27, .invokevirtual 107, 3, 27, 0, 1), (30, .astore_n 3, 1, 0, 0, 0), (31, .iload_n 2, 1, 0, 0, 0), (32, .tableswitch 162 0 10 #[60, 65, 70, 88, 106, 124, 129, 134, 144, 149, 154], 60, 0, 0, 0), (92, .aload_n 3, 1, 0, 0, 0), (93, .getfield 118, 3, 2, 2, 0), (96, .ireturn, 1, 0, 0, 0), (97, .aload_n 3, 1, 0, 0, 0), (98, .getfield 216, 3, 2, 4, 0), (101, .ireturn, 1, 0, 0, 0), (102, .aload_n 0, 1, 0, 0, 0), (103, .getfield 10, 3, 10, 0, 0), (106, .aload_n 3, 1, 0, 0, 0), (107, .getfield 115, 3, 2, 3, 0), (110, .aload_n 3, 1, 0, 0, 0), (111, .getfield 118, 3, 2, 2, 0), (114, .bipush 32, 2, 0, 0, 0), (116, .invokevirtual 241, 3, 205, 0, 3), (119, .ireturn, 1, 0, 0, 0), (120, .aload_n 0, 1, 0, 0, 0), (121, .getfield 10, 3, 10, 0, 0), (124, .aload_n 3, 1, 0, 0, 0), (125, .getfield 115, 3, 2, 3, 0), (128, .aload_n 3, 1, 0, 0, 0), (129, .getfield 118, 3, 2, 2, 0), (132, .bipush 64, 2, 0, 0, 0), (134, .invokevirtual 241, 3, 205, 0, 3), (137, .ireturn, 1, 0, 0, 0), (138, .aload_n 0, 1, 0, 0, 0), (139, .getfield 10, 3, 10, 0, 0), (142, .aload_n 3, 1, 0, 0, 0), (143, .getfield 115, 3, 2, 3, 0), (146, .aload_n 3, 1, 0, 0, 0), (147, .getfield 118, 3, 2, 2, 0), (150, .bipush 96, 2, 0, 0, 0), (152, .invokevirtual 241, 3, 205, 0, 3), (155, .ireturn, 1, 0, 0, 0), (156, .aload_n 3, 1, 0, 0, 0), (157, .getfield 244, 3, 2, 5, 0), (160, .ireturn, 1, 0, 0, 0), (161, .aload_n 3, 1, 0, 0, 0), (162, .getfield 247, 3, 2, 6, 0), (165, .ireturn, 1, 0, 0, 0), (166, .aload_n 0, 1, 0, 0, 0), (167, .getfield 10, 3, 10, 0, 0), (170, .getfield 96, 3, 5, 7, 0), (173, .iload_n 1, 1, 0, 0, 0), (174, .iaload, 1, 0, 0, 0), (175, .ireturn, 1, 0, 0, 0), (176, .aload_n 3, 1, 0, 0, 0), (177, .getfield 250, 3, 2, 7, 0), (180, .ireturn, 1, 0, 0, 0), (181, .aload_n 3, 1, 0, 0, 0), (182, .getfield 253, 3, 2, 10, 0), (185, .ireturn, 1, 0, 0, 0), (186, .aload_n 3, 1, 0, 0, 0), (187, .getfield 256, 3, 2, 13, 0), (190, .getfield 260, 3, 4, 1, 0), (193, .ireturn, 1, 0, 0, 0), (194, .aload_n 0, 1, 0, 0, 0), (195, .getfield 54, 3, 10, 6, 0), (198, .iload_n 1, 1, 0, 0, 0), (199, .invokevirtual 265, 3, 139, 0, 1), (202, .ireturn, 1, 0, 0, 0)], [])
def zm_207 : zM := (⟨"NestedPagerLaw", "count", "(LNestedPager;II[J)I"⟩, method_23_code, 5, (some (.int)), (9, 153, 2, 12), (1, 99, 4, 0, 0, 0), [(0, .aload_n 3, 1, 0, 0, 0), (1, .iconst 0, 1, 0, 0, 0), (2, .aload_n 0, 1, 0, 0, 0), (3, .iload_n 1, 1, 0, 0, 0), (4, .iload_n 2, 1, 0, 0, 0), (5, .invokevirtual 79, 3, 206, 0, 2), (8, .i2l, 1, 0, 0, 0), (9, .lastore, 1, 0, 0, 0), (10, .goto 11, 3, 0, 0, 0), (13, .astore 4, 2, 0, 0, 0), (15, .iconst 1, 1, 0, 0, 0), (16, .ireturn, 1, 0, 0, 0), (17, .astore 4, 2, 0, 0, 0), (19, .iconst 2, 1, 0, 0, 0), (20, .ireturn, 1, 0, 0, 0), (21, .iconst 0, 1, 0, 0, 0), (22, .ireturn, 1, 0, 0, 0)], [((0), (10), (13), (13)), ((0), (10), (17), (18))])
def zm_208 : zM := (⟨"NestedPagerModel", "pagesOf", "(II)I"⟩, prog_13_method_69_code, 5, (some (.int)), (2, 46, 0, 0), (0, 11, 2, 0, 0, 0), [(0, .iconst 0, 1, 0, 0, 0), (1, .istore_n 3, 1, 0, 0, 0), (2, .iconst 0, 1, 0, 0, 0), (3, .istore 4, 2, 0, 0, 0), (5, .iload 4, 2, 0, 0, 0), (7, .aload_n 0, 1, 0, 0, 0), (8, .getfield 32, 3, 11, 9, 0), (11, .iload_n 1, 1, 0, 0, 0), (12, .iaload, 1, 0, 0, 0), (13, .if_icmp .ge 31, 3, 0, 0, 0), (16, .aload_n 0, 1, 0, 0, 0), (17, .iload_n 1, 1, 0, 0, 0), (18, .iload 4, 2, 0, 0, 0), (20, .invokevirtual 124, 3, 40, 0, 2), (23, .invokestatic 161, 3, 41, 0, 1), (26, .iload_n 2, 1, 0, 0, 0), (27, .if_icmp .ne 9, 3, 0, 0, 0), (30, .iload_n 3, 1, 0, 0, 0), (31, .iconst 1, 1, 0, 0, 0), (32, .iadd, 1, 0, 0, 0), (33, .goto 4, 3, 0, 0, 0), (36, .iload_n 3, 1, 0, 0, 0), (37, .istore_n 3, 1, 0, 0, 0), (38, .iinc 4 1, 3, 0, 0, 0), (41, .goto (-36), 3, 0, 0, 0), (44, .iload_n 3, 1, 0, 0, 0), (45, .ireturn, 1, 0, 0, 0)], [])
def zm_209 : zM := (⟨"NestedPagerModel", "vcpusOf", "(I)I"⟩, prog_13_method_70_code, 4, (some (.int)), (1, 22, 0, 0), (0, 11, 1, 0, 0, 0), [(0, .iconst 0, 1, 0, 0, 0), (1, .istore_n 2, 1, 0, 0, 0), (2, .iconst 0, 1, 0, 0, 0), (3, .istore_n 3, 1, 0, 0, 0), (4, .iload_n 3, 1, 0, 0, 0), (5, .bipush 8, 2, 0, 0, 0), (7, .if_icmp .ge 41, 3, 0, 0, 0), (10, .aload_n 0, 1, 0, 0, 0), (11, .getfield 83, 3, 11, 26, 0), (14, .iload_n 3, 1, 0, 0, 0), (15, .baload, 1, 0, 0, 0), (16, .ifCond .eq 24, 3, 0, 0, 0), (19, .iload_n 1, 1, 0, 0, 0), (20, .ifCond .lt 14, 3, 0, 0, 0), (23, .aload_n 0, 1, 0, 0, 0), (24, .iload_n 3, 1, 0, 0, 0), (25, .bipush 16, 2, 0, 0, 0), (27, .invokevirtual 177, 3, 43, 0, 2), (30, .iload_n 1, 1, 0, 0, 0), (31, .if_icmp .ne 9, 3, 0, 0, 0), (34, .iload_n 2, 1, 0, 0, 0), (35, .iconst 1, 1, 0, 0, 0), (36, .iadd, 1, 0, 0, 0), (37, .goto 4, 3, 0, 0, 0), (40, .iload_n 2, 1, 0, 0, 0), (41, .istore_n 2, 1, 0, 0, 0), (42, .iinc 3 1, 3, 0, 0, 0), (45, .goto (-41), 3, 0, 0, 0), (48, .iload_n 2, 1, 0, 0, 0), (49, .ireturn, 1, 0, 0, 0)], [])
def zm_210 : zM := (⟨"NestedPagerModel", "count", "(II)I"⟩, prog_13_method_71_code, 3, (some (.int)), (3, 70, 0, 0), (0, 11, 2, 0, 0, 0), [(0, .aload_n 0, 1, 0, 0, 0), (1, .iload_n 1, 1, 0, 0, 0), (2, .iconst 0, 1, 0, 0, 0), (3, .iconst 3, 1, 0, 0, 0), (4, .invokestatic 120, 3, 20, 0, 3), (7, .ifCond .eq 13, 3, 0, 0, 0), (10, .iload_n 2, 1, 0, 0, 0), (11, .iconst 0, 1, 0, 0, 0), (12, .bipush 11, 2, 0, 0, 0), (14, .invokestatic 120, 3, 20, 0, 3), (17, .ifCond .ne 7, 3, 0, 0, 0), (20, .iconst 1, 1, 0, 0, 0), (21, .goto 17, 3, 0, 0, 0), (24, .aload_n 0, 1, 0, 0, 0), (25, .getfield 29, 3, 11, 8, 0), (28, .iload_n 1, 1, 0, 0, 0), (29, .baload, 1, 0, 0, 0), (30, .ifCond .ne 7, 3, 0, 0, 0), (33, .iconst 2, 1, 0, 0, 0), (34, .goto 4, 3, 0, 0, 0), (37, .iconst 0, 1, 0, 0, 0), (38, .invokevirtual 244, 3, 21, 0, 1), (41, .ifCond .eq 5, 3, 0, 0, 0), (44, .iconst 0, 1, 0, 0, 0), (45, .ireturn, 1, 0, 0, 0), (46, .iload_n 2, 1, 0, 0, 0), (47, .tableswitch 122 0 10 #[57, 64, 71, 71, 71, 80, 87, 94, 101, 108, 115], 57, 0, 0, 0), (104, .aload_n 0, 1, 0, 0, 0), (105, .getfield 32, 3, 11, 9, 0), (108, .iload_n 1, 1, 0, 0, 0), (109, .iaload, 1, 0, 0, 0), (110, .ireturn, 1, 0, 0, 0), (111, .aload_n 0, 1, 0, 0, 0), (112, .getfield 38, 3, 11, 11, 0), (115, .iload_n 1, 1, 0, 0, 0), (116, .iaload, 1, 0, 0, 0), (117, .ireturn, 1, 0, 0, 0), (118, .aload_n 0, 1, 0, 0, 0), (119, .iload_n 1, 1, 0, 0, 0), (120, .iload_n 2, 1, 0, 0, 0), (121, .iconst 1, 1, 0, 0, 0), (122, .isub, 1, 0, 0, 0), (123, .invokevirtual 293, 3, 208, 0, 2), (126, .ireturn, 1, 0, 0, 0), (127, .aload_n 0, 1, 0, 0, 0), (128, .getfield 41, 3, 11, 12, 0), (131, .iload_n 1, 1, 0, 0, 0), (132, .iaload, 1, 0, 0, 0), (133, .ireturn, 1, 0, 0, 0), (134, .aload_n 0, 1, 0, 0, 0), (135, .getfield 44, 3, 11, 13, 0), (138, .iload_n 1, 1, 0, 0, 0), (139, .iaload, 1, 0, 0, 0), (140, .ireturn, 1, 0, 0, 0), (141, .aload_n 0, 1, 0, 0, 0), (142, .getfield 47, 3, 11, 14, 0), (145, .iload_n 1, 1, 0, 0, 0), (146, .iaload, 1, 0, 0, 0), (147, .ireturn, 1, 0, 0, 0), (148, .aload_n 0, 1, 0, 0, 0), (149, .getfield 50, 3, 11, 15, 0), (152, .iload_n 1, 1, 0, 0, 0), (153, .iaload, 1, 0, 0, 0), (154, .ireturn, 1, 0, 0, 0), (155, .aload_n 0, 1, 0, 0, 0), (156, .getfield 53, 3, 11, 16, 0), (159, .iload_n 1, 1, 0, 0, 0), (160, .iaload, 1, 0, 0, 0), (161, .ireturn, 1, 0, 0, 0), (162, .aload_n 0, 1, 0, 0, 0), (163, .getfield 80, 3, 11, 25, 0), (166, .iload_n 1, 1, 0, 0, 0), (167, .iaload, 1, 0, 0, 0), (168, .ireturn, 1, 0, 0, 0), (169, .aload_n 0, 1, 0, 0, 0), (170, .iload_n 1, 1, 0, 0, 0), (171, .invokevirtual 296, 3, 209, 0, 1), (174, .ireturn, 1, 0, 0, 0)], [])
def zm_211 : zM := (⟨"NestedPager$Guest", "byteKept", "(I)I"⟩, prog_4_method_4_code, 2, (some (.int)), (1, 22, 0, 0), (0, 2, 1, 0, 0, 0), [(0, .iload_n 1, 1, 0, 0, 0), (1, .iconst 0, 1, 0, 0, 0), (2, .aload_n 0, 1, 0, 0, 0), (3, .getfield 61, 3, 2, 10, 0), (6, .sipush 200, 3, 0, 0, 0), (9, .invokestatic 70, 3, 0, 3, 0), (12, .iconst 1, 1, 0, 0, 0), (13, .isub, 1, 0, 0, 0), (14, .invokestatic 76, 3, 12, 1, 3), (17, .ifCond .eq 12, 3, 0, 0, 0), (20, .aload_n 0, 1, 0, 0, 0), (21, .getfield 15, 3, 2, 11, 0), (24, .iload_n 1, 1, 0, 0, 0), (25, .iaload, 1, 0, 0, 0), (26, .goto 4, 3, 0, 0, 0), (29, .iconst (-1), 1, 0, 0, 0), (30, .ireturn, 1, 0, 0, 0)], [])
def zm_212 : zM := (⟨"NestedPager", "printed", "(II)I"⟩, prog_1_method_24_code, 3, (some (.int)), (8, 130, 2, 12), (0, 10, 2, 0, 0, 0), [(0, .iload_n 1, 1, 0, 0, 0), (1, .invokestatic 103, 3, 25, 0, 1), (4, .invokestatic 80, 3, 13, 0, 1), (7, .aload_n 0, 1, 0, 0, 0), (8, .iload_n 1, 1, 0, 0, 0), (9, .invokevirtual 107, 3, 27, 0, 1), (12, .iload_n 2, 1, 0, 0, 0), (13, .invokevirtual 269, 3, 211, 0, 1), (16, .ireturn, 1, 0, 0, 0)], [])
def zm_213 : zM := (⟨"NestedPagerLaw", "printed", "(LNestedPager;II[J)I"⟩, method_24_code, 5, (some (.int)), (9, 152, 2, 12), (1, 99, 4, 0, 0, 0), [(0, .aload_n 3, 1, 0, 0, 0), (1, .iconst 0, 1, 0, 0, 0), (2, .aload_n 0, 1, 0, 0, 0), (3, .iload_n 1, 1, 0, 0, 0), (4, .iload_n 2, 1, 0, 0, 0), (5, .invokevirtual 82, 3, 212, 0, 2), (8, .i2l, 1, 0, 0, 0), (9, .lastore, 1, 0, 0, 0), (10, .goto 11, 3, 0, 0, 0), (13, .astore 4, 2, 0, 0, 0), (15, .iconst 1, 1, 0, 0, 0), (16, .ireturn, 1, 0, 0, 0), (17, .astore 4, 2, 0, 0, 0), (19, .iconst 2, 1, 0, 0, 0), (20, .ireturn, 1, 0, 0, 0), (21, .iconst 0, 1, 0, 0, 0), (22, .ireturn, 1, 0, 0, 0)], [((0), (10), (13), (13)), ((0), (10), (17), (18))])
def zm_214 : zM := (⟨"NestedPagerModel", "printed", "(II)I"⟩, prog_13_method_72_code, 3, (some (.int)), (1, 22, 0, 0), (0, 11, 2, 0, 0, 0), [(0, .aload_n 0, 1, 0, 0, 0), (1, .iload_n 1, 1, 0, 0, 0), (2, .iconst 0, 1, 0, 0, 0), (3, .iconst 3, 1, 0, 0, 0), (4, .invokestatic 120, 3, 20, 0, 3), (7, .ifCond .ne 7, 3, 0, 0, 0), (10, .iconst 1, 1, 0, 0, 0), (11, .goto 17, 3, 0, 0, 0), (14, .aload_n 0, 1, 0, 0, 0), (15, .getfield 29, 3, 11, 8, 0), (18, .iload_n 1, 1, 0, 0, 0), (19, .baload, 1, 0, 0, 0), (20, .ifCond .ne 7, 3, 0, 0, 0), (23, .iconst 2, 1, 0, 0, 0), (24, .goto 4, 3, 0, 0, 0), (27, .iconst 0, 1, 0, 0, 0), (28, .invokevirtual 244, 3, 21, 0, 1), (31, .ifCond .eq 5, 3, 0, 0, 0), (34, .iconst 0, 1, 0, 0, 0), (35, .ireturn, 1, 0, 0, 0), (36, .iload_n 2, 1, 0, 0, 0), (37, .iconst 0, 1, 0, 0, 0), (38, .aload_n 0, 1, 0, 0, 0), (39, .getfield 53, 3, 11, 16, 0), (42, .iload_n 1, 1, 0, 0, 0), (43, .iaload, 1, 0, 0, 0), (44, .sipush 200, 3, 0, 0, 0), (47, .invokestatic 180, 3, 0, 3, 0), (50, .iconst 1, 1, 0, 0, 0), (51, .isub, 1, 0, 0, 0), (52, .invokestatic 120, 3, 20, 0, 3), (55, .ifCond .eq 18, 3, 0, 0, 0), (58, .aload_n 0, 1, 0, 0, 0), (59, .getfield 56, 3, 11, 17, 0), (62, .sipush 200, 3, 0, 0, 0), (65, .iload_n 1, 1, 0, 0, 0), (66, .imul, 1, 0, 0, 0), (67, .iload_n 2, 1, 0, 0, 0), (68, .iadd, 1, 0, 0, 0), (69, .iaload, 1, 0, 0, 0), (70, .goto 4, 3, 0, 0, 0), (73, .iconst (-1), 1, 0, 0, 0), (74, .ireturn, 1, 0, 0, 0)], [])
def zm_215 : zM := (⟨"NestedPager$Memory", "freeSlots", "()I"⟩, prog_7_method_7_code, 3, (some (.int)), (0, 0, 0, 0), (0, 5, 0, 0, 0, 0), [(0, .iconst 0, 1, 0, 0, 0), (1, .istore_n 1, 1, 0, 0, 0), (2, .iconst 0, 1, 0, 0, 0), (3, .istore_n 2, 1, 0, 0, 0), (4, .iload_n 2, 1, 0, 0, 0), (5, .bipush 64, 2, 0, 0, 0), (7, .if_icmp .ge 26, 3, 0, 0, 0), (10, .iload_n 1, 1, 0, 0, 0), (11, .aload_n 0, 1, 0, 0, 0), (12, .getfield 30, 3, 5, 6, 0), (15, .iload_n 2, 1, 0, 0, 0), (16, .baload, 1, 0, 0, 0), (17, .ifCond .eq 7, 3, 0, 0, 0), (20, .iconst 0, 1, 0, 0, 0), (21, .goto 4, 3, 0, 0, 0), (24, .iconst 1, 1, 0, 0, 0), (25, .iadd, 1, 0, 0, 0), (26, .istore_n 1, 1, 0, 0, 0), (27, .iinc 2 1, 3, 0, 0, 0), (30, .goto (-26), 3, 0, 0, 0), (33, .iload_n 1, 1, 0, 0, 0), (34, .ireturn, 1, 0, 0, 0)], [])
def zm_216 : zM := (⟨"NestedPager$Devices", "guestsThere", "()I"⟩, prog_2_method_3_code, 3, (some (.int)), (0, 0, 0, 0), (0, 0, 0, 0, 0, 0), [(0, .iconst 0, 1, 0, 0, 0), (1, .istore_n 1, 1, 0, 0, 0), (2, .iconst 0, 1, 0, 0, 0), (3, .istore_n 2, 1, 0, 0, 0), (4, .iload_n 2, 1, 0, 0, 0), (5, .iconst 4, 1, 0, 0, 0), (6, .if_icmp .ge 29, 3, 0, 0, 0), (9, .iload_n 1, 1, 0, 0, 0), (10, .aload_n 0, 1, 0, 0, 0), (11, .getfield 15, 3, 0, 1, 0), (14, .iload_n 2, 1, 0, 0, 0), (15, .aaload, 1, 0, 0, 0), (16, .getfield 29, 3, 2, 1, 0), (19, .ifCond .eq 7, 3, 0, 0, 0), (22, .iconst 1, 1, 0, 0, 0), (23, .goto 4, 3, 0, 0, 0), (26, .iconst 0, 1, 0, 0, 0), (27, .iadd, 1, 0, 0, 0), (28, .istore_n 1, 1, 0, 0, 0), (29, .iinc 2 1, 3, 0, 0, 0), (32, .goto (-28), 3, 0, 0, 0), (35, .iload_n 1, 1, 0, 0, 0), (36, .ireturn, 1, 0, 0, 0)], [])
def zm_217 : zM := (⟨"NestedPager$Devices", "vcpusThere", "()I"⟩, prog_2_method_4_code, 3, (some (.int)), (0, 0, 0, 0), (0, 0, 0, 0, 0, 0), [(0, .iconst 0, 1, 0, 0, 0), (1, .istore_n 1, 1, 0, 0, 0), (2, .iconst 0, 1, 0, 0, 0), (3, .istore_n 2, 1, 0, 0, 0), (4, .iload_n 2, 1, 0, 0, 0), (5, .bipush 8, 2, 0, 0, 0), (7, .if_icmp .ge 29, 3, 0, 0, 0), (10, .iload_n 1, 1, 0, 0, 0), (11, .aload_n 0, 1, 0, 0, 0), (12, .getfield 19, 3, 0, 2, 0), (15, .iload_n 2, 1, 0, 0, 0), (16, .aaload, 1, 0, 0, 0), (17, .getfield 35, 3, 9, 1, 0), (20, .ifCond .eq 7, 3, 0, 0, 0), (23, .iconst 1, 1, 0, 0, 0), (24, .goto 4, 3, 0, 0, 0), (27, .iconst 0, 1, 0, 0, 0), (28, .iadd, 1, 0, 0, 0), (29, .istore_n 1, 1, 0, 0, 0), (30, .iinc 2 1, 3, 0, 0, 0), (33, .goto (-29), 3, 0, 0, 0), (36, .iload_n 1, 1, 0, 0, 0), (37, .ireturn, 1, 0, 0, 0)], [])
def zm_218 : zM := (⟨"NestedPager", "host", "(I)I"⟩, prog_1_method_25_code, 2, (some (.int)), (7, 109, 1, 6), (0, 10, 1, 0, 0, 0), [(0, .iload_n 1, 1, 0, 0, 0), (1, .iconst 0, 1, 0, 0, 0), (2, .iconst 4, 1, 0, 0, 0), (3, .invokestatic 76, 3, 12, 0, 3), (6, .invokestatic 80, 3, 13, 0, 1), (9, .iload_n 1, 1, 0, 0, 0), (10, .tableswitch 62 0 3 #[30, 38, 46, 54], 30, 0, 0, 0), (40, .aload_n 0, 1, 0, 0, 0), (41, .getfield 10, 3, 10, 0, 0), (44, .invokevirtual 272, 3, 29, 0, 0), (47, .ireturn, 1, 0, 0, 0), (48, .aload_n 0, 1, 0, 0, 0), (49, .getfield 10, 3, 10, 0, 0), (52, .invokevirtual 275, 3, 215, 0, 0), (55, .ireturn, 1, 0, 0, 0), (56, .aload_n 0, 1, 0, 0, 0), (57, .getfield 10, 3, 10, 0, 0), (60, .getfield 278, 3, 5, 8, 0), (63, .ireturn, 1, 0, 0, 0), (64, .aload_n 0, 1, 0, 0, 0), (65, .getfield 54, 3, 10, 6, 0), (68, .invokevirtual 281, 3, 216, 0, 0), (71, .ireturn, 1, 0, 0, 0), (72, .aload_n 0, 1, 0, 0, 0), (73, .getfield 54, 3, 10, 6, 0), (76, .invokevirtual 284, 3, 217, 0, 0), (79, .ireturn, 1, 0, 0, 0)], [])
def zm_219 : zM := (⟨"NestedPagerLaw", "host", "(LNestedPager;I[J)I"⟩, method_25_code, 4, (some (.int)), (8, 130, 1, 6), (1, 99, 3, 0, 0, 0), [(0, .aload_n 2, 1, 0, 0, 0), (1, .iconst 0, 1, 0, 0, 0), (2, .aload_n 0, 1, 0, 0, 0), (3, .iload_n 1, 1, 0, 0, 0), (4, .invokevirtual 85, 3, 218, 0, 1), (7, .i2l, 1, 0, 0, 0), (8, .lastore, 1, 0, 0, 0), (9, .goto 6, 3, 0, 0, 0), (12, .astore_n 3, 1, 0, 0, 0), (13, .iconst 1, 1, 0, 0, 0), (14, .ireturn, 1, 0, 0, 0), (15, .iconst 0, 1, 0, 0, 0), (16, .ireturn, 1, 0, 0, 0)], [((0), (9), (12), (13))])
def zm_220 : zM := (⟨"NestedPagerModel", "host", "(I)I"⟩, prog_13_method_73_code, 4, (some (.int)), (2, 45, 0, 0), (0, 11, 1, 0, 0, 0), [(0, .aload_n 0, 1, 0, 0, 0), (1, .iload_n 1, 1, 0, 0, 0), (2, .iconst 0, 1, 0, 0, 0), (3, .iconst 4, 1, 0, 0, 0), (4, .invokestatic 120, 3, 20, 0, 3), (7, .ifCond .eq 7, 3, 0, 0, 0), (10, .iconst 0, 1, 0, 0, 0), (11, .goto 4, 3, 0, 0, 0), (14, .iconst 1, 1, 0, 0, 0), (15, .invokevirtual 244, 3, 21, 0, 1), (18, .ifCond .eq 5, 3, 0, 0, 0), (21, .iconst 0, 1, 0, 0, 0), (22, .ireturn, 1, 0, 0, 0), (23, .iconst 0, 1, 0, 0, 0), (24, .istore_n 2, 1, 0, 0, 0), (25, .iload_n 1, 1, 0, 0, 0), (26, .tableswitch 134 0 3 #[30, 64, 97, 102], 30, 0, 0, 0), (56, .iconst 0, 1, 0, 0, 0), (57, .istore_n 3, 1, 0, 0, 0), (58, .iload_n 3, 1, 0, 0, 0), (59, .sipush 128, 3, 0, 0, 0), (62, .if_icmp .ge 26, 3, 0, 0, 0), (65, .aload_n 0, 1, 0, 0, 0), (66, .getfield 13, 3, 11, 2, 0), (69, .iload_n 3, 1, 0, 0, 0), (70, .iaload, 1, 0, 0, 0), (71, .ifCond .ne 9, 3, 0, 0, 0), (74, .iload_n 2, 1, 0, 0, 0), (75, .iconst 1, 1, 0, 0, 0), (76, .iadd, 1, 0, 0, 0), (77, .goto 4, 3, 0, 0, 0), (80, .iload_n 2, 1, 0, 0, 0), (81, .istore_n 2, 1, 0, 0, 0), (82, .iinc 3 1, 3, 0, 0, 0), (85, .goto (-27), 3, 0, 0, 0), (88, .iload_n 2, 1, 0, 0, 0), (89, .ireturn, 1, 0, 0, 0), (90, .iconst 0, 1, 0, 0, 0), (91, .istore_n 3, 1, 0, 0, 0), (92, .iload_n 3, 1, 0, 0, 0), (93, .bipush 64, 2, 0, 0, 0), (95, .if_icmp .ge 26, 3, 0, 0, 0), (98, .aload_n 0, 1, 0, 0, 0), (99, .getfield 25, 3, 11, 6, 0), (102, .iload_n 3, 1, 0, 0, 0), (103, .baload, 1, 0, 0, 0), (104, .ifCond .eq 7, 3, 0, 0, 0), (107, .iload_n 2, 1, 0, 0, 0), (108, .goto 6, 3, 0, 0, 0), (111, .iload_n 2, 1, 0, 0, 0), (112, .iconst 1, 1, 0, 0, 0), (113, .iadd, 1, 0, 0, 0), (114, .istore_n 2, 1, 0, 0, 0), (115, .iinc 3 1, 3, 0, 0, 0), (118, .goto (-26), 3, 0, 0, 0), (121, .iload_n 2, 1, 0, 0, 0), (122, .ireturn, 1, 0, 0, 0), (123, .aload_n 0, 1, 0, 0, 0), (124, .getfield 113, 3, 11, 7, 0), (127, .ireturn, 1, 0, 0, 0), (128, .iconst 0, 1, 0, 0, 0), (129, .istore_n 3, 1, 0, 0, 0), (130, .iload_n 3, 1, 0, 0, 0), (131, .iconst 4, 1, 0, 0, 0), (132, .if_icmp .ge 26, 3, 0, 0, 0), (135, .aload_n 0, 1, 0, 0, 0), (136, .getfield 29, 3, 11, 8, 0), (139, .iload_n 3, 1, 0, 0, 0), (140, .baload, 1, 0, 0, 0), (141, .ifCond .eq 9, 3, 0, 0, 0), (144, .iload_n 2, 1, 0, 0, 0), (145, .iconst 1, 1, 0, 0, 0), (146, .iadd, 1, 0, 0, 0), (147, .goto 4, 3, 0, 0, 0), (150, .iload_n 2, 1, 0, 0, 0), (151, .istore_n 2, 1, 0, 0, 0), (152, .iinc 3 1, 3, 0, 0, 0), (155, .goto (-25), 3, 0, 0, 0), (158, .iload_n 2, 1, 0, 0, 0), (159, .ireturn, 1, 0, 0, 0), (160, .aload_n 0, 1, 0, 0, 0), (161, .iconst (-1), 1, 0, 0, 0), (162, .invokevirtual 296, 3, 209, 0, 1), (165, .ireturn, 1, 0, 0, 0)], [])
def zl_221_0 : List zN := [(0, .new 8, 3, 10, 0, 0), (3, .dup, 1, 0, 0, 0), (4, .invokespecial 88, 3, 10, 0, 0), (7, .astore_n 1, 1, 0, 0, 0), (8, .new 89, 3, 11, 0, 0), (11, .dup, 1, 0, 0, 0), (12, .invokespecial 91, 3, 11, 0, 0), (15, .astore_n 2, 1, 0, 0, 0), (16, .iconst 1, 1, 0, 0, 0), (17, .newarray .long, 2, 0, 0, 0), (19, .astore_n 3, 1, 0, 0, 0), (20, .iconst 0, 1, 0, 0, 0), (21, .istore 4, 2, 0, 0, 0), (23, .iload 4, 2, 0, 0, 0), (25, .aload_n 0, 1, 0, 0, 0), (26, .arraylength, 1, 0, 0, 0), (27, .bipush 7, 2, 0, 0, 0), (29, .isub, 1, 0, 0, 0), (30, .if_icmp .gt 1759, 3, 0, 0, 0), (33, .aload_n 0, 1, 0, 0, 0), (34, .iload 4, 2, 0, 0, 0), (36, .iaload, 1, 0, 0, 0), (37, .bipush 31, 2, 0, 0, 0), (39, .iand, 1, 0, 0, 0), (40, .tableswitch 1743 0 23 #[112, 168, 224, 280, 340, 408, 500, 568, 636, 716, 796, 876, 944, 1012, 1080, 1136, 1161, 1229, 1347, 1415, 1483, 1551, 1619, 1687], 112, 0, 0, 0), (152, .aload_n 1, 1, 0, 0, 0), (153, .aload_n 0, 1, 0, 0, 0), (154, .iload 4, 2, 0, 0, 0), (156, .iconst 1, 1, 0, 0, 0), (157, .iadd, 1, 0, 0, 0), (158, .iaload, 1, 0, 0, 0), (159, .aload_n 3, 1, 0, 0, 0), (160, .invokestatic 92, 3, 19, 0, 3), (163, .istore 5, 2, 0, 0, 0), (165, .aload_n 2, 1, 0, 0, 0), (166, .aload_n 0, 1, 0, 0, 0), (167, .iload 4, 2, 0, 0, 0), (169, .iconst 1, 1, 0, 0, 0), (170, .iadd, 1, 0, 0, 0), (171, .iaload, 1, 0, 0, 0), (172, .invokevirtual 97, 3, 23, 0, 1), (175, .istore 6, 2, 0, 0, 0), (177, .aload_n 2, 1, 0, 0, 0), (178, .invokevirtual 98, 3, 24, 0, 0), (181, .iload 5, 2, 0, 0, 0), (183, .if_icmp .eq 5, 3, 0, 0, 0), (186, .iconst 0, 1, 0, 0, 0), (187, .ireturn, 1, 0, 0, 0), (188, .iload 5, 2, 0, 0, 0), (190, .ifCond .ne 15, 3, 0, 0, 0), (193, .aload_n 3, 1, 0, 0, 0), (194, .iconst 0, 1, 0, 0, 0), (195, .laload, 1, 0, 0, 0), (196, .iload 6, 2, 0, 0, 0), (198, .i2l, 1, 0, 0, 0), (199, .lcmp, 1, 0, 0, 0), (200, .ifCond .eq 5, 3, 0, 0, 0), (203, .iconst 0, 1, 0, 0, 0), (204, .ireturn, 1, 0, 0, 0), (205, .goto 1578, 3, 0, 0, 0)]
def zl_221_1 : List zN := [(208, .aload_n 1, 1, 0, 0, 0), (209, .aload_n 0, 1, 0, 0, 0), (210, .iload 4, 2, 0, 0, 0), (212, .iconst 1, 1, 0, 0, 0), (213, .iadd, 1, 0, 0, 0), (214, .iaload, 1, 0, 0, 0), (215, .aload_n 3, 1, 0, 0, 0), (216, .invokestatic 102, 3, 38, 0, 3), (219, .istore 5, 2, 0, 0, 0), (221, .aload_n 2, 1, 0, 0, 0), (222, .aload_n 0, 1, 0, 0, 0), (223, .iload 4, 2, 0, 0, 0), (225, .iconst 1, 1, 0, 0, 0), (226, .iadd, 1, 0, 0, 0), (227, .iaload, 1, 0, 0, 0), (228, .invokevirtual 104, 3, 44, 0, 1), (231, .istore 6, 2, 0, 0, 0), (233, .aload_n 2, 1, 0, 0, 0), (234, .invokevirtual 98, 3, 24, 0, 0), (237, .iload 5, 2, 0, 0, 0), (239, .if_icmp .eq 5, 3, 0, 0, 0), (242, .iconst 0, 1, 0, 0, 0), (243, .ireturn, 1, 0, 0, 0), (244, .iload 5, 2, 0, 0, 0), (246, .ifCond .ne 15, 3, 0, 0, 0), (249, .aload_n 3, 1, 0, 0, 0), (250, .iconst 0, 1, 0, 0, 0), (251, .laload, 1, 0, 0, 0), (252, .iload 6, 2, 0, 0, 0), (254, .i2l, 1, 0, 0, 0), (255, .lcmp, 1, 0, 0, 0), (256, .ifCond .eq 5, 3, 0, 0, 0), (259, .iconst 0, 1, 0, 0, 0), (260, .ireturn, 1, 0, 0, 0), (261, .goto 1522, 3, 0, 0, 0), (264, .aload_n 1, 1, 0, 0, 0), (265, .aload_n 0, 1, 0, 0, 0), (266, .iload 4, 2, 0, 0, 0), (268, .iconst 1, 1, 0, 0, 0), (269, .iadd, 1, 0, 0, 0), (270, .iaload, 1, 0, 0, 0), (271, .aload_n 3, 1, 0, 0, 0), (272, .invokestatic 105, 3, 49, 0, 3), (275, .istore 5, 2, 0, 0, 0), (277, .aload_n 2, 1, 0, 0, 0), (278, .aload_n 0, 1, 0, 0, 0), (279, .iload 4, 2, 0, 0, 0), (281, .iconst 1, 1, 0, 0, 0), (282, .iadd, 1, 0, 0, 0), (283, .iaload, 1, 0, 0, 0), (284, .invokevirtual 107, 3, 51, 0, 1), (287, .istore 6, 2, 0, 0, 0), (289, .aload_n 2, 1, 0, 0, 0), (290, .invokevirtual 98, 3, 24, 0, 0), (293, .iload 5, 2, 0, 0, 0), (295, .if_icmp .eq 5, 3, 0, 0, 0), (298, .iconst 0, 1, 0, 0, 0), (299, .ireturn, 1, 0, 0, 0), (300, .iload 5, 2, 0, 0, 0), (302, .ifCond .ne 15, 3, 0, 0, 0)]
def zl_221_2 : List zN := [(305, .aload_n 3, 1, 0, 0, 0), (306, .iconst 0, 1, 0, 0, 0), (307, .laload, 1, 0, 0, 0), (308, .iload 6, 2, 0, 0, 0), (310, .i2l, 1, 0, 0, 0), (311, .lcmp, 1, 0, 0, 0), (312, .ifCond .eq 5, 3, 0, 0, 0), (315, .iconst 0, 1, 0, 0, 0), (316, .ireturn, 1, 0, 0, 0), (317, .goto 1466, 3, 0, 0, 0), (320, .aload_n 1, 1, 0, 0, 0), (321, .aload_n 0, 1, 0, 0, 0), (322, .iload 4, 2, 0, 0, 0), (324, .iconst 1, 1, 0, 0, 0), (325, .iadd, 1, 0, 0, 0), (326, .iaload, 1, 0, 0, 0), (327, .aload_n 0, 1, 0, 0, 0), (328, .iload 4, 2, 0, 0, 0), (330, .iconst 2, 1, 0, 0, 0), (331, .iadd, 1, 0, 0, 0), (332, .iaload, 1, 0, 0, 0), (333, .aload_n 0, 1, 0, 0, 0), (334, .iload 4, 2, 0, 0, 0), (336, .iconst 3, 1, 0, 0, 0), (337, .iadd, 1, 0, 0, 0), (338, .iaload, 1, 0, 0, 0), (339, .invokestatic 108, 3, 55, 0, 4), (342, .istore 5, 2, 0, 0, 0), (344, .aload_n 2, 1, 0, 0, 0), (345, .aload_n 0, 1, 0, 0, 0), (346, .iload 4, 2, 0, 0, 0), (348, .iconst 1, 1, 0, 0, 0), (349, .iadd, 1, 0, 0, 0), (350, .iaload, 1, 0, 0, 0), (351, .aload_n 0, 1, 0, 0, 0), (352, .iload 4, 2, 0, 0, 0), (354, .iconst 2, 1, 0, 0, 0), (355, .iadd, 1, 0, 0, 0), (356, .iaload, 1, 0, 0, 0), (357, .aload_n 0, 1, 0, 0, 0), (358, .iload 4, 2, 0, 0, 0), (360, .iconst 3, 1, 0, 0, 0), (361, .iadd, 1, 0, 0, 0), (362, .iaload, 1, 0, 0, 0), (363, .invokevirtual 111, 3, 57, 0, 3), (366, .aload_n 2, 1, 0, 0, 0), (367, .invokevirtual 98, 3, 24, 0, 0), (370, .iload 5, 2, 0, 0, 0), (372, .if_icmp .eq 5, 3, 0, 0, 0), (375, .iconst 0, 1, 0, 0, 0), (376, .ireturn, 1, 0, 0, 0), (377, .goto 1406, 3, 0, 0, 0), (380, .aload_n 1, 1, 0, 0, 0), (381, .aload_n 0, 1, 0, 0, 0), (382, .iload 4, 2, 0, 0, 0), (384, .iconst 1, 1, 0, 0, 0), (385, .iadd, 1, 0, 0, 0), (386, .iaload, 1, 0, 0, 0), (387, .aload_n 0, 1, 0, 0, 0), (388, .iload 4, 2, 0, 0, 0)]
def zl_221_3 : List zN := [(390, .iconst 2, 1, 0, 0, 0), (391, .iadd, 1, 0, 0, 0), (392, .iaload, 1, 0, 0, 0), (393, .aload_n 3, 1, 0, 0, 0), (394, .invokestatic 112, 3, 59, 0, 4), (397, .istore 5, 2, 0, 0, 0), (399, .aload_n 2, 1, 0, 0, 0), (400, .aload_n 0, 1, 0, 0, 0), (401, .iload 4, 2, 0, 0, 0), (403, .iconst 1, 1, 0, 0, 0), (404, .iadd, 1, 0, 0, 0), (405, .iaload, 1, 0, 0, 0), (406, .aload_n 0, 1, 0, 0, 0), (407, .iload 4, 2, 0, 0, 0), (409, .iconst 2, 1, 0, 0, 0), (410, .iadd, 1, 0, 0, 0), (411, .iaload, 1, 0, 0, 0), (412, .invokevirtual 115, 3, 60, 0, 2), (415, .istore 6, 2, 0, 0, 0), (417, .aload_n 2, 1, 0, 0, 0), (418, .invokevirtual 98, 3, 24, 0, 0), (421, .iload 5, 2, 0, 0, 0), (423, .if_icmp .eq 5, 3, 0, 0, 0), (426, .iconst 0, 1, 0, 0, 0), (427, .ireturn, 1, 0, 0, 0), (428, .iload 5, 2, 0, 0, 0), (430, .ifCond .ne 15, 3, 0, 0, 0), (433, .aload_n 3, 1, 0, 0, 0), (434, .iconst 0, 1, 0, 0, 0), (435, .laload, 1, 0, 0, 0), (436, .iload 6, 2, 0, 0, 0), (438, .i2l, 1, 0, 0, 0), (439, .lcmp, 1, 0, 0, 0), (440, .ifCond .eq 5, 3, 0, 0, 0), (443, .iconst 0, 1, 0, 0, 0), (444, .ireturn, 1, 0, 0, 0), (445, .goto 1338, 3, 0, 0, 0), (448, .aload_n 1, 1, 0, 0, 0), (449, .aload_n 0, 1, 0, 0, 0), (450, .iload 4, 2, 0, 0, 0), (452, .iconst 1, 1, 0, 0, 0), (453, .iadd, 1, 0, 0, 0), (454, .iaload, 1, 0, 0, 0), (455, .aload_n 0, 1, 0, 0, 0), (456, .iload 4, 2, 0, 0, 0), (458, .iconst 2, 1, 0, 0, 0), (459, .iadd, 1, 0, 0, 0), (460, .iaload, 1, 0, 0, 0), (461, .aload_n 0, 1, 0, 0, 0), (462, .iload 4, 2, 0, 0, 0), (464, .iconst 3, 1, 0, 0, 0), (465, .iadd, 1, 0, 0, 0), (466, .iaload, 1, 0, 0, 0), (467, .aload_n 0, 1, 0, 0, 0), (468, .iload 4, 2, 0, 0, 0), (470, .iconst 4, 1, 0, 0, 0), (471, .iadd, 1, 0, 0, 0), (472, .iaload, 1, 0, 0, 0), (473, .aload_n 3, 1, 0, 0, 0), (474, .invokestatic 116, 3, 103, 0, 6)]
def zl_221_4 : List zN := [(477, .istore 5, 2, 0, 0, 0), (479, .aload_n 2, 1, 0, 0, 0), (480, .aload_n 0, 1, 0, 0, 0), (481, .iload 4, 2, 0, 0, 0), (483, .iconst 1, 1, 0, 0, 0), (484, .iadd, 1, 0, 0, 0), (485, .iaload, 1, 0, 0, 0), (486, .aload_n 0, 1, 0, 0, 0), (487, .iload 4, 2, 0, 0, 0), (489, .iconst 2, 1, 0, 0, 0), (490, .iadd, 1, 0, 0, 0), (491, .iaload, 1, 0, 0, 0), (492, .aload_n 0, 1, 0, 0, 0), (493, .iload 4, 2, 0, 0, 0), (495, .iconst 3, 1, 0, 0, 0), (496, .iadd, 1, 0, 0, 0), (497, .iaload, 1, 0, 0, 0), (498, .aload_n 0, 1, 0, 0, 0), (499, .iload 4, 2, 0, 0, 0), (501, .iconst 4, 1, 0, 0, 0), (502, .iadd, 1, 0, 0, 0), (503, .iaload, 1, 0, 0, 0), (504, .invokevirtual 119, 3, 129, 0, 4), (507, .istore 6, 2, 0, 0, 0), (509, .aload_n 2, 1, 0, 0, 0), (510, .invokevirtual 98, 3, 24, 0, 0), (513, .iload 5, 2, 0, 0, 0), (515, .if_icmp .eq 5, 3, 0, 0, 0), (518, .iconst 0, 1, 0, 0, 0), (519, .ireturn, 1, 0, 0, 0), (520, .iload 5, 2, 0, 0, 0), (522, .ifCond .ne 15, 3, 0, 0, 0), (525, .aload_n 3, 1, 0, 0, 0), (526, .iconst 0, 1, 0, 0, 0), (527, .laload, 1, 0, 0, 0), (528, .iload 6, 2, 0, 0, 0), (530, .i2l, 1, 0, 0, 0), (531, .lcmp, 1, 0, 0, 0), (532, .ifCond .eq 5, 3, 0, 0, 0), (535, .iconst 0, 1, 0, 0, 0), (536, .ireturn, 1, 0, 0, 0), (537, .goto 1246, 3, 0, 0, 0), (540, .aload_n 1, 1, 0, 0, 0), (541, .aload_n 0, 1, 0, 0, 0), (542, .iload 4, 2, 0, 0, 0), (544, .iconst 1, 1, 0, 0, 0), (545, .iadd, 1, 0, 0, 0), (546, .iaload, 1, 0, 0, 0), (547, .aload_n 0, 1, 0, 0, 0), (548, .iload 4, 2, 0, 0, 0), (550, .iconst 2, 1, 0, 0, 0), (551, .iadd, 1, 0, 0, 0), (552, .iaload, 1, 0, 0, 0), (553, .aload_n 3, 1, 0, 0, 0), (554, .invokestatic 120, 3, 147, 0, 4), (557, .istore 5, 2, 0, 0, 0), (559, .aload_n 2, 1, 0, 0, 0), (560, .aload_n 0, 1, 0, 0, 0), (561, .iload 4, 2, 0, 0, 0), (563, .iconst 1, 1, 0, 0, 0)]
def zl_221_5 : List zN := [(564, .iadd, 1, 0, 0, 0), (565, .iaload, 1, 0, 0, 0), (566, .aload_n 0, 1, 0, 0, 0), (567, .iload 4, 2, 0, 0, 0), (569, .iconst 2, 1, 0, 0, 0), (570, .iadd, 1, 0, 0, 0), (571, .iaload, 1, 0, 0, 0), (572, .invokevirtual 122, 3, 154, 0, 2), (575, .istore 6, 2, 0, 0, 0), (577, .aload_n 2, 1, 0, 0, 0), (578, .invokevirtual 98, 3, 24, 0, 0), (581, .iload 5, 2, 0, 0, 0), (583, .if_icmp .eq 5, 3, 0, 0, 0), (586, .iconst 0, 1, 0, 0, 0), (587, .ireturn, 1, 0, 0, 0), (588, .iload 5, 2, 0, 0, 0), (590, .ifCond .ne 15, 3, 0, 0, 0), (593, .aload_n 3, 1, 0, 0, 0), (594, .iconst 0, 1, 0, 0, 0), (595, .laload, 1, 0, 0, 0), (596, .iload 6, 2, 0, 0, 0), (598, .i2l, 1, 0, 0, 0), (599, .lcmp, 1, 0, 0, 0), (600, .ifCond .eq 5, 3, 0, 0, 0), (603, .iconst 0, 1, 0, 0, 0), (604, .ireturn, 1, 0, 0, 0), (605, .goto 1178, 3, 0, 0, 0), (608, .aload_n 1, 1, 0, 0, 0), (609, .aload_n 0, 1, 0, 0, 0), (610, .iload 4, 2, 0, 0, 0), (612, .iconst 1, 1, 0, 0, 0), (613, .iadd, 1, 0, 0, 0), (614, .iaload, 1, 0, 0, 0), (615, .aload_n 0, 1, 0, 0, 0), (616, .iload 4, 2, 0, 0, 0), (618, .iconst 2, 1, 0, 0, 0), (619, .iadd, 1, 0, 0, 0), (620, .iaload, 1, 0, 0, 0), (621, .aload_n 3, 1, 0, 0, 0), (622, .invokestatic 123, 3, 156, 0, 4), (625, .istore 5, 2, 0, 0, 0), (627, .aload_n 2, 1, 0, 0, 0), (628, .aload_n 0, 1, 0, 0, 0), (629, .iload 4, 2, 0, 0, 0), (631, .iconst 1, 1, 0, 0, 0), (632, .iadd, 1, 0, 0, 0), (633, .iaload, 1, 0, 0, 0), (634, .aload_n 0, 1, 0, 0, 0), (635, .iload 4, 2, 0, 0, 0), (637, .iconst 2, 1, 0, 0, 0), (638, .iadd, 1, 0, 0, 0), (639, .iaload, 1, 0, 0, 0), (640, .invokevirtual 125, 3, 157, 0, 2), (643, .istore 6, 2, 0, 0, 0), (645, .aload_n 2, 1, 0, 0, 0), (646, .invokevirtual 98, 3, 24, 0, 0), (649, .iload 5, 2, 0, 0, 0), (651, .if_icmp .eq 5, 3, 0, 0, 0), (654, .iconst 0, 1, 0, 0, 0), (655, .ireturn, 1, 0, 0, 0)]
def zl_221_6 : List zN := [(656, .iload 5, 2, 0, 0, 0), (658, .ifCond .ne 15, 3, 0, 0, 0), (661, .aload_n 3, 1, 0, 0, 0), (662, .iconst 0, 1, 0, 0, 0), (663, .laload, 1, 0, 0, 0), (664, .iload 6, 2, 0, 0, 0), (666, .i2l, 1, 0, 0, 0), (667, .lcmp, 1, 0, 0, 0), (668, .ifCond .eq 5, 3, 0, 0, 0), (671, .iconst 0, 1, 0, 0, 0), (672, .ireturn, 1, 0, 0, 0), (673, .goto 1110, 3, 0, 0, 0), (676, .aload_n 1, 1, 0, 0, 0), (677, .aload_n 0, 1, 0, 0, 0), (678, .iload 4, 2, 0, 0, 0), (680, .iconst 1, 1, 0, 0, 0), (681, .iadd, 1, 0, 0, 0), (682, .iaload, 1, 0, 0, 0), (683, .aload_n 0, 1, 0, 0, 0), (684, .iload 4, 2, 0, 0, 0), (686, .iconst 2, 1, 0, 0, 0), (687, .iadd, 1, 0, 0, 0), (688, .iaload, 1, 0, 0, 0), (689, .aload_n 0, 1, 0, 0, 0), (690, .iload 4, 2, 0, 0, 0), (692, .iconst 3, 1, 0, 0, 0), (693, .iadd, 1, 0, 0, 0), (694, .iaload, 1, 0, 0, 0), (695, .aload_n 3, 1, 0, 0, 0), (696, .invokestatic 126, 3, 159, 0, 5), (699, .istore 5, 2, 0, 0, 0), (701, .aload_n 2, 1, 0, 0, 0), (702, .aload_n 0, 1, 0, 0, 0), (703, .iload 4, 2, 0, 0, 0), (705, .iconst 1, 1, 0, 0, 0), (706, .iadd, 1, 0, 0, 0), (707, .iaload, 1, 0, 0, 0), (708, .aload_n 0, 1, 0, 0, 0), (709, .iload 4, 2, 0, 0, 0), (711, .iconst 2, 1, 0, 0, 0), (712, .iadd, 1, 0, 0, 0), (713, .iaload, 1, 0, 0, 0), (714, .aload_n 0, 1, 0, 0, 0), (715, .iload 4, 2, 0, 0, 0), (717, .iconst 3, 1, 0, 0, 0), (718, .iadd, 1, 0, 0, 0), (719, .iaload, 1, 0, 0, 0), (720, .invokevirtual 129, 3, 160, 0, 3), (723, .istore 6, 2, 0, 0, 0), (725, .aload_n 2, 1, 0, 0, 0), (726, .invokevirtual 98, 3, 24, 0, 0), (729, .iload 5, 2, 0, 0, 0), (731, .if_icmp .eq 5, 3, 0, 0, 0), (734, .iconst 0, 1, 0, 0, 0), (735, .ireturn, 1, 0, 0, 0), (736, .iload 5, 2, 0, 0, 0), (738, .ifCond .ne 15, 3, 0, 0, 0), (741, .aload_n 3, 1, 0, 0, 0), (742, .iconst 0, 1, 0, 0, 0), (743, .laload, 1, 0, 0, 0)]
def zl_221_7 : List zN := [(744, .iload 6, 2, 0, 0, 0), (746, .i2l, 1, 0, 0, 0), (747, .lcmp, 1, 0, 0, 0), (748, .ifCond .eq 5, 3, 0, 0, 0), (751, .iconst 0, 1, 0, 0, 0), (752, .ireturn, 1, 0, 0, 0), (753, .goto 1030, 3, 0, 0, 0), (756, .aload_n 1, 1, 0, 0, 0), (757, .aload_n 0, 1, 0, 0, 0), (758, .iload 4, 2, 0, 0, 0), (760, .iconst 1, 1, 0, 0, 0), (761, .iadd, 1, 0, 0, 0), (762, .iaload, 1, 0, 0, 0), (763, .aload_n 0, 1, 0, 0, 0), (764, .iload 4, 2, 0, 0, 0), (766, .iconst 2, 1, 0, 0, 0), (767, .iadd, 1, 0, 0, 0), (768, .iaload, 1, 0, 0, 0), (769, .aload_n 0, 1, 0, 0, 0), (770, .iload 4, 2, 0, 0, 0), (772, .iconst 3, 1, 0, 0, 0), (773, .iadd, 1, 0, 0, 0), (774, .iaload, 1, 0, 0, 0), (775, .aload_n 3, 1, 0, 0, 0), (776, .invokestatic 130, 3, 163, 0, 5), (779, .istore 5, 2, 0, 0, 0), (781, .aload_n 2, 1, 0, 0, 0), (782, .aload_n 0, 1, 0, 0, 0), (783, .iload 4, 2, 0, 0, 0), (785, .iconst 1, 1, 0, 0, 0), (786, .iadd, 1, 0, 0, 0), (787, .iaload, 1, 0, 0, 0), (788, .aload_n 0, 1, 0, 0, 0), (789, .iload 4, 2, 0, 0, 0), (791, .iconst 2, 1, 0, 0, 0), (792, .iadd, 1, 0, 0, 0), (793, .iaload, 1, 0, 0, 0), (794, .aload_n 0, 1, 0, 0, 0), (795, .iload 4, 2, 0, 0, 0), (797, .iconst 3, 1, 0, 0, 0), (798, .iadd, 1, 0, 0, 0), (799, .iaload, 1, 0, 0, 0), (800, .invokevirtual 132, 3, 164, 0, 3), (803, .istore 6, 2, 0, 0, 0), (805, .aload_n 2, 1, 0, 0, 0), (806, .invokevirtual 98, 3, 24, 0, 0), (809, .iload 5, 2, 0, 0, 0), (811, .if_icmp .eq 5, 3, 0, 0, 0), (814, .iconst 0, 1, 0, 0, 0), (815, .ireturn, 1, 0, 0, 0), (816, .iload 5, 2, 0, 0, 0), (818, .ifCond .ne 15, 3, 0, 0, 0), (821, .aload_n 3, 1, 0, 0, 0), (822, .iconst 0, 1, 0, 0, 0), (823, .laload, 1, 0, 0, 0), (824, .iload 6, 2, 0, 0, 0), (826, .i2l, 1, 0, 0, 0), (827, .lcmp, 1, 0, 0, 0), (828, .ifCond .eq 5, 3, 0, 0, 0), (831, .iconst 0, 1, 0, 0, 0)]
def zl_221_8 : List zN := [(832, .ireturn, 1, 0, 0, 0), (833, .goto 950, 3, 0, 0, 0), (836, .aload_n 1, 1, 0, 0, 0), (837, .aload_n 0, 1, 0, 0, 0), (838, .iload 4, 2, 0, 0, 0), (840, .iconst 1, 1, 0, 0, 0), (841, .iadd, 1, 0, 0, 0), (842, .iaload, 1, 0, 0, 0), (843, .aload_n 0, 1, 0, 0, 0), (844, .iload 4, 2, 0, 0, 0), (846, .iconst 2, 1, 0, 0, 0), (847, .iadd, 1, 0, 0, 0), (848, .iaload, 1, 0, 0, 0), (849, .aload_n 0, 1, 0, 0, 0), (850, .iload 4, 2, 0, 0, 0), (852, .iconst 3, 1, 0, 0, 0), (853, .iadd, 1, 0, 0, 0), (854, .iaload, 1, 0, 0, 0), (855, .aload_n 3, 1, 0, 0, 0), (856, .invokestatic 133, 3, 167, 0, 5), (859, .istore 5, 2, 0, 0, 0), (861, .aload_n 2, 1, 0, 0, 0), (862, .aload_n 0, 1, 0, 0, 0), (863, .iload 4, 2, 0, 0, 0), (865, .iconst 1, 1, 0, 0, 0), (866, .iadd, 1, 0, 0, 0), (867, .iaload, 1, 0, 0, 0), (868, .aload_n 0, 1, 0, 0, 0), (869, .iload 4, 2, 0, 0, 0), (871, .iconst 2, 1, 0, 0, 0), (872, .iadd, 1, 0, 0, 0), (873, .iaload, 1, 0, 0, 0), (874, .aload_n 0, 1, 0, 0, 0), (875, .iload 4, 2, 0, 0, 0), (877, .iconst 3, 1, 0, 0, 0), (878, .iadd, 1, 0, 0, 0), (879, .iaload, 1, 0, 0, 0), (880, .invokevirtual 135, 3, 169, 0, 3), (883, .istore 6, 2, 0, 0, 0), (885, .aload_n 2, 1, 0, 0, 0), (886, .invokevirtual 98, 3, 24, 0, 0), (889, .iload 5, 2, 0, 0, 0), (891, .if_icmp .eq 5, 3, 0, 0, 0), (894, .iconst 0, 1, 0, 0, 0), (895, .ireturn, 1, 0, 0, 0), (896, .iload 5, 2, 0, 0, 0), (898, .ifCond .ne 15, 3, 0, 0, 0), (901, .aload_n 3, 1, 0, 0, 0), (902, .iconst 0, 1, 0, 0, 0), (903, .laload, 1, 0, 0, 0), (904, .iload 6, 2, 0, 0, 0), (906, .i2l, 1, 0, 0, 0), (907, .lcmp, 1, 0, 0, 0), (908, .ifCond .eq 5, 3, 0, 0, 0), (911, .iconst 0, 1, 0, 0, 0), (912, .ireturn, 1, 0, 0, 0), (913, .goto 870, 3, 0, 0, 0), (916, .aload_n 1, 1, 0, 0, 0), (917, .aload_n 0, 1, 0, 0, 0), (918, .iload 4, 2, 0, 0, 0)]
def zl_221_9 : List zN := [(920, .iconst 1, 1, 0, 0, 0), (921, .iadd, 1, 0, 0, 0), (922, .iaload, 1, 0, 0, 0), (923, .aload_n 0, 1, 0, 0, 0), (924, .iload 4, 2, 0, 0, 0), (926, .iconst 2, 1, 0, 0, 0), (927, .iadd, 1, 0, 0, 0), (928, .iaload, 1, 0, 0, 0), (929, .aload_n 3, 1, 0, 0, 0), (930, .invokestatic 136, 3, 172, 0, 4), (933, .istore 5, 2, 0, 0, 0), (935, .aload_n 2, 1, 0, 0, 0), (936, .aload_n 0, 1, 0, 0, 0), (937, .iload 4, 2, 0, 0, 0), (939, .iconst 1, 1, 0, 0, 0), (940, .iadd, 1, 0, 0, 0), (941, .iaload, 1, 0, 0, 0), (942, .aload_n 0, 1, 0, 0, 0), (943, .iload 4, 2, 0, 0, 0), (945, .iconst 2, 1, 0, 0, 0), (946, .iadd, 1, 0, 0, 0), (947, .iaload, 1, 0, 0, 0), (948, .invokevirtual 138, 3, 173, 0, 2), (951, .istore 6, 2, 0, 0, 0), (953, .aload_n 2, 1, 0, 0, 0), (954, .invokevirtual 98, 3, 24, 0, 0), (957, .iload 5, 2, 0, 0, 0), (959, .if_icmp .eq 5, 3, 0, 0, 0), (962, .iconst 0, 1, 0, 0, 0), (963, .ireturn, 1, 0, 0, 0), (964, .iload 5, 2, 0, 0, 0), (966, .ifCond .ne 15, 3, 0, 0, 0), (969, .aload_n 3, 1, 0, 0, 0), (970, .iconst 0, 1, 0, 0, 0), (971, .laload, 1, 0, 0, 0), (972, .iload 6, 2, 0, 0, 0), (974, .i2l, 1, 0, 0, 0), (975, .lcmp, 1, 0, 0, 0), (976, .ifCond .eq 5, 3, 0, 0, 0), (979, .iconst 0, 1, 0, 0, 0), (980, .ireturn, 1, 0, 0, 0), (981, .goto 802, 3, 0, 0, 0), (984, .aload_n 1, 1, 0, 0, 0), (985, .aload_n 0, 1, 0, 0, 0), (986, .iload 4, 2, 0, 0, 0), (988, .iconst 1, 1, 0, 0, 0), (989, .iadd, 1, 0, 0, 0), (990, .iaload, 1, 0, 0, 0), (991, .aload_n 0, 1, 0, 0, 0), (992, .iload 4, 2, 0, 0, 0), (994, .iconst 2, 1, 0, 0, 0), (995, .iadd, 1, 0, 0, 0), (996, .iaload, 1, 0, 0, 0), (997, .aload_n 3, 1, 0, 0, 0), (998, .invokestatic 139, 3, 176, 0, 4), (1001, .istore 5, 2, 0, 0, 0), (1003, .aload_n 2, 1, 0, 0, 0), (1004, .aload_n 0, 1, 0, 0, 0), (1005, .iload 4, 2, 0, 0, 0), (1007, .iconst 1, 1, 0, 0, 0)]
def zl_221_10 : List zN := [(1008, .iadd, 1, 0, 0, 0), (1009, .iaload, 1, 0, 0, 0), (1010, .aload_n 0, 1, 0, 0, 0), (1011, .iload 4, 2, 0, 0, 0), (1013, .iconst 2, 1, 0, 0, 0), (1014, .iadd, 1, 0, 0, 0), (1015, .iaload, 1, 0, 0, 0), (1016, .invokevirtual 141, 3, 177, 0, 2), (1019, .istore 6, 2, 0, 0, 0), (1021, .aload_n 2, 1, 0, 0, 0), (1022, .invokevirtual 98, 3, 24, 0, 0), (1025, .iload 5, 2, 0, 0, 0), (1027, .if_icmp .eq 5, 3, 0, 0, 0), (1030, .iconst 0, 1, 0, 0, 0), (1031, .ireturn, 1, 0, 0, 0), (1032, .iload 5, 2, 0, 0, 0), (1034, .ifCond .ne 15, 3, 0, 0, 0), (1037, .aload_n 3, 1, 0, 0, 0), (1038, .iconst 0, 1, 0, 0, 0), (1039, .laload, 1, 0, 0, 0), (1040, .iload 6, 2, 0, 0, 0), (1042, .i2l, 1, 0, 0, 0), (1043, .lcmp, 1, 0, 0, 0), (1044, .ifCond .eq 5, 3, 0, 0, 0), (1047, .iconst 0, 1, 0, 0, 0), (1048, .ireturn, 1, 0, 0, 0), (1049, .goto 734, 3, 0, 0, 0), (1052, .aload_n 1, 1, 0, 0, 0), (1053, .aload_n 0, 1, 0, 0, 0), (1054, .iload 4, 2, 0, 0, 0), (1056, .iconst 1, 1, 0, 0, 0), (1057, .iadd, 1, 0, 0, 0), (1058, .iaload, 1, 0, 0, 0), (1059, .aload_n 0, 1, 0, 0, 0), (1060, .iload 4, 2, 0, 0, 0), (1062, .iconst 2, 1, 0, 0, 0), (1063, .iadd, 1, 0, 0, 0), (1064, .iaload, 1, 0, 0, 0), (1065, .aload_n 3, 1, 0, 0, 0), (1066, .invokestatic 142, 3, 179, 0, 4), (1069, .istore 5, 2, 0, 0, 0), (1071, .aload_n 2, 1, 0, 0, 0), (1072, .aload_n 0, 1, 0, 0, 0), (1073, .iload 4, 2, 0, 0, 0), (1075, .iconst 1, 1, 0, 0, 0), (1076, .iadd, 1, 0, 0, 0), (1077, .iaload, 1, 0, 0, 0), (1078, .aload_n 0, 1, 0, 0, 0), (1079, .iload 4, 2, 0, 0, 0), (1081, .iconst 2, 1, 0, 0, 0), (1082, .iadd, 1, 0, 0, 0), (1083, .iaload, 1, 0, 0, 0), (1084, .invokevirtual 144, 3, 180, 0, 2), (1087, .istore 6, 2, 0, 0, 0), (1089, .aload_n 2, 1, 0, 0, 0), (1090, .invokevirtual 98, 3, 24, 0, 0), (1093, .iload 5, 2, 0, 0, 0), (1095, .if_icmp .eq 5, 3, 0, 0, 0), (1098, .iconst 0, 1, 0, 0, 0), (1099, .ireturn, 1, 0, 0, 0)]
def zl_221_11 : List zN := [(1100, .iload 5, 2, 0, 0, 0), (1102, .ifCond .ne 15, 3, 0, 0, 0), (1105, .aload_n 3, 1, 0, 0, 0), (1106, .iconst 0, 1, 0, 0, 0), (1107, .laload, 1, 0, 0, 0), (1108, .iload 6, 2, 0, 0, 0), (1110, .i2l, 1, 0, 0, 0), (1111, .lcmp, 1, 0, 0, 0), (1112, .ifCond .eq 5, 3, 0, 0, 0), (1115, .iconst 0, 1, 0, 0, 0), (1116, .ireturn, 1, 0, 0, 0), (1117, .goto 666, 3, 0, 0, 0), (1120, .aload_n 1, 1, 0, 0, 0), (1121, .aload_n 0, 1, 0, 0, 0), (1122, .iload 4, 2, 0, 0, 0), (1124, .iconst 1, 1, 0, 0, 0), (1125, .iadd, 1, 0, 0, 0), (1126, .iaload, 1, 0, 0, 0), (1127, .aload_n 3, 1, 0, 0, 0), (1128, .invokestatic 145, 3, 182, 0, 3), (1131, .istore 5, 2, 0, 0, 0), (1133, .aload_n 2, 1, 0, 0, 0), (1134, .aload_n 0, 1, 0, 0, 0), (1135, .iload 4, 2, 0, 0, 0), (1137, .iconst 1, 1, 0, 0, 0), (1138, .iadd, 1, 0, 0, 0), (1139, .iaload, 1, 0, 0, 0), (1140, .invokevirtual 147, 3, 183, 0, 1), (1143, .istore 6, 2, 0, 0, 0), (1145, .aload_n 2, 1, 0, 0, 0), (1146, .invokevirtual 98, 3, 24, 0, 0), (1149, .iload 5, 2, 0, 0, 0), (1151, .if_icmp .eq 5, 3, 0, 0, 0), (1154, .iconst 0, 1, 0, 0, 0), (1155, .ireturn, 1, 0, 0, 0), (1156, .iload 5, 2, 0, 0, 0), (1158, .ifCond .ne 15, 3, 0, 0, 0), (1161, .aload_n 3, 1, 0, 0, 0), (1162, .iconst 0, 1, 0, 0, 0), (1163, .laload, 1, 0, 0, 0), (1164, .iload 6, 2, 0, 0, 0), (1166, .i2l, 1, 0, 0, 0), (1167, .lcmp, 1, 0, 0, 0), (1168, .ifCond .eq 5, 3, 0, 0, 0), (1171, .iconst 0, 1, 0, 0, 0), (1172, .ireturn, 1, 0, 0, 0), (1173, .goto 610, 3, 0, 0, 0), (1176, .aload_n 1, 1, 0, 0, 0), (1177, .aload_n 0, 1, 0, 0, 0), (1178, .iload 4, 2, 0, 0, 0), (1180, .iconst 1, 1, 0, 0, 0), (1181, .iadd, 1, 0, 0, 0), (1182, .iaload, 1, 0, 0, 0), (1183, .invokevirtual 148, 3, 184, 0, 1), (1186, .aload_n 2, 1, 0, 0, 0), (1187, .aload_n 0, 1, 0, 0, 0), (1188, .iload 4, 2, 0, 0, 0), (1190, .iconst 1, 1, 0, 0, 0), (1191, .iadd, 1, 0, 0, 0), (1192, .iaload, 1, 0, 0, 0)]
def zl_221_12 : List zN := [(1193, .invokevirtual 151, 3, 185, 0, 1), (1196, .if_icmp .eq 587, 3, 0, 0, 0), (1199, .iconst 0, 1, 0, 0, 0), (1200, .ireturn, 1, 0, 0, 0), (1201, .aload_n 1, 1, 0, 0, 0), (1202, .aload_n 0, 1, 0, 0, 0), (1203, .iload 4, 2, 0, 0, 0), (1205, .iconst 1, 1, 0, 0, 0), (1206, .iadd, 1, 0, 0, 0), (1207, .iaload, 1, 0, 0, 0), (1208, .aload_n 0, 1, 0, 0, 0), (1209, .iload 4, 2, 0, 0, 0), (1211, .iconst 2, 1, 0, 0, 0), (1212, .iadd, 1, 0, 0, 0), (1213, .iaload, 1, 0, 0, 0), (1214, .aload_n 3, 1, 0, 0, 0), (1215, .invokestatic 152, 3, 187, 0, 4), (1218, .istore 5, 2, 0, 0, 0), (1220, .aload_n 2, 1, 0, 0, 0), (1221, .aload_n 0, 1, 0, 0, 0), (1222, .iload 4, 2, 0, 0, 0), (1224, .iconst 1, 1, 0, 0, 0), (1225, .iadd, 1, 0, 0, 0), (1226, .iaload, 1, 0, 0, 0), (1227, .aload_n 0, 1, 0, 0, 0), (1228, .iload 4, 2, 0, 0, 0), (1230, .iconst 2, 1, 0, 0, 0), (1231, .iadd, 1, 0, 0, 0), (1232, .iaload, 1, 0, 0, 0), (1233, .invokevirtual 154, 3, 188, 0, 2), (1236, .istore 6, 2, 0, 0, 0), (1238, .aload_n 2, 1, 0, 0, 0), (1239, .invokevirtual 98, 3, 24, 0, 0), (1242, .iload 5, 2, 0, 0, 0), (1244, .if_icmp .eq 5, 3, 0, 0, 0), (1247, .iconst 0, 1, 0, 0, 0), (1248, .ireturn, 1, 0, 0, 0), (1249, .iload 5, 2, 0, 0, 0), (1251, .ifCond .ne 15, 3, 0, 0, 0), (1254, .aload_n 3, 1, 0, 0, 0), (1255, .iconst 0, 1, 0, 0, 0), (1256, .laload, 1, 0, 0, 0), (1257, .iload 6, 2, 0, 0, 0), (1259, .i2l, 1, 0, 0, 0), (1260, .lcmp, 1, 0, 0, 0), (1261, .ifCond .eq 5, 3, 0, 0, 0), (1264, .iconst 0, 1, 0, 0, 0), (1265, .ireturn, 1, 0, 0, 0), (1266, .goto 517, 3, 0, 0, 0), (1269, .aload_n 1, 1, 0, 0, 0), (1270, .aload_n 0, 1, 0, 0, 0), (1271, .iload 4, 2, 0, 0, 0), (1273, .iconst 1, 1, 0, 0, 0), (1274, .iadd, 1, 0, 0, 0), (1275, .iaload, 1, 0, 0, 0), (1276, .aload_n 0, 1, 0, 0, 0), (1277, .iload 4, 2, 0, 0, 0), (1279, .iconst 2, 1, 0, 0, 0), (1280, .iadd, 1, 0, 0, 0), (1281, .iaload, 1, 0, 0, 0)]
def zl_221_13 : List zN := [(1282, .aload_n 0, 1, 0, 0, 0), (1283, .iload 4, 2, 0, 0, 0), (1285, .iconst 3, 1, 0, 0, 0), (1286, .iadd, 1, 0, 0, 0), (1287, .iaload, 1, 0, 0, 0), (1288, .aload_n 0, 1, 0, 0, 0), (1289, .iload 4, 2, 0, 0, 0), (1291, .iconst 4, 1, 0, 0, 0), (1292, .iadd, 1, 0, 0, 0), (1293, .iaload, 1, 0, 0, 0), (1294, .aload_n 0, 1, 0, 0, 0), (1295, .iload 4, 2, 0, 0, 0), (1297, .iconst 5, 1, 0, 0, 0), (1298, .iadd, 1, 0, 0, 0), (1299, .iaload, 1, 0, 0, 0), (1300, .aload_n 0, 1, 0, 0, 0), (1301, .iload 4, 2, 0, 0, 0), (1303, .bipush 6, 2, 0, 0, 0), (1305, .iadd, 1, 0, 0, 0), (1306, .iaload, 1, 0, 0, 0), (1307, .aload_n 3, 1, 0, 0, 0), (1308, .invokestatic 155, 3, 191, 0, 8), (1311, .istore 5, 2, 0, 0, 0), (1313, .aload_n 2, 1, 0, 0, 0), (1314, .aload_n 0, 1, 0, 0, 0), (1315, .iload 4, 2, 0, 0, 0), (1317, .iconst 1, 1, 0, 0, 0), (1318, .iadd, 1, 0, 0, 0), (1319, .iaload, 1, 0, 0, 0), (1320, .aload_n 0, 1, 0, 0, 0), (1321, .iload 4, 2, 0, 0, 0), (1323, .iconst 2, 1, 0, 0, 0), (1324, .iadd, 1, 0, 0, 0), (1325, .iaload, 1, 0, 0, 0), (1326, .aload_n 0, 1, 0, 0, 0), (1327, .iload 4, 2, 0, 0, 0), (1329, .iconst 3, 1, 0, 0, 0), (1330, .iadd, 1, 0, 0, 0), (1331, .iaload, 1, 0, 0, 0), (1332, .aload_n 0, 1, 0, 0, 0), (1333, .iload 4, 2, 0, 0, 0), (1335, .iconst 4, 1, 0, 0, 0), (1336, .iadd, 1, 0, 0, 0), (1337, .iaload, 1, 0, 0, 0), (1338, .aload_n 0, 1, 0, 0, 0), (1339, .iload 4, 2, 0, 0, 0), (1341, .iconst 5, 1, 0, 0, 0), (1342, .iadd, 1, 0, 0, 0), (1343, .iaload, 1, 0, 0, 0), (1344, .aload_n 0, 1, 0, 0, 0), (1345, .iload 4, 2, 0, 0, 0), (1347, .bipush 6, 2, 0, 0, 0), (1349, .iadd, 1, 0, 0, 0), (1350, .iaload, 1, 0, 0, 0), (1351, .invokevirtual 158, 3, 193, 0, 6), (1354, .istore 6, 2, 0, 0, 0), (1356, .aload_n 2, 1, 0, 0, 0), (1357, .invokevirtual 98, 3, 24, 0, 0), (1360, .iload 5, 2, 0, 0, 0), (1362, .if_icmp .eq 5, 3, 0, 0, 0)]
def zl_221_14 : List zN := [(1365, .iconst 0, 1, 0, 0, 0), (1366, .ireturn, 1, 0, 0, 0), (1367, .iload 5, 2, 0, 0, 0), (1369, .ifCond .ne 15, 3, 0, 0, 0), (1372, .aload_n 3, 1, 0, 0, 0), (1373, .iconst 0, 1, 0, 0, 0), (1374, .laload, 1, 0, 0, 0), (1375, .iload 6, 2, 0, 0, 0), (1377, .i2l, 1, 0, 0, 0), (1378, .lcmp, 1, 0, 0, 0), (1379, .ifCond .eq 5, 3, 0, 0, 0), (1382, .iconst 0, 1, 0, 0, 0), (1383, .ireturn, 1, 0, 0, 0), (1384, .goto 399, 3, 0, 0, 0), (1387, .aload_n 1, 1, 0, 0, 0), (1388, .aload_n 0, 1, 0, 0, 0), (1389, .iload 4, 2, 0, 0, 0), (1391, .iconst 1, 1, 0, 0, 0), (1392, .iadd, 1, 0, 0, 0), (1393, .iaload, 1, 0, 0, 0), (1394, .aload_n 0, 1, 0, 0, 0), (1395, .iload 4, 2, 0, 0, 0), (1397, .iconst 2, 1, 0, 0, 0), (1398, .iadd, 1, 0, 0, 0), (1399, .iaload, 1, 0, 0, 0), (1400, .aload_n 3, 1, 0, 0, 0), (1401, .invokestatic 159, 3, 196, 0, 4), (1404, .istore 5, 2, 0, 0, 0), (1406, .aload_n 2, 1, 0, 0, 0), (1407, .aload_n 0, 1, 0, 0, 0), (1408, .iload 4, 2, 0, 0, 0), (1410, .iconst 1, 1, 0, 0, 0), (1411, .iadd, 1, 0, 0, 0), (1412, .iaload, 1, 0, 0, 0), (1413, .aload_n 0, 1, 0, 0, 0), (1414, .iload 4, 2, 0, 0, 0), (1416, .iconst 2, 1, 0, 0, 0), (1417, .iadd, 1, 0, 0, 0), (1418, .iaload, 1, 0, 0, 0), (1419, .invokevirtual 161, 3, 197, 0, 2), (1422, .istore 6, 2, 0, 0, 0), (1424, .aload_n 2, 1, 0, 0, 0), (1425, .invokevirtual 98, 3, 24, 0, 0), (1428, .iload 5, 2, 0, 0, 0), (1430, .if_icmp .eq 5, 3, 0, 0, 0), (1433, .iconst 0, 1, 0, 0, 0), (1434, .ireturn, 1, 0, 0, 0), (1435, .iload 5, 2, 0, 0, 0), (1437, .ifCond .ne 15, 3, 0, 0, 0), (1440, .aload_n 3, 1, 0, 0, 0), (1441, .iconst 0, 1, 0, 0, 0), (1442, .laload, 1, 0, 0, 0), (1443, .iload 6, 2, 0, 0, 0), (1445, .i2l, 1, 0, 0, 0), (1446, .lcmp, 1, 0, 0, 0), (1447, .ifCond .eq 5, 3, 0, 0, 0), (1450, .iconst 0, 1, 0, 0, 0), (1451, .ireturn, 1, 0, 0, 0), (1452, .goto 331, 3, 0, 0, 0), (1455, .aload_n 1, 1, 0, 0, 0)]
def zl_221_15 : List zN := [(1456, .aload_n 0, 1, 0, 0, 0), (1457, .iload 4, 2, 0, 0, 0), (1459, .iconst 1, 1, 0, 0, 0), (1460, .iadd, 1, 0, 0, 0), (1461, .iaload, 1, 0, 0, 0), (1462, .aload_n 0, 1, 0, 0, 0), (1463, .iload 4, 2, 0, 0, 0), (1465, .iconst 2, 1, 0, 0, 0), (1466, .iadd, 1, 0, 0, 0), (1467, .iaload, 1, 0, 0, 0), (1468, .aload_n 3, 1, 0, 0, 0), (1469, .invokestatic 162, 3, 200, 0, 4), (1472, .istore 5, 2, 0, 0, 0), (1474, .aload_n 2, 1, 0, 0, 0), (1475, .aload_n 0, 1, 0, 0, 0), (1476, .iload 4, 2, 0, 0, 0), (1478, .iconst 1, 1, 0, 0, 0), (1479, .iadd, 1, 0, 0, 0), (1480, .iaload, 1, 0, 0, 0), (1481, .aload_n 0, 1, 0, 0, 0), (1482, .iload 4, 2, 0, 0, 0), (1484, .iconst 2, 1, 0, 0, 0), (1485, .iadd, 1, 0, 0, 0), (1486, .iaload, 1, 0, 0, 0), (1487, .invokevirtual 164, 3, 201, 0, 2), (1490, .istore 6, 2, 0, 0, 0), (1492, .aload_n 2, 1, 0, 0, 0), (1493, .invokevirtual 98, 3, 24, 0, 0), (1496, .iload 5, 2, 0, 0, 0), (1498, .if_icmp .eq 5, 3, 0, 0, 0), (1501, .iconst 0, 1, 0, 0, 0), (1502, .ireturn, 1, 0, 0, 0), (1503, .iload 5, 2, 0, 0, 0), (1505, .ifCond .ne 15, 3, 0, 0, 0), (1508, .aload_n 3, 1, 0, 0, 0), (1509, .iconst 0, 1, 0, 0, 0), (1510, .laload, 1, 0, 0, 0), (1511, .iload 6, 2, 0, 0, 0), (1513, .i2l, 1, 0, 0, 0), (1514, .lcmp, 1, 0, 0, 0), (1515, .ifCond .eq 5, 3, 0, 0, 0), (1518, .iconst 0, 1, 0, 0, 0), (1519, .ireturn, 1, 0, 0, 0), (1520, .goto 263, 3, 0, 0, 0), (1523, .aload_n 1, 1, 0, 0, 0), (1524, .aload_n 0, 1, 0, 0, 0), (1525, .iload 4, 2, 0, 0, 0), (1527, .iconst 1, 1, 0, 0, 0), (1528, .iadd, 1, 0, 0, 0), (1529, .iaload, 1, 0, 0, 0), (1530, .aload_n 0, 1, 0, 0, 0), (1531, .iload 4, 2, 0, 0, 0), (1533, .iconst 2, 1, 0, 0, 0), (1534, .iadd, 1, 0, 0, 0), (1535, .iaload, 1, 0, 0, 0), (1536, .aload_n 3, 1, 0, 0, 0), (1537, .invokestatic 165, 3, 203, 0, 4), (1540, .istore 5, 2, 0, 0, 0), (1542, .aload_n 2, 1, 0, 0, 0), (1543, .aload_n 0, 1, 0, 0, 0)]
def zl_221_16 : List zN := [(1544, .iload 4, 2, 0, 0, 0), (1546, .iconst 1, 1, 0, 0, 0), (1547, .iadd, 1, 0, 0, 0), (1548, .iaload, 1, 0, 0, 0), (1549, .aload_n 0, 1, 0, 0, 0), (1550, .iload 4, 2, 0, 0, 0), (1552, .iconst 2, 1, 0, 0, 0), (1553, .iadd, 1, 0, 0, 0), (1554, .iaload, 1, 0, 0, 0), (1555, .invokevirtual 167, 3, 204, 0, 2), (1558, .istore 6, 2, 0, 0, 0), (1560, .aload_n 2, 1, 0, 0, 0), (1561, .invokevirtual 98, 3, 24, 0, 0), (1564, .iload 5, 2, 0, 0, 0), (1566, .if_icmp .eq 5, 3, 0, 0, 0), (1569, .iconst 0, 1, 0, 0, 0), (1570, .ireturn, 1, 0, 0, 0), (1571, .iload 5, 2, 0, 0, 0), (1573, .ifCond .ne 15, 3, 0, 0, 0), (1576, .aload_n 3, 1, 0, 0, 0), (1577, .iconst 0, 1, 0, 0, 0), (1578, .laload, 1, 0, 0, 0), (1579, .iload 6, 2, 0, 0, 0), (1581, .i2l, 1, 0, 0, 0), (1582, .lcmp, 1, 0, 0, 0), (1583, .ifCond .eq 5, 3, 0, 0, 0), (1586, .iconst 0, 1, 0, 0, 0), (1587, .ireturn, 1, 0, 0, 0), (1588, .goto 195, 3, 0, 0, 0), (1591, .aload_n 1, 1, 0, 0, 0), (1592, .aload_n 0, 1, 0, 0, 0), (1593, .iload 4, 2, 0, 0, 0), (1595, .iconst 1, 1, 0, 0, 0), (1596, .iadd, 1, 0, 0, 0), (1597, .iaload, 1, 0, 0, 0), (1598, .aload_n 0, 1, 0, 0, 0), (1599, .iload 4, 2, 0, 0, 0), (1601, .iconst 2, 1, 0, 0, 0), (1602, .iadd, 1, 0, 0, 0), (1603, .iaload, 1, 0, 0, 0), (1604, .aload_n 3, 1, 0, 0, 0), (1605, .invokestatic 168, 3, 207, 0, 4), (1608, .istore 5, 2, 0, 0, 0), (1610, .aload_n 2, 1, 0, 0, 0), (1611, .aload_n 0, 1, 0, 0, 0), (1612, .iload 4, 2, 0, 0, 0), (1614, .iconst 1, 1, 0, 0, 0), (1615, .iadd, 1, 0, 0, 0), (1616, .iaload, 1, 0, 0, 0), (1617, .aload_n 0, 1, 0, 0, 0), (1618, .iload 4, 2, 0, 0, 0), (1620, .iconst 2, 1, 0, 0, 0), (1621, .iadd, 1, 0, 0, 0), (1622, .iaload, 1, 0, 0, 0), (1623, .invokevirtual 170, 3, 210, 0, 2), (1626, .istore 6, 2, 0, 0, 0), (1628, .aload_n 2, 1, 0, 0, 0), (1629, .invokevirtual 98, 3, 24, 0, 0), (1632, .iload 5, 2, 0, 0, 0), (1634, .if_icmp .eq 5, 3, 0, 0, 0)]
def zl_221_17 : List zN := [(1637, .iconst 0, 1, 0, 0, 0), (1638, .ireturn, 1, 0, 0, 0), (1639, .iload 5, 2, 0, 0, 0), (1641, .ifCond .ne 15, 3, 0, 0, 0), (1644, .aload_n 3, 1, 0, 0, 0), (1645, .iconst 0, 1, 0, 0, 0), (1646, .laload, 1, 0, 0, 0), (1647, .iload 6, 2, 0, 0, 0), (1649, .i2l, 1, 0, 0, 0), (1650, .lcmp, 1, 0, 0, 0), (1651, .ifCond .eq 5, 3, 0, 0, 0), (1654, .iconst 0, 1, 0, 0, 0), (1655, .ireturn, 1, 0, 0, 0), (1656, .goto 127, 3, 0, 0, 0), (1659, .aload_n 1, 1, 0, 0, 0), (1660, .aload_n 0, 1, 0, 0, 0), (1661, .iload 4, 2, 0, 0, 0), (1663, .iconst 1, 1, 0, 0, 0), (1664, .iadd, 1, 0, 0, 0), (1665, .iaload, 1, 0, 0, 0), (1666, .aload_n 0, 1, 0, 0, 0), (1667, .iload 4, 2, 0, 0, 0), (1669, .iconst 2, 1, 0, 0, 0), (1670, .iadd, 1, 0, 0, 0), (1671, .iaload, 1, 0, 0, 0), (1672, .aload_n 3, 1, 0, 0, 0), (1673, .invokestatic 171, 3, 213, 0, 4), (1676, .istore 5, 2, 0, 0, 0), (1678, .aload_n 2, 1, 0, 0, 0), (1679, .aload_n 0, 1, 0, 0, 0), (1680, .iload 4, 2, 0, 0, 0), (1682, .iconst 1, 1, 0, 0, 0), (1683, .iadd, 1, 0, 0, 0), (1684, .iaload, 1, 0, 0, 0), (1685, .aload_n 0, 1, 0, 0, 0), (1686, .iload 4, 2, 0, 0, 0), (1688, .iconst 2, 1, 0, 0, 0), (1689, .iadd, 1, 0, 0, 0), (1690, .iaload, 1, 0, 0, 0), (1691, .invokevirtual 173, 3, 214, 0, 2), (1694, .istore 6, 2, 0, 0, 0), (1696, .aload_n 2, 1, 0, 0, 0), (1697, .invokevirtual 98, 3, 24, 0, 0), (1700, .iload 5, 2, 0, 0, 0), (1702, .if_icmp .eq 5, 3, 0, 0, 0), (1705, .iconst 0, 1, 0, 0, 0), (1706, .ireturn, 1, 0, 0, 0), (1707, .iload 5, 2, 0, 0, 0), (1709, .ifCond .ne 15, 3, 0, 0, 0), (1712, .aload_n 3, 1, 0, 0, 0), (1713, .iconst 0, 1, 0, 0, 0), (1714, .laload, 1, 0, 0, 0), (1715, .iload 6, 2, 0, 0, 0), (1717, .i2l, 1, 0, 0, 0), (1718, .lcmp, 1, 0, 0, 0), (1719, .ifCond .eq 5, 3, 0, 0, 0), (1722, .iconst 0, 1, 0, 0, 0), (1723, .ireturn, 1, 0, 0, 0), (1724, .goto 59, 3, 0, 0, 0), (1727, .aload_n 1, 1, 0, 0, 0)]
def zl_221_18 : List zN := [(1728, .aload_n 0, 1, 0, 0, 0), (1729, .iload 4, 2, 0, 0, 0), (1731, .iconst 1, 1, 0, 0, 0), (1732, .iadd, 1, 0, 0, 0), (1733, .iaload, 1, 0, 0, 0), (1734, .aload_n 3, 1, 0, 0, 0), (1735, .invokestatic 174, 3, 219, 0, 3), (1738, .istore 5, 2, 0, 0, 0), (1740, .aload_n 2, 1, 0, 0, 0), (1741, .aload_n 0, 1, 0, 0, 0), (1742, .iload 4, 2, 0, 0, 0), (1744, .iconst 1, 1, 0, 0, 0), (1745, .iadd, 1, 0, 0, 0), (1746, .iaload, 1, 0, 0, 0), (1747, .invokevirtual 176, 3, 220, 0, 1), (1750, .istore 6, 2, 0, 0, 0), (1752, .aload_n 2, 1, 0, 0, 0), (1753, .invokevirtual 98, 3, 24, 0, 0), (1756, .iload 5, 2, 0, 0, 0), (1758, .if_icmp .eq 5, 3, 0, 0, 0), (1761, .iconst 0, 1, 0, 0, 0), (1762, .ireturn, 1, 0, 0, 0), (1763, .iload 5, 2, 0, 0, 0), (1765, .ifCond .ne 15, 3, 0, 0, 0), (1768, .aload_n 3, 1, 0, 0, 0), (1769, .iconst 0, 1, 0, 0, 0), (1770, .laload, 1, 0, 0, 0), (1771, .iload 6, 2, 0, 0, 0), (1773, .i2l, 1, 0, 0, 0), (1774, .lcmp, 1, 0, 0, 0), (1775, .ifCond .eq 5, 3, 0, 0, 0), (1778, .iconst 0, 1, 0, 0, 0), (1779, .ireturn, 1, 0, 0, 0), (1780, .goto 3, 3, 0, 0, 0), (1783, .iinc 4 7, 3, 0, 0, 0), (1786, .goto (-1763), 3, 0, 0, 0), (1789, .iconst 1, 1, 0, 0, 0), (1790, .ireturn, 1, 0, 0, 0)]
def zm_221 : zM := (⟨"NestedPagerLaw", "law", "([I)Z"⟩, code, 7, (some (.boolean)), (15, 682, 601024, 7293034), (1, 99, 1, 0, 0, 0), zl_221_0 ++ (zl_221_1 ++ (zl_221_2 ++ (zl_221_3 ++ (zl_221_4 ++ (zl_221_5 ++ (zl_221_6 ++ (zl_221_7 ++ (zl_221_8 ++ (zl_221_9 ++ (zl_221_10 ++ (zl_221_11 ++ (zl_221_12 ++ (zl_221_13 ++ (zl_221_14 ++ (zl_221_15 ++ (zl_221_16 ++ (zl_221_17 ++ (zl_221_18)))))))))))))))))), [])
end
section
/-! THE PROGRAM, and how its instructions are known -/
def zPg : List zM := [zm_0, zm_1, zm_2, zm_3, zm_4, zm_5, zm_6, zm_7, zm_8, zm_9, zm_10, zm_11, zm_12, zm_13, zm_14, zm_15, zm_16, zm_17, zm_18, zm_19, zm_20, zm_21, zm_22, zm_23, zm_24, zm_25, zm_26, zm_27, zm_28, zm_29, zm_30, zm_31, zm_32, zm_33, zm_34, zm_35, zm_36, zm_37, zm_38, zm_39, zm_40, zm_41, zm_42, zm_43, zm_44, zm_45, zm_46, zm_47, zm_48, zm_49, zm_50, zm_51, zm_52, zm_53, zm_54, zm_55, zm_56, zm_57, zm_58, zm_59, zm_60, zm_61, zm_62, zm_63, zm_64, zm_65, zm_66, zm_67, zm_68, zm_69, zm_70, zm_71, zm_72, zm_73, zm_74, zm_75, zm_76, zm_77, zm_78, zm_79, zm_80, zm_81, zm_82, zm_83, zm_84, zm_85, zm_86, zm_87, zm_88, zm_89, zm_90, zm_91, zm_92, zm_93, zm_94, zm_95, zm_96, zm_97, zm_98, zm_99, zm_100, zm_101, zm_102, zm_103, zm_104, zm_105, zm_106, zm_107, zm_108, zm_109, zm_110, zm_111, zm_112, zm_113, zm_114, zm_115, zm_116, zm_117, zm_118, zm_119, zm_120, zm_121, zm_122, zm_123, zm_124, zm_125, zm_126, zm_127, zm_128, zm_129, zm_130, zm_131, zm_132, zm_133, zm_134, zm_135, zm_136, zm_137, zm_138, zm_139, zm_140, zm_141, zm_142, zm_143, zm_144, zm_145, zm_146, zm_147, zm_148, zm_149, zm_150, zm_151, zm_152, zm_153, zm_154, zm_155, zm_156, zm_157, zm_158, zm_159, zm_160, zm_161, zm_162, zm_163, zm_164, zm_165, zm_166, zm_167, zm_168, zm_169, zm_170, zm_171, zm_172, zm_173, zm_174, zm_175, zm_176, zm_177, zm_178, zm_179, zm_180, zm_181, zm_182, zm_183, zm_184, zm_185, zm_186, zm_187, zm_188, zm_189, zm_190, zm_191, zm_192, zm_193, zm_194, zm_195, zm_196, zm_197, zm_198, zm_199, zm_200, zm_201, zm_202, zm_203, zm_204, zm_205, zm_206, zm_207, zm_208, zm_209, zm_210, zm_211, zm_212, zm_213, zm_214, zm_215, zm_216, zm_217, zm_218, zm_219, zm_220]
def zword (M : zM) (en : zN) : Option Cond := match en.2.1 with
  | .ldc k => some (.constant (zName M).cls k (Int32.ofNat en.2.2.2.1))
  | .ldc_w k => some (.constant (zName M).cls k (Int32.ofNat en.2.2.2.1))
  | .getfield k => (vwCl[en.2.2.2.1]?).map fun q => .fieldLink (zName M).cls k q.1 (q.2.1 en.2.2.2.2.1).2.1 (q.2.1 en.2.2.2.2.1).2.2.1
  | .putfield k => (vwCl[en.2.2.2.1]?).map fun q => .fieldLink (zName M).cls k q.1 (q.2.1 en.2.2.2.2.1).2.1 (q.2.1 en.2.2.2.2.1).2.2.1
  | .getstatic k => some (.fieldLink (zName M).cls k (zsf en.2.2.2.1).1 (zsf en.2.2.2.1).2.1 (zsf en.2.2.2.1).2.2)
  | .new k => (match en.2.2.2.2.1 with
    | 1 => none
    | _ => (vwCl[en.2.2.2.1]?).map fun q => .classLink (zName M).cls k q.1)
  | .anewarray k => some (.classLink (zName M).cls k (zAn en.2.2.2.1))
  | i => (match zcl i with
    | none => none
    | some _ => (match en.2.2.2.2.1 with
      | 0 => (zPg[en.2.2.2.1]?).map fun M' => .methodLink (zName M).cls (zIx i) (zName M')
      | 1 => (zPg[en.2.2.2.1]?).map fun M' => .methodLinkNest (zName M).cls (zIx i) (zName M') "NestedPager"
      | 2 => some (.methodLink (zName M).cls (zIx i) Lib.objectInit)
      | 3 => some (.methodLink (zName M).cls (zIx i) Lib.Math.min.name)
      | _ => none))
def zNp (M : zM) : Nat := (zKind M).2.2.1
def zck (en : zN) : Bool := Nat.beq en.2.2.1 (zlen en.2.1 en.2.2.1) && (match en.2.1 with
  | .getfield _ => (match vwCl[en.2.2.2.1]? with
    | some q => Nat.blt en.2.2.2.2.1 q.2.2
    | none => false)
  | .putfield _ => (match vwCl[en.2.2.2.1]? with
    | some q => Nat.blt en.2.2.2.2.1 q.2.2
    | none => false)
  | .getstatic _ => Nat.beq en.2.2.2.1 1
  | .new _ => Nat.beq en.2.2.2.2.1 1 || Nat.blt en.2.2.2.1 12
  | .newarray t => (match zkd t with
    | some _ => true
    | none => false)
  | i => (match zcl i with
    | none => true
    | some kd => (match en.2.2.2.2.1 with
      | 0 => (match zPg[en.2.2.2.1]? with
        | some M' => Nat.beq (zNp M') en.2.2.2.2.2
        | none => true)
      | 1 => (match zPg[en.2.2.2.1]? with
        | some M' => Nat.beq (zNp M') en.2.2.2.2.2 && (!(Nat.beq kd 0) && (zTab M').isEmpty)
        | none => true)
      | 2 => true
      | 3 => true
      | _ => (match zPg[en.2.2.2.1]? with
        | some _ => false
        | none => true))))
def zgN (w : Cond) : Bool := goodWord w || zisN w

set_option maxRecDepth 100000 in
theorem za_boolean : Cond.arrayClass .boolean ∈ zTs := zTs_at 130 rfl rfl
set_option maxRecDepth 100000 in
theorem za_int : Cond.arrayClass .int ∈ zTs := zTs_at 129 rfl rfl
set_option maxRecDepth 100000 in
theorem za_long : Cond.arrayClass .long ∈ zTs := zTs_at 1441 rfl rfl
set_option maxRecDepth 100000 in
theorem zmk_0 : Cond.instantiable RX0 3 ∈ zTs ∧ Cond.initialized RX0 ∈ zTs := ⟨zTs_at 318 rfl rfl, zTs_at 68 rfl rfl⟩
set_option maxRecDepth 100000 in
theorem zmk_1 : Cond.instantiable RX1 4 ∈ zTs ∧ Cond.initialized RX1 ∈ zTs := ⟨zTs_at 141 rfl rfl, zTs_at 63 rfl rfl⟩
set_option maxRecDepth 100000 in
theorem zmk_2 : Cond.instantiable RX2 14 ∈ zTs ∧ Cond.initialized RX2 ∈ zTs := ⟨zTs_at 135 rfl rfl, zTs_at 62 rfl rfl⟩
set_option maxRecDepth 100000 in
theorem zmk_3 : Cond.instantiable RX3 6 ∈ zTs ∧ Cond.initialized RX3 ∈ zTs := ⟨zTs_at 252 rfl rfl, zTs_at 66 rfl rfl⟩
set_option maxRecDepth 100000 in
theorem zmk_4 : Cond.instantiable RX4 2 ∈ zTs ∧ Cond.initialized RX4 ∈ zTs := ⟨zTs_at 164 rfl rfl, zTs_at 64 rfl rfl⟩
set_option maxRecDepth 100000 in
theorem zmk_5 : Cond.instantiable RX5 9 ∈ zTs ∧ Cond.initialized RX5 ∈ zTs := ⟨zTs_at 87 rfl rfl, zTs_at 61 rfl rfl⟩
set_option maxRecDepth 100000 in
theorem zmk_6 : Cond.instantiable RX6 1 ∈ zTs ∧ Cond.initialized RX6 ∈ zTs := ⟨zTs_at 306 rfl rfl, zTs_at 67 rfl rfl⟩
set_option maxRecDepth 100000 in
theorem zmk_7 : Cond.instantiable RX7 3 ∈ zTs ∧ Cond.initialized RX7 ∈ zTs := ⟨zTs_at 348 rfl rfl, zTs_at 70 rfl rfl⟩
set_option maxRecDepth 100000 in
theorem zmk_8 : Cond.instantiable RX8 2 ∈ zTs ∧ Cond.initialized RX8 ∈ zTs := ⟨zTs_at 335 rfl rfl, zTs_at 69 rfl rfl⟩
set_option maxRecDepth 100000 in
theorem zmk_9 : Cond.instantiable RX9 5 ∈ zTs ∧ Cond.initialized RX9 ∈ zTs := ⟨zTs_at 246 rfl rfl, zTs_at 65 rfl rfl⟩
set_option maxRecDepth 100000 in
theorem zmk_10 : Cond.instantiable RX10 9 ∈ zTs ∧ Cond.initialized RX10 ∈ zTs := ⟨zTs_at 79 rfl rfl, zTs_at 60 rfl rfl⟩
set_option maxRecDepth 100000 in
theorem zmk_11 : Cond.instantiable RX11 42 ∈ zTs ∧ Cond.initialized RX11 ∈ zTs := ⟨zTs_at 1030 rfl rfl, zTs_at 71 rfl rfl⟩
set_option maxRecDepth 100000 in
theorem zob : Cond.instanceMethod Lib.objectInit ∈ zTs ∧ Cond.code Lib.objectInit ⟨#[0xb1]⟩ 1 none ∈ zTs := ⟨zTs_at 84 rfl rfl, zTs_at 85 rfl rfl⟩
set_option maxRecDepth 100000 in
theorem zmi : Cond.static Lib.Math.min.name ∈ zTs ∧ Cond.initialized "java/lang/Math" ∈ zTs ∧ Cond.code Lib.Math.min.name Lib.Math.min.code 2 (some .int) ∈ zTs := ⟨zTs_at 624 rfl rfl, zTs_at 77 rfl rfl, zTs_at 625 rfl rfl⟩
theorem zdv_ok : ∀ ci, ci < 12 → ∀ j, j < zfn ci → defaultValue (zft ci j).1 = zdv (zft ci j).1 := by decide +kernel
theorem znw {ci : Nat} {q : vw_C} (h : vwCl[ci]? = some q) : q.2.2 = zfn ci ∧ Cond.instantiable q.1 (zfn ci) ∈ zTs ∧ Cond.initialized q.1 ∈ zTs ∧ ∀ j, j < zfn ci → defaultValue (zft ci j).1 = zdv (zft ci j).1 := by
  have hl : ci < 12 := (List.getElem?_eq_some_iff.mp h).1
  match ci, h, hl with
  | 0, h, hl => cases h; exact ⟨rfl, zmk_0.1, zmk_0.2, zdv_ok _ hl⟩
  | 1, h, hl => cases h; exact ⟨rfl, zmk_1.1, zmk_1.2, zdv_ok _ hl⟩
  | 2, h, hl => cases h; exact ⟨rfl, zmk_2.1, zmk_2.2, zdv_ok _ hl⟩
  | 3, h, hl => cases h; exact ⟨rfl, zmk_3.1, zmk_3.2, zdv_ok _ hl⟩
  | 4, h, hl => cases h; exact ⟨rfl, zmk_4.1, zmk_4.2, zdv_ok _ hl⟩
  | 5, h, hl => cases h; exact ⟨rfl, zmk_5.1, zmk_5.2, zdv_ok _ hl⟩
  | 6, h, hl => cases h; exact ⟨rfl, zmk_6.1, zmk_6.2, zdv_ok _ hl⟩
  | 7, h, hl => cases h; exact ⟨rfl, zmk_7.1, zmk_7.2, zdv_ok _ hl⟩
  | 8, h, hl => cases h; exact ⟨rfl, zmk_8.1, zmk_8.2, zdv_ok _ hl⟩
  | 9, h, hl => cases h; exact ⟨rfl, zmk_9.1, zmk_9.2, zdv_ok _ hl⟩
  | 10, h, hl => cases h; exact ⟨rfl, zmk_10.1, zmk_10.2, zdv_ok _ hl⟩
  | 11, h, hl => cases h; exact ⟨rfl, zmk_11.1, zmk_11.2, zdv_ok _ hl⟩
/-- the methods' own numbers: how many parameters -/
theorem zNp_ok : zPg.all (fun M => decide ((parseMethodDescriptor (zName M).desc).map (fun d => d.parameters.length) = some (zNp M))) = true := by decide +kernel
theorem zNp_at {z : Nat} {M' : zM} (h : zPg[z]? = some M') : (parseMethodDescriptor (zName M').desc).map (fun d => d.parameters.length) = some (zNp M') := of_decide_eq_true (List.all_eq_true.mp zNp_ok M' (List.mem_of_getElem? h))
def zIa (M : zM) (ins : Instr) (a b : Nat) : Prop := match b with
  | 0 => ∀ w, (zPg[a]?).map (fun M' => Cond.methodLink (zName M).cls (zIx ins) (zName M')) = some w → zisN w = false → w ∈ zTs
  | 1 => ∀ w, (zPg[a]?).map (fun M' => Cond.methodLinkNest (zName M).cls (zIx ins) (zName M') "NestedPager") = some w → zisN w = true → w ∈ zNw
  | 2 => Cond.methodLink (zName M).cls (zIx ins) Lib.objectInit ∈ zTs
  | 3 => Cond.methodLink (zName M).cls (zIx ins) Lib.Math.min.name ∈ zTs
  | _ => zPg[a]? = none
def zIb (kd a b w0 : Nat) : Prop := match b with
  | 0 => ∀ M', zPg[a]? = some M' → zNp M' = w0
  | 1 => ∀ M', zPg[a]? = some M' → zNp M' = w0 ∧ kd ≠ 0 ∧ zTab M' = []
  | _ => True
theorem zNok_of {M : zM} (L : List zN) (ps : List Nat) (hd : L.all (fun en => decide (decode (zCode M) en.1 = .ok (en.2.1, en.2.2.1))) = true) (hk : L.all zck = true) (hw : ps.map (fun i => lw_tbl[i]?) = (L.filterMap (zword M)).map some) (hg : (L.filterMap (zword M)).all zgN = true) : ∀ en ∈ L, zNok zTs zNw zPg vwCl zft zfn zsf M en := by
  intro en hen
  have h1 := of_decide_eq_true (List.all_eq_true.mp hd en hen)
  have h2 := List.all_eq_true.mp hk en hen
  have h3 : ∀ w, zword M en = some w → w ∈ lw_tbl ∧ zgN w = true := by
    intro w hww
    have hm : w ∈ L.filterMap (zword M) := List.mem_filterMap.mpr ⟨en, hen, hww⟩
    have h4 : some w ∈ (L.filterMap (zword M)).map some := List.mem_map.mpr ⟨w, hm, rfl⟩
    rw [← hw] at h4
    obtain ⟨i, -, hi⟩ := List.mem_map.mp h4
    exact ⟨List.mem_of_getElem? hi, List.all_eq_true.mp hg w hm⟩
  have hT : ∀ w, zword M en = some w → zisN w = false → w ∈ zTs := by
    intro w hww hn
    obtain ⟨a1, a2⟩ := h3 w hww
    unfold zgN at a2
    rw [hn, Bool.or_false] at a2
    exact List.mem_filter.mpr ⟨a1, a2⟩
  have hNN : ∀ w, zword M en = some w → zisN w = true → w ∈ zNw := fun w hww hn => List.mem_filter.mpr ⟨(h3 w hww).1, hn⟩
  clear h3 hd hk hw hg
  obtain ⟨pc, ins, len, a, b, w0⟩ := en
  unfold zck at h2
  rw [Bool.and_eq_true] at h2
  obtain ⟨h2a, h2b⟩ := h2
  have hln := Nat.eq_of_beq_eq_true h2a
  unfold zword at hT hNN
  unfold zNok zEok zIok zKok
  dsimp only at *
  refine ⟨⟨⟨h1, hln⟩, ?_⟩, ?_, ?_, ?_⟩
  · split
    · exact hT _ rfl rfl
    · exact hT _ rfl rfl
    · dsimp only at h2b hT
      cases hq : vwCl[a]? with
      | none => rw [hq] at h2b; cases h2b
      | some q => rw [hq] at h2b; exact ⟨q, rfl, Nat.le_of_ble_eq_true h2b, hT _ (by rw [hq]; rfl) rfl⟩
    · dsimp only at h2b hT
      cases hq : vwCl[a]? with
      | none => rw [hq] at h2b; cases h2b
      | some q => rw [hq] at h2b; exact ⟨q, rfl, Nat.le_of_ble_eq_true h2b, hT _ (by rw [hq]; rfl) rfl⟩
    · exact hT _ rfl rfl
    · trivial
  · intro kd hkd
    have hins : ∃ ix, ins = .invokevirtual ix ∨ ins = .invokestatic ix ∨ ins = .invokespecial ix := by
      unfold zcl at hkd
      split at hkd
      · exact ⟨_, Or.inl rfl⟩
      · exact ⟨_, Or.inr (Or.inl rfl)⟩
      · exact ⟨_, Or.inr (Or.inr rfl)⟩
      · cases hkd
    have hgen : zIa M ins a b ∧ zIb kd a b w0 := by
      obtain ⟨ix', rfl | rfl | rfl⟩ := hins <;> cases hkd <;>
      · dsimp only [zcl] at h2b hT hNN
        match b with
        | 0 => exact ⟨fun w hw hn => hT w hw hn, fun M' hM' => by rw [hM'] at h2b; exact Nat.eq_of_beq_eq_true h2b⟩
        | 1 => exact ⟨fun w hw hn => hNN w hw hn, fun M' hM' => by
            rw [hM'] at h2b
            simp only [Bool.and_eq_true] at h2b
            refine ⟨Nat.eq_of_beq_eq_true h2b.1, ?_, List.isEmpty_iff.mp h2b.2.2⟩
            first | decide | (exact absurd h2b.2.1 (by decide))⟩
        | 2 => exact ⟨hT _ rfl rfl, trivial⟩
        | 3 => exact ⟨hT _ rfl rfl, trivial⟩
        | k + 4 =>
          refine ⟨?_, trivial⟩
          have h2c : (match zPg[a]? with
            | some _ => false
            | none => true) = true := h2b
          show zPg[a]? = none
          cases hpp : zPg[a]? with
          | none => rfl
          | some M' => rw [hpp] at h2c; cases h2c
    obtain ⟨g1, g2⟩ := hgen
    match b, g1, g2 with
    | 0, g1, g2 => exact fun M' hM' => ⟨Or.inr (g1 _ (by rw [hM']; rfl) rfl), by rw [← g2 M' hM']; exact zNp_at hM'⟩
    | 1, g1, g2 => exact fun M' hM' => ⟨Or.inl ⟨(g2 M' hM').2.1, rfl, (g2 M' hM').2.2, _, g1 _ (by rw [hM']; rfl) rfl⟩, by rw [← (g2 M' hM').1]; exact zNp_at hM'⟩
    | 2, g1, g2 => exact ⟨g1, zob.1, zob.2⟩
    | 3, g1, g2 => exact ⟨g1, zmi.1, zmi.2.1, zmi.2.2⟩
    | k + 4, g1, g2 =>
      intro M' hM'
      have g3 : zPg[a]? = none := g1
      rw [g3] at hM'
      cases hM'
  · split
    · rename_i ix
      intro hb1
      dsimp only at h2b hT
      have hlt : a < 12 := by
        rw [Bool.or_eq_true] at h2b
        rcases h2b with h | h
        · exact absurd (Nat.eq_of_beq_eq_true h) hb1
        · exact Nat.le_of_ble_eq_true h
      obtain ⟨q, hq⟩ : ∃ q, vwCl[a]? = some q := ⟨_, List.getElem?_eq_getElem (show a < vwCl.length from hlt)⟩
      obtain ⟨k1, k2, k3, k4⟩ := znw hq
      refine ⟨q, hq, k1, ?_, k2, k3, k4⟩
      have h7 : (vwCl[a]?).map (fun q => Cond.classLink (zName M).cls ix q.1) = some (Cond.classLink (zName M).cls ix q.1) := by rw [hq]; rfl
      match b, hb1, hT with
      | 0, _, hT => exact hT _ h7 rfl
      | k + 2, _, hT => exact hT _ h7 rfl
    · rename_i t
      cases t <;> first | exact za_boolean | exact za_int | exact za_long | (cases h2b)
    · exact hT _ rfl rfl
    · trivial
  · intro k hk9
    subst hk9
    dsimp only at h2b
    rw [Nat.eq_of_beq_eq_true h2b]
    decide
end
section
/-! EACH METHOD KNOWN, by program -/
set_option maxRecDepth 100000 in
theorem zv_0 : ∀ en ∈ zIns zm_0, zNok zTs zNw zPg vwCl zft zfn zsf zm_0 en := zNok_of (zIns zm_0) [91, 92, 97, 99, 101, 103, 104, 105, 106, 108, 99, 101] (by decide +kernel) (by decide +kernel) (by decide +kernel) (by decide +kernel)
set_option maxRecDepth 100000 in
theorem zv_1 : ∀ en ∈ zIns zm_1, zNok zTs zNw zPg vwCl zft zfn zsf zm_1 en := zNok_of (zIns zm_1) [145, 146, 148, 150, 152] (by decide +kernel) (by decide +kernel) (by decide +kernel) (by decide +kernel)
set_option maxRecDepth 100000 in
theorem zv_2 : ∀ en ∈ zIns zm_2, zNok zTs zNw zPg vwCl zft zfn zsf zm_2 en := zNok_of (zIns zm_2) [168, 169, 170] (by decide +kernel) (by decide +kernel) (by decide +kernel) (by decide +kernel)
set_option maxRecDepth 100000 in
theorem zv_3 : ∀ en ∈ zIns zm_3, zNok zTs zNw zPg vwCl zft zfn zsf zm_3 en := zNok_of (zIns zm_3) [139, 183, 211, 140, 142, 212, 163, 165, 214, 179] (by decide +kernel) (by decide +kernel) (by decide +kernel) (by decide +kernel)
set_option maxRecDepth 100000 in
theorem zv_4 : ∀ en ∈ zIns zm_4, zNok zTs zNw zPg vwCl zft zfn zsf zm_4 en := zNok_of (zIns zm_4) [256, 257, 259, 260, 261, 263, 264] (by decide +kernel) (by decide +kernel) (by decide +kernel) (by decide +kernel)
set_option maxRecDepth 100000 in
theorem zv_5 : ∀ en ∈ zIns zm_5, zNok zTs zNw zPg vwCl zft zfn zsf zm_5 en := zNok_of (zIns zm_5) [250, 280, 283, 288, 251, 253, 290, 278] (by decide +kernel) (by decide +kernel) (by decide +kernel) (by decide +kernel)
set_option maxRecDepth 100000 in
theorem zv_6 : ∀ en ∈ zIns zm_6, zNok zTs zNw zPg vwCl zft zfn zsf zm_6 en := zNok_of (zIns zm_6) [310, 311] (by decide +kernel) (by decide +kernel) (by decide +kernel) (by decide +kernel)
set_option maxRecDepth 100000 in
theorem zv_7 : ∀ en ∈ zIns zm_7, zNok zTs zNw zPg vwCl zft zfn zsf zm_7 en := zNok_of (zIns zm_7) [322, 323, 324, 325] (by decide +kernel) (by decide +kernel) (by decide +kernel) (by decide +kernel)
set_option maxRecDepth 100000 in
theorem zv_8 : ∀ en ∈ zIns zm_8, zNok zTs zNw zPg vwCl zft zfn zsf zm_8 en := zNok_of (zIns zm_8) [339, 340, 341] (by decide +kernel) (by decide +kernel) (by decide +kernel) (by decide +kernel)
set_option maxRecDepth 100000 in
theorem zv_9 : ∀ en ∈ zIns zm_9, zNok zTs zNw zPg vwCl zft zfn zsf zm_9 en := zNok_of (zIns zm_9) [352, 353, 354, 355] (by decide +kernel) (by decide +kernel) (by decide +kernel) (by decide +kernel)
set_option maxRecDepth 100000 in
theorem zv_10 : ∀ en ∈ zIns zm_10, zNok zTs zNw zPg vwCl zft zfn zsf zm_10 en := zNok_of (zIns zm_10) [83, 86, 88, 363, 131, 364, 133, 365, 366, 367, 364, 131, 136, 365, 133, 247, 305, 363, 307, 368, 317, 368, 364, 365, 319, 369, 334, 368, 369, 336, 370, 347, 368, 369, 370, 349, 371] (by decide +kernel) (by decide +kernel) (by decide +kernel) (by decide +kernel)
set_option maxRecDepth 100000 in
theorem zv_11 : ∀ en ∈ zIns zm_11, zNok zTs zNw zPg vwCl zft zfn zsf zm_11 en := zNok_of (zIns zm_11) [1034, 1036, 1037, 1038, 1039, 1040, 1041, 1043, 1044, 1045, 1046, 1047, 1048, 1049, 1050, 1051, 1052, 1053, 1054, 1055, 1056, 1057, 1058, 1059, 1060, 1061, 1062, 1063, 1064, 1065, 1066, 1067, 1068, 1069, 1071, 1042] (by decide +kernel) (by decide +kernel) (by decide +kernel) (by decide +kernel)
set_option maxRecDepth 100000 in
theorem zv_12 : ∀ en ∈ zIns zm_12, zNok zTs zNw zPg vwCl zft zfn zsf zm_12 en := zNok_of (zIns zm_12) [] (by decide +kernel) (by decide +kernel) (by decide +kernel) (by decide +kernel)
set_option maxRecDepth 100000 in
theorem zv_13 : ∀ en ∈ zIns zm_13, zNok zTs zNw zPg vwCl zft zfn zsf zm_13 en := zNok_of (zIns zm_13) [] (by decide +kernel) (by decide +kernel) (by decide +kernel) (by decide +kernel)
set_option maxRecDepth 100000 in
theorem zv_14 : ∀ en ∈ zIns zm_14, zNok zTs zNw zPg vwCl zft zfn zsf zm_14 en := zNok_of (zIns zm_14) [97] (by decide +kernel) (by decide +kernel) (by decide +kernel) (by decide +kernel)
set_option maxRecDepth 100000 in
theorem zv_15 : ∀ en ∈ zIns zm_15, zNok zTs zNw zPg vwCl zft zfn zsf zm_15 en := zNok_of (zIns zm_15) [97, 99, 101] (by decide +kernel) (by decide +kernel) (by decide +kernel) (by decide +kernel)
set_option maxRecDepth 100000 in
theorem zv_16 : ∀ en ∈ zIns zm_16, zNok zTs zNw zPg vwCl zft zfn zsf zm_16 en := zNok_of (zIns zm_16) [146, 148, 150, 152] (by decide +kernel) (by decide +kernel) (by decide +kernel) (by decide +kernel)
set_option maxRecDepth 100000 in
theorem zv_17 : ∀ en ∈ zIns zm_17, zNok zTs zNw zPg vwCl zft zfn zsf zm_17 en := zNok_of (zIns zm_17) [183, 186, 189, 192, 195, 198, 201, 204, 206, 208, 212, 483, 214, 171] (by decide +kernel) (by decide +kernel) (by decide +kernel) (by decide +kernel)
set_option maxRecDepth 100000 in
theorem zv_18 : ∀ en ∈ zIns zm_18, zNok zTs zNw zPg vwCl zft zfn zsf zm_18 en := zNok_of (zIns zm_18) [395, 406, 363, 471, 364, 184, 363, 475, 363, 107, 364, 479] (by decide +kernel) (by decide +kernel) (by decide +kernel) (by decide +kernel)
set_option maxRecDepth 100000 in
theorem zv_19 : ∀ en ∈ zIns zm_19, zNok zTs zNw zPg vwCl zft zfn zsf zm_19 en := zNok_of (zIns zm_19) [402] (by decide +kernel) (by decide +kernel) (by decide +kernel) (by decide +kernel)
set_option maxRecDepth 100000 in
theorem zv_20 : ∀ en ∈ zIns zm_20, zNok zTs zNw zPg vwCl zft zfn zsf zm_20 en := zNok_of (zIns zm_20) [] (by decide +kernel) (by decide +kernel) (by decide +kernel) (by decide +kernel)
set_option maxRecDepth 100000 in
theorem zv_21 : ∀ en ∈ zIns zm_21, zNok zTs zNw zPg vwCl zft zfn zsf zm_21 en := zNok_of (zIns zm_21) [1035] (by decide +kernel) (by decide +kernel) (by decide +kernel) (by decide +kernel)
set_option maxRecDepth 100000 in
theorem zv_22 : ∀ en ∈ zIns zm_22, zNok zTs zNw zPg vwCl zft zfn zsf zm_22 en := zNok_of (zIns zm_22) [1037] (by decide +kernel) (by decide +kernel) (by decide +kernel) (by decide +kernel)
set_option maxRecDepth 100000 in
theorem zv_23 : ∀ en ∈ zIns zm_23, zNok zTs zNw zPg vwCl zft zfn zsf zm_23 en := zNok_of (zIns zm_23) [1170, 1173, 1043, 1177, 1043, 1044, 1037, 1038, 1039, 1045, 1046, 1047, 1048, 1049, 1050, 1051, 1053, 1056, 1057, 1058, 1060, 1055] (by decide +kernel) (by decide +kernel) (by decide +kernel) (by decide +kernel)
set_option maxRecDepth 100000 in
theorem zv_24 : ∀ en ∈ zIns zm_24, zNok zTs zNw zPg vwCl zft zfn zsf zm_24 en := zNok_of (zIns zm_24) [1035] (by decide +kernel) (by decide +kernel) (by decide +kernel) (by decide +kernel)
set_option maxRecDepth 100000 in
theorem zv_25 : ∀ en ∈ zIns zm_25, zNok zTs zNw zPg vwCl zft zfn zsf zm_25 en := zNok_of (zIns zm_25) [395] (by decide +kernel) (by decide +kernel) (by decide +kernel) (by decide +kernel)
set_option maxRecDepth 100000 in
theorem zv_26 : ∀ en ∈ zIns zm_26, zNok zTs zNw zPg vwCl zft zfn zsf zm_26 en := zNok_of (zIns zm_26) [] (by decide +kernel) (by decide +kernel) (by decide +kernel) (by decide +kernel)
set_option maxRecDepth 100000 in
theorem zv_27 : ∀ en ∈ zIns zm_27, zNok zTs zNw zPg vwCl zft zfn zsf zm_27 en := zNok_of (zIns zm_27) [364, 184, 502, 364] (by decide +kernel) (by decide +kernel) (by decide +kernel) (by decide +kernel)
set_option maxRecDepth 100000 in
theorem zv_28 : ∀ en ∈ zIns zm_28, zNok zTs zNw zPg vwCl zft zfn zsf zm_28 en := zNok_of (zIns zm_28) [280, 283] (by decide +kernel) (by decide +kernel) (by decide +kernel) (by decide +kernel)
set_option maxRecDepth 100000 in
theorem zv_29 : ∀ en ∈ zIns zm_29, zNok zTs zNw zPg vwCl zft zfn zsf zm_29 en := zNok_of (zIns zm_29) [97] (by decide +kernel) (by decide +kernel) (by decide +kernel) (by decide +kernel)
set_option maxRecDepth 100000 in
theorem zv_30 : ∀ en ∈ zIns zm_30, zNok zTs zNw zPg vwCl zft zfn zsf zm_30 en := zNok_of (zIns zm_30) [] (by decide +kernel) (by decide +kernel) (by decide +kernel) (by decide +kernel)
set_option maxRecDepth 100000 in
theorem zv_31 : ∀ en ∈ zIns zm_31, zNok zTs zNw zPg vwCl zft zfn zsf zm_31 en := zNok_of (zIns zm_31) [92, 540] (by decide +kernel) (by decide +kernel) (by decide +kernel) (by decide +kernel)
set_option maxRecDepth 100000 in
theorem zv_32 : ∀ en ∈ zIns zm_32, zNok zTs zNw zPg vwCl zft zfn zsf zm_32 en := zNok_of (zIns zm_32) [536, 92] (by decide +kernel) (by decide +kernel) (by decide +kernel) (by decide +kernel)
set_option maxRecDepth 100000 in
theorem zv_33 : ∀ en ∈ zIns zm_33, zNok zTs zNw zPg vwCl zft zfn zsf zm_33 en := zNok_of (zIns zm_33) [92, 97, 99, 101] (by decide +kernel) (by decide +kernel) (by decide +kernel) (by decide +kernel)
set_option maxRecDepth 100000 in
theorem zv_34 : ∀ en ∈ zIns zm_34, zNok zTs zNw zPg vwCl zft zfn zsf zm_34 en := zNok_of (zIns zm_34) [] (by decide +kernel) (by decide +kernel) (by decide +kernel) (by decide +kernel)
set_option maxRecDepth 100000 in
theorem zv_35 : ∀ en ∈ zIns zm_35, zNok zTs zNw zPg vwCl zft zfn zsf zm_35 en := zNok_of (zIns zm_35) [540, 547, 105, 551] (by decide +kernel) (by decide +kernel) (by decide +kernel) (by decide +kernel)
set_option maxRecDepth 100000 in
theorem zv_36 : ∀ en ∈ zIns zm_36, zNok zTs zNw zPg vwCl zft zfn zsf zm_36 en := zNok_of (zIns zm_36) [528, 532, 543, 99, 547, 528] (by decide +kernel) (by decide +kernel) (by decide +kernel) (by decide +kernel)
set_option maxRecDepth 100000 in
theorem zv_37 : ∀ en ∈ zIns zm_37, zNok zTs zNw zPg vwCl zft zfn zsf zm_37 en := zNok_of (zIns zm_37) [495, 406, 498, 365, 520, 365, 281, 184, 363, 190, 187, 524] (by decide +kernel) (by decide +kernel) (by decide +kernel) (by decide +kernel)
set_option maxRecDepth 100000 in
theorem zv_38 : ∀ en ∈ zIns zm_38, zNok zTs zNw zPg vwCl zft zfn zsf zm_38 en := zNok_of (zIns zm_38) [491] (by decide +kernel) (by decide +kernel) (by decide +kernel) (by decide +kernel)
set_option maxRecDepth 100000 in
theorem zv_39 : ∀ en ∈ zIns zm_39, zNok zTs zNw zPg vwCl zft zfn zsf zm_39 en := zNok_of (zIns zm_39) [1036, 1045] (by decide +kernel) (by decide +kernel) (by decide +kernel) (by decide +kernel)
set_option maxRecDepth 100000 in
theorem zv_40 : ∀ en ∈ zIns zm_40, zNok zTs zNw zPg vwCl zft zfn zsf zm_40 en := zNok_of (zIns zm_40) [1044, 1189, 1036] (by decide +kernel) (by decide +kernel) (by decide +kernel) (by decide +kernel)
set_option maxRecDepth 100000 in
theorem zv_41 : ∀ en ∈ zIns zm_41, zNok zTs zNw zPg vwCl zft zfn zsf zm_41 en := zNok_of (zIns zm_41) [] (by decide +kernel) (by decide +kernel) (by decide +kernel) (by decide +kernel)
set_option maxRecDepth 100000 in
theorem zv_42 : ∀ en ∈ zIns zm_42, zNok zTs zNw zPg vwCl zft zfn zsf zm_42 en := zNok_of (zIns zm_42) [1037, 1036] (by decide +kernel) (by decide +kernel) (by decide +kernel) (by decide +kernel)
set_option maxRecDepth 100000 in
theorem zv_43 : ∀ en ∈ zIns zm_43, zNok zTs zNw zPg vwCl zft zfn zsf zm_43 en := zNok_of (zIns zm_43) [1062] (by decide +kernel) (by decide +kernel) (by decide +kernel) (by decide +kernel)
set_option maxRecDepth 100000 in
theorem zv_44 : ∀ en ∈ zIns zm_44, zNok zTs zNw zPg vwCl zft zfn zsf zm_44 en := zNok_of (zIns zm_44) [1170, 1043, 1173, 1044, 1185, 1193, 1041, 1037, 1038, 1196, 1061, 1061, 1200, 1043] (by decide +kernel) (by decide +kernel) (by decide +kernel) (by decide +kernel)
set_option maxRecDepth 100000 in
theorem zv_45 : ∀ en ∈ zIns zm_45, zNok zTs zNw zPg vwCl zft zfn zsf zm_45 en := zNok_of (zIns zm_45) [288, 288, 288, 288, 288] (by decide +kernel) (by decide +kernel) (by decide +kernel) (by decide +kernel)
set_option maxRecDepth 100000 in
theorem zv_46 : ∀ en ∈ zIns zm_46, zNok zTs zNw zPg vwCl zft zfn zsf zm_46 en := zNok_of (zIns zm_46) [257, 264] (by decide +kernel) (by decide +kernel) (by decide +kernel) (by decide +kernel)
set_option maxRecDepth 100000 in
theorem zv_47 : ∀ en ∈ zIns zm_47, zNok zTs zNw zPg vwCl zft zfn zsf zm_47 en := zNok_of (zIns zm_47) [280, 283, 283, 283, 565, 290, 569] (by decide +kernel) (by decide +kernel) (by decide +kernel) (by decide +kernel)
set_option maxRecDepth 100000 in
theorem zv_48 : ∀ en ∈ zIns zm_48, zNok zTs zNw zPg vwCl zft zfn zsf zm_48 en := zNok_of (zIns zm_48) [495, 406, 498, 365, 281, 365, 561] (by decide +kernel) (by decide +kernel) (by decide +kernel) (by decide +kernel)
set_option maxRecDepth 100000 in
theorem zv_49 : ∀ en ∈ zIns zm_49, zNok zTs zNw zPg vwCl zft zfn zsf zm_49 en := zNok_of (zIns zm_49) [557] (by decide +kernel) (by decide +kernel) (by decide +kernel) (by decide +kernel)
set_option maxRecDepth 100000 in
theorem zv_50 : ∀ en ∈ zIns zm_50, zNok zTs zNw zPg vwCl zft zfn zsf zm_50 en := zNok_of (zIns zm_50) [1062] (by decide +kernel) (by decide +kernel) (by decide +kernel) (by decide +kernel)
set_option maxRecDepth 100000 in
theorem zv_51 : ∀ en ∈ zIns zm_51, zNok zTs zNw zPg vwCl zft zfn zsf zm_51 en := zNok_of (zIns zm_51) [1170, 1043, 1173, 1061, 1061, 1208, 1208, 1208, 1063, 1064, 1065] (by decide +kernel) (by decide +kernel) (by decide +kernel) (by decide +kernel)
set_option maxRecDepth 100000 in
theorem zv_52 : ∀ en ∈ zIns zm_52, zNok zTs zNw zPg vwCl zft zfn zsf zm_52 en := zNok_of (zIns zm_52) [395] (by decide +kernel) (by decide +kernel) (by decide +kernel) (by decide +kernel)
set_option maxRecDepth 100000 in
theorem zv_53 : ∀ en ∈ zIns zm_53, zNok zTs zNw zPg vwCl zft zfn zsf zm_53 en := zNok_of (zIns zm_53) [365, 281, 502, 365] (by decide +kernel) (by decide +kernel) (by decide +kernel) (by decide +kernel)
set_option maxRecDepth 100000 in
theorem zv_54 : ∀ en ∈ zIns zm_54, zNok zTs zNw zPg vwCl zft zfn zsf zm_54 en := zNok_of (zIns zm_54) [580, 395, 406, 583, 395, 406, 585, 287] (by decide +kernel) (by decide +kernel) (by decide +kernel) (by decide +kernel)
end
section
/-! EACH METHOD KNOWN, by program -/
set_option maxRecDepth 100000 in
theorem zv_55 : ∀ en ∈ zIns zm_55, zNok zTs zNw zPg vwCl zft zfn zsf zm_55 en := zNok_of (zIns zm_55) [576] (by decide +kernel) (by decide +kernel) (by decide +kernel) (by decide +kernel)
set_option maxRecDepth 100000 in
theorem zv_56 : ∀ en ∈ zIns zm_56, zNok zTs zNw zPg vwCl zft zfn zsf zm_56 en := zNok_of (zIns zm_56) [1219, 1170, 1170, 1170, 1170, 1170, 1170] (by decide +kernel) (by decide +kernel) (by decide +kernel) (by decide +kernel)
set_option maxRecDepth 100000 in
theorem zv_57 : ∀ en ∈ zIns zm_57, zNok zTs zNw zPg vwCl zft zfn zsf zm_57 en := zNok_of (zIns zm_57) [1170, 1216, 1061, 1173, 1208] (by decide +kernel) (by decide +kernel) (by decide +kernel) (by decide +kernel)
set_option maxRecDepth 100000 in
theorem zv_58 : ∀ en ∈ zIns zm_58, zNok zTs zNw zPg vwCl zft zfn zsf zm_58 en := zNok_of (zIns zm_58) [580, 395, 406, 585, 287] (by decide +kernel) (by decide +kernel) (by decide +kernel) (by decide +kernel)
set_option maxRecDepth 100000 in
theorem zv_59 : ∀ en ∈ zIns zm_59, zNok zTs zNw zPg vwCl zft zfn zsf zm_59 en := zNok_of (zIns zm_59) [592] (by decide +kernel) (by decide +kernel) (by decide +kernel) (by decide +kernel)
set_option maxRecDepth 100000 in
theorem zv_60 : ∀ en ∈ zIns zm_60, zNok zTs zNw zPg vwCl zft zfn zsf zm_60 en := zNok_of (zIns zm_60) [1170, 1170, 1061, 1173, 1200] (by decide +kernel) (by decide +kernel) (by decide +kernel) (by decide +kernel)
set_option maxRecDepth 100000 in
theorem zv_61 : ∀ en ∈ zIns zm_61, zNok zTs zNw zPg vwCl zft zfn zsf zm_61 en := zNok_of (zIns zm_61) [395] (by decide +kernel) (by decide +kernel) (by decide +kernel) (by decide +kernel)
set_option maxRecDepth 100000 in
theorem zv_62 : ∀ en ∈ zIns zm_62, zNok zTs zNw zPg vwCl zft zfn zsf zm_62 en := zNok_of (zIns zm_62) [609, 395] (by decide +kernel) (by decide +kernel) (by decide +kernel) (by decide +kernel)
set_option maxRecDepth 100000 in
theorem zv_63 : ∀ en ∈ zIns zm_63, zNok zTs zNw zPg vwCl zft zfn zsf zm_63 en := zNok_of (zIns zm_63) [324, 284] (by decide +kernel) (by decide +kernel) (by decide +kernel) (by decide +kernel)
set_option maxRecDepth 100000 in
theorem zv_64 : ∀ en ∈ zIns zm_64, zNok zTs zNw zPg vwCl zft zfn zsf zm_64 en := zNok_of (zIns zm_64) [283, 283, 623] (by decide +kernel) (by decide +kernel) (by decide +kernel) (by decide +kernel)
set_option maxRecDepth 100000 in
theorem zv_65 : ∀ en ∈ zIns zm_65, zNok zTs zNw zPg vwCl zft zfn zsf zm_65 en := zNok_of (zIns zm_65) [202, 202, 205, 205, 205, 205, 325, 207, 181, 618, 325, 207, 619] (by decide +kernel) (by decide +kernel) (by decide +kernel) (by decide +kernel)
set_option maxRecDepth 100000 in
theorem zv_66 : ∀ en ∈ zIns zm_66, zNok zTs zNw zPg vwCl zft zfn zsf zm_66 en := zNok_of (zIns zm_66) [283] (by decide +kernel) (by decide +kernel) (by decide +kernel) (by decide +kernel)
set_option maxRecDepth 100000 in
theorem zv_67 : ∀ en ∈ zIns zm_67, zNok zTs zNw zPg vwCl zft zfn zsf zm_67 en := zNok_of (zIns zm_67) [263, 261, 261, 257, 259] (by decide +kernel) (by decide +kernel) (by decide +kernel) (by decide +kernel)
set_option maxRecDepth 100000 in
theorem zv_68 : ∀ en ∈ zIns zm_68, zNok zTs zNw zPg vwCl zft zfn zsf zm_68 en := zNok_of (zIns zm_68) [642] (by decide +kernel) (by decide +kernel) (by decide +kernel) (by decide +kernel)
set_option maxRecDepth 100000 in
theorem zv_69 : ∀ en ∈ zIns zm_69, zNok zTs zNw zPg vwCl zft zfn zsf zm_69 en := zNok_of (zIns zm_69) [283] (by decide +kernel) (by decide +kernel) (by decide +kernel) (by decide +kernel)
set_option maxRecDepth 100000 in
theorem zv_70 : ∀ en ∈ zIns zm_70, zNok zTs zNw zPg vwCl zft zfn zsf zm_70 en := zNok_of (zIns zm_70) [649, 649, 630] (by decide +kernel) (by decide +kernel) (by decide +kernel) (by decide +kernel)
set_option maxRecDepth 100000 in
theorem zv_71 : ∀ en ∈ zIns zm_71, zNok zTs zNw zPg vwCl zft zfn zsf zm_71 en := zNok_of (zIns zm_71) [261] (by decide +kernel) (by decide +kernel) (by decide +kernel) (by decide +kernel)
set_option maxRecDepth 100000 in
theorem zv_72 : ∀ en ∈ zIns zm_72, zNok zTs zNw zPg vwCl zft zfn zsf zm_72 en := zNok_of (zIns zm_72) [657, 260, 260] (by decide +kernel) (by decide +kernel) (by decide +kernel) (by decide +kernel)
set_option maxRecDepth 100000 in
theorem zv_73 : ∀ en ∈ zIns zm_73, zNok zTs zNw zPg vwCl zft zfn zsf zm_73 en := zNok_of (zIns zm_73) [291, 286, 638, 291, 262, 646, 291, 258, 291, 653] (by decide +kernel) (by decide +kernel) (by decide +kernel) (by decide +kernel)
set_option maxRecDepth 100000 in
theorem zv_74 : ∀ en ∈ zIns zm_74, zNok zTs zNw zPg vwCl zft zfn zsf zm_74 en := zNok_of (zIns zm_74) [] (by decide +kernel) (by decide +kernel) (by decide +kernel) (by decide +kernel)
set_option maxRecDepth 100000 in
theorem zv_75 : ∀ en ∈ zIns zm_75, zNok zTs zNw zPg vwCl zft zfn zsf zm_75 en := zNok_of (zIns zm_75) [] (by decide +kernel) (by decide +kernel) (by decide +kernel) (by decide +kernel)
set_option maxRecDepth 100000 in
theorem zv_76 : ∀ en ∈ zIns zm_76, zNok zTs zNw zPg vwCl zft zfn zsf zm_76 en := zNok_of (zIns zm_76) [395] (by decide +kernel) (by decide +kernel) (by decide +kernel) (by decide +kernel)
set_option maxRecDepth 100000 in
theorem zv_77 : ∀ en ∈ zIns zm_77, zNok zTs zNw zPg vwCl zft zfn zsf zm_77 en := zNok_of (zIns zm_77) [105] (by decide +kernel) (by decide +kernel) (by decide +kernel) (by decide +kernel)
set_option maxRecDepth 100000 in
theorem zv_78 : ∀ en ∈ zIns zm_78, zNok zTs zNw zPg vwCl zft zfn zsf zm_78 en := zNok_of (zIns zm_78) [108, 108, 108, 97, 103, 92, 92] (by decide +kernel) (by decide +kernel) (by decide +kernel) (by decide +kernel)
set_option maxRecDepth 100000 in
theorem zv_79 : ∀ en ∈ zIns zm_79, zNok zTs zNw zPg vwCl zft zfn zsf zm_79 en := zNok_of (zIns zm_79) [104, 92, 105, 103, 92, 92] (by decide +kernel) (by decide +kernel) (by decide +kernel) (by decide +kernel)
set_option maxRecDepth 100000 in
theorem zv_80 : ∀ en ∈ zIns zm_80, zNok zTs zNw zPg vwCl zft zfn zsf zm_80 en := zNok_of (zIns zm_80) [688, 689, 693, 106, 99, 697, 547] (by decide +kernel) (by decide +kernel) (by decide +kernel) (by decide +kernel)
set_option maxRecDepth 100000 in
theorem zv_81 : ∀ en ∈ zIns zm_81, zNok zTs zNw zPg vwCl zft zfn zsf zm_81 en := zNok_of (zIns zm_81) [705, 92] (by decide +kernel) (by decide +kernel) (by decide +kernel) (by decide +kernel)
set_option maxRecDepth 100000 in
theorem zv_82 : ∀ en ∈ zIns zm_82, zNok zTs zNw zPg vwCl zft zfn zsf zm_82 en := zNok_of (zIns zm_82) [92, 551, 92, 104, 105, 705, 103, 92, 92] (by decide +kernel) (by decide +kernel) (by decide +kernel) (by decide +kernel)
set_option maxRecDepth 100000 in
theorem zv_83 : ∀ en ∈ zIns zm_83, zNok zTs zNw zPg vwCl zft zfn zsf zm_83 en := zNok_of (zIns zm_83) [188, 680, 311, 191, 683, 311, 94, 311, 191, 180, 311, 684, 701, 311, 684, 311, 180, 706, 196, 196, 199, 199, 311, 94, 710] (by decide +kernel) (by decide +kernel) (by decide +kernel) (by decide +kernel)
set_option maxRecDepth 100000 in
theorem zv_84 : ∀ en ∈ zIns zm_84, zNok zTs zNw zPg vwCl zft zfn zsf zm_84 en := zNok_of (zIns zm_84) [340, 341, 669, 670, 673, 676, 711, 340, 312, 93] (by decide +kernel) (by decide +kernel) (by decide +kernel) (by decide +kernel)
set_option maxRecDepth 100000 in
theorem zv_85 : ∀ en ∈ zIns zm_85, zNok zTs zNw zPg vwCl zft zfn zsf zm_85 en := zNok_of (zIns zm_85) [283, 283] (by decide +kernel) (by decide +kernel) (by decide +kernel) (by decide +kernel)
set_option maxRecDepth 100000 in
theorem zv_86 : ∀ en ∈ zIns zm_86, zNok zTs zNw zPg vwCl zft zfn zsf zm_86 en := zNok_of (zIns zm_86) [649, 715] (by decide +kernel) (by decide +kernel) (by decide +kernel) (by decide +kernel)
set_option maxRecDepth 100000 in
theorem zv_87 : ∀ en ∈ zIns zm_87, zNok zTs zNw zPg vwCl zft zfn zsf zm_87 en := zNok_of (zIns zm_87) [] (by decide +kernel) (by decide +kernel) (by decide +kernel) (by decide +kernel)
set_option maxRecDepth 100000 in
theorem zv_88 : ∀ en ∈ zIns zm_88, zNok zTs zNw zPg vwCl zft zfn zsf zm_88 en := zNok_of (zIns zm_88) [340, 341, 669, 670, 673, 676, 711, 340, 312, 93] (by decide +kernel) (by decide +kernel) (by decide +kernel) (by decide +kernel)
set_option maxRecDepth 100000 in
theorem zv_89 : ∀ en ∈ zIns zm_89, zNok zTs zNw zPg vwCl zft zfn zsf zm_89 en := zNok_of (zIns zm_89) [] (by decide +kernel) (by decide +kernel) (by decide +kernel) (by decide +kernel)
set_option maxRecDepth 100000 in
theorem zv_90 : ∀ en ∈ zIns zm_90, zNok zTs zNw zPg vwCl zft zfn zsf zm_90 en := zNok_of (zIns zm_90) [257, 264, 259, 264, 260, 264, 261, 264, 263, 264, 264, 264] (by decide +kernel) (by decide +kernel) (by decide +kernel) (by decide +kernel)
set_option maxRecDepth 100000 in
theorem zv_91 : ∀ en ∈ zIns zm_91, zNok zTs zNw zPg vwCl zft zfn zsf zm_91 en := zNok_of (zIns zm_91) [286, 665, 712, 712, 665, 712, 719, 646, 712, 722, 722, 726, 291, 286, 729] (by decide +kernel) (by decide +kernel) (by decide +kernel) (by decide +kernel)
set_option maxRecDepth 100000 in
theorem zv_92 : ∀ en ∈ zIns zm_92, zNok zTs zNw zPg vwCl zft zfn zsf zm_92 en := zNok_of (zIns zm_92) [148, 150, 152] (by decide +kernel) (by decide +kernel) (by decide +kernel) (by decide +kernel)
set_option maxRecDepth 100000 in
theorem zv_93 : ∀ en ∈ zIns zm_93, zNok zTs zNw zPg vwCl zft zfn zsf zm_93 en := zNok_of (zIns zm_93) [170, 169, 170, 170, 170, 169, 169] (by decide +kernel) (by decide +kernel) (by decide +kernel) (by decide +kernel)
set_option maxRecDepth 100000 in
theorem zv_94 : ∀ en ∈ zIns zm_94, zNok zTs zNw zPg vwCl zft zfn zsf zm_94 en := zNok_of (zIns zm_94) [209, 738, 739, 202, 740, 205, 213, 741, 215, 745, 215, 172] (by decide +kernel) (by decide +kernel) (by decide +kernel) (by decide +kernel)
set_option maxRecDepth 100000 in
theorem zv_95 : ∀ en ∈ zIns zm_95, zNok zTs zNw zPg vwCl zft zfn zsf zm_95 en := zNok_of (zIns zm_95) [208, 211, 208, 208, 208] (by decide +kernel) (by decide +kernel) (by decide +kernel) (by decide +kernel)
set_option maxRecDepth 100000 in
theorem zv_96 : ∀ en ∈ zIns zm_96, zNok zTs zNw zPg vwCl zft zfn zsf zm_96 en := zNok_of (zIns zm_96) [323, 313, 95, 147, 149, 147, 149] (by decide +kernel) (by decide +kernel) (by decide +kernel) (by decide +kernel)
set_option maxRecDepth 100000 in
theorem zv_97 : ∀ en ∈ zIns zm_97, zNok zTs zNw zPg vwCl zft zfn zsf zm_97 en := zNok_of (zIns zm_97) [213, 149, 151, 762, 323, 151, 763, 764, 765, 153, 766] (by decide +kernel) (by decide +kernel) (by decide +kernel) (by decide +kernel)
set_option maxRecDepth 100000 in
theorem zv_98 : ∀ en ∈ zIns zm_98, zNok zTs zNw zPg vwCl zft zfn zsf zm_98 en := zNok_of (zIns zm_98) [170, 169, 170, 170, 170] (by decide +kernel) (by decide +kernel) (by decide +kernel) (by decide +kernel)
set_option maxRecDepth 100000 in
theorem zv_99 : ∀ en ∈ zIns zm_99, zNok zTs zNw zPg vwCl zft zfn zsf zm_99 en := zNok_of (zIns zm_99) [324, 185, 324, 215, 774, 325, 618, 325, 619] (by decide +kernel) (by decide +kernel) (by decide +kernel) (by decide +kernel)
set_option maxRecDepth 100000 in
theorem zv_100 : ∀ en ∈ zIns zm_100, zNok zTs zNw zPg vwCl zft zfn zsf zm_100 en := zNok_of (zIns zm_100) [753, 754, 205, 279, 207, 758, 770] (by decide +kernel) (by decide +kernel) (by decide +kernel) (by decide +kernel)
end
section
/-! EACH METHOD KNOWN, by program -/
set_option maxRecDepth 100000 in
theorem zv_101 : ∀ en ∈ zIns zm_101, zNok zTs zNw zPg vwCl zft zfn zsf zm_101 en := zNok_of (zIns zm_101) [630, 634, 661, 341, 669, 733, 341, 734, 733, 341, 749, 340, 670, 673, 676, 711, 340, 312, 93, 340, 312, 93] (by decide +kernel) (by decide +kernel) (by decide +kernel) (by decide +kernel)
set_option maxRecDepth 100000 in
theorem zv_102 : ∀ en ∈ zIns zm_102, zNok zTs zNw zPg vwCl zft zfn zsf zm_102 en := zNok_of (zIns zm_102) [580, 395, 603, 606, 406, 585, 369, 369, 610, 614, 370, 626] (by decide +kernel) (by decide +kernel) (by decide +kernel) (by decide +kernel)
set_option maxRecDepth 100000 in
theorem zv_103 : ∀ en ∈ zIns zm_103, zNok zTs zNw zPg vwCl zft zfn zsf zm_103 en := zNok_of (zIns zm_103) [599] (by decide +kernel) (by decide +kernel) (by decide +kernel) (by decide +kernel)
set_option maxRecDepth 100000 in
theorem zv_104 : ∀ en ∈ zIns zm_104, zNok zTs zNw zPg vwCl zft zfn zsf zm_104 en := zNok_of (zIns zm_104) [1200, 1236, 1208] (by decide +kernel) (by decide +kernel) (by decide +kernel) (by decide +kernel)
set_option maxRecDepth 100000 in
theorem zv_105 : ∀ en ∈ zIns zm_105, zNok zTs zNw zPg vwCl zft zfn zsf zm_105 en := zNok_of (zIns zm_105) [1050, 1053, 1053, 1053, 1061, 1054, 1054, 1200, 1054, 1232] (by decide +kernel) (by decide +kernel) (by decide +kernel) (by decide +kernel)
set_option maxRecDepth 100000 in
theorem zv_106 : ∀ en ∈ zIns zm_106, zNok zTs zNw zPg vwCl zft zfn zsf zm_106 en := zNok_of (zIns zm_106) [1065, 1069, 1200, 1068, 1068, 1066, 1066] (by decide +kernel) (by decide +kernel) (by decide +kernel) (by decide +kernel)
set_option maxRecDepth 100000 in
theorem zv_107 : ∀ en ∈ zIns zm_107, zNok zTs zNw zPg vwCl zft zfn zsf zm_107 en := zNok_of (zIns zm_107) [1200, 1200, 1200] (by decide +kernel) (by decide +kernel) (by decide +kernel) (by decide +kernel)
set_option maxRecDepth 100000 in
theorem zv_108 : ∀ en ∈ zIns zm_108, zNok zTs zNw zPg vwCl zft zfn zsf zm_108 en := zNok_of (zIns zm_108) [1245, 1068, 1249, 1067, 1067, 1065] (by decide +kernel) (by decide +kernel) (by decide +kernel) (by decide +kernel)
set_option maxRecDepth 100000 in
theorem zv_109 : ∀ en ∈ zIns zm_109, zNok zTs zNw zPg vwCl zft zfn zsf zm_109 en := zNok_of (zIns zm_109) [1170] (by decide +kernel) (by decide +kernel) (by decide +kernel) (by decide +kernel)
set_option maxRecDepth 100000 in
theorem zv_110 : ∀ en ∈ zIns zm_110, zNok zTs zNw zPg vwCl zft zfn zsf zm_110 en := zNok_of (zIns zm_110) [1044] (by decide +kernel) (by decide +kernel) (by decide +kernel) (by decide +kernel)
set_option maxRecDepth 100000 in
theorem zv_111 : ∀ en ∈ zIns zm_111, zNok zTs zNw zPg vwCl zft zfn zsf zm_111 en := zNok_of (zIns zm_111) [1041] (by decide +kernel) (by decide +kernel) (by decide +kernel) (by decide +kernel)
set_option maxRecDepth 100000 in
theorem zv_112 : ∀ en ∈ zIns zm_112, zNok zTs zNw zPg vwCl zft zfn zsf zm_112 en := zNok_of (zIns zm_112) [1036, 1189] (by decide +kernel) (by decide +kernel) (by decide +kernel) (by decide +kernel)
set_option maxRecDepth 100000 in
theorem zv_113 : ∀ en ∈ zIns zm_113, zNok zTs zNw zPg vwCl zft zfn zsf zm_113 en := zNok_of (zIns zm_113) [1038, 1039, 1041, 1040, 1036, 1185, 1288, 1196] (by decide +kernel) (by decide +kernel) (by decide +kernel) (by decide +kernel)
set_option maxRecDepth 100000 in
theorem zv_114 : ∀ en ∈ zIns zm_114, zNok zTs zNw zPg vwCl zft zfn zsf zm_114 en := zNok_of (zIns zm_114) [1284, 1042, 1037, 1038, 1039, 1185, 1039, 1288, 1049, 1292, 1042] (by decide +kernel) (by decide +kernel) (by decide +kernel) (by decide +kernel)
set_option maxRecDepth 100000 in
theorem zv_115 : ∀ en ∈ zIns zm_115, zNok zTs zNw zPg vwCl zft zfn zsf zm_115 en := zNok_of (zIns zm_115) [1177, 1280, 1037, 1038, 1039] (by decide +kernel) (by decide +kernel) (by decide +kernel) (by decide +kernel)
set_option maxRecDepth 100000 in
theorem zv_116 : ∀ en ∈ zIns zm_116, zNok zTs zNw zPg vwCl zft zfn zsf zm_116 en := zNok_of (zIns zm_116) [1189, 1276, 1036, 1045] (by decide +kernel) (by decide +kernel) (by decide +kernel) (by decide +kernel)
set_option maxRecDepth 100000 in
theorem zv_117 : ∀ en ∈ zIns zm_117, zNok zTs zNw zPg vwCl zft zfn zsf zm_117 en := zNok_of (zIns zm_117) [1268, 1185, 1193, 1193, 1272, 1276, 1193, 1036, 1040, 1041, 1048, 1047, 1288] (by decide +kernel) (by decide +kernel) (by decide +kernel) (by decide +kernel)
set_option maxRecDepth 100000 in
theorem zv_118 : ∀ en ∈ zIns zm_118, zNok zTs zNw zPg vwCl zft zfn zsf zm_118 en := zNok_of (zIns zm_118) [1073, 1063, 1063, 1063, 1063, 1063] (by decide +kernel) (by decide +kernel) (by decide +kernel) (by decide +kernel)
set_option maxRecDepth 100000 in
theorem zv_119 : ∀ en ∈ zIns zm_119, zNok zTs zNw zPg vwCl zft zfn zsf zm_119 en := zNok_of (zIns zm_119) [1261, 1200, 1264, 1296] (by decide +kernel) (by decide +kernel) (by decide +kernel) (by decide +kernel)
set_option maxRecDepth 100000 in
theorem zv_120 : ∀ en ∈ zIns zm_120, zNok zTs zNw zPg vwCl zft zfn zsf zm_120 en := zNok_of (zIns zm_120) [1185] (by decide +kernel) (by decide +kernel) (by decide +kernel) (by decide +kernel)
set_option maxRecDepth 100000 in
theorem zv_121 : ∀ en ∈ zIns zm_121, zNok zTs zNw zPg vwCl zft zfn zsf zm_121 en := zNok_of (zIns zm_121) [1200] (by decide +kernel) (by decide +kernel) (by decide +kernel) (by decide +kernel)
set_option maxRecDepth 100000 in
theorem zv_122 : ∀ en ∈ zIns zm_122, zNok zTs zNw zPg vwCl zft zfn zsf zm_122 en := zNok_of (zIns zm_122) [1073, 1074, 1208, 1208] (by decide +kernel) (by decide +kernel) (by decide +kernel) (by decide +kernel)
set_option maxRecDepth 100000 in
theorem zv_123 : ∀ en ∈ zIns zm_123, zNok zTs zNw zPg vwCl zft zfn zsf zm_123 en := zNok_of (zIns zm_123) [1257, 1036, 1200, 1300] (by decide +kernel) (by decide +kernel) (by decide +kernel) (by decide +kernel)
set_option maxRecDepth 100000 in
theorem zv_124_0 : ∀ en ∈ zl_124_0, zNok zTs zNw zPg vwCl zft zfn zsf zm_124 en := zNok_of zl_124_0 [1200, 1200, 1257, 1036, 1300, 1304, 1308] (by decide +kernel) (by decide +kernel) (by decide +kernel) (by decide +kernel)
set_option maxRecDepth 100000 in
theorem zv_124_1 : ∀ en ∈ zl_124_1, zNok zTs zNw zPg vwCl zft zfn zsf zm_124 en := zNok_of zl_124_1 [1304, 1308, 1257, 1036, 1300] (by decide +kernel) (by decide +kernel) (by decide +kernel) (by decide +kernel)
set_option maxRecDepth 100000 in
theorem zv_124_2 : ∀ en ∈ zl_124_2, zNok zTs zNw zPg vwCl zft zfn zsf zm_124 en := zNok_of zl_124_2 [1304, 1308, 1249, 1304] (by decide +kernel) (by decide +kernel) (by decide +kernel) (by decide +kernel)
set_option maxRecDepth 100000 in
theorem zv_124_3 : ∀ en ∈ zl_124_3, zNok zTs zNw zPg vwCl zft zfn zsf zm_124 en := zNok_of zl_124_3 [1308, 1312, 1312, 1064, 1064, 1064, 1065] (by decide +kernel) (by decide +kernel) (by decide +kernel) (by decide +kernel)
set_option maxRecDepth 100000 in
theorem zv_124_4 : ∀ en ∈ zl_124_4, zNok zTs zNw zPg vwCl zft zfn zsf zm_124 en := zNok_of zl_124_4 [1066, 1067, 1069, 1200, 1068] (by decide +kernel) (by decide +kernel) (by decide +kernel) (by decide +kernel)
set_option maxRecDepth 100000 in
theorem zv_124_5 : ∀ en ∈ zl_124_5, zNok zTs zNw zPg vwCl zft zfn zsf zm_124 en := zNok_of zl_124_5 [1072] (by decide +kernel) (by decide +kernel) (by decide +kernel) (by decide +kernel)
theorem zv_124 : ∀ en ∈ zIns zm_124, zNok zTs zNw zPg vwCl zft zfn zsf zm_124 en := List.forall_mem_append.mpr ⟨zv_124_0, List.forall_mem_append.mpr ⟨zv_124_1, List.forall_mem_append.mpr ⟨zv_124_2, List.forall_mem_append.mpr ⟨zv_124_3, List.forall_mem_append.mpr ⟨zv_124_4, zv_124_5⟩⟩⟩⟩⟩
set_option maxRecDepth 100000 in
theorem zv_125 : ∀ en ∈ zIns zm_125, zNok zTs zNw zPg vwCl zft zfn zsf zm_125 en := zNok_of (zIns zm_125) [1219, 1051, 1236, 1050, 1320, 1053, 1056, 1057, 1058, 1060, 1059, 1060, 1060, 1059, 1059, 1060] (by decide +kernel) (by decide +kernel) (by decide +kernel) (by decide +kernel)
set_option maxRecDepth 100000 in
theorem zv_126 : ∀ en ∈ zIns zm_126, zNok zTs zNw zPg vwCl zft zfn zsf zm_126 en := zNok_of (zIns zm_126) [1056, 1057, 1057, 1058, 1261, 1264, 1058, 1300, 1056, 1036, 1055, 1055, 1036] (by decide +kernel) (by decide +kernel) (by decide +kernel) (by decide +kernel)
end
section
/-! EACH METHOD KNOWN, by program -/
set_option maxRecDepth 100000 in
theorem zv_127 : ∀ en ∈ zIns zm_127, zNok zTs zNw zPg vwCl zft zfn zsf zm_127 en := zNok_of (zIns zm_127) [1051, 1052, 1051, 1051, 1053, 1054, 1325, 1043, 1060, 1059, 1060, 1060, 1061, 1200, 1232] (by decide +kernel) (by decide +kernel) (by decide +kernel) (by decide +kernel)
set_option maxRecDepth 100000 in
theorem zv_128 : ∀ en ∈ zIns zm_128, zNok zTs zNw zPg vwCl zft zfn zsf zm_128 en := zNok_of (zIns zm_128) [1200, 1200, 1241, 1253, 1072, 1261, 1296, 1316, 1072, 1321, 1264, 1296, 1300, 1036, 1072, 1036] (by decide +kernel) (by decide +kernel) (by decide +kernel) (by decide +kernel)
set_option maxRecDepth 100000 in
theorem zv_129 : ∀ en ∈ zIns zm_129, zNok zTs zNw zPg vwCl zft zfn zsf zm_129 en := zNok_of (zIns zm_129) [1170, 1170, 1170, 1219, 1170, 1061, 1173, 1200, 1228, 1237, 1072, 1073] (by decide +kernel) (by decide +kernel) (by decide +kernel) (by decide +kernel)
set_option maxRecDepth 100000 in
theorem zv_130 : ∀ en ∈ zIns zm_130, zNok zTs zNw zPg vwCl zft zfn zsf zm_130 en := zNok_of (zIns zm_130) [285, 796] (by decide +kernel) (by decide +kernel) (by decide +kernel) (by decide +kernel)
set_option maxRecDepth 100000 in
theorem zv_131 : ∀ en ∈ zIns zm_131, zNok zTs zNw zPg vwCl zft zfn zsf zm_131 en := zNok_of (zIns zm_131) [] (by decide +kernel) (by decide +kernel) (by decide +kernel) (by decide +kernel)
set_option maxRecDepth 100000 in
theorem zv_132 : ∀ en ∈ zIns zm_132, zNok zTs zNw zPg vwCl zft zfn zsf zm_132 en := zNok_of (zIns zm_132) [] (by decide +kernel) (by decide +kernel) (by decide +kernel) (by decide +kernel)
set_option maxRecDepth 100000 in
theorem zv_133 : ∀ en ∈ zIns zm_133, zNok zTs zNw zPg vwCl zft zfn zsf zm_133 en := zNok_of (zIns zm_133) [] (by decide +kernel) (by decide +kernel) (by decide +kernel) (by decide +kernel)
set_option maxRecDepth 100000 in
theorem zv_134 : ∀ en ∈ zIns zm_134, zNok zTs zNw zPg vwCl zft zfn zsf zm_134 en := zNok_of (zIns zm_134) [263, 261, 642] (by decide +kernel) (by decide +kernel) (by decide +kernel) (by decide +kernel)
set_option maxRecDepth 100000 in
theorem zv_135 : ∀ en ∈ zIns zm_135, zNok zTs zNw zPg vwCl zft zfn zsf zm_135 en := zNok_of (zIns zm_135) [257, 820, 257] (by decide +kernel) (by decide +kernel) (by decide +kernel) (by decide +kernel)
set_option maxRecDepth 100000 in
theorem zv_136 : ∀ en ∈ zIns zm_136, zNok zTs zNw zPg vwCl zft zfn zsf zm_136 en := zNok_of (zIns zm_136) [285, 813, 292, 816, 292, 816, 292, 816, 292, 816] (by decide +kernel) (by decide +kernel) (by decide +kernel) (by decide +kernel)
set_option maxRecDepth 100000 in
theorem zv_137 : ∀ en ∈ zIns zm_137, zNok zTs zNw zPg vwCl zft zfn zsf zm_137 en := zNok_of (zIns zm_137) [188, 311, 191, 833, 834, 311, 191, 683, 311, 191, 180, 311, 684, 701, 835, 311, 836, 311, 94] (by decide +kernel) (by decide +kernel) (by decide +kernel) (by decide +kernel)
set_option maxRecDepth 100000 in
theorem zv_138 : ∀ en ∈ zIns zm_138, zNok zTs zNw zPg vwCl zft zfn zsf zm_138 en := zNok_of (zIns zm_138) [188, 311, 191, 683, 311, 94, 834, 311, 94] (by decide +kernel) (by decide +kernel) (by decide +kernel) (by decide +kernel)
set_option maxRecDepth 100000 in
theorem zv_139 : ∀ en ∈ zIns zm_139, zNok zTs zNw zPg vwCl zft zfn zsf zm_139 en := zNok_of (zIns zm_139) [325, 618] (by decide +kernel) (by decide +kernel) (by decide +kernel) (by decide +kernel)
set_option maxRecDepth 100000 in
theorem zv_140 : ∀ en ∈ zIns zm_140, zNok zTs zNw zPg vwCl zft zfn zsf zm_140 en := zNok_of (zIns zm_140) [354, 326, 845, 354, 326, 292, 816, 354, 846] (by decide +kernel) (by decide +kernel) (by decide +kernel) (by decide +kernel)
set_option maxRecDepth 100000 in
theorem zv_141 : ∀ en ∈ zIns zm_141, zNok zTs zNw zPg vwCl zft zfn zsf zm_141 en := zNok_of (zIns zm_141) [354, 326, 845, 824, 354, 326, 854] (by decide +kernel) (by decide +kernel) (by decide +kernel) (by decide +kernel)
set_option maxRecDepth 100000 in
theorem zv_142 : ∀ en ∈ zIns zm_142, zNok zTs zNw zPg vwCl zft zfn zsf zm_142 en := zNok_of (zIns zm_142) [285, 285] (by decide +kernel) (by decide +kernel) (by decide +kernel) (by decide +kernel)
set_option maxRecDepth 100000 in
theorem zv_143 : ∀ en ∈ zIns zm_143, zNok zTs zNw zPg vwCl zft zfn zsf zm_143 en := zNok_of (zIns zm_143) [354, 789, 285, 353, 829, 353, 837, 193, 182, 841, 182, 850, 855, 824] (by decide +kernel) (by decide +kernel) (by decide +kernel) (by decide +kernel)
set_option maxRecDepth 100000 in
theorem zv_144 : ∀ en ∈ zIns zm_144, zNok zTs zNw zPg vwCl zft zfn zsf zm_144 en := zNok_of (zIns zm_144) [285, 809, 824, 824, 824, 825] (by decide +kernel) (by decide +kernel) (by decide +kernel) (by decide +kernel)
set_option maxRecDepth 100000 in
theorem zv_145 : ∀ en ∈ zIns zm_145, zNok zTs zNw zPg vwCl zft zfn zsf zm_145 en := zNok_of (zIns zm_145) [354, 354, 789, 790, 285, 355, 791, 792, 797, 798, 801, 792, 802, 285, 355, 285, 791, 792, 285, 805] (by decide +kernel) (by decide +kernel) (by decide +kernel) (by decide +kernel)
set_option maxRecDepth 100000 in
theorem zv_146 : ∀ en ∈ zIns zm_146, zNok zTs zNw zPg vwCl zft zfn zsf zm_146 en := zNok_of (zIns zm_146) [580, 395, 406, 585, 287, 287, 287, 287, 371, 785, 287] (by decide +kernel) (by decide +kernel) (by decide +kernel) (by decide +kernel)
set_option maxRecDepth 100000 in
theorem zv_147 : ∀ en ∈ zIns zm_147, zNok zTs zNw zPg vwCl zft zfn zsf zm_147 en := zNok_of (zIns zm_147) [781] (by decide +kernel) (by decide +kernel) (by decide +kernel) (by decide +kernel)
set_option maxRecDepth 100000 in
theorem zv_148 : ∀ en ∈ zIns zm_148, zNok zTs zNw zPg vwCl zft zfn zsf zm_148 en := zNok_of (zIns zm_148) [1069, 1200, 1068, 1245, 1065, 1065] (by decide +kernel) (by decide +kernel) (by decide +kernel) (by decide +kernel)
set_option maxRecDepth 100000 in
theorem zv_149 : ∀ en ∈ zIns zm_149, zNok zTs zNw zPg vwCl zft zfn zsf zm_149 en := zNok_of (zIns zm_149) [1200, 1200, 1308, 1208, 1076, 1200, 1075, 1200, 1208, 1208, 1341, 1341, 1341, 1208, 1341, 1208, 1208, 1208, 1208, 1208, 1200, 1208, 1200, 1208, 1200, 1208, 1208, 1200, 1208, 1208] (by decide +kernel) (by decide +kernel) (by decide +kernel) (by decide +kernel)
set_option maxRecDepth 100000 in
theorem zv_150 : ∀ en ∈ zIns zm_150, zNok zTs zNw zPg vwCl zft zfn zsf zm_150 en := zNok_of (zIns zm_150) [1268, 1185, 1193, 1219, 1272, 1353, 1185, 1193, 1196, 1193, 1041, 1288] (by decide +kernel) (by decide +kernel) (by decide +kernel) (by decide +kernel)
set_option maxRecDepth 100000 in
theorem zv_151 : ∀ en ∈ zIns zm_151, zNok zTs zNw zPg vwCl zft zfn zsf zm_151 en := zNok_of (zIns zm_151) [1200, 1200, 1219, 1349, 1268, 1185, 1193, 1185, 1288, 1046, 1061, 1200, 1341, 1061, 1200, 1232, 1200, 1208, 1208] (by decide +kernel) (by decide +kernel) (by decide +kernel) (by decide +kernel)
end
section
/-! EACH METHOD KNOWN, by program -/
set_option maxRecDepth 100000 in
theorem zv_152_0 : ∀ en ∈ zl_152_0, zNok zTs zNw zPg vwCl zft zfn zsf zm_152 en := zNok_of zl_152_0 [1200, 1237, 1072, 1200, 1075, 1076, 1337, 1237] (by decide +kernel) (by decide +kernel) (by decide +kernel) (by decide +kernel)
set_option maxRecDepth 100000 in
theorem zv_152_1 : ∀ en ∈ zl_152_1, zNok zTs zNw zPg vwCl zft zfn zsf zm_152 en := zNok_of zl_152_1 [1072, 1072, 1219, 1072, 1219, 1072, 1208, 1237, 1075, 1075, 1075] (by decide +kernel) (by decide +kernel) (by decide +kernel) (by decide +kernel)
set_option maxRecDepth 100000 in
theorem zv_152_2 : ∀ en ∈ zl_152_2, zNok zTs zNw zPg vwCl zft zfn zsf zm_152 en := zNok_of zl_152_2 [1075, 1075, 1219, 1208, 1237, 1072, 1208, 1200, 1237] (by decide +kernel) (by decide +kernel) (by decide +kernel) (by decide +kernel)
set_option maxRecDepth 100000 in
theorem zv_152_3 : ∀ en ∈ zl_152_3, zNok zTs zNw zPg vwCl zft zfn zsf zm_152 en := zNok_of zl_152_3 [1072, 1208, 1200, 1237, 1308, 1200, 1308, 1345, 1308] (by decide +kernel) (by decide +kernel) (by decide +kernel) (by decide +kernel)
theorem zv_152 : ∀ en ∈ zIns zm_152, zNok zTs zNw zPg vwCl zft zfn zsf zm_152 en := List.forall_mem_append.mpr ⟨zv_152_0, List.forall_mem_append.mpr ⟨zv_152_1, List.forall_mem_append.mpr ⟨zv_152_2, zv_152_3⟩⟩⟩
set_option maxRecDepth 100000 in
theorem zv_153 : ∀ en ∈ zIns zm_153, zNok zTs zNw zPg vwCl zft zfn zsf zm_153 en := zNok_of (zIns zm_153) [1200, 1074, 1208, 1200, 1208, 1074, 1208, 1200, 1208, 1208, 1200, 1208, 1208] (by decide +kernel) (by decide +kernel) (by decide +kernel) (by decide +kernel)
set_option maxRecDepth 100000 in
theorem zv_154 : ∀ en ∈ zIns zm_154, zNok zTs zNw zPg vwCl zft zfn zsf zm_154 en := zNok_of (zIns zm_154) [1170, 1170, 1061, 1173, 1200, 1200, 1208, 1200, 1228, 1333, 1075, 1208, 1200, 1208, 1076, 1073, 1200, 1200, 1354, 1200, 1208, 1073, 1200, 1296, 1208] (by decide +kernel) (by decide +kernel) (by decide +kernel) (by decide +kernel)
set_option maxRecDepth 100000 in
theorem zv_155 : ∀ en ∈ zIns zm_155, zNok zTs zNw zPg vwCl zft zfn zsf zm_155 en := zNok_of (zIns zm_155) [580, 395, 406, 585, 289] (by decide +kernel) (by decide +kernel) (by decide +kernel) (by decide +kernel)
set_option maxRecDepth 100000 in
theorem zv_156 : ∀ en ∈ zIns zm_156, zNok zTs zNw zPg vwCl zft zfn zsf zm_156 en := zNok_of (zIns zm_156) [861] (by decide +kernel) (by decide +kernel) (by decide +kernel) (by decide +kernel)
set_option maxRecDepth 100000 in
theorem zv_157 : ∀ en ∈ zIns zm_157, zNok zTs zNw zPg vwCl zft zfn zsf zm_157 en := zNok_of (zIns zm_157) [1170, 1170, 1061, 1173, 1063] (by decide +kernel) (by decide +kernel) (by decide +kernel) (by decide +kernel)
set_option maxRecDepth 100000 in
theorem zv_158 : ∀ en ∈ zIns zm_158, zNok zTs zNw zPg vwCl zft zfn zsf zm_158 en := zNok_of (zIns zm_158) [580, 395, 603, 406, 585, 293, 287, 872] (by decide +kernel) (by decide +kernel) (by decide +kernel) (by decide +kernel)
set_option maxRecDepth 100000 in
theorem zv_159 : ∀ en ∈ zIns zm_159, zNok zTs zNw zPg vwCl zft zfn zsf zm_159 en := zNok_of (zIns zm_159) [868] (by decide +kernel) (by decide +kernel) (by decide +kernel) (by decide +kernel)
set_option maxRecDepth 100000 in
theorem zv_160 : ∀ en ∈ zIns zm_160, zNok zTs zNw zPg vwCl zft zfn zsf zm_160 en := zNok_of (zIns zm_160) [1170, 1170, 1170, 1061, 1173, 1341] (by decide +kernel) (by decide +kernel) (by decide +kernel) (by decide +kernel)
set_option maxRecDepth 100000 in
theorem zv_161 : ∀ en ∈ zIns zm_161, zNok zTs zNw zPg vwCl zft zfn zsf zm_161 en := zNok_of (zIns zm_161) [257, 657, 259, 259, 260, 261, 263] (by decide +kernel) (by decide +kernel) (by decide +kernel) (by decide +kernel)
set_option maxRecDepth 100000 in
theorem zv_162 : ∀ en ∈ zIns zm_162, zNok zTs zNw zPg vwCl zft zfn zsf zm_162 en := zNok_of (zIns zm_162) [580, 395, 395, 406, 585, 293, 880] (by decide +kernel) (by decide +kernel) (by decide +kernel) (by decide +kernel)
set_option maxRecDepth 100000 in
theorem zv_163 : ∀ en ∈ zIns zm_163, zNok zTs zNw zPg vwCl zft zfn zsf zm_163 en := zNok_of (zIns zm_163) [876] (by decide +kernel) (by decide +kernel) (by decide +kernel) (by decide +kernel)
set_option maxRecDepth 100000 in
theorem zv_164 : ∀ en ∈ zIns zm_164, zNok zTs zNw zPg vwCl zft zfn zsf zm_164 en := zNok_of (zIns zm_164) [1170, 1170, 1170, 1061, 1173, 1065, 1068, 1066, 1066, 1067, 1068, 1069] (by decide +kernel) (by decide +kernel) (by decide +kernel) (by decide +kernel)
set_option maxRecDepth 100000 in
theorem zv_165 : ∀ en ∈ zIns zm_165, zNok zTs zNw zPg vwCl zft zfn zsf zm_165 en := zNok_of (zIns zm_165) [395] (by decide +kernel) (by decide +kernel) (by decide +kernel) (by decide +kernel)
set_option maxRecDepth 100000 in
theorem zv_166 : ∀ en ∈ zIns zm_166, zNok zTs zNw zPg vwCl zft zfn zsf zm_166 en := zNok_of (zIns zm_166) [495, 891, 395, 406, 498, 187, 502, 363, 190, 894, 363, 190, 895, 363, 190, 363, 896, 897, 363, 96] (by decide +kernel) (by decide +kernel) (by decide +kernel) (by decide +kernel)
set_option maxRecDepth 100000 in
theorem zv_167 : ∀ en ∈ zIns zm_167, zNok zTs zNw zPg vwCl zft zfn zsf zm_167 en := zNok_of (zIns zm_167) [887] (by decide +kernel) (by decide +kernel) (by decide +kernel) (by decide +kernel)
set_option maxRecDepth 100000 in
theorem zv_168 : ∀ en ∈ zIns zm_168, zNok zTs zNw zPg vwCl zft zfn zsf zm_168 en := zNok_of (zIns zm_168) [1170, 1170, 1043, 1044, 1185, 1193] (by decide +kernel) (by decide +kernel) (by decide +kernel) (by decide +kernel)
set_option maxRecDepth 100000 in
theorem zv_169 : ∀ en ∈ zIns zm_169, zNok zTs zNw zPg vwCl zft zfn zsf zm_169 en := zNok_of (zIns zm_169) [1170, 1374, 1173, 1185, 1272, 1189, 1185, 1288] (by decide +kernel) (by decide +kernel) (by decide +kernel) (by decide +kernel)
set_option maxRecDepth 100000 in
theorem zv_170 : ∀ en ∈ zIns zm_170, zNok zTs zNw zPg vwCl zft zfn zsf zm_170 en := zNok_of (zIns zm_170) [363, 190, 894, 502, 909] (by decide +kernel) (by decide +kernel) (by decide +kernel) (by decide +kernel)
set_option maxRecDepth 100000 in
theorem zv_171 : ∀ en ∈ zIns zm_171, zNok zTs zNw zPg vwCl zft zfn zsf zm_171 en := zNok_of (zIns zm_171) [495, 891, 406, 498, 905, 363, 910, 363, 911, 363, 912] (by decide +kernel) (by decide +kernel) (by decide +kernel) (by decide +kernel)
set_option maxRecDepth 100000 in
theorem zv_172 : ∀ en ∈ zIns zm_172, zNok zTs zNw zPg vwCl zft zfn zsf zm_172 en := zNok_of (zIns zm_172) [901] (by decide +kernel) (by decide +kernel) (by decide +kernel) (by decide +kernel)
set_option maxRecDepth 100000 in
theorem zv_173 : ∀ en ∈ zIns zm_173, zNok zTs zNw zPg vwCl zft zfn zsf zm_173 en := zNok_of (zIns zm_173) [1374, 1173, 1284, 1185, 1292] (by decide +kernel) (by decide +kernel) (by decide +kernel) (by decide +kernel)
set_option maxRecDepth 100000 in
theorem zv_174 : ∀ en ∈ zIns zm_174, zNok zTs zNw zPg vwCl zft zfn zsf zm_174 en := zNok_of (zIns zm_174) [92, 92, 103, 99, 101, 705, 103, 92, 92, 547] (by decide +kernel) (by decide +kernel) (by decide +kernel) (by decide +kernel)
set_option maxRecDepth 100000 in
theorem zv_175 : ∀ en ∈ zIns zm_175, zNok zTs zNw zPg vwCl zft zfn zsf zm_175 en := zNok_of (zIns zm_175) [495, 891, 406, 498, 905, 363, 471, 363, 920] (by decide +kernel) (by decide +kernel) (by decide +kernel) (by decide +kernel)
set_option maxRecDepth 100000 in
theorem zv_176 : ∀ en ∈ zIns zm_176, zNok zTs zNw zPg vwCl zft zfn zsf zm_176 en := zNok_of (zIns zm_176) [916] (by decide +kernel) (by decide +kernel) (by decide +kernel) (by decide +kernel)
set_option maxRecDepth 100000 in
theorem zv_177 : ∀ en ∈ zIns zm_177, zNok zTs zNw zPg vwCl zft zfn zsf zm_177 en := zNok_of (zIns zm_177) [1374, 1173, 1177, 1185, 1037, 1038, 1039, 1036, 1036, 1196, 1288] (by decide +kernel) (by decide +kernel) (by decide +kernel) (by decide +kernel)
set_option maxRecDepth 100000 in
theorem zv_178 : ∀ en ∈ zIns zm_178, zNok zTs zNw zPg vwCl zft zfn zsf zm_178 en := zNok_of (zIns zm_178) [495, 395, 406, 498, 194, 194] (by decide +kernel) (by decide +kernel) (by decide +kernel) (by decide +kernel)
set_option maxRecDepth 100000 in
theorem zv_179 : ∀ en ∈ zIns zm_179, zNok zTs zNw zPg vwCl zft zfn zsf zm_179 en := zNok_of (zIns zm_179) [927] (by decide +kernel) (by decide +kernel) (by decide +kernel) (by decide +kernel)
set_option maxRecDepth 100000 in
theorem zv_180 : ∀ en ∈ zIns zm_180, zNok zTs zNw zPg vwCl zft zfn zsf zm_180 en := zNok_of (zIns zm_180) [1170, 1170, 1043, 1173, 1046, 1046] (by decide +kernel) (by decide +kernel) (by decide +kernel) (by decide +kernel)
set_option maxRecDepth 100000 in
theorem zv_181 : ∀ en ∈ zIns zm_181, zNok zTs zNw zPg vwCl zft zfn zsf zm_181 en := zNok_of (zIns zm_181) [495, 406, 498, 367, 187, 363, 190, 895, 363, 96, 363, 96, 366, 367, 367, 367, 367] (by decide +kernel) (by decide +kernel) (by decide +kernel) (by decide +kernel)
set_option maxRecDepth 100000 in
theorem zv_182 : ∀ en ∈ zIns zm_182, zNok zTs zNw zPg vwCl zft zfn zsf zm_182 en := zNok_of (zIns zm_182) [934] (by decide +kernel) (by decide +kernel) (by decide +kernel) (by decide +kernel)
set_option maxRecDepth 100000 in
theorem zv_183 : ∀ en ∈ zIns zm_183, zNok zTs zNw zPg vwCl zft zfn zsf zm_183 en := zNok_of (zIns zm_183) [1170, 1043, 1173, 1070, 1044, 1185, 1288, 1071, 1070, 1070, 1070, 1070] (by decide +kernel) (by decide +kernel) (by decide +kernel) (by decide +kernel)
set_option maxRecDepth 100000 in
theorem zv_184 : ∀ en ∈ zIns zm_184, zNok zTs zNw zPg vwCl zft zfn zsf zm_184 en := zNok_of (zIns zm_184) [367, 395, 366] (by decide +kernel) (by decide +kernel) (by decide +kernel) (by decide +kernel)
set_option maxRecDepth 100000 in
theorem zv_185 : ∀ en ∈ zIns zm_185, zNok zTs zNw zPg vwCl zft zfn zsf zm_185 en := zNok_of (zIns zm_185) [1035, 1070, 1170, 1071] (by decide +kernel) (by decide +kernel) (by decide +kernel) (by decide +kernel)
set_option maxRecDepth 100000 in
theorem zv_186 : ∀ en ∈ zIns zm_186, zNok zTs zNw zPg vwCl zft zfn zsf zm_186 en := zNok_of (zIns zm_186) [495, 891, 406, 363, 498, 190, 894] (by decide +kernel) (by decide +kernel) (by decide +kernel) (by decide +kernel)
end
section
/-! EACH METHOD KNOWN, by program -/
set_option maxRecDepth 100000 in
theorem zv_187 : ∀ en ∈ zIns zm_187, zNok zTs zNw zPg vwCl zft zfn zsf zm_187 en := zNok_of (zIns zm_187) [941] (by decide +kernel) (by decide +kernel) (by decide +kernel) (by decide +kernel)
set_option maxRecDepth 100000 in
theorem zv_188 : ∀ en ∈ zIns zm_188, zNok zTs zNw zPg vwCl zft zfn zsf zm_188 en := zNok_of (zIns zm_188) [1170, 1170, 1043, 1173, 1185] (by decide +kernel) (by decide +kernel) (by decide +kernel) (by decide +kernel)
set_option maxRecDepth 100000 in
theorem zv_189 : ∀ en ∈ zIns zm_189, zNok zTs zNw zPg vwCl zft zfn zsf zm_189 en := zNok_of (zIns zm_189) [395] (by decide +kernel) (by decide +kernel) (by decide +kernel) (by decide +kernel)
set_option maxRecDepth 100000 in
theorem zv_190 : ∀ en ∈ zIns zm_190, zNok zTs zNw zPg vwCl zft zfn zsf zm_190 en := zNok_of (zIns zm_190) [495, 952, 406, 606, 606, 606, 606, 406, 368, 498, 955, 363, 96, 363, 96, 363, 96, 363, 96] (by decide +kernel) (by decide +kernel) (by decide +kernel) (by decide +kernel)
set_option maxRecDepth 100000 in
theorem zv_191 : ∀ en ∈ zIns zm_191, zNok zTs zNw zPg vwCl zft zfn zsf zm_191 en := zNok_of (zIns zm_191) [948] (by decide +kernel) (by decide +kernel) (by decide +kernel) (by decide +kernel)
set_option maxRecDepth 100000 in
theorem zv_192 : ∀ en ∈ zIns zm_192, zNok zTs zNw zPg vwCl zft zfn zsf zm_192 en := zNok_of (zIns zm_192) [1219, 1170] (by decide +kernel) (by decide +kernel) (by decide +kernel) (by decide +kernel)
set_option maxRecDepth 100000 in
theorem zv_193 : ∀ en ∈ zIns zm_193, zNok zTs zNw zPg vwCl zft zfn zsf zm_193 en := zNok_of (zIns zm_193) [1170, 1170, 1406, 1406, 1406, 1406, 1043, 1173, 1264, 1300, 1036, 1036, 1036, 1036] (by decide +kernel) (by decide +kernel) (by decide +kernel) (by decide +kernel)
set_option maxRecDepth 100000 in
theorem zv_194 : ∀ en ∈ zIns zm_194, zNok zTs zNw zPg vwCl zft zfn zsf zm_194 en := zNok_of (zIns zm_194) [92, 540, 104, 551] (by decide +kernel) (by decide +kernel) (by decide +kernel) (by decide +kernel)
set_option maxRecDepth 100000 in
theorem zv_195 : ∀ en ∈ zIns zm_195, zNok zTs zNw zPg vwCl zft zfn zsf zm_195 en := zNok_of (zIns zm_195) [495, 952, 406, 363, 498, 190, 894, 363, 963] (by decide +kernel) (by decide +kernel) (by decide +kernel) (by decide +kernel)
set_option maxRecDepth 100000 in
theorem zv_196 : ∀ en ∈ zIns zm_196, zNok zTs zNw zPg vwCl zft zfn zsf zm_196 en := zNok_of (zIns zm_196) [959] (by decide +kernel) (by decide +kernel) (by decide +kernel) (by decide +kernel)
set_option maxRecDepth 100000 in
theorem zv_197 : ∀ en ∈ zIns zm_197, zNok zTs zNw zPg vwCl zft zfn zsf zm_197 en := zNok_of (zIns zm_197) [1170, 1170, 1043, 1173, 1185, 1193, 1036, 1193, 1040] (by decide +kernel) (by decide +kernel) (by decide +kernel) (by decide +kernel)
set_option maxRecDepth 100000 in
theorem zv_198 : ∀ en ∈ zIns zm_198, zNok zTs zNw zPg vwCl zft zfn zsf zm_198 en := zNok_of (zIns zm_198) [395] (by decide +kernel) (by decide +kernel) (by decide +kernel) (by decide +kernel)
set_option maxRecDepth 100000 in
theorem zv_199 : ∀ en ∈ zIns zm_199, zNok zTs zNw zPg vwCl zft zfn zsf zm_199 en := zNok_of (zIns zm_199) [974, 395, 406, 363, 96] (by decide +kernel) (by decide +kernel) (by decide +kernel) (by decide +kernel)
set_option maxRecDepth 100000 in
theorem zv_200 : ∀ en ∈ zIns zm_200, zNok zTs zNw zPg vwCl zft zfn zsf zm_200 en := zNok_of (zIns zm_200) [970] (by decide +kernel) (by decide +kernel) (by decide +kernel) (by decide +kernel)
set_option maxRecDepth 100000 in
theorem zv_201 : ∀ en ∈ zIns zm_201, zNok zTs zNw zPg vwCl zft zfn zsf zm_201 en := zNok_of (zIns zm_201) [1170, 1170, 1173, 1036] (by decide +kernel) (by decide +kernel) (by decide +kernel) (by decide +kernel)
set_option maxRecDepth 100000 in
theorem zv_202 : ∀ en ∈ zIns zm_202, zNok zTs zNw zPg vwCl zft zfn zsf zm_202 en := zNok_of (zIns zm_202) [974, 395, 406, 363, 98, 363, 100, 363, 102] (by decide +kernel) (by decide +kernel) (by decide +kernel) (by decide +kernel)
set_option maxRecDepth 100000 in
theorem zv_203 : ∀ en ∈ zIns zm_203, zNok zTs zNw zPg vwCl zft zfn zsf zm_203 en := zNok_of (zIns zm_203) [980] (by decide +kernel) (by decide +kernel) (by decide +kernel) (by decide +kernel)
set_option maxRecDepth 100000 in
theorem zv_204 : ∀ en ∈ zIns zm_204, zNok zTs zNw zPg vwCl zft zfn zsf zm_204 en := zNok_of (zIns zm_204) [1170, 1170, 1173, 1037, 1037, 1038, 1039] (by decide +kernel) (by decide +kernel) (by decide +kernel) (by decide +kernel)
set_option maxRecDepth 100000 in
theorem zv_205 : ∀ en ∈ zIns zm_205, zNok zTs zNw zPg vwCl zft zfn zsf zm_205 en := zNok_of (zIns zm_205) [532] (by decide +kernel) (by decide +kernel) (by decide +kernel) (by decide +kernel)
set_option maxRecDepth 100000 in
theorem zv_206 : ∀ en ∈ zIns zm_206, zNok zTs zNw zPg vwCl zft zfn zsf zm_206 en := zNok_of (zIns zm_206) [495, 395, 406, 498, 187, 194, 363, 190, 187, 991, 363, 190, 187, 991, 363, 190, 187, 991, 197, 200, 363, 107, 203, 210, 216, 173, 369, 995] (by decide +kernel) (by decide +kernel) (by decide +kernel) (by decide +kernel)
set_option maxRecDepth 100000 in
theorem zv_207 : ∀ en ∈ zIns zm_207, zNok zTs zNw zPg vwCl zft zfn zsf zm_207 en := zNok_of (zIns zm_207) [987] (by decide +kernel) (by decide +kernel) (by decide +kernel) (by decide +kernel)
set_option maxRecDepth 100000 in
theorem zv_208 : ∀ en ∈ zIns zm_208, zNok zTs zNw zPg vwCl zft zfn zsf zm_208 en := zNok_of (zIns zm_208) [1044, 1185, 1193] (by decide +kernel) (by decide +kernel) (by decide +kernel) (by decide +kernel)
set_option maxRecDepth 100000 in
theorem zv_209 : ∀ en ∈ zIns zm_209, zNok zTs zNw zPg vwCl zft zfn zsf zm_209 en := zNok_of (zIns zm_209) [1061, 1200] (by decide +kernel) (by decide +kernel) (by decide +kernel) (by decide +kernel)
set_option maxRecDepth 100000 in
theorem zv_210 : ∀ en ∈ zIns zm_210, zNok zTs zNw zPg vwCl zft zfn zsf zm_210 en := zNok_of (zIns zm_210) [1170, 1170, 1043, 1173, 1044, 1046, 1425, 1047, 1048, 1049, 1050, 1051, 1060, 1429] (by decide +kernel) (by decide +kernel) (by decide +kernel) (by decide +kernel)
set_option maxRecDepth 100000 in
theorem zv_211 : ∀ en ∈ zIns zm_211, zNok zTs zNw zPg vwCl zft zfn zsf zm_211 en := zNok_of (zIns zm_211) [208, 1007, 1008, 211] (by decide +kernel) (by decide +kernel) (by decide +kernel) (by decide +kernel)
set_option maxRecDepth 100000 in
theorem zv_212 : ∀ en ∈ zIns zm_212, zNok zTs zNw zPg vwCl zft zfn zsf zm_212 en := zNok_of (zIns zm_212) [495, 406, 498, 1003] (by decide +kernel) (by decide +kernel) (by decide +kernel) (by decide +kernel)
set_option maxRecDepth 100000 in
theorem zv_213 : ∀ en ∈ zIns zm_213, zNok zTs zNw zPg vwCl zft zfn zsf zm_213 en := zNok_of (zIns zm_213) [999] (by decide +kernel) (by decide +kernel) (by decide +kernel) (by decide +kernel)
set_option maxRecDepth 100000 in
theorem zv_214 : ∀ en ∈ zIns zm_214, zNok zTs zNw zPg vwCl zft zfn zsf zm_214 en := zNok_of (zIns zm_214) [1170, 1043, 1173, 1051, 1236, 1170, 1052] (by decide +kernel) (by decide +kernel) (by decide +kernel) (by decide +kernel)
set_option maxRecDepth 100000 in
theorem zv_215 : ∀ en ∈ zIns zm_215, zNok zTs zNw zPg vwCl zft zfn zsf zm_215 en := zNok_of (zIns zm_215) [105] (by decide +kernel) (by decide +kernel) (by decide +kernel) (by decide +kernel)
set_option maxRecDepth 100000 in
theorem zv_216 : ∀ en ∈ zIns zm_216, zNok zTs zNw zPg vwCl zft zfn zsf zm_216 en := zNok_of (zIns zm_216) [324, 185] (by decide +kernel) (by decide +kernel) (by decide +kernel) (by decide +kernel)
set_option maxRecDepth 100000 in
theorem zv_217 : ∀ en ∈ zIns zm_217, zNok zTs zNw zPg vwCl zft zfn zsf zm_217 en := zNok_of (zIns zm_217) [325, 282] (by decide +kernel) (by decide +kernel) (by decide +kernel) (by decide +kernel)
set_option maxRecDepth 100000 in
theorem zv_218 : ∀ en ∈ zIns zm_218, zNok zTs zNw zPg vwCl zft zfn zsf zm_218 en := zNok_of (zIns zm_218) [395, 406, 363, 1016, 363, 1017, 363, 109, 369, 1021, 369, 1025] (by decide +kernel) (by decide +kernel) (by decide +kernel) (by decide +kernel)
set_option maxRecDepth 100000 in
theorem zv_219 : ∀ en ∈ zIns zm_219, zNok zTs zNw zPg vwCl zft zfn zsf zm_219 en := zNok_of (zIns zm_219) [1012] (by decide +kernel) (by decide +kernel) (by decide +kernel) (by decide +kernel)
set_option maxRecDepth 100000 in
theorem zv_220 : ∀ en ∈ zIns zm_220, zNok zTs zNw zPg vwCl zft zfn zsf zm_220 en := zNok_of (zIns zm_220) [1170, 1173, 1037, 1041, 1042, 1043, 1429] (by decide +kernel) (by decide +kernel) (by decide +kernel) (by decide +kernel)
set_option maxRecDepth 100000 in
theorem zv_221_0 : ∀ en ∈ zl_221_0, zNok zTs zNw zPg vwCl zft zfn zsf zm_221 en := zNok_of zl_221_0 [78, 80, 1029, 1031, 398, 1166, 1162] (by decide +kernel) (by decide +kernel) (by decide +kernel) (by decide +kernel)
end
section
/-! EACH METHOD KNOWN, by program -/
set_option maxRecDepth 100000 in
theorem zv_221_1 : ∀ en ∈ zl_221_1, zNok zTs zNw zPg vwCl zft zfn zsf zm_221 en := zNok_of zl_221_1 [487, 1181, 1162, 554, 1204, 1162] (by decide +kernel) (by decide +kernel) (by decide +kernel) (by decide +kernel)
set_option maxRecDepth 100000 in
theorem zv_221_2 : ∀ en ∈ zl_221_2, zNok zTs zNw zPg vwCl zft zfn zsf zm_221 en := zNok_of zl_221_2 [573, 1212, 1162] (by decide +kernel) (by decide +kernel) (by decide +kernel) (by decide +kernel)
set_option maxRecDepth 100000 in
theorem zv_221_3 : ∀ en ∈ zl_221_3, zNok zTs zNw zPg vwCl zft zfn zsf zm_221 en := zNok_of zl_221_3 [589, 1220, 1162, 596] (by decide +kernel) (by decide +kernel) (by decide +kernel) (by decide +kernel)
set_option maxRecDepth 100000 in
theorem zv_221_4 : ∀ en ∈ zl_221_4, zNok zTs zNw zPg vwCl zft zfn zsf zm_221 en := zNok_of zl_221_4 [1224, 1162, 778] (by decide +kernel) (by decide +kernel) (by decide +kernel) (by decide +kernel)
set_option maxRecDepth 100000 in
theorem zv_221_5 : ∀ en ∈ zl_221_5, zNok zTs zNw zPg vwCl zft zfn zsf zm_221 en := zNok_of zl_221_5 [1329, 1162, 858, 1358, 1162] (by decide +kernel) (by decide +kernel) (by decide +kernel) (by decide +kernel)
set_option maxRecDepth 100000 in
theorem zv_221_6 : ∀ en ∈ zl_221_6, zNok zTs zNw zPg vwCl zft zfn zsf zm_221 en := zNok_of zl_221_6 [865, 1362, 1162] (by decide +kernel) (by decide +kernel) (by decide +kernel) (by decide +kernel)
set_option maxRecDepth 100000 in
theorem zv_221_7 : ∀ en ∈ zl_221_7, zNok zTs zNw zPg vwCl zft zfn zsf zm_221 en := zNok_of zl_221_7 [873, 1366, 1162] (by decide +kernel) (by decide +kernel) (by decide +kernel) (by decide +kernel)
end
section
/-! EACH METHOD KNOWN, by program -/
set_option maxRecDepth 100000 in
theorem zv_221_8 : ∀ en ∈ zl_221_8, zNok zTs zNw zPg vwCl zft zfn zsf zm_221 en := zNok_of zl_221_8 [884, 1370, 1162] (by decide +kernel) (by decide +kernel) (by decide +kernel) (by decide +kernel)
set_option maxRecDepth 100000 in
theorem zv_221_9 : ∀ en ∈ zl_221_9, zNok zTs zNw zPg vwCl zft zfn zsf zm_221 en := zNok_of zl_221_9 [898, 1378, 1162, 913] (by decide +kernel) (by decide +kernel) (by decide +kernel) (by decide +kernel)
set_option maxRecDepth 100000 in
theorem zv_221_10 : ∀ en ∈ zl_221_10, zNok zTs zNw zPg vwCl zft zfn zsf zm_221 en := zNok_of zl_221_10 [1382, 1162, 924, 1386, 1162] (by decide +kernel) (by decide +kernel) (by decide +kernel) (by decide +kernel)
set_option maxRecDepth 100000 in
theorem zv_221_11 : ∀ en ∈ zl_221_11, zNok zTs zNw zPg vwCl zft zfn zsf zm_221 en := zNok_of zl_221_11 [931, 1390, 1162, 391] (by decide +kernel) (by decide +kernel) (by decide +kernel) (by decide +kernel)
set_option maxRecDepth 100000 in
theorem zv_221_12 : ∀ en ∈ zl_221_12, zNok zTs zNw zPg vwCl zft zfn zsf zm_221 en := zNok_of zl_221_12 [1394, 938, 1398, 1162] (by decide +kernel) (by decide +kernel) (by decide +kernel) (by decide +kernel)
set_option maxRecDepth 100000 in
theorem zv_221_13 : ∀ en ∈ zl_221_13, zNok zTs zNw zPg vwCl zft zfn zsf zm_221 en := zNok_of zl_221_13 [945, 1402, 1162] (by decide +kernel) (by decide +kernel) (by decide +kernel) (by decide +kernel)
set_option maxRecDepth 100000 in
theorem zv_221_14 : ∀ en ∈ zl_221_14, zNok zTs zNw zPg vwCl zft zfn zsf zm_221 en := zNok_of zl_221_14 [956, 1409, 1162] (by decide +kernel) (by decide +kernel) (by decide +kernel) (by decide +kernel)
end
section
/-! EACH METHOD KNOWN, by program -/
set_option maxRecDepth 100000 in
theorem zv_221_15 : ∀ en ∈ zl_221_15, zNok zTs zNw zPg vwCl zft zfn zsf zm_221 en := zNok_of zl_221_15 [967, 1413, 1162, 977] (by decide +kernel) (by decide +kernel) (by decide +kernel) (by decide +kernel)
set_option maxRecDepth 100000 in
theorem zv_221_16 : ∀ en ∈ zl_221_16, zNok zTs zNw zPg vwCl zft zfn zsf zm_221 en := zNok_of zl_221_16 [1417, 1162, 984, 1421, 1162] (by decide +kernel) (by decide +kernel) (by decide +kernel) (by decide +kernel)
set_option maxRecDepth 100000 in
theorem zv_221_17 : ∀ en ∈ zl_221_17, zNok zTs zNw zPg vwCl zft zfn zsf zm_221 en := zNok_of zl_221_17 [996, 1433, 1162] (by decide +kernel) (by decide +kernel) (by decide +kernel) (by decide +kernel)
set_option maxRecDepth 100000 in
theorem zv_221_18 : ∀ en ∈ zl_221_18, zNok zTs zNw zPg vwCl zft zfn zsf zm_221 en := zNok_of zl_221_18 [1009, 1437, 1162] (by decide +kernel) (by decide +kernel) (by decide +kernel) (by decide +kernel)
theorem zv_221 : ∀ en ∈ zIns zm_221, zNok zTs zNw zPg vwCl zft zfn zsf zm_221 en := List.forall_mem_append.mpr ⟨zv_221_0, List.forall_mem_append.mpr ⟨zv_221_1, List.forall_mem_append.mpr ⟨zv_221_2, List.forall_mem_append.mpr ⟨zv_221_3, List.forall_mem_append.mpr ⟨zv_221_4, List.forall_mem_append.mpr ⟨zv_221_5, List.forall_mem_append.mpr ⟨zv_221_6, List.forall_mem_append.mpr ⟨zv_221_7, List.forall_mem_append.mpr ⟨zv_221_8, List.forall_mem_append.mpr ⟨zv_221_9, List.forall_mem_append.mpr ⟨zv_221_10, List.forall_mem_append.mpr ⟨zv_221_11, List.forall_mem_append.mpr ⟨zv_221_12, List.forall_mem_append.mpr ⟨zv_221_13, List.forall_mem_append.mpr ⟨zv_221_14, List.forall_mem_append.mpr ⟨zv_221_15, List.forall_mem_append.mpr ⟨zv_221_16, List.forall_mem_append.mpr ⟨zv_221_17, zv_221_18⟩⟩⟩⟩⟩⟩⟩⟩⟩⟩⟩⟩⟩⟩⟩⟩⟩⟩
end
section
/-! THE WHOLE PROGRAM IS KNOWN -/
def zmc (M : zM) : Bool := decide ((zName M).cls ≠ "java/lang/invoke/MethodHandle") && (decide ((zName M).cls ≠ "java/lang/invoke/VarHandle") && (plainName (zName M).cls && (zTab M).isEmpty || (plainName (zName M).cls && Nat.beq (zKind M).1 1)))
theorem zmc_ok {M : zM} (h : zmc M = true) : ((zName M).cls ≠ "java/lang/invoke/MethodHandle" ∧ (zName M).cls ≠ "java/lang/invoke/VarHandle") ∧ plainName (zName M).cls = true ∧ ((zKind M).1 ≠ 1 → zTab M = []) := by
  unfold zmc at h
  rw [Bool.and_eq_true, Bool.and_eq_true, decide_eq_true_eq, decide_eq_true_eq, Bool.or_eq_true, Bool.and_eq_true, Bool.and_eq_true] at h
  obtain ⟨h1, h2, h3⟩ := h
  refine ⟨⟨h1, h2⟩, h3.elim (fun q => q.1) (fun q => q.1), fun hk => ?_⟩
  rcases h3 with q | q
  · exact List.isEmpty_iff.mp q.2
  · exact absurd (Nat.eq_of_beq_eq_true q.2) hk
def zgh (M : zM) : Bool := goodWord (zHd M)
theorem zgh_ok (M : zM) : goodWord (zHd M) = true := by
  unfold zHd
  split <;> rfl
/-- a method of an object -/
theorem zMok_v {M : zM} (pc pi pk ps : Nat) (h1 : lw_tbl[pc]? = some (zHd M)) (h2 : lw_tbl[pi]? = some (.initialized (zName M).cls)) (h3 : lw_tbl[pk]? = some (.instanceMethod (zName M))) (h4 : lw_tbl[ps]? = some (.selects (zName M).cls (zName M) (zName M))) (hb : (zmc M && (Nat.beq (zKind M).1 0 && (match vwCl[(zKind M).2.1]? with | some q => decide (q.1 = (zName M).cls) | none => false))) = true) : zMok zTs vwCl M := by
  rw [Bool.and_eq_true, Bool.and_eq_true] at hb
  obtain ⟨b1, b2, b3⟩ := hb
  obtain ⟨g1, g2, g3⟩ := zmc_ok b1
  have k0 := Nat.eq_of_beq_eq_true b2
  refine ⟨zTs_at pc h1 (zgh_ok M), zTs_at pi h2 rfl, g1, g2, fun _ => ⟨zTs_at pk h3 rfl, zTs_at ps h4 rfl, ?_, g3 (by rw [k0]; decide)⟩, fun h => absurd (k0.symm.trans h) (by decide), fun h => absurd (k0.symm.trans h) (by decide)⟩
  cases hq : vwCl[(zKind M).2.1]? with
  | none => rw [hq] at b3; cases b3
  | some q => rw [hq] at b3; exact ⟨q, rfl, of_decide_eq_true b3⟩
/-- a static one -/
theorem zMok_s {M : zM} (pc pi pk : Nat) (h1 : lw_tbl[pc]? = some (zHd M)) (h2 : lw_tbl[pi]? = some (.initialized (zName M).cls)) (h3 : lw_tbl[pk]? = some (.static (zName M))) (hb : (zmc M && Nat.beq (zKind M).1 1) = true) : zMok zTs vwCl M := by
  rw [Bool.and_eq_true] at hb
  obtain ⟨b1, b2⟩ := hb
  obtain ⟨g1, g2, g3⟩ := zmc_ok b1
  have k0 := Nat.eq_of_beq_eq_true b2
  exact ⟨zTs_at pc h1 (zgh_ok M), zTs_at pi h2 rfl, g1, g2, fun h => absurd (k0.symm.trans h) (by decide), fun _ => zTs_at pk h3 rfl, fun h => absurd (k0.symm.trans h) (by decide)⟩
/-- a constructor -/
theorem zMok_i {M : zM} (pc pi pk : Nat) (h1 : lw_tbl[pc]? = some (zHd M)) (h2 : lw_tbl[pi]? = some (.initialized (zName M).cls)) (h3 : lw_tbl[pk]? = some (.instanceMethod (zName M))) (hb : (zmc M && (Nat.beq (zKind M).1 2 && (decide ((zName M).name = "<init>") && (zRet M).isNone))) = true) : zMok zTs vwCl M := by
  rw [Bool.and_eq_true, Bool.and_eq_true, Bool.and_eq_true, decide_eq_true_eq] at hb
  obtain ⟨b1, b2, b3, b4⟩ := hb
  obtain ⟨g1, g2, g3⟩ := zmc_ok b1
  have k0 := Nat.eq_of_beq_eq_true b2
  exact ⟨zTs_at pc h1 (zgh_ok M), zTs_at pi h2 rfl, g1, g2, fun h => absurd (k0.symm.trans h) (by decide), fun h => absurd (k0.symm.trans h) (by decide), fun _ => ⟨zTs_at pk h3 rfl, b3, Option.isNone_iff_eq_none.mp b4, g3 (by rw [k0]; decide)⟩⟩

set_option maxRecDepth 100000 in
theorem zo_0 : zMok zTs vwCl zm_0 := zMok_i 90 61 89 rfl rfl rfl (by decide +kernel)
set_option maxRecDepth 100000 in
theorem zo_1 : zMok zTs vwCl zm_1 := zMok_i 144 63 143 rfl rfl rfl (by decide +kernel)
set_option maxRecDepth 100000 in
theorem zo_2 : zMok zTs vwCl zm_2 := zMok_i 167 64 166 rfl rfl rfl (by decide +kernel)
set_option maxRecDepth 100000 in
theorem zo_3 : zMok zTs vwCl zm_3 := zMok_i 138 62 137 rfl rfl rfl (by decide +kernel)
set_option maxRecDepth 100000 in
theorem zo_4 : zMok zTs vwCl zm_4 := zMok_i 255 66 254 rfl rfl rfl (by decide +kernel)
set_option maxRecDepth 100000 in
theorem zo_5 : zMok zTs vwCl zm_5 := zMok_i 249 65 248 rfl rfl rfl (by decide +kernel)
set_option maxRecDepth 100000 in
theorem zo_6 : zMok zTs vwCl zm_6 := zMok_i 309 67 308 rfl rfl rfl (by decide +kernel)
set_option maxRecDepth 100000 in
theorem zo_7 : zMok zTs vwCl zm_7 := zMok_i 321 68 320 rfl rfl rfl (by decide +kernel)
set_option maxRecDepth 100000 in
theorem zo_8 : zMok zTs vwCl zm_8 := zMok_i 338 69 337 rfl rfl rfl (by decide +kernel)
set_option maxRecDepth 100000 in
theorem zo_9 : zMok zTs vwCl zm_9 := zMok_i 351 70 350 rfl rfl rfl (by decide +kernel)
set_option maxRecDepth 100000 in
theorem zo_10 : zMok zTs vwCl zm_10 := zMok_i 82 60 81 rfl rfl rfl (by decide +kernel)
set_option maxRecDepth 100000 in
theorem zo_11 : zMok zTs vwCl zm_11 := zMok_i 1033 71 1032 rfl rfl rfl (by decide +kernel)
set_option maxRecDepth 100000 in
theorem zo_12 : zMok zTs vwCl zm_12 := zMok_s 397 60 396 rfl rfl rfl (by decide +kernel)
set_option maxRecDepth 100000 in
theorem zo_13 : zMok zTs vwCl zm_13 := zMok_s 408 60 407 rfl rfl rfl (by decide +kernel)
set_option maxRecDepth 100000 in
theorem zo_14 : zMok zTs vwCl zm_14 := zMok_v 474 61 472 473 rfl rfl rfl rfl (by decide +kernel)
set_option maxRecDepth 100000 in
theorem zo_15 : zMok zTs vwCl zm_15 := zMok_v 478 61 476 477 rfl rfl rfl rfl (by decide +kernel)
set_option maxRecDepth 100000 in
theorem zo_16 : zMok zTs vwCl zm_16 := zMok_v 486 63 484 485 rfl rfl rfl rfl (by decide +kernel)
set_option maxRecDepth 100000 in
theorem zo_17 : zMok zTs vwCl zm_17 := zMok_v 482 62 480 481 rfl rfl rfl rfl (by decide +kernel)
set_option maxRecDepth 100000 in
theorem zo_18 : zMok zTs vwCl zm_18 := zMok_v 405 60 403 404 rfl rfl rfl rfl (by decide +kernel)
set_option maxRecDepth 100000 in
theorem zo_19 : zMok zTs vwCl zm_19 := zMok_s 400 59 399 rfl rfl rfl (by decide +kernel)
set_option maxRecDepth 100000 in
theorem zo_20 : zMok zTs vwCl zm_20 := zMok_s 1172 71 1171 rfl rfl rfl (by decide +kernel)
set_option maxRecDepth 100000 in
theorem zo_21 : zMok zTs vwCl zm_21 := zMok_v 1176 71 1175 19 rfl rfl rfl rfl (by decide +kernel)
set_option maxRecDepth 100000 in
theorem zo_22 : zMok zTs vwCl zm_22 := zMok_v 1180 71 1179 20 rfl rfl rfl rfl (by decide +kernel)
set_option maxRecDepth 100000 in
theorem zo_23 : zMok zTs vwCl zm_23 := zMok_v 1169 71 1167 1168 rfl rfl rfl rfl (by decide +kernel)
set_option maxRecDepth 100000 in
theorem zo_24 : zMok zTs vwCl zm_24 := zMok_v 1165 71 1163 1164 rfl rfl rfl rfl (by decide +kernel)
set_option maxRecDepth 100000 in
theorem zo_25 : zMok zTs vwCl zm_25 := zMok_s 497 60 496 rfl rfl rfl (by decide +kernel)
set_option maxRecDepth 100000 in
theorem zo_26 : zMok zTs vwCl zm_26 := zMok_s 504 60 503 rfl rfl rfl (by decide +kernel)
set_option maxRecDepth 100000 in
theorem zo_27 : zMok zTs vwCl zm_27 := zMok_v 501 60 500 1 rfl rfl rfl rfl (by decide +kernel)
set_option maxRecDepth 100000 in
theorem zo_28 : zMok zTs vwCl zm_28 := zMok_v 523 65 521 522 rfl rfl rfl rfl (by decide +kernel)
set_option maxRecDepth 100000 in
theorem zo_29 : zMok zTs vwCl zm_29 := zMok_v 531 61 529 530 rfl rfl rfl rfl (by decide +kernel)
set_option maxRecDepth 100000 in
theorem zo_30 : zMok zTs vwCl zm_30 := zMok_s 542 61 541 rfl rfl rfl (by decide +kernel)
set_option maxRecDepth 100000 in
theorem zo_31 : zMok zTs vwCl zm_31 := zMok_v 539 61 537 538 rfl rfl rfl rfl (by decide +kernel)
set_option maxRecDepth 100000 in
theorem zo_32 : zMok zTs vwCl zm_32 := zMok_v 535 61 533 534 rfl rfl rfl rfl (by decide +kernel)
set_option maxRecDepth 100000 in
theorem zo_33 : zMok zTs vwCl zm_33 := zMok_v 550 61 548 549 rfl rfl rfl rfl (by decide +kernel)
set_option maxRecDepth 100000 in
theorem zo_34 : zMok zTs vwCl zm_34 := zMok_s 553 61 552 rfl rfl rfl (by decide +kernel)
set_option maxRecDepth 100000 in
theorem zo_35 : zMok zTs vwCl zm_35 := zMok_v 546 61 544 545 rfl rfl rfl rfl (by decide +kernel)
set_option maxRecDepth 100000 in
theorem zo_36 : zMok zTs vwCl zm_36 := zMok_v 527 61 525 526 rfl rfl rfl rfl (by decide +kernel)
set_option maxRecDepth 100000 in
theorem zo_37 : zMok zTs vwCl zm_37 := zMok_v 494 60 492 493 rfl rfl rfl rfl (by decide +kernel)
set_option maxRecDepth 100000 in
theorem zo_38 : zMok zTs vwCl zm_38 := zMok_s 489 59 488 rfl rfl rfl (by decide +kernel)
set_option maxRecDepth 100000 in
theorem zo_39 : zMok zTs vwCl zm_39 := zMok_v 1192 71 1191 22 rfl rfl rfl rfl (by decide +kernel)
set_option maxRecDepth 100000 in
theorem zo_40 : zMok zTs vwCl zm_40 := zMok_v 1188 71 1187 21 rfl rfl rfl rfl (by decide +kernel)
set_option maxRecDepth 100000 in
theorem zo_41 : zMok zTs vwCl zm_41 := zMok_s 1195 71 1194 rfl rfl rfl (by decide +kernel)
set_option maxRecDepth 100000 in
theorem zo_42 : zMok zTs vwCl zm_42 := zMok_v 1199 71 1198 23 rfl rfl rfl rfl (by decide +kernel)
set_option maxRecDepth 100000 in
theorem zo_43 : zMok zTs vwCl zm_43 := zMok_v 1203 71 1202 24 rfl rfl rfl rfl (by decide +kernel)
set_option maxRecDepth 100000 in
theorem zo_44 : zMok zTs vwCl zm_44 := zMok_v 1184 71 1182 1183 rfl rfl rfl rfl (by decide +kernel)
set_option maxRecDepth 100000 in
theorem zo_45 : zMok zTs vwCl zm_45 := zMok_v 568 65 566 567 rfl rfl rfl rfl (by decide +kernel)
set_option maxRecDepth 100000 in
theorem zo_46 : zMok zTs vwCl zm_46 := zMok_v 572 66 570 571 rfl rfl rfl rfl (by decide +kernel)
set_option maxRecDepth 100000 in
theorem zo_47 : zMok zTs vwCl zm_47 := zMok_v 564 65 562 563 rfl rfl rfl rfl (by decide +kernel)
set_option maxRecDepth 100000 in
theorem zo_48 : zMok zTs vwCl zm_48 := zMok_v 560 60 558 559 rfl rfl rfl rfl (by decide +kernel)
set_option maxRecDepth 100000 in
theorem zo_49 : zMok zTs vwCl zm_49 := zMok_s 556 59 555 rfl rfl rfl (by decide +kernel)
set_option maxRecDepth 100000 in
theorem zo_50 : zMok zTs vwCl zm_50 := zMok_v 1211 71 1210 25 rfl rfl rfl rfl (by decide +kernel)
set_option maxRecDepth 100000 in
theorem zo_51 : zMok zTs vwCl zm_51 := zMok_v 1207 71 1205 1206 rfl rfl rfl rfl (by decide +kernel)
set_option maxRecDepth 100000 in
theorem zo_52 : zMok zTs vwCl zm_52 := zMok_s 582 60 581 rfl rfl rfl (by decide +kernel)
set_option maxRecDepth 100000 in
theorem zo_53 : zMok zTs vwCl zm_53 := zMok_v 588 60 587 2 rfl rfl rfl rfl (by decide +kernel)
set_option maxRecDepth 100000 in
theorem zo_54 : zMok zTs vwCl zm_54 := zMok_v 579 60 577 578 rfl rfl rfl rfl (by decide +kernel)
set_option maxRecDepth 100000 in
theorem zo_55 : zMok zTs vwCl zm_55 := zMok_s 575 59 574 rfl rfl rfl (by decide +kernel)
set_option maxRecDepth 100000 in
theorem zo_56 : zMok zTs vwCl zm_56 := zMok_s 1218 71 1217 rfl rfl rfl (by decide +kernel)
set_option maxRecDepth 100000 in
theorem zo_57 : zMok zTs vwCl zm_57 := zMok_v 1215 71 1213 1214 rfl rfl rfl rfl (by decide +kernel)
set_option maxRecDepth 100000 in
theorem zo_58 : zMok zTs vwCl zm_58 := zMok_v 595 60 593 594 rfl rfl rfl rfl (by decide +kernel)
set_option maxRecDepth 100000 in
theorem zo_59 : zMok zTs vwCl zm_59 := zMok_s 591 59 590 rfl rfl rfl (by decide +kernel)
set_option maxRecDepth 100000 in
theorem zo_60 : zMok zTs vwCl zm_60 := zMok_v 1223 71 1221 1222 rfl rfl rfl rfl (by decide +kernel)
set_option maxRecDepth 100000 in
theorem zo_61 : zMok zTs vwCl zm_61 := zMok_s 605 60 604 rfl rfl rfl (by decide +kernel)
set_option maxRecDepth 100000 in
theorem zo_62 : zMok zTs vwCl zm_62 := zMok_s 608 60 607 rfl rfl rfl (by decide +kernel)
set_option maxRecDepth 100000 in
theorem zo_63 : zMok zTs vwCl zm_63 := zMok_v 613 68 611 612 rfl rfl rfl rfl (by decide +kernel)
set_option maxRecDepth 100000 in
theorem zo_64 : zMok zTs vwCl zm_64 := zMok_v 622 65 620 621 rfl rfl rfl rfl (by decide +kernel)
set_option maxRecDepth 100000 in
theorem zo_65 : zMok zTs vwCl zm_65 := zMok_v 617 68 615 616 rfl rfl rfl rfl (by decide +kernel)
set_option maxRecDepth 100000 in
theorem zo_66 : zMok zTs vwCl zm_66 := zMok_v 633 65 631 632 rfl rfl rfl rfl (by decide +kernel)
set_option maxRecDepth 100000 in
theorem zo_67 : zMok zTs vwCl zm_67 := zMok_v 645 66 643 644 rfl rfl rfl rfl (by decide +kernel)
set_option maxRecDepth 100000 in
theorem zo_68 : zMok zTs vwCl zm_68 := zMok_v 641 66 639 640 rfl rfl rfl rfl (by decide +kernel)
set_option maxRecDepth 100000 in
theorem zo_69 : zMok zTs vwCl zm_69 := zMok_v 652 65 650 651 rfl rfl rfl rfl (by decide +kernel)
set_option maxRecDepth 100000 in
theorem zo_70 : zMok zTs vwCl zm_70 := zMok_s 648 69 647 rfl rfl rfl (by decide +kernel)
set_option maxRecDepth 100000 in
theorem zo_71 : zMok zTs vwCl zm_71 := zMok_v 660 66 658 659 rfl rfl rfl rfl (by decide +kernel)
set_option maxRecDepth 100000 in
theorem zo_72 : zMok zTs vwCl zm_72 := zMok_v 656 66 654 655 rfl rfl rfl rfl (by decide +kernel)
set_option maxRecDepth 100000 in
theorem zo_73 : zMok zTs vwCl zm_73 := zMok_v 637 69 636 3 rfl rfl rfl rfl (by decide +kernel)
set_option maxRecDepth 100000 in
theorem zo_74 : zMok zTs vwCl zm_74 := zMok_s 672 67 671 rfl rfl rfl (by decide +kernel)
set_option maxRecDepth 100000 in
theorem zo_75 : zMok zTs vwCl zm_75 := zMok_s 675 67 674 rfl rfl rfl (by decide +kernel)
set_option maxRecDepth 100000 in
theorem zo_76 : zMok zTs vwCl zm_76 := zMok_s 682 60 681 rfl rfl rfl (by decide +kernel)
set_option maxRecDepth 100000 in
theorem zo_77 : zMok zTs vwCl zm_77 := zMok_v 692 61 690 691 rfl rfl rfl rfl (by decide +kernel)
set_option maxRecDepth 100000 in
theorem zo_78 : zMok zTs vwCl zm_78 := zMok_v 696 61 695 6 rfl rfl rfl rfl (by decide +kernel)
set_option maxRecDepth 100000 in
theorem zo_79 : zMok zTs vwCl zm_79 := zMok_v 700 61 698 699 rfl rfl rfl rfl (by decide +kernel)
set_option maxRecDepth 100000 in
theorem zo_80 : zMok zTs vwCl zm_80 := zMok_v 687 61 685 686 rfl rfl rfl rfl (by decide +kernel)
set_option maxRecDepth 100000 in
theorem zo_81 : zMok zTs vwCl zm_81 := zMok_v 704 61 702 703 rfl rfl rfl rfl (by decide +kernel)
set_option maxRecDepth 100000 in
theorem zo_82 : zMok zTs vwCl zm_82 := zMok_v 709 61 707 708 rfl rfl rfl rfl (by decide +kernel)
set_option maxRecDepth 100000 in
theorem zo_83 : zMok zTs vwCl zm_83 := zMok_v 679 67 677 678 rfl rfl rfl rfl (by decide +kernel)
set_option maxRecDepth 100000 in
theorem zo_84 : zMok zTs vwCl zm_84 := zMok_v 668 69 667 5 rfl rfl rfl rfl (by decide +kernel)
set_option maxRecDepth 100000 in
theorem zo_85 : zMok zTs vwCl zm_85 := zMok_v 718 65 716 717 rfl rfl rfl rfl (by decide +kernel)
set_option maxRecDepth 100000 in
theorem zo_86 : zMok zTs vwCl zm_86 := zMok_s 714 69 713 rfl rfl rfl (by decide +kernel)
set_option maxRecDepth 100000 in
theorem zo_87 : zMok zTs vwCl zm_87 := zMok_s 721 69 720 rfl rfl rfl (by decide +kernel)
set_option maxRecDepth 100000 in
theorem zo_88 : zMok zTs vwCl zm_88 := zMok_v 725 69 724 7 rfl rfl rfl rfl (by decide +kernel)
set_option maxRecDepth 100000 in
theorem zo_89 : zMok zTs vwCl zm_89 := zMok_s 728 69 727 rfl rfl rfl (by decide +kernel)
set_option maxRecDepth 100000 in
theorem zo_90 : zMok zTs vwCl zm_90 := zMok_v 732 66 730 731 rfl rfl rfl rfl (by decide +kernel)
set_option maxRecDepth 100000 in
theorem zo_91 : zMok zTs vwCl zm_91 := zMok_v 664 69 663 4 rfl rfl rfl rfl (by decide +kernel)
set_option maxRecDepth 100000 in
theorem zo_92 : zMok zTs vwCl zm_92 := zMok_v 744 63 742 743 rfl rfl rfl rfl (by decide +kernel)
set_option maxRecDepth 100000 in
theorem zo_93 : zMok zTs vwCl zm_93 := zMok_v 748 64 746 747 rfl rfl rfl rfl (by decide +kernel)
set_option maxRecDepth 100000 in
theorem zo_94 : zMok zTs vwCl zm_94 := zMok_v 737 68 735 736 rfl rfl rfl rfl (by decide +kernel)
set_option maxRecDepth 100000 in
theorem zo_95 : zMok zTs vwCl zm_95 := zMok_v 757 62 755 756 rfl rfl rfl rfl (by decide +kernel)
set_option maxRecDepth 100000 in
theorem zo_96 : zMok zTs vwCl zm_96 := zMok_v 769 68 768 9 rfl rfl rfl rfl (by decide +kernel)
set_option maxRecDepth 100000 in
theorem zo_97 : zMok zTs vwCl zm_97 := zMok_v 761 68 760 8 rfl rfl rfl rfl (by decide +kernel)
set_option maxRecDepth 100000 in
theorem zo_98 : zMok zTs vwCl zm_98 := zMok_v 777 64 775 776 rfl rfl rfl rfl (by decide +kernel)
set_option maxRecDepth 100000 in
theorem zo_99 : zMok zTs vwCl zm_99 := zMok_v 773 68 772 10 rfl rfl rfl rfl (by decide +kernel)
set_option maxRecDepth 100000 in
theorem zo_100 : zMok zTs vwCl zm_100 := zMok_v 752 68 750 751 rfl rfl rfl rfl (by decide +kernel)
set_option maxRecDepth 100000 in
theorem zo_101 : zMok zTs vwCl zm_101 := zMok_v 629 69 627 628 rfl rfl rfl rfl (by decide +kernel)
set_option maxRecDepth 100000 in
theorem zo_102 : zMok zTs vwCl zm_102 := zMok_v 602 60 600 601 rfl rfl rfl rfl (by decide +kernel)
set_option maxRecDepth 100000 in
theorem zo_103 : zMok zTs vwCl zm_103 := zMok_s 598 59 597 rfl rfl rfl (by decide +kernel)
set_option maxRecDepth 100000 in
theorem zo_104 : zMok zTs vwCl zm_104 := zMok_v 1235 71 1234 27 rfl rfl rfl rfl (by decide +kernel)
set_option maxRecDepth 100000 in
theorem zo_105 : zMok zTs vwCl zm_105 := zMok_v 1231 71 1230 26 rfl rfl rfl rfl (by decide +kernel)
set_option maxRecDepth 100000 in
theorem zo_106 : zMok zTs vwCl zm_106 := zMok_v 1248 71 1247 30 rfl rfl rfl rfl (by decide +kernel)
set_option maxRecDepth 100000 in
theorem zo_107 : zMok zTs vwCl zm_107 := zMok_v 1252 71 1251 31 rfl rfl rfl rfl (by decide +kernel)
set_option maxRecDepth 100000 in
theorem zo_108 : zMok zTs vwCl zm_108 := zMok_v 1244 71 1243 29 rfl rfl rfl rfl (by decide +kernel)
set_option maxRecDepth 100000 in
theorem zo_109 : zMok zTs vwCl zm_109 := zMok_s 1263 71 1262 rfl rfl rfl (by decide +kernel)
set_option maxRecDepth 100000 in
theorem zo_110 : zMok zTs vwCl zm_110 := zMok_v 1271 71 1270 35 rfl rfl rfl rfl (by decide +kernel)
set_option maxRecDepth 100000 in
theorem zo_111 : zMok zTs vwCl zm_111 := zMok_v 1287 71 1286 39 rfl rfl rfl rfl (by decide +kernel)
set_option maxRecDepth 100000 in
theorem zo_112 : zMok zTs vwCl zm_112 := zMok_v 1291 71 1290 40 rfl rfl rfl rfl (by decide +kernel)
set_option maxRecDepth 100000 in
theorem zo_113 : zMok zTs vwCl zm_113 := zMok_v 1295 71 1294 41 rfl rfl rfl rfl (by decide +kernel)
set_option maxRecDepth 100000 in
theorem zo_114 : zMok zTs vwCl zm_114 := zMok_v 1283 71 1282 38 rfl rfl rfl rfl (by decide +kernel)
set_option maxRecDepth 100000 in
theorem zo_115 : zMok zTs vwCl zm_115 := zMok_v 1279 71 1278 37 rfl rfl rfl rfl (by decide +kernel)
set_option maxRecDepth 100000 in
theorem zo_116 : zMok zTs vwCl zm_116 := zMok_v 1275 71 1274 36 rfl rfl rfl rfl (by decide +kernel)
set_option maxRecDepth 100000 in
theorem zo_117 : zMok zTs vwCl zm_117 := zMok_v 1267 71 1266 34 rfl rfl rfl rfl (by decide +kernel)
set_option maxRecDepth 100000 in
theorem zo_118 : zMok zTs vwCl zm_118 := zMok_v 1299 71 1298 42 rfl rfl rfl rfl (by decide +kernel)
set_option maxRecDepth 100000 in
theorem zo_119 : zMok zTs vwCl zm_119 := zMok_v 1260 71 1259 33 rfl rfl rfl rfl (by decide +kernel)
set_option maxRecDepth 100000 in
theorem zo_120 : zMok zTs vwCl zm_120 := zMok_v 1303 71 1302 43 rfl rfl rfl rfl (by decide +kernel)
set_option maxRecDepth 100000 in
theorem zo_121 : zMok zTs vwCl zm_121 := zMok_v 1307 71 1306 44 rfl rfl rfl rfl (by decide +kernel)
set_option maxRecDepth 100000 in
theorem zo_122 : zMok zTs vwCl zm_122 := zMok_v 1311 71 1310 45 rfl rfl rfl rfl (by decide +kernel)
set_option maxRecDepth 100000 in
theorem zo_123 : zMok zTs vwCl zm_123 := zMok_v 1315 71 1314 46 rfl rfl rfl rfl (by decide +kernel)
set_option maxRecDepth 100000 in
theorem zo_124 : zMok zTs vwCl zm_124 := zMok_v 1256 71 1255 32 rfl rfl rfl rfl (by decide +kernel)
set_option maxRecDepth 100000 in
theorem zo_125 : zMok zTs vwCl zm_125 := zMok_v 1319 71 1318 47 rfl rfl rfl rfl (by decide +kernel)
set_option maxRecDepth 100000 in
theorem zo_126 : zMok zTs vwCl zm_126 := zMok_v 1328 71 1327 49 rfl rfl rfl rfl (by decide +kernel)
set_option maxRecDepth 100000 in
theorem zo_127 : zMok zTs vwCl zm_127 := zMok_v 1324 71 1323 48 rfl rfl rfl rfl (by decide +kernel)
set_option maxRecDepth 100000 in
theorem zo_128 : zMok zTs vwCl zm_128 := zMok_v 1240 71 1239 28 rfl rfl rfl rfl (by decide +kernel)
set_option maxRecDepth 100000 in
theorem zo_129 : zMok zTs vwCl zm_129 := zMok_v 1227 71 1225 1226 rfl rfl rfl rfl (by decide +kernel)
set_option maxRecDepth 100000 in
theorem zo_130 : zMok zTs vwCl zm_130 := zMok_v 795 70 794 11 rfl rfl rfl rfl (by decide +kernel)
set_option maxRecDepth 100000 in
theorem zo_131 : zMok zTs vwCl zm_131 := zMok_s 800 70 799 rfl rfl rfl (by decide +kernel)
set_option maxRecDepth 100000 in
theorem zo_132 : zMok zTs vwCl zm_132 := zMok_s 804 70 803 rfl rfl rfl (by decide +kernel)
set_option maxRecDepth 100000 in
theorem zo_133 : zMok zTs vwCl zm_133 := zMok_s 815 70 814 rfl rfl rfl (by decide +kernel)
set_option maxRecDepth 100000 in
theorem zo_134 : zMok zTs vwCl zm_134 := zMok_v 823 66 822 14 rfl rfl rfl rfl (by decide +kernel)
set_option maxRecDepth 100000 in
theorem zo_135 : zMok zTs vwCl zm_135 := zMok_v 819 66 817 818 rfl rfl rfl rfl (by decide +kernel)
set_option maxRecDepth 100000 in
theorem zo_136 : zMok zTs vwCl zm_136 := zMok_v 812 70 811 13 rfl rfl rfl rfl (by decide +kernel)
set_option maxRecDepth 100000 in
theorem zo_137 : zMok zTs vwCl zm_137 := zMok_v 832 67 830 831 rfl rfl rfl rfl (by decide +kernel)
set_option maxRecDepth 100000 in
theorem zo_138 : zMok zTs vwCl zm_138 := zMok_v 840 67 838 839 rfl rfl rfl rfl (by decide +kernel)
set_option maxRecDepth 100000 in
theorem zo_139 : zMok zTs vwCl zm_139 := zMok_v 849 68 847 848 rfl rfl rfl rfl (by decide +kernel)
set_option maxRecDepth 100000 in
theorem zo_140 : zMok zTs vwCl zm_140 := zMok_v 844 70 843 16 rfl rfl rfl rfl (by decide +kernel)
set_option maxRecDepth 100000 in
theorem zo_141 : zMok zTs vwCl zm_141 := zMok_v 853 70 852 17 rfl rfl rfl rfl (by decide +kernel)
set_option maxRecDepth 100000 in
theorem zo_142 : zMok zTs vwCl zm_142 := zMok_s 857 70 856 rfl rfl rfl (by decide +kernel)
set_option maxRecDepth 100000 in
theorem zo_143 : zMok zTs vwCl zm_143 := zMok_v 828 70 827 15 rfl rfl rfl rfl (by decide +kernel)
set_option maxRecDepth 100000 in
theorem zo_144 : zMok zTs vwCl zm_144 := zMok_v 808 70 807 12 rfl rfl rfl rfl (by decide +kernel)
set_option maxRecDepth 100000 in
theorem zo_145 : zMok zTs vwCl zm_145 := zMok_v 788 70 786 787 rfl rfl rfl rfl (by decide +kernel)
set_option maxRecDepth 100000 in
theorem zo_146 : zMok zTs vwCl zm_146 := zMok_v 784 60 782 783 rfl rfl rfl rfl (by decide +kernel)
set_option maxRecDepth 100000 in
theorem zo_147 : zMok zTs vwCl zm_147 := zMok_s 780 59 779 rfl rfl rfl (by decide +kernel)
set_option maxRecDepth 100000 in
theorem zo_148 : zMok zTs vwCl zm_148 := zMok_v 1344 71 1343 52 rfl rfl rfl rfl (by decide +kernel)
set_option maxRecDepth 100000 in
theorem zo_149 : zMok zTs vwCl zm_149 := zMok_v 1340 71 1339 51 rfl rfl rfl rfl (by decide +kernel)
set_option maxRecDepth 100000 in
theorem zo_150 : zMok zTs vwCl zm_150 := zMok_v 1352 71 1351 54 rfl rfl rfl rfl (by decide +kernel)
set_option maxRecDepth 100000 in
theorem zo_151 : zMok zTs vwCl zm_151 := zMok_v 1348 71 1347 53 rfl rfl rfl rfl (by decide +kernel)
set_option maxRecDepth 100000 in
theorem zo_152 : zMok zTs vwCl zm_152 := zMok_v 1336 71 1335 50 rfl rfl rfl rfl (by decide +kernel)
set_option maxRecDepth 100000 in
theorem zo_153 : zMok zTs vwCl zm_153 := zMok_v 1357 71 1356 55 rfl rfl rfl rfl (by decide +kernel)
set_option maxRecDepth 100000 in
theorem zo_154 : zMok zTs vwCl zm_154 := zMok_v 1332 71 1330 1331 rfl rfl rfl rfl (by decide +kernel)
set_option maxRecDepth 100000 in
theorem zo_155 : zMok zTs vwCl zm_155 := zMok_v 864 60 862 863 rfl rfl rfl rfl (by decide +kernel)
set_option maxRecDepth 100000 in
theorem zo_156 : zMok zTs vwCl zm_156 := zMok_s 860 59 859 rfl rfl rfl (by decide +kernel)
set_option maxRecDepth 100000 in
theorem zo_157 : zMok zTs vwCl zm_157 := zMok_v 1361 71 1359 1360 rfl rfl rfl rfl (by decide +kernel)
set_option maxRecDepth 100000 in
theorem zo_158 : zMok zTs vwCl zm_158 := zMok_v 871 60 869 870 rfl rfl rfl rfl (by decide +kernel)
set_option maxRecDepth 100000 in
theorem zo_159 : zMok zTs vwCl zm_159 := zMok_s 867 59 866 rfl rfl rfl (by decide +kernel)
set_option maxRecDepth 100000 in
theorem zo_160 : zMok zTs vwCl zm_160 := zMok_v 1365 71 1363 1364 rfl rfl rfl rfl (by decide +kernel)
set_option maxRecDepth 100000 in
theorem zo_161 : zMok zTs vwCl zm_161 := zMok_v 883 66 881 882 rfl rfl rfl rfl (by decide +kernel)
set_option maxRecDepth 100000 in
theorem zo_162 : zMok zTs vwCl zm_162 := zMok_v 879 60 877 878 rfl rfl rfl rfl (by decide +kernel)
set_option maxRecDepth 100000 in
theorem zo_163 : zMok zTs vwCl zm_163 := zMok_s 875 59 874 rfl rfl rfl (by decide +kernel)
set_option maxRecDepth 100000 in
theorem zo_164 : zMok zTs vwCl zm_164 := zMok_v 1369 71 1367 1368 rfl rfl rfl rfl (by decide +kernel)
set_option maxRecDepth 100000 in
theorem zo_165 : zMok zTs vwCl zm_165 := zMok_s 893 60 892 rfl rfl rfl (by decide +kernel)
set_option maxRecDepth 100000 in
theorem zo_166 : zMok zTs vwCl zm_166 := zMok_v 890 60 888 889 rfl rfl rfl rfl (by decide +kernel)
set_option maxRecDepth 100000 in
theorem zo_167 : zMok zTs vwCl zm_167 := zMok_s 886 59 885 rfl rfl rfl (by decide +kernel)
set_option maxRecDepth 100000 in
theorem zo_168 : zMok zTs vwCl zm_168 := zMok_v 1377 71 1376 56 rfl rfl rfl rfl (by decide +kernel)
set_option maxRecDepth 100000 in
theorem zo_169 : zMok zTs vwCl zm_169 := zMok_v 1373 71 1371 1372 rfl rfl rfl rfl (by decide +kernel)
set_option maxRecDepth 100000 in
theorem zo_170 : zMok zTs vwCl zm_170 := zMok_v 908 60 907 18 rfl rfl rfl rfl (by decide +kernel)
set_option maxRecDepth 100000 in
theorem zo_171 : zMok zTs vwCl zm_171 := zMok_v 904 60 902 903 rfl rfl rfl rfl (by decide +kernel)
set_option maxRecDepth 100000 in
theorem zo_172 : zMok zTs vwCl zm_172 := zMok_s 900 59 899 rfl rfl rfl (by decide +kernel)
set_option maxRecDepth 100000 in
theorem zo_173 : zMok zTs vwCl zm_173 := zMok_v 1381 71 1379 1380 rfl rfl rfl rfl (by decide +kernel)
set_option maxRecDepth 100000 in
theorem zo_174 : zMok zTs vwCl zm_174 := zMok_v 923 61 921 922 rfl rfl rfl rfl (by decide +kernel)
set_option maxRecDepth 100000 in
theorem zo_175 : zMok zTs vwCl zm_175 := zMok_v 919 60 917 918 rfl rfl rfl rfl (by decide +kernel)
set_option maxRecDepth 100000 in
theorem zo_176 : zMok zTs vwCl zm_176 := zMok_s 915 59 914 rfl rfl rfl (by decide +kernel)
set_option maxRecDepth 100000 in
theorem zo_177 : zMok zTs vwCl zm_177 := zMok_v 1385 71 1383 1384 rfl rfl rfl rfl (by decide +kernel)
set_option maxRecDepth 100000 in
theorem zo_178 : zMok zTs vwCl zm_178 := zMok_v 930 60 928 929 rfl rfl rfl rfl (by decide +kernel)
set_option maxRecDepth 100000 in
theorem zo_179 : zMok zTs vwCl zm_179 := zMok_s 926 59 925 rfl rfl rfl (by decide +kernel)
set_option maxRecDepth 100000 in
theorem zo_180 : zMok zTs vwCl zm_180 := zMok_v 1389 71 1387 1388 rfl rfl rfl rfl (by decide +kernel)
set_option maxRecDepth 100000 in
theorem zo_181 : zMok zTs vwCl zm_181 := zMok_v 937 60 935 936 rfl rfl rfl rfl (by decide +kernel)
set_option maxRecDepth 100000 in
theorem zo_182 : zMok zTs vwCl zm_182 := zMok_s 933 59 932 rfl rfl rfl (by decide +kernel)
set_option maxRecDepth 100000 in
theorem zo_183 : zMok zTs vwCl zm_183 := zMok_v 1393 71 1391 1392 rfl rfl rfl rfl (by decide +kernel)
set_option maxRecDepth 100000 in
theorem zo_184 : zMok zTs vwCl zm_184 := zMok_v 394 60 392 393 rfl rfl rfl rfl (by decide +kernel)
set_option maxRecDepth 100000 in
theorem zo_185 : zMok zTs vwCl zm_185 := zMok_v 1397 71 1395 1396 rfl rfl rfl rfl (by decide +kernel)
set_option maxRecDepth 100000 in
theorem zo_186 : zMok zTs vwCl zm_186 := zMok_v 944 60 942 943 rfl rfl rfl rfl (by decide +kernel)
set_option maxRecDepth 100000 in
theorem zo_187 : zMok zTs vwCl zm_187 := zMok_s 940 59 939 rfl rfl rfl (by decide +kernel)
set_option maxRecDepth 100000 in
theorem zo_188 : zMok zTs vwCl zm_188 := zMok_v 1401 71 1399 1400 rfl rfl rfl rfl (by decide +kernel)
set_option maxRecDepth 100000 in
theorem zo_189 : zMok zTs vwCl zm_189 := zMok_s 954 60 953 rfl rfl rfl (by decide +kernel)
set_option maxRecDepth 100000 in
theorem zo_190 : zMok zTs vwCl zm_190 := zMok_v 951 60 949 950 rfl rfl rfl rfl (by decide +kernel)
set_option maxRecDepth 100000 in
theorem zo_191 : zMok zTs vwCl zm_191 := zMok_s 947 59 946 rfl rfl rfl (by decide +kernel)
set_option maxRecDepth 100000 in
theorem zo_192 : zMok zTs vwCl zm_192 := zMok_s 1408 71 1407 rfl rfl rfl (by decide +kernel)
set_option maxRecDepth 100000 in
theorem zo_193 : zMok zTs vwCl zm_193 := zMok_v 1405 71 1403 1404 rfl rfl rfl rfl (by decide +kernel)
set_option maxRecDepth 100000 in
theorem zo_194 : zMok zTs vwCl zm_194 := zMok_v 966 61 964 965 rfl rfl rfl rfl (by decide +kernel)
set_option maxRecDepth 100000 in
theorem zo_195 : zMok zTs vwCl zm_195 := zMok_v 962 60 960 961 rfl rfl rfl rfl (by decide +kernel)
set_option maxRecDepth 100000 in
theorem zo_196 : zMok zTs vwCl zm_196 := zMok_s 958 59 957 rfl rfl rfl (by decide +kernel)
set_option maxRecDepth 100000 in
theorem zo_197 : zMok zTs vwCl zm_197 := zMok_v 1412 71 1410 1411 rfl rfl rfl rfl (by decide +kernel)
set_option maxRecDepth 100000 in
theorem zo_198 : zMok zTs vwCl zm_198 := zMok_s 976 60 975 rfl rfl rfl (by decide +kernel)
set_option maxRecDepth 100000 in
theorem zo_199 : zMok zTs vwCl zm_199 := zMok_v 973 60 971 972 rfl rfl rfl rfl (by decide +kernel)
set_option maxRecDepth 100000 in
theorem zo_200 : zMok zTs vwCl zm_200 := zMok_s 969 59 968 rfl rfl rfl (by decide +kernel)
set_option maxRecDepth 100000 in
theorem zo_201 : zMok zTs vwCl zm_201 := zMok_v 1416 71 1414 1415 rfl rfl rfl rfl (by decide +kernel)
set_option maxRecDepth 100000 in
theorem zo_202 : zMok zTs vwCl zm_202 := zMok_v 983 60 981 982 rfl rfl rfl rfl (by decide +kernel)
set_option maxRecDepth 100000 in
theorem zo_203 : zMok zTs vwCl zm_203 := zMok_s 979 59 978 rfl rfl rfl (by decide +kernel)
set_option maxRecDepth 100000 in
theorem zo_204 : zMok zTs vwCl zm_204 := zMok_v 1420 71 1418 1419 rfl rfl rfl rfl (by decide +kernel)
set_option maxRecDepth 100000 in
theorem zo_205 : zMok zTs vwCl zm_205 := zMok_v 994 61 992 993 rfl rfl rfl rfl (by decide +kernel)
set_option maxRecDepth 100000 in
theorem zo_206 : zMok zTs vwCl zm_206 := zMok_v 990 60 988 989 rfl rfl rfl rfl (by decide +kernel)
set_option maxRecDepth 100000 in
theorem zo_207 : zMok zTs vwCl zm_207 := zMok_s 986 59 985 rfl rfl rfl (by decide +kernel)
set_option maxRecDepth 100000 in
theorem zo_208 : zMok zTs vwCl zm_208 := zMok_v 1428 71 1427 57 rfl rfl rfl rfl (by decide +kernel)
set_option maxRecDepth 100000 in
theorem zo_209 : zMok zTs vwCl zm_209 := zMok_v 1432 71 1431 58 rfl rfl rfl rfl (by decide +kernel)
set_option maxRecDepth 100000 in
theorem zo_210 : zMok zTs vwCl zm_210 := zMok_v 1424 71 1422 1423 rfl rfl rfl rfl (by decide +kernel)
set_option maxRecDepth 100000 in
theorem zo_211 : zMok zTs vwCl zm_211 := zMok_v 1006 62 1004 1005 rfl rfl rfl rfl (by decide +kernel)
set_option maxRecDepth 100000 in
theorem zo_212 : zMok zTs vwCl zm_212 := zMok_v 1002 60 1000 1001 rfl rfl rfl rfl (by decide +kernel)
set_option maxRecDepth 100000 in
theorem zo_213 : zMok zTs vwCl zm_213 := zMok_s 998 59 997 rfl rfl rfl (by decide +kernel)
set_option maxRecDepth 100000 in
theorem zo_214 : zMok zTs vwCl zm_214 := zMok_v 1436 71 1434 1435 rfl rfl rfl rfl (by decide +kernel)
set_option maxRecDepth 100000 in
theorem zo_215 : zMok zTs vwCl zm_215 := zMok_v 1020 61 1018 1019 rfl rfl rfl rfl (by decide +kernel)
set_option maxRecDepth 100000 in
theorem zo_216 : zMok zTs vwCl zm_216 := zMok_v 1024 68 1022 1023 rfl rfl rfl rfl (by decide +kernel)
set_option maxRecDepth 100000 in
theorem zo_217 : zMok zTs vwCl zm_217 := zMok_v 1028 68 1026 1027 rfl rfl rfl rfl (by decide +kernel)
set_option maxRecDepth 100000 in
theorem zo_218 : zMok zTs vwCl zm_218 := zMok_v 1015 60 1013 1014 rfl rfl rfl rfl (by decide +kernel)
set_option maxRecDepth 100000 in
theorem zo_219 : zMok zTs vwCl zm_219 := zMok_s 1011 59 1010 rfl rfl rfl (by decide +kernel)
set_option maxRecDepth 100000 in
theorem zo_220 : zMok zTs vwCl zm_220 := zMok_v 1440 71 1438 1439 rfl rfl rfl rfl (by decide +kernel)
end
section
/-! THE WHOLE PROGRAM IS KNOWN, together -/
theorem zSy_of {M : zM} (h : (!(Nat.beq (zKind M).1 2) || (match vwCl[(zKind M).2.1]? with | some q => decide (q.1 = (zName M).cls) | none => true)) = true) : zSy zTs vwCl zft M := by
  refine ⟨zcl_ok, ⟨_, rfl, rfl⟩, ⟨_, rfl, rfl⟩, fun hk q hq => ?_⟩
  rw [hk, hq] at h
  exact of_decide_eq_true h
theorem zThr_no {M : zM} (h : (zIns M).all (fun en => match en.2.1 with | .new _ => !(Nat.beq en.2.2.2.2.1 1) | _ => true) = true) : ∀ en ∈ zIns M, ∀ ik : Nat, en.2.1 = .new ik → en.2.2.2.2.1 = 1 → zThr zTs zNw M en ik := by
  intro en hen ik h1 h2
  have h3 := List.all_eq_true.mp h en hen
  rw [h1, h2] at h3
  cases h3
/-- the one throw of a method -/
theorem zThr_one {M : zM} (e0 : zN) (ik ic pk pi : Nat) (hb : ((zIns M).all (fun en => match en.2.1 with | .new _ => decide (en = e0) | _ => true) && (decide (decode (zCode M) e0.1 = .ok (.new ik, 3)) && (decide (e0.2.1 = .new ik) && (decide (decode (zCode M) (e0.1 + 3) = .ok (.dup, 1)) && (decide (decode (zCode M) (e0.1 + 4) = .ok (.invokespecial ic, 3)) && (decide (decode (zCode M) (e0.1 + 7) = .ok (.athrow, 1)) &&
    ((vx_at0 (zName M).cls ic (zEn e0.2.2.2.1) zNm).all (fun w => decide (w ∈ lw_tbl) && (zgN w && vx_ot w)) && (Bundle.fit (zEn e0.2.2.2.1) && (zNm.all Bundle.fit && (Nat.blt 5 (zRoom M).1 && (Nat.ble 89 (zRoom M).2.1 && (zTab M).isEmpty))))))))))) = true)
    (h1 : lw_tbl[pk]? = some (.classLink (zName M).cls ik (zEn e0.2.2.2.1))) (h2 : lw_tbl[pi]? = some (.initialized (zEn e0.2.2.2.1))) : ∀ en ∈ zIns M, ∀ ik : Nat, en.2.1 = .new ik → en.2.2.2.2.1 = 1 → zThr zTs zNw M en ik := by
  simp only [Bool.and_eq_true, decide_eq_true_eq] at hb
  obtain ⟨b0, b1, b11, b2, b3, b4, b5, b6, b7, b8, b9, b10⟩ := hb
  intro en hen ik' hn _
  have h3 := List.all_eq_true.mp b0 en hen
  rw [hn] at h3
  have h4 : en = e0 := of_decide_eq_true h3
  subst h4
  have hik : ik' = ik := by
    rw [b11] at hn
    cases hn
    rfl
  subst hik
  refine ⟨ic, b1, b2, b3, b4, zTs_at pk h1 rfl, zTs_at pi h2 rfl, fun w hw => ?_, fun w hw => ?_, b6, fun n hn' => List.all_eq_true.mp b7 n hn', Nat.le_of_ble_eq_true b8, Nat.le_of_ble_eq_true b9, List.isEmpty_iff.mp b10⟩
  · have h5 := List.all_eq_true.mp b5 w hw
    simp only [Bool.and_eq_true, decide_eq_true_eq] at h5
    obtain ⟨c1, c2, -⟩ := h5
    unfold zgN at c2
    rw [Bool.or_eq_true] at c2
    rcases c2 with c2 | c2
    · exact Or.inl (List.mem_filter.mpr ⟨c1, c2⟩)
    · exact Or.inr (List.mem_filter.mpr ⟨c1, c2⟩)
  · rcases List.mem_cons.mp hw with rfl | hw
    · rfl
    · rcases List.mem_cons.mp hw with rfl | hw
      · rfl
      · have h5 := List.all_eq_true.mp b5 w hw
        simp only [Bool.and_eq_true, decide_eq_true_eq] at h5
        exact h5.2.2

set_option maxRecDepth 100000 in
theorem zt_13 : ∀ en ∈ zIns zm_13, ∀ ik : Nat, en.2.1 = .new ik → en.2.2.2.2.1 = 1 → zThr zTs zNw zm_13 en ik := zThr_one (4, .new 287, 3, 0, 1, 0) 287 289 409 75 (by decide +kernel) rfl rfl
set_option maxRecDepth 100000 in
theorem zt_26 : ∀ en ∈ zIns zm_26, ∀ ik : Nat, en.2.1 = .new ik → en.2.2.2.2.1 = 1 → zThr zTs zNw zm_26 en ik := zThr_one (4, .new 290, 3, 1, 1, 0) 290 292 505 76 (by decide +kernel) rfl rfl
set_option maxRecDepth 100000 in
set_option maxHeartbeats 4000000 in
theorem zall : ∀ M ∈ zPg, zSy zTs vwCl zft M ∧ (∀ en ∈ zIns M, zNok zTs zNw zPg vwCl zft zfn zsf M en) ∧ zMok zTs vwCl M ∧ ∀ en ∈ zIns M, ∀ ik : Nat, en.2.1 = .new ik → en.2.2.2.2.1 = 1 → zThr zTs zNw M en ik :=
  List.forall_mem_cons.mpr ⟨⟨zSy_of (by decide +kernel), zv_0, zo_0, (zThr_no (by decide +kernel))⟩, List.forall_mem_cons.mpr ⟨⟨zSy_of (by decide +kernel), zv_1, zo_1, (zThr_no (by decide +kernel))⟩, List.forall_mem_cons.mpr ⟨⟨zSy_of (by decide +kernel), zv_2, zo_2, (zThr_no (by decide +kernel))⟩, List.forall_mem_cons.mpr ⟨⟨zSy_of (by decide +kernel), zv_3, zo_3, (zThr_no (by decide +kernel))⟩, List.forall_mem_cons.mpr ⟨⟨zSy_of (by decide +kernel), zv_4, zo_4, (zThr_no (by decide +kernel))⟩, List.forall_mem_cons.mpr ⟨⟨zSy_of (by decide +kernel), zv_5, zo_5, (zThr_no (by decide +kernel))⟩, List.forall_mem_cons.mpr ⟨⟨zSy_of (by decide +kernel), zv_6, zo_6, (zThr_no (by decide +kernel))⟩, List.forall_mem_cons.mpr ⟨⟨zSy_of (by decide +kernel), zv_7, zo_7, (zThr_no (by decide +kernel))⟩, List.forall_mem_cons.mpr ⟨⟨zSy_of (by decide +kernel), zv_8, zo_8, (zThr_no (by decide +kernel))⟩, List.forall_mem_cons.mpr ⟨⟨zSy_of (by decide +kernel), zv_9, zo_9, (zThr_no (by decide +kernel))⟩, List.forall_mem_cons.mpr ⟨⟨zSy_of (by decide +kernel), zv_10, zo_10, (zThr_no (by decide +kernel))⟩, List.forall_mem_cons.mpr ⟨⟨zSy_of (by decide +kernel), zv_11, zo_11, (zThr_no (by decide +kernel))⟩, List.forall_mem_cons.mpr ⟨⟨zSy_of (by decide +kernel), zv_12, zo_12, (zThr_no (by decide +kernel))⟩, List.forall_mem_cons.mpr ⟨⟨zSy_of (by decide +kernel), zv_13, zo_13, zt_13⟩, List.forall_mem_cons.mpr ⟨⟨zSy_of (by decide +kernel), zv_14, zo_14, (zThr_no (by decide +kernel))⟩, List.forall_mem_cons.mpr ⟨⟨zSy_of (by decide +kernel), zv_15, zo_15, (zThr_no (by decide +kernel))⟩, List.forall_mem_cons.mpr ⟨⟨zSy_of (by decide +kernel), zv_16, zo_16, (zThr_no (by decide +kernel))⟩, List.forall_mem_cons.mpr ⟨⟨zSy_of (by decide +kernel), zv_17, zo_17, (zThr_no (by decide +kernel))⟩, List.forall_mem_cons.mpr ⟨⟨zSy_of (by decide +kernel), zv_18, zo_18, (zThr_no (by decide +kernel))⟩, List.forall_mem_cons.mpr ⟨⟨zSy_of (by decide +kernel), zv_19, zo_19, (zThr_no (by decide +kernel))⟩, List.forall_mem_cons.mpr ⟨⟨zSy_of (by decide +kernel), zv_20, zo_20, (zThr_no (by decide +kernel))⟩, List.forall_mem_cons.mpr ⟨⟨zSy_of (by decide +kernel), zv_21, zo_21, (zThr_no (by decide +kernel))⟩, List.forall_mem_cons.mpr ⟨⟨zSy_of (by decide +kernel), zv_22, zo_22, (zThr_no (by decide +kernel))⟩, List.forall_mem_cons.mpr ⟨⟨zSy_of (by decide +kernel), zv_23, zo_23, (zThr_no (by decide +kernel))⟩, List.forall_mem_cons.mpr ⟨⟨zSy_of (by decide +kernel), zv_24, zo_24, (zThr_no (by decide +kernel))⟩, List.forall_mem_cons.mpr ⟨⟨zSy_of (by decide +kernel), zv_25, zo_25, (zThr_no (by decide +kernel))⟩, List.forall_mem_cons.mpr ⟨⟨zSy_of (by decide +kernel), zv_26, zo_26, zt_26⟩, List.forall_mem_cons.mpr ⟨⟨zSy_of (by decide +kernel), zv_27, zo_27, (zThr_no (by decide +kernel))⟩, List.forall_mem_cons.mpr ⟨⟨zSy_of (by decide +kernel), zv_28, zo_28, (zThr_no (by decide +kernel))⟩, List.forall_mem_cons.mpr ⟨⟨zSy_of (by decide +kernel), zv_29, zo_29, (zThr_no (by decide +kernel))⟩, List.forall_mem_cons.mpr ⟨⟨zSy_of (by decide +kernel), zv_30, zo_30, (zThr_no (by decide +kernel))⟩, List.forall_mem_cons.mpr ⟨⟨zSy_of (by decide +kernel), zv_31, zo_31, (zThr_no (by decide +kernel))⟩, List.forall_mem_cons.mpr ⟨⟨zSy_of (by decide +kernel), zv_32, zo_32, (zThr_no (by decide +kernel))⟩, List.forall_mem_cons.mpr ⟨⟨zSy_of (by decide +kernel), zv_33, zo_33, (zThr_no (by decide +kernel))⟩, List.forall_mem_cons.mpr ⟨⟨zSy_of (by decide +kernel), zv_34, zo_34, (zThr_no (by decide +kernel))⟩, List.forall_mem_cons.mpr ⟨⟨zSy_of (by decide +kernel), zv_35, zo_35, (zThr_no (by decide +kernel))⟩, List.forall_mem_cons.mpr ⟨⟨zSy_of (by decide +kernel), zv_36, zo_36, (zThr_no (by decide +kernel))⟩, List.forall_mem_cons.mpr ⟨⟨zSy_of (by decide +kernel), zv_37, zo_37, (zThr_no (by decide +kernel))⟩, List.forall_mem_cons.mpr ⟨⟨zSy_of (by decide +kernel), zv_38, zo_38, (zThr_no (by decide +kernel))⟩, List.forall_mem_cons.mpr ⟨⟨zSy_of (by decide +kernel), zv_39, zo_39, (zThr_no (by decide +kernel))⟩, List.forall_mem_cons.mpr ⟨⟨zSy_of (by decide +kernel), zv_40, zo_40, (zThr_no (by decide +kernel))⟩, List.forall_mem_cons.mpr ⟨⟨zSy_of (by decide +kernel), zv_41, zo_41, (zThr_no (by decide +kernel))⟩, List.forall_mem_cons.mpr ⟨⟨zSy_of (by decide +kernel), zv_42, zo_42, (zThr_no (by decide +kernel))⟩, List.forall_mem_cons.mpr ⟨⟨zSy_of (by decide +kernel), zv_43, zo_43, (zThr_no (by decide +kernel))⟩, List.forall_mem_cons.mpr ⟨⟨zSy_of (by decide +kernel), zv_44, zo_44, (zThr_no (by decide +kernel))⟩, List.forall_mem_cons.mpr ⟨⟨zSy_of (by decide +kernel), zv_45, zo_45, (zThr_no (by decide +kernel))⟩, List.forall_mem_cons.mpr ⟨⟨zSy_of (by decide +kernel), zv_46, zo_46, (zThr_no (by decide +kernel))⟩, List.forall_mem_cons.mpr ⟨⟨zSy_of (by decide +kernel), zv_47, zo_47, (zThr_no (by decide +kernel))⟩, List.forall_mem_cons.mpr ⟨⟨zSy_of (by decide +kernel), zv_48, zo_48, (zThr_no (by decide +kernel))⟩, List.forall_mem_cons.mpr ⟨⟨zSy_of (by decide +kernel), zv_49, zo_49, (zThr_no (by decide +kernel))⟩, List.forall_mem_cons.mpr ⟨⟨zSy_of (by decide +kernel), zv_50, zo_50, (zThr_no (by decide +kernel))⟩, List.forall_mem_cons.mpr ⟨⟨zSy_of (by decide +kernel), zv_51, zo_51, (zThr_no (by decide +kernel))⟩, List.forall_mem_cons.mpr ⟨⟨zSy_of (by decide +kernel), zv_52, zo_52, (zThr_no (by decide +kernel))⟩, List.forall_mem_cons.mpr ⟨⟨zSy_of (by decide +kernel), zv_53, zo_53, (zThr_no (by decide +kernel))⟩, List.forall_mem_cons.mpr ⟨⟨zSy_of (by decide +kernel), zv_54, zo_54, (zThr_no (by decide +kernel))⟩, List.forall_mem_cons.mpr ⟨⟨zSy_of (by decide +kernel), zv_55, zo_55, (zThr_no (by decide +kernel))⟩, List.forall_mem_cons.mpr ⟨⟨zSy_of (by decide +kernel), zv_56, zo_56, (zThr_no (by decide +kernel))⟩, List.forall_mem_cons.mpr ⟨⟨zSy_of (by decide +kernel), zv_57, zo_57, (zThr_no (by decide +kernel))⟩, List.forall_mem_cons.mpr ⟨⟨zSy_of (by decide +kernel), zv_58, zo_58, (zThr_no (by decide +kernel))⟩, List.forall_mem_cons.mpr ⟨⟨zSy_of (by decide +kernel), zv_59, zo_59, (zThr_no (by decide +kernel))⟩, List.forall_mem_cons.mpr ⟨⟨zSy_of (by decide +kernel), zv_60, zo_60, (zThr_no (by decide +kernel))⟩, List.forall_mem_cons.mpr ⟨⟨zSy_of (by decide +kernel), zv_61, zo_61, (zThr_no (by decide +kernel))⟩, List.forall_mem_cons.mpr ⟨⟨zSy_of (by decide +kernel), zv_62, zo_62, (zThr_no (by decide +kernel))⟩, List.forall_mem_cons.mpr ⟨⟨zSy_of (by decide +kernel), zv_63, zo_63, (zThr_no (by decide +kernel))⟩, List.forall_mem_cons.mpr ⟨⟨zSy_of (by decide +kernel), zv_64, zo_64, (zThr_no (by decide +kernel))⟩, List.forall_mem_cons.mpr ⟨⟨zSy_of (by decide +kernel), zv_65, zo_65, (zThr_no (by decide +kernel))⟩, List.forall_mem_cons.mpr ⟨⟨zSy_of (by decide +kernel), zv_66, zo_66, (zThr_no (by decide +kernel))⟩, List.forall_mem_cons.mpr ⟨⟨zSy_of (by decide +kernel), zv_67, zo_67, (zThr_no (by decide +kernel))⟩, List.forall_mem_cons.mpr ⟨⟨zSy_of (by decide +kernel), zv_68, zo_68, (zThr_no (by decide +kernel))⟩, List.forall_mem_cons.mpr ⟨⟨zSy_of (by decide +kernel), zv_69, zo_69, (zThr_no (by decide +kernel))⟩, List.forall_mem_cons.mpr ⟨⟨zSy_of (by decide +kernel), zv_70, zo_70, (zThr_no (by decide +kernel))⟩, List.forall_mem_cons.mpr ⟨⟨zSy_of (by decide +kernel), zv_71, zo_71, (zThr_no (by decide +kernel))⟩, List.forall_mem_cons.mpr ⟨⟨zSy_of (by decide +kernel), zv_72, zo_72, (zThr_no (by decide +kernel))⟩, List.forall_mem_cons.mpr ⟨⟨zSy_of (by decide +kernel), zv_73, zo_73, (zThr_no (by decide +kernel))⟩, List.forall_mem_cons.mpr ⟨⟨zSy_of (by decide +kernel), zv_74, zo_74, (zThr_no (by decide +kernel))⟩, List.forall_mem_cons.mpr ⟨⟨zSy_of (by decide +kernel), zv_75, zo_75, (zThr_no (by decide +kernel))⟩, List.forall_mem_cons.mpr ⟨⟨zSy_of (by decide +kernel), zv_76, zo_76, (zThr_no (by decide +kernel))⟩, List.forall_mem_cons.mpr ⟨⟨zSy_of (by decide +kernel), zv_77, zo_77, (zThr_no (by decide +kernel))⟩, List.forall_mem_cons.mpr ⟨⟨zSy_of (by decide +kernel), zv_78, zo_78, (zThr_no (by decide +kernel))⟩, List.forall_mem_cons.mpr ⟨⟨zSy_of (by decide +kernel), zv_79, zo_79, (zThr_no (by decide +kernel))⟩, List.forall_mem_cons.mpr ⟨⟨zSy_of (by decide +kernel), zv_80, zo_80, (zThr_no (by decide +kernel))⟩, List.forall_mem_cons.mpr ⟨⟨zSy_of (by decide +kernel), zv_81, zo_81, (zThr_no (by decide +kernel))⟩, List.forall_mem_cons.mpr ⟨⟨zSy_of (by decide +kernel), zv_82, zo_82, (zThr_no (by decide +kernel))⟩, List.forall_mem_cons.mpr ⟨⟨zSy_of (by decide +kernel), zv_83, zo_83, (zThr_no (by decide +kernel))⟩, List.forall_mem_cons.mpr ⟨⟨zSy_of (by decide +kernel), zv_84, zo_84, (zThr_no (by decide +kernel))⟩, List.forall_mem_cons.mpr ⟨⟨zSy_of (by decide +kernel), zv_85, zo_85, (zThr_no (by decide +kernel))⟩, List.forall_mem_cons.mpr ⟨⟨zSy_of (by decide +kernel), zv_86, zo_86, (zThr_no (by decide +kernel))⟩, List.forall_mem_cons.mpr ⟨⟨zSy_of (by decide +kernel), zv_87, zo_87, (zThr_no (by decide +kernel))⟩, List.forall_mem_cons.mpr ⟨⟨zSy_of (by decide +kernel), zv_88, zo_88, (zThr_no (by decide +kernel))⟩, List.forall_mem_cons.mpr ⟨⟨zSy_of (by decide +kernel), zv_89, zo_89, (zThr_no (by decide +kernel))⟩, List.forall_mem_cons.mpr ⟨⟨zSy_of (by decide +kernel), zv_90, zo_90, (zThr_no (by decide +kernel))⟩, List.forall_mem_cons.mpr ⟨⟨zSy_of (by decide +kernel), zv_91, zo_91, (zThr_no (by decide +kernel))⟩, List.forall_mem_cons.mpr ⟨⟨zSy_of (by decide +kernel), zv_92, zo_92, (zThr_no (by decide +kernel))⟩, List.forall_mem_cons.mpr ⟨⟨zSy_of (by decide +kernel), zv_93, zo_93, (zThr_no (by decide +kernel))⟩, List.forall_mem_cons.mpr ⟨⟨zSy_of (by decide +kernel), zv_94, zo_94, (zThr_no (by decide +kernel))⟩, List.forall_mem_cons.mpr ⟨⟨zSy_of (by decide +kernel), zv_95, zo_95, (zThr_no (by decide +kernel))⟩, List.forall_mem_cons.mpr ⟨⟨zSy_of (by decide +kernel), zv_96, zo_96, (zThr_no (by decide +kernel))⟩, List.forall_mem_cons.mpr ⟨⟨zSy_of (by decide +kernel), zv_97, zo_97, (zThr_no (by decide +kernel))⟩, List.forall_mem_cons.mpr ⟨⟨zSy_of (by decide +kernel), zv_98, zo_98, (zThr_no (by decide +kernel))⟩, List.forall_mem_cons.mpr ⟨⟨zSy_of (by decide +kernel), zv_99, zo_99, (zThr_no (by decide +kernel))⟩, List.forall_mem_cons.mpr ⟨⟨zSy_of (by decide +kernel), zv_100, zo_100, (zThr_no (by decide +kernel))⟩, List.forall_mem_cons.mpr ⟨⟨zSy_of (by decide +kernel), zv_101, zo_101, (zThr_no (by decide +kernel))⟩, List.forall_mem_cons.mpr ⟨⟨zSy_of (by decide +kernel), zv_102, zo_102, (zThr_no (by decide +kernel))⟩, List.forall_mem_cons.mpr ⟨⟨zSy_of (by decide +kernel), zv_103, zo_103, (zThr_no (by decide +kernel))⟩, List.forall_mem_cons.mpr ⟨⟨zSy_of (by decide +kernel), zv_104, zo_104, (zThr_no (by decide +kernel))⟩, List.forall_mem_cons.mpr ⟨⟨zSy_of (by decide +kernel), zv_105, zo_105, (zThr_no (by decide +kernel))⟩, List.forall_mem_cons.mpr ⟨⟨zSy_of (by decide +kernel), zv_106, zo_106, (zThr_no (by decide +kernel))⟩, List.forall_mem_cons.mpr ⟨⟨zSy_of (by decide +kernel), zv_107, zo_107, (zThr_no (by decide +kernel))⟩, List.forall_mem_cons.mpr ⟨⟨zSy_of (by decide +kernel), zv_108, zo_108, (zThr_no (by decide +kernel))⟩, List.forall_mem_cons.mpr ⟨⟨zSy_of (by decide +kernel), zv_109, zo_109, (zThr_no (by decide +kernel))⟩, List.forall_mem_cons.mpr ⟨⟨zSy_of (by decide +kernel), zv_110, zo_110, (zThr_no (by decide +kernel))⟩, List.forall_mem_cons.mpr ⟨⟨zSy_of (by decide +kernel), zv_111, zo_111, (zThr_no (by decide +kernel))⟩, List.forall_mem_cons.mpr ⟨⟨zSy_of (by decide +kernel), zv_112, zo_112, (zThr_no (by decide +kernel))⟩, List.forall_mem_cons.mpr ⟨⟨zSy_of (by decide +kernel), zv_113, zo_113, (zThr_no (by decide +kernel))⟩, List.forall_mem_cons.mpr ⟨⟨zSy_of (by decide +kernel), zv_114, zo_114, (zThr_no (by decide +kernel))⟩, List.forall_mem_cons.mpr ⟨⟨zSy_of (by decide +kernel), zv_115, zo_115, (zThr_no (by decide +kernel))⟩, List.forall_mem_cons.mpr ⟨⟨zSy_of (by decide +kernel), zv_116, zo_116, (zThr_no (by decide +kernel))⟩, List.forall_mem_cons.mpr ⟨⟨zSy_of (by decide +kernel), zv_117, zo_117, (zThr_no (by decide +kernel))⟩, List.forall_mem_cons.mpr ⟨⟨zSy_of (by decide +kernel), zv_118, zo_118, (zThr_no (by decide +kernel))⟩, List.forall_mem_cons.mpr ⟨⟨zSy_of (by decide +kernel), zv_119, zo_119, (zThr_no (by decide +kernel))⟩, List.forall_mem_cons.mpr ⟨⟨zSy_of (by decide +kernel), zv_120, zo_120, (zThr_no (by decide +kernel))⟩, List.forall_mem_cons.mpr ⟨⟨zSy_of (by decide +kernel), zv_121, zo_121, (zThr_no (by decide +kernel))⟩, List.forall_mem_cons.mpr ⟨⟨zSy_of (by decide +kernel), zv_122, zo_122, (zThr_no (by decide +kernel))⟩, List.forall_mem_cons.mpr ⟨⟨zSy_of (by decide +kernel), zv_123, zo_123, (zThr_no (by decide +kernel))⟩, List.forall_mem_cons.mpr ⟨⟨zSy_of (by decide +kernel), zv_124, zo_124, (zThr_no (by decide +kernel))⟩, List.forall_mem_cons.mpr ⟨⟨zSy_of (by decide +kernel), zv_125, zo_125, (zThr_no (by decide +kernel))⟩, List.forall_mem_cons.mpr ⟨⟨zSy_of (by decide +kernel), zv_126, zo_126, (zThr_no (by decide +kernel))⟩, List.forall_mem_cons.mpr ⟨⟨zSy_of (by decide +kernel), zv_127, zo_127, (zThr_no (by decide +kernel))⟩, List.forall_mem_cons.mpr ⟨⟨zSy_of (by decide +kernel), zv_128, zo_128, (zThr_no (by decide +kernel))⟩, List.forall_mem_cons.mpr ⟨⟨zSy_of (by decide +kernel), zv_129, zo_129, (zThr_no (by decide +kernel))⟩, List.forall_mem_cons.mpr ⟨⟨zSy_of (by decide +kernel), zv_130, zo_130, (zThr_no (by decide +kernel))⟩, List.forall_mem_cons.mpr ⟨⟨zSy_of (by decide +kernel), zv_131, zo_131, (zThr_no (by decide +kernel))⟩, List.forall_mem_cons.mpr ⟨⟨zSy_of (by decide +kernel), zv_132, zo_132, (zThr_no (by decide +kernel))⟩, List.forall_mem_cons.mpr ⟨⟨zSy_of (by decide +kernel), zv_133, zo_133, (zThr_no (by decide +kernel))⟩, List.forall_mem_cons.mpr ⟨⟨zSy_of (by decide +kernel), zv_134, zo_134, (zThr_no (by decide +kernel))⟩, List.forall_mem_cons.mpr ⟨⟨zSy_of (by decide +kernel), zv_135, zo_135, (zThr_no (by decide +kernel))⟩, List.forall_mem_cons.mpr ⟨⟨zSy_of (by decide +kernel), zv_136, zo_136, (zThr_no (by decide +kernel))⟩, List.forall_mem_cons.mpr ⟨⟨zSy_of (by decide +kernel), zv_137, zo_137, (zThr_no (by decide +kernel))⟩, List.forall_mem_cons.mpr ⟨⟨zSy_of (by decide +kernel), zv_138, zo_138, (zThr_no (by decide +kernel))⟩, List.forall_mem_cons.mpr ⟨⟨zSy_of (by decide +kernel), zv_139, zo_139, (zThr_no (by decide +kernel))⟩, List.forall_mem_cons.mpr ⟨⟨zSy_of (by decide +kernel), zv_140, zo_140, (zThr_no (by decide +kernel))⟩, List.forall_mem_cons.mpr ⟨⟨zSy_of (by decide +kernel), zv_141, zo_141, (zThr_no (by decide +kernel))⟩, List.forall_mem_cons.mpr ⟨⟨zSy_of (by decide +kernel), zv_142, zo_142, (zThr_no (by decide +kernel))⟩, List.forall_mem_cons.mpr ⟨⟨zSy_of (by decide +kernel), zv_143, zo_143, (zThr_no (by decide +kernel))⟩, List.forall_mem_cons.mpr ⟨⟨zSy_of (by decide +kernel), zv_144, zo_144, (zThr_no (by decide +kernel))⟩, List.forall_mem_cons.mpr ⟨⟨zSy_of (by decide +kernel), zv_145, zo_145, (zThr_no (by decide +kernel))⟩, List.forall_mem_cons.mpr ⟨⟨zSy_of (by decide +kernel), zv_146, zo_146, (zThr_no (by decide +kernel))⟩, List.forall_mem_cons.mpr ⟨⟨zSy_of (by decide +kernel), zv_147, zo_147, (zThr_no (by decide +kernel))⟩, List.forall_mem_cons.mpr ⟨⟨zSy_of (by decide +kernel), zv_148, zo_148, (zThr_no (by decide +kernel))⟩, List.forall_mem_cons.mpr ⟨⟨zSy_of (by decide +kernel), zv_149, zo_149, (zThr_no (by decide +kernel))⟩, List.forall_mem_cons.mpr ⟨⟨zSy_of (by decide +kernel), zv_150, zo_150, (zThr_no (by decide +kernel))⟩, List.forall_mem_cons.mpr ⟨⟨zSy_of (by decide +kernel), zv_151, zo_151, (zThr_no (by decide +kernel))⟩, List.forall_mem_cons.mpr ⟨⟨zSy_of (by decide +kernel), zv_152, zo_152, (zThr_no (by decide +kernel))⟩, List.forall_mem_cons.mpr ⟨⟨zSy_of (by decide +kernel), zv_153, zo_153, (zThr_no (by decide +kernel))⟩, List.forall_mem_cons.mpr ⟨⟨zSy_of (by decide +kernel), zv_154, zo_154, (zThr_no (by decide +kernel))⟩, List.forall_mem_cons.mpr ⟨⟨zSy_of (by decide +kernel), zv_155, zo_155, (zThr_no (by decide +kernel))⟩, List.forall_mem_cons.mpr ⟨⟨zSy_of (by decide +kernel), zv_156, zo_156, (zThr_no (by decide +kernel))⟩, List.forall_mem_cons.mpr ⟨⟨zSy_of (by decide +kernel), zv_157, zo_157, (zThr_no (by decide +kernel))⟩, List.forall_mem_cons.mpr ⟨⟨zSy_of (by decide +kernel), zv_158, zo_158, (zThr_no (by decide +kernel))⟩, List.forall_mem_cons.mpr ⟨⟨zSy_of (by decide +kernel), zv_159, zo_159, (zThr_no (by decide +kernel))⟩, List.forall_mem_cons.mpr ⟨⟨zSy_of (by decide +kernel), zv_160, zo_160, (zThr_no (by decide +kernel))⟩, List.forall_mem_cons.mpr ⟨⟨zSy_of (by decide +kernel), zv_161, zo_161, (zThr_no (by decide +kernel))⟩, List.forall_mem_cons.mpr ⟨⟨zSy_of (by decide +kernel), zv_162, zo_162, (zThr_no (by decide +kernel))⟩, List.forall_mem_cons.mpr ⟨⟨zSy_of (by decide +kernel), zv_163, zo_163, (zThr_no (by decide +kernel))⟩, List.forall_mem_cons.mpr ⟨⟨zSy_of (by decide +kernel), zv_164, zo_164, (zThr_no (by decide +kernel))⟩, List.forall_mem_cons.mpr ⟨⟨zSy_of (by decide +kernel), zv_165, zo_165, (zThr_no (by decide +kernel))⟩, List.forall_mem_cons.mpr ⟨⟨zSy_of (by decide +kernel), zv_166, zo_166, (zThr_no (by decide +kernel))⟩, List.forall_mem_cons.mpr ⟨⟨zSy_of (by decide +kernel), zv_167, zo_167, (zThr_no (by decide +kernel))⟩, List.forall_mem_cons.mpr ⟨⟨zSy_of (by decide +kernel), zv_168, zo_168, (zThr_no (by decide +kernel))⟩, List.forall_mem_cons.mpr ⟨⟨zSy_of (by decide +kernel), zv_169, zo_169, (zThr_no (by decide +kernel))⟩, List.forall_mem_cons.mpr ⟨⟨zSy_of (by decide +kernel), zv_170, zo_170, (zThr_no (by decide +kernel))⟩, List.forall_mem_cons.mpr ⟨⟨zSy_of (by decide +kernel), zv_171, zo_171, (zThr_no (by decide +kernel))⟩, List.forall_mem_cons.mpr ⟨⟨zSy_of (by decide +kernel), zv_172, zo_172, (zThr_no (by decide +kernel))⟩, List.forall_mem_cons.mpr ⟨⟨zSy_of (by decide +kernel), zv_173, zo_173, (zThr_no (by decide +kernel))⟩, List.forall_mem_cons.mpr ⟨⟨zSy_of (by decide +kernel), zv_174, zo_174, (zThr_no (by decide +kernel))⟩, List.forall_mem_cons.mpr ⟨⟨zSy_of (by decide +kernel), zv_175, zo_175, (zThr_no (by decide +kernel))⟩, List.forall_mem_cons.mpr ⟨⟨zSy_of (by decide +kernel), zv_176, zo_176, (zThr_no (by decide +kernel))⟩, List.forall_mem_cons.mpr ⟨⟨zSy_of (by decide +kernel), zv_177, zo_177, (zThr_no (by decide +kernel))⟩, List.forall_mem_cons.mpr ⟨⟨zSy_of (by decide +kernel), zv_178, zo_178, (zThr_no (by decide +kernel))⟩, List.forall_mem_cons.mpr ⟨⟨zSy_of (by decide +kernel), zv_179, zo_179, (zThr_no (by decide +kernel))⟩, List.forall_mem_cons.mpr ⟨⟨zSy_of (by decide +kernel), zv_180, zo_180, (zThr_no (by decide +kernel))⟩, List.forall_mem_cons.mpr ⟨⟨zSy_of (by decide +kernel), zv_181, zo_181, (zThr_no (by decide +kernel))⟩, List.forall_mem_cons.mpr ⟨⟨zSy_of (by decide +kernel), zv_182, zo_182, (zThr_no (by decide +kernel))⟩, List.forall_mem_cons.mpr ⟨⟨zSy_of (by decide +kernel), zv_183, zo_183, (zThr_no (by decide +kernel))⟩, List.forall_mem_cons.mpr ⟨⟨zSy_of (by decide +kernel), zv_184, zo_184, (zThr_no (by decide +kernel))⟩, List.forall_mem_cons.mpr ⟨⟨zSy_of (by decide +kernel), zv_185, zo_185, (zThr_no (by decide +kernel))⟩, List.forall_mem_cons.mpr ⟨⟨zSy_of (by decide +kernel), zv_186, zo_186, (zThr_no (by decide +kernel))⟩, List.forall_mem_cons.mpr ⟨⟨zSy_of (by decide +kernel), zv_187, zo_187, (zThr_no (by decide +kernel))⟩, List.forall_mem_cons.mpr ⟨⟨zSy_of (by decide +kernel), zv_188, zo_188, (zThr_no (by decide +kernel))⟩, List.forall_mem_cons.mpr ⟨⟨zSy_of (by decide +kernel), zv_189, zo_189, (zThr_no (by decide +kernel))⟩, List.forall_mem_cons.mpr ⟨⟨zSy_of (by decide +kernel), zv_190, zo_190, (zThr_no (by decide +kernel))⟩, List.forall_mem_cons.mpr ⟨⟨zSy_of (by decide +kernel), zv_191, zo_191, (zThr_no (by decide +kernel))⟩, List.forall_mem_cons.mpr ⟨⟨zSy_of (by decide +kernel), zv_192, zo_192, (zThr_no (by decide +kernel))⟩, List.forall_mem_cons.mpr ⟨⟨zSy_of (by decide +kernel), zv_193, zo_193, (zThr_no (by decide +kernel))⟩, List.forall_mem_cons.mpr ⟨⟨zSy_of (by decide +kernel), zv_194, zo_194, (zThr_no (by decide +kernel))⟩, List.forall_mem_cons.mpr ⟨⟨zSy_of (by decide +kernel), zv_195, zo_195, (zThr_no (by decide +kernel))⟩, List.forall_mem_cons.mpr ⟨⟨zSy_of (by decide +kernel), zv_196, zo_196, (zThr_no (by decide +kernel))⟩, List.forall_mem_cons.mpr ⟨⟨zSy_of (by decide +kernel), zv_197, zo_197, (zThr_no (by decide +kernel))⟩, List.forall_mem_cons.mpr ⟨⟨zSy_of (by decide +kernel), zv_198, zo_198, (zThr_no (by decide +kernel))⟩, List.forall_mem_cons.mpr ⟨⟨zSy_of (by decide +kernel), zv_199, zo_199, (zThr_no (by decide +kernel))⟩, List.forall_mem_cons.mpr ⟨⟨zSy_of (by decide +kernel), zv_200, zo_200, (zThr_no (by decide +kernel))⟩, List.forall_mem_cons.mpr ⟨⟨zSy_of (by decide +kernel), zv_201, zo_201, (zThr_no (by decide +kernel))⟩, List.forall_mem_cons.mpr ⟨⟨zSy_of (by decide +kernel), zv_202, zo_202, (zThr_no (by decide +kernel))⟩, List.forall_mem_cons.mpr ⟨⟨zSy_of (by decide +kernel), zv_203, zo_203, (zThr_no (by decide +kernel))⟩, List.forall_mem_cons.mpr ⟨⟨zSy_of (by decide +kernel), zv_204, zo_204, (zThr_no (by decide +kernel))⟩, List.forall_mem_cons.mpr ⟨⟨zSy_of (by decide +kernel), zv_205, zo_205, (zThr_no (by decide +kernel))⟩, List.forall_mem_cons.mpr ⟨⟨zSy_of (by decide +kernel), zv_206, zo_206, (zThr_no (by decide +kernel))⟩, List.forall_mem_cons.mpr ⟨⟨zSy_of (by decide +kernel), zv_207, zo_207, (zThr_no (by decide +kernel))⟩, List.forall_mem_cons.mpr ⟨⟨zSy_of (by decide +kernel), zv_208, zo_208, (zThr_no (by decide +kernel))⟩, List.forall_mem_cons.mpr ⟨⟨zSy_of (by decide +kernel), zv_209, zo_209, (zThr_no (by decide +kernel))⟩, List.forall_mem_cons.mpr ⟨⟨zSy_of (by decide +kernel), zv_210, zo_210, (zThr_no (by decide +kernel))⟩, List.forall_mem_cons.mpr ⟨⟨zSy_of (by decide +kernel), zv_211, zo_211, (zThr_no (by decide +kernel))⟩, List.forall_mem_cons.mpr ⟨⟨zSy_of (by decide +kernel), zv_212, zo_212, (zThr_no (by decide +kernel))⟩, List.forall_mem_cons.mpr ⟨⟨zSy_of (by decide +kernel), zv_213, zo_213, (zThr_no (by decide +kernel))⟩, List.forall_mem_cons.mpr ⟨⟨zSy_of (by decide +kernel), zv_214, zo_214, (zThr_no (by decide +kernel))⟩, List.forall_mem_cons.mpr ⟨⟨zSy_of (by decide +kernel), zv_215, zo_215, (zThr_no (by decide +kernel))⟩, List.forall_mem_cons.mpr ⟨⟨zSy_of (by decide +kernel), zv_216, zo_216, (zThr_no (by decide +kernel))⟩, List.forall_mem_cons.mpr ⟨⟨zSy_of (by decide +kernel), zv_217, zo_217, (zThr_no (by decide +kernel))⟩, List.forall_mem_cons.mpr ⟨⟨zSy_of (by decide +kernel), zv_218, zo_218, (zThr_no (by decide +kernel))⟩, List.forall_mem_cons.mpr ⟨⟨zSy_of (by decide +kernel), zv_219, zo_219, (zThr_no (by decide +kernel))⟩, List.forall_mem_cons.mpr ⟨⟨zSy_of (by decide +kernel), zv_220, zo_220, (zThr_no (by decide +kernel))⟩, fun _ h => absurd h List.not_mem_nil⟩⟩⟩⟩⟩⟩⟩⟩⟩⟩⟩⟩⟩⟩⟩⟩⟩⟩⟩⟩⟩⟩⟩⟩⟩⟩⟩⟩⟩⟩⟩⟩⟩⟩⟩⟩⟩⟩⟩⟩⟩⟩⟩⟩⟩⟩⟩⟩⟩⟩⟩⟩⟩⟩⟩⟩⟩⟩⟩⟩⟩⟩⟩⟩⟩⟩⟩⟩⟩⟩⟩⟩⟩⟩⟩⟩⟩⟩⟩⟩⟩⟩⟩⟩⟩⟩⟩⟩⟩⟩⟩⟩⟩⟩⟩⟩⟩⟩⟩⟩⟩⟩⟩⟩⟩⟩⟩⟩⟩⟩⟩⟩⟩⟩⟩⟩⟩⟩⟩⟩⟩⟩⟩⟩⟩⟩⟩⟩⟩⟩⟩⟩⟩⟩⟩⟩⟩⟩⟩⟩⟩⟩⟩⟩⟩⟩⟩⟩⟩⟩⟩⟩⟩⟩⟩⟩⟩⟩⟩⟩⟩⟩⟩⟩⟩⟩⟩⟩⟩⟩⟩⟩⟩⟩⟩⟩⟩⟩⟩⟩⟩⟩⟩⟩⟩⟩⟩⟩⟩⟩⟩⟩⟩⟩⟩⟩⟩⟩⟩⟩⟩⟩⟩⟩⟩⟩⟩⟩⟩⟩⟩⟩⟩⟩⟩⟩⟩⟩⟩⟩⟩
theorem zgood {l : Launch} (hl : l.stackTraces = false) : zGd l zTs zNw zPg vwCl zft zfn zsf := ⟨hl, zNw_ok, zTs_ok, fun z M h => zall M (List.mem_of_getElem? h)⟩
end
section
/-! THE START: the two constructors, by the kernel -/
def zHi : Nat → Int32 := fun j => match j with
  | 0 => 65535
  | 1 => 65535
  | 2 => 4095
  | 3 => 1
  | 4 => 3
  | 5 => 255
  | 6 => 3
  | 7 => 4095
  | 8 => 4095
  | _ => 1
def zX0 : zX := fun _ => (10, zHi)
abbrev zCr (d z : Nat) (a : List Value) (h : zH) (o : zO) (h' : zH) : Prop := zCR zPg zft zfn zX0 d z a h o h'
abbrev zBy (d : Nat) (M : zM) (o : zO) (h' : zH) (pc : Nat) (lo : zL) (st : List Value) (h : zH) (nc ns : Nat) : Prop := zBx zPg zft zfn zX0 (zCR zPg zft zfn zX0 d) M o h' pc lo st h nc ns
def zEv1 : Option (zO × zH) := zcall zPg zft zfn zX0 6 10 [.ref 0] [.inr (10, zdef zft zfn 10)]
def zHa : zH := match zEv1 with
  | some (.inl none, h) => h
  | _ => []
def zEv2 : Option (zO × zH) := zcall zPg zft zfn zX0 6 11 [.ref 113] (zHa ++ [.inr (11, zdef zft zfn 11)])
def zHb : zH := match zEv2 with
  | some (.inl none, h) => h
  | _ => []
def zisV : Option (zO × zH) → Bool
  | some (.inl none, _) => true
  | _ => false
/-- cells by their shape: an array's kind and length; an object's class and fields -/
abbrev zSh : Type := (Nat × Nat) ⊕ (Nat × List Value)
def zfi (h : zH) (k : Nat) : Nat → Int32 := match h[k]? with
  | some (.inl (_, _, .inl f)) => f
  | _ => fun _ => 0
def zfr (h : zH) (k : Nat) : Nat → Option Nat := match h[k]? with
  | some (.inl (_, _, .inr (.inr (.inr (.inr f))))) => f
  | _ => fun _ => none
def zrl (F : Nat → Nat → Int32) (G : Nat → Nat → Option Nat) (k : Nat) : zSh → zE
  | .inr o => .inr o
  | .inl (kd, n) => bif Nat.ble kd 1 then .inl (kd, n, .inl (F k)) else .inl (kd, n, .inr (.inr (.inr (.inr (G k)))))
def zrls (F : Nat → Nat → Int32) (G : Nat → Nat → Option Nat) : Nat → List zSh → zH
  | _, [] => []
  | k, s :: l => zrl F G k s :: zrls F G (k + 1) l
def zsm1 : zE → zSh → Bool
  | .inr (c, fs), .inr (c', fs') => decide (c = c') && decide (fs = fs')
  | .inl (kd, n, .inl _), .inl (kd', n') => Nat.ble kd' 1 && (Nat.beq kd kd' && Nat.beq n n')
  | .inl (kd, n, .inr (.inr (.inr (.inr _)))), .inl (kd', n') => !(Nat.ble kd' 1) && (Nat.beq kd kd' && Nat.beq n n')
  | _, _ => false
def zsm : zH → List zSh → Bool
  | [], [] => true
  | c :: h, s :: l => zsm1 c s && zsm h l
  | _, _ => false
theorem zsm1_eq {c : zE} {s : zSh} {F : Nat → Nat → Int32} {G : Nat → Nat → Option Nat} {k : Nat} (h : zsm1 c s = true) (hF : ∀ kd n f, c = .inl (kd, n, .inl f) → F k = f) (hG : ∀ kd n f, c = .inl (kd, n, .inr (.inr (.inr (.inr f)))) → G k = f) : c = zrl F G k s := by
  unfold zsm1 at h
  split at h
  · rw [Bool.and_eq_true, decide_eq_true_eq, decide_eq_true_eq] at h
    rw [h.1, h.2]; rfl
  · rename_i kd n f kd' n'
    rw [Bool.and_eq_true, Bool.and_eq_true] at h
    unfold zrl
    dsimp only
    rw [h.1, cond_true, hF _ _ _ rfl, Nat.eq_of_beq_eq_true h.2.1, Nat.eq_of_beq_eq_true h.2.2]
  · rename_i kd n f kd' n'
    rw [Bool.and_eq_true, Bool.and_eq_true, Bool.not_eq_true'] at h
    unfold zrl
    dsimp only
    rw [h.1, cond_false, hG _ _ _ rfl, Nat.eq_of_beq_eq_true h.2.1, Nat.eq_of_beq_eq_true h.2.2]
  · cases h
theorem zsm_eq (H : zH) : ∀ (pre h : zH) (l : List zSh), H = pre ++ h → zsm h l = true → h = zrls (zfi H) (zfr H) pre.length l := by
  intro pre h
  induction h generalizing pre with
  | nil => intro l _ hs; cases l with
    | nil => rfl
    | cons s l => cases hs
  | cons c h ih =>
    intro l hH hs
    cases l with
    | nil => cases hs
    | cons s l =>
    unfold zsm at hs
    rw [Bool.and_eq_true] at hs
    have hk : H[pre.length]? = some c := by rw [hH]; simp
    unfold zrls
    rw [← zsm1_eq (F := zfi H) (G := zfr H) (k := pre.length) hs.1 (fun kd n f e => by unfold zfi; rw [hk, e]) (fun kd n f e => by unfold zfr; rw [hk, e])]
    have h2 := ih (pre ++ [c]) l (by rw [hH, List.append_assoc]; rfl) hs.2
    rw [List.length_append] at h2
    exact congrArg (c :: ·) h2
def zsh : List zSh := [
  .inr (10, [.ref 1, .ref 10, .ref 11, .ref 12, .int 0, .ref 109, .ref 110, .ref 111, .ref 112]),
  .inr (5, [.ref 2, .ref 3, .ref 4, .ref 5, .ref 6, .ref 7, .ref 8, .ref 9, .int 0]),
  .inl (0, 2048),
  .inl (0, 128),
  .inl (0, 128),
  .inl (0, 128),
  .inl (0, 128),
  .inl (0, 1024),
  .inl (1, 64),
  .inl (0, 4),
  .inl (3, 4),
  .inl (4, 8),
  .inl (0, 128),
  .inr (2, [.int 0, .int 0, .int 0, .int 0, .int 0, .int 0, .int 0, .int 0, .int 0, .int 0, .int 0, .ref 14, .ref 15, .ref 17]),
  .inl (0, 200),
  .inr (1, [.ref 16, .int 0, .int 0, .int 0]),
  .inl (0, 256),
  .inr (4, [.ref 18, .int 0]),
  .inl (0, 8),
  .inr (2, [.int 1, .int 0, .int 0, .int 0, .int 0, .int 0, .int 0, .int 0, .int 0, .int 0, .int 0, .ref 20, .ref 21, .ref 23]),
  .inl (0, 200),
  .inr (1, [.ref 22, .int 0, .int 0, .int 0]),
  .inl (0, 256),
  .inr (4, [.ref 24, .int 0]),
  .inl (0, 8),
  .inr (2, [.int 2, .int 0, .int 0, .int 0, .int 0, .int 0, .int 0, .int 0, .int 0, .int 0, .int 0, .ref 26, .ref 27, .ref 29]),
  .inl (0, 200),
  .inr (1, [.ref 28, .int 0, .int 0, .int 0]),
  .inl (0, 256),
  .inr (4, [.ref 30, .int 0]),
  .inl (0, 8),
  .inr (2, [.int 3, .int 0, .int 0, .int 0, .int 0, .int 0, .int 0, .int 0, .int 0, .int 0, .int 0, .ref 32, .ref 33, .ref 35]),
  .inl (0, 200),
  .inr (1, [.ref 34, .int 0, .int 0, .int 0]),
  .inl (0, 256),
  .inr (4, [.ref 36, .int 0]),
  .inl (0, 8),
  .inr (9, [.int 0, .int 0, .ref 38, .ref 39, .ref 40]),
  .inl (0, 19),
  .inl (0, 5),
  .inr (3, [.ref 41, .ref 42, .ref 43, .ref 44, .ref 45, .int 0]),
  .inl (1, 8),
  .inl (0, 8),
  .inl (0, 8),
  .inl (0, 8),
  .inl (0, 8),
  .inr (9, [.int 1, .int 0, .ref 47, .ref 48, .ref 49]),
  .inl (0, 19),
  .inl (0, 5),
  .inr (3, [.ref 50, .ref 51, .ref 52, .ref 53, .ref 54, .int 0]),
  .inl (1, 8),
  .inl (0, 8),
  .inl (0, 8),
  .inl (0, 8),
  .inl (0, 8),
  .inr (9, [.int 2, .int 0, .ref 56, .ref 57, .ref 58]),
  .inl (0, 19),
  .inl (0, 5),
  .inr (3, [.ref 59, .ref 60, .ref 61, .ref 62, .ref 63, .int 0]),
  .inl (1, 8),
  .inl (0, 8),
  .inl (0, 8),
  .inl (0, 8),
  .inl (0, 8),
  .inr (9, [.int 3, .int 0, .ref 65, .ref 66, .ref 67]),
  .inl (0, 19),
  .inl (0, 5),
  .inr (3, [.ref 68, .ref 69, .ref 70, .ref 71, .ref 72, .int 0]),
  .inl (1, 8),
  .inl (0, 8),
  .inl (0, 8),
  .inl (0, 8),
  .inl (0, 8),
  .inr (9, [.int 4, .int 0, .ref 74, .ref 75, .ref 76]),
  .inl (0, 19),
  .inl (0, 5),
  .inr (3, [.ref 77, .ref 78, .ref 79, .ref 80, .ref 81, .int 0]),
  .inl (1, 8),
  .inl (0, 8),
  .inl (0, 8),
  .inl (0, 8),
  .inl (0, 8),
  .inr (9, [.int 5, .int 0, .ref 83, .ref 84, .ref 85]),
  .inl (0, 19),
  .inl (0, 5),
  .inr (3, [.ref 86, .ref 87, .ref 88, .ref 89, .ref 90, .int 0]),
  .inl (1, 8),
  .inl (0, 8),
  .inl (0, 8),
  .inl (0, 8),
  .inl (0, 8),
  .inr (9, [.int 6, .int 0, .ref 92, .ref 93, .ref 94]),
  .inl (0, 19),
  .inl (0, 5),
  .inr (3, [.ref 95, .ref 96, .ref 97, .ref 98, .ref 99, .int 0]),
  .inl (1, 8),
  .inl (0, 8),
  .inl (0, 8),
  .inl (0, 8),
  .inl (0, 8),
  .inr (9, [.int 7, .int 0, .ref 101, .ref 102, .ref 103]),
  .inl (0, 19),
  .inl (0, 5),
  .inr (3, [.ref 104, .ref 105, .ref 106, .ref 107, .ref 108, .int 0]),
  .inl (1, 8),
  .inl (0, 8),
  .inl (0, 8),
  .inl (0, 8),
  .inl (0, 8),
  .inr (6, [.ref 1]),
  .inr (0, [.ref 109, .ref 10, .ref 11]),
  .inr (8, [.ref 109, .ref 110]),
  .inr (7, [.ref 109, .ref 110, .ref 111]),
  .inr (11, [.int 0, .ref 114, .ref 115, .ref 116, .ref 117, .ref 118, .ref 119, .int 0, .ref 120, .ref 121, .ref 122, .ref 123, .ref 124, .ref 125, .ref 126, .ref 127, .ref 128, .ref 129, .ref 130, .ref 131, .ref 132, .ref 133, .ref 134, .ref 135, .ref 136, .ref 137, .ref 138, .ref 139, .ref 140, .ref 141, .ref 142, .ref 143, .ref 144, .ref 145, .ref 146, .int 0, .ref 147, .int 0, .int 0, .int 0, .int 0, .int 0]),
  .inl (0, 2048),
  .inl (0, 128),
  .inl (0, 128),
  .inl (0, 128),
  .inl (0, 1024),
  .inl (1, 64),
  .inl (1, 4),
  .inl (0, 4),
  .inl (0, 4),
  .inl (0, 4),
  .inl (0, 4),
  .inl (0, 4),
  .inl (0, 4),
  .inl (0, 4),
  .inl (0, 4),
  .inl (0, 800),
  .inl (0, 4),
  .inl (0, 4),
  .inl (0, 1024),
  .inl (0, 4),
  .inl (0, 4),
  .inl (0, 4),
  .inl (0, 32),
  .inl (0, 4),
  .inl (1, 8),
  .inl (0, 160),
  .inl (0, 40),
  .inl (0, 8),
  .inl (1, 64),
  .inl (0, 64),
  .inl (0, 64),
  .inl (0, 64),
  .inl (0, 64),
  .inl (0, 128)]
theorem zEv1_v : zisV zEv1 = true := by decide +kernel
theorem zHa_len : zHa.length = 113 := by decide +kernel
theorem zEv2_v : zisV zEv2 = true := by decide +kernel
theorem zHb_sm : zsm zHb zsh = true := by decide +kernel
theorem zHb_F4 : (List.range 128).all (fun j => decide (zfi zHb 4 j = -1)) = true := by decide +kernel
theorem zHb_F5 : (List.range 128).all (fun j => decide (zfi zHb 5 j = -1)) = true := by decide +kernel
theorem zHb_G : zfr zHb 10 0 = some 13 ∧ zfr zHb 10 1 = some 19 ∧ zfr zHb 10 2 = some 25 ∧ zfr zHb 10 3 = some 31 ∧ zfr zHb 11 0 = some 37 ∧ zfr zHb 11 1 = some 46 ∧ zfr zHb 11 2 = some 55 ∧ zfr zHb 11 3 = some 64 ∧ zfr zHb 11 4 = some 73 ∧ zfr zHb 11 5 = some 82 ∧ zfr zHb 11 6 = some 91 ∧ zfr zHb 11 7 = some 100 := by decide +kernel
end
section
/-! ROWS for symbolic walks -/
section ZR
variable {Pg : List zM} {FT : zFT} {FN : Nat → Nat} {X : zX} {cr : Nat → List Value → zH → zO → zH → Prop} {M : zM} {o : zO} {h h' : zH} {pc nc ns : Nat} {lo : zL} {r : List Value} {en : zN}
theorem zx_ald {q n : Nat} {f : Nat → Int32} {j : Int32} (hf : zfind (zIns M) pc = some en) (hi : en.2.1 = .iaload) (hq : h[q]? = some (.inl (0, n, .inl f))) (hz : zin j n = true) (k : zBx Pg FT FN X cr M o h' (pc + 1) lo (.int (f j.toNatClampNeg) :: r) h nc ns) : zBx Pg FT FN X cr M o h' pc lo (.int j :: .ref q :: r) h nc ns := by
  have hpc := (zfind_eq hf).2
  have hal : zal .iaload X (.int j :: .ref q :: r) h = some (.int (f j.toNatClampNeg), r) := by
    unfold zal
    dsimp only [zir]
    rw [hq]
    show (bif zin j n then some (_, r) else none) = _
    rw [hz]
    rfl
  refine zx_s hf (by rw [hi]; rfl) ?_ k
  unfold zstep
  rw [hi]
  dsimp only [zpush, zlod, zsto, zjmp]
  rw [hal]
  dsimp only
  rw [hpc]
theorem zx_in {z d : Nat} {a : List Value} (hM : Pg[z]? = some M) (hb : (Nat.ble a.length (zMaxL M) && a.all (fun v => Nat.beq v.category 1)) = true) (k : zBx Pg FT FN X (zCR Pg FT FN X d) M o h' 0 (zargs 0 a) [] h 0 0) : zCR Pg FT FN X (d + 1) z a h o h' := ⟨M, hM, hb, k⟩
end ZR
/-- whether v lies in lo .. hi -/
def zwi (v lo hi : Int32) : Int32 := bif zc2 .lt v lo then 0 else bif zc2 .gt v hi then 0 else 1
theorem zwi_01 (v lo hi : Int32) : zwi v lo hi = 0 ∨ zwi v lo hi = 1 := by
  unfold zwi
  cases zc2 .lt v lo <;> cases zc2 .gt v hi <;> first | exact Or.inl rfl | exact Or.inr rfl
theorem w_within (v lo hi : Int32) (h : zH) (d : Nat) : zCr (d + 1) 12 [.int v, .int lo, .int hi] h (.inl (some (.int (zwi v lo hi)))) h := by
  refine zx_in rfl rfl ?_
  refine zx_go 3 rfl ?_
  unfold zwi
  cases zc2 .lt v lo with
  | true => refine zx_go 4 rfl ?_; exact zx_r rfl rfl
  | false =>
    refine zx_go 3 rfl ?_
    cases zc2 .gt v hi with
    | true => refine zx_go 4 rfl ?_; exact zx_r rfl rfl
    | false => refine zx_go 4 rfl ?_; exact zx_r rfl rfl
theorem w_isIn (v lo hi : Int32) (h : zH) (d : Nat) : zCr (d + 1) 20 [.int v, .int lo, .int hi] h (.inl (some (.int (zwi v lo hi)))) h := by
  refine zx_in rfl rfl ?_
  refine zx_go 3 rfl ?_
  unfold zwi
  cases zc2 .lt v lo with
  | true => refine zx_go 4 rfl ?_; exact zx_r rfl rfl
  | false =>
    refine zx_go 3 rfl ?_
    cases zc2 .gt v hi with
    | true => refine zx_go 4 rfl ?_; exact zx_r rfl rfl
    | false => refine zx_go 4 rfl ?_; exact zx_r rfl rfl
section ZR2
variable {Pg : List zM} {FT : zFT} {FN : Nat → Nat} {X : zX} {cr : Nat → List Value → zH → zO → zH → Prop} {M : zM} {o : zO} {h h' : zH} {pc nc ns : Nat} {lo : zL} {r : List Value} {en : zN}
theorem zx_aal3 {q n k : Nat} {f : Nat → Option Nat} {j : Int32} (hf : zfind (zIns M) pc = some en) (hi : en.2.1 = .aaload) (hq : h[q]? = some (.inl (3, n, .inr (.inr (.inr (.inr f)))))) (hz : zin j n = true) (hv : f j.toNatClampNeg = some k) (kk : zBx Pg FT FN X cr M o h' (pc + 1) lo (.ref k :: r) h nc ns) : zBx Pg FT FN X cr M o h' pc lo (.int j :: .ref q :: r) h nc ns := by
  have hpc := (zfind_eq hf).2
  have hal : zal .aaload X (.int j :: .ref q :: r) h = some (.ref k, r) := by
    unfold zal
    dsimp only [zir]
    rw [hq]
    show (bif zin j n then some (_, r) else none) = _
    rw [hz, hv]
    rfl
  refine zx_s hf (by rw [hi]; rfl) ?_ kk
  unfold zstep
  rw [hi]
  dsimp only [zpush, zlod, zsto, zjmp]
  rw [hal]
  dsimp only
  rw [hpc]
theorem zx_aal4 {q n k : Nat} {f : Nat → Option Nat} {j : Int32} (hf : zfind (zIns M) pc = some en) (hi : en.2.1 = .aaload) (hq : h[q]? = some (.inl (4, n, .inr (.inr (.inr (.inr f)))))) (hz : zin j n = true) (hv : f j.toNatClampNeg = some k) (kk : zBx Pg FT FN X cr M o h' (pc + 1) lo (.ref k :: r) h nc ns) : zBx Pg FT FN X cr M o h' pc lo (.int j :: .ref q :: r) h nc ns := by
  have hpc := (zfind_eq hf).2
  have hal : zal .aaload X (.int j :: .ref q :: r) h = some (.ref k, r) := by
    unfold zal
    dsimp only [zir]
    rw [hq]
    show (bif zin j n then some (_, r) else none) = _
    rw [hz, hv]
    rfl
  refine zx_s hf (by rw [hi]; rfl) ?_ kk
  unfold zstep
  rw [hi]
  dsimp only [zpush, zlod, zsto, zjmp]
  rw [hal]
  dsimp only
  rw [hpc]
theorem zx_bal {q n : Nat} {f : Nat → Int32} {j x : Int32} (hf : zfind (zIns M) pc = some en) (hi : en.2.1 = .baload) (hq : h[q]? = some (.inl (1, n, .inl f))) (hz : zin j n = true) (hv : f j.toNatClampNeg = x) (k : zBx Pg FT FN X cr M o h' (pc + 1) lo (.int x :: r) h nc ns) : zBx Pg FT FN X cr M o h' pc lo (.int j :: .ref q :: r) h nc ns := by
  have hpc := (zfind_eq hf).2
  have hal : zal .baload X (.int j :: .ref q :: r) h = some (.int x, r) := by
    unfold zal
    dsimp only [zir]
    rw [hq]
    show (bif zin j n then some (_, r) else none) = _
    rw [hz, hv]
    rfl
  refine zx_s hf (by rw [hi]; rfl) ?_ k
  unfold zstep
  rw [hi]
  dsimp only [zpush, zlod, zsto, zjmp]
  rw [hal]
  dsimp only
  rw [hpc]
theorem zx_ial {q n : Nat} {f : Nat → Int32} {j x : Int32} (hf : zfind (zIns M) pc = some en) (hi : en.2.1 = .iaload) (hq : h[q]? = some (.inl (0, n, .inl f))) (hz : zin j n = true) (hv : f j.toNatClampNeg = x) (k : zBx Pg FT FN X cr M o h' (pc + 1) lo (.int x :: r) h nc ns) : zBx Pg FT FN X cr M o h' pc lo (.int j :: .ref q :: r) h nc ns := by
  subst hv
  exact zx_ald hf hi hq hz k
end ZR2
/-- the world of the start: the class's object is cell 0, the model's cell 113, the law's own array cell 148 -/
def zHx (F : Nat → Nat → Int32) (G : Nat → Nat → Option Nat) (L : Nat → Int64) : zH := zrls F G 0 zsh ++ [.inl (2, 1, .inr (.inl L))]
def zGk (G : Nat → Nat → Option Nat) : Prop := G 10 0 = some 13 ∧ G 10 1 = some 19 ∧ G 10 2 = some 25 ∧ G 10 3 = some 31 ∧ G 11 0 = some 37 ∧ G 11 1 = some 46 ∧ G 11 2 = some 55 ∧ G 11 3 = some 64 ∧ G 11 4 = some 73 ∧ G 11 5 = some 82 ∧ G 11 6 = some 91 ∧ G 11 7 = some 100
section ZR3
variable {Pg : List zM} {FT : zFT} {FN : Nat → Nat} {X : zX} {cr : Nat → List Value → zH → zO → zH → Prop} {M : zM} {o : zO} {h h' : zH} {pc nc ns ix : Nat} {lo : zL} {st : List Value} {en : zN}
/-- a throw of one's own -/
theorem zx_t (hf : zfind (zIns M) pc = some en) (hn : en.2.1 = .new ix) (hb1 : en.2.2.2.2.1 = 1) (hb : (Nat.ble (nc + 1) (zRoom M).2.2.1 && (Nat.ble (ns + 6) (zRoom M).2.2.2 && Nat.ble (zWt st) 8)) = true) (ho : o = .inr en.2.2.2.1) : zBx Pg FT FN X cr M o h pc lo st h nc ns := by
  subst ho
  refine ⟨1, ?_⟩
  unfold zBR
  rw [hf]
  dsimp only
  have e1 : zend en.2.1 (zRet M) st = none := by
    rw [hn]; unfold zend; split <;> first | rfl | contradiction
  have e2 : zmak FT FN en st = none := by
    unfold zmak; rw [hn]; dsimp only; rw [hb1]; rfl
  have e3 : zown M en st = none := by
    unfold zown; rw [hn]
  have e4 : zcl en.2.1 = none := by rw [hn]; rfl
  rw [e1]
  dsimp only
  rw [e2]
  dsimp only
  rw [e3]
  dsimp only
  rw [e4]
  dsimp only
  rw [hn]
  exact ⟨hb, rfl, rfl⟩
end ZR3
theorem w_within' {v lo hi r : Int32} (hr : zwi v lo hi = r) (h : zH) (d : Nat) : zCr (d + 1) 12 [.int v, .int lo, .int hi] h (.inl (some (.int r))) h := by
  subst hr; exact w_within v lo hi h d
theorem w_isIn' {v lo hi r : Int32} (hr : zwi v lo hi = r) (h : zH) (d : Nat) : zCr (d + 1) 20 [.int v, .int lo, .int hi] h (.inl (some (.int r))) h := by
  subst hr; exact w_isIn v lo hi h d
theorem w_arg1 (h : zH) (d : Nat) : zCr (d + 1) 13 [.int 1] h (.inl none) h := by
  refine zx_in rfl rfl ?_
  refine zx_go 9 rfl ?_
  exact zx_r rfl rfl
theorem w_arg0 (h : zH) (d : Nat) : zCr (d + 1) 13 [.int 0] h (.inr 0) h := by
  refine zx_in rfl rfl ?_
  refine zx_go 9 rfl ?_
  exact zx_t rfl rfl rfl rfl rfl
theorem w_st1 (h : zH) (d : Nat) : zCr (d + 1) 26 [.int 1] h (.inl none) h := by
  refine zx_in rfl rfl ?_
  refine zx_go 9 rfl ?_
  exact zx_r rfl rfl
theorem w_st0 (h : zH) (d : Nat) : zCr (d + 1) 26 [.int 0] h (.inr 1) h := by
  refine zx_in rfl rfl ?_
  refine zx_go 9 rfl ?_
  exact zx_t rfl rfl rfl rfl rfl
/-- many steps, up to a load from an array -/
def zpl2 (i : Instr) : Bool := match i with
  | .iaload => false
  | .baload => false
  | .aaload => false
  | .laload => false
  | _ => zplain i
theorem zpl2_ok {i : Instr} (h : zpl2 i = true) : zplain i = true := by
  unfold zpl2 at h
  split at h <;> first | cases h | exact h
def zgp (M : zM) (FT : zFT) (X : zX) : Nat → Nat → zL → List Value → zH → zS
  | 0, pc, lo, st, h => (pc, lo, st, h)
  | k + 1, pc, lo, st, h => match zfind (zIns M) pc with
    | some en => bif zpl2 en.2.1 then (match zstep M FT X en lo st h with
      | some (pc', lo', st', h1) => zgp M FT X k pc' lo' st' h1
      | none => (pc, lo, st, h)) else (pc, lo, st, h)
    | none => (pc, lo, st, h)
section ZR4
variable {Pg : List zM} {FT : zFT} {FN : Nat → Nat} {X : zX} {cr : Nat → List Value → zH → zO → zH → Prop} {M : zM} {o : zO} {h1 h' : zH} {nc ns : Nat}
theorem zx_gp {pc' : Nat} {lo' : zL} {st' : List Value} : ∀ (k : Nat) {pc : Nat} {lo : zL} {st : List Value} {h : zH}, zgp M FT X k pc lo st h = (pc', lo', st', h1) → zBx Pg FT FN X cr M o h' pc' lo' st' h1 nc ns → zBx Pg FT FN X cr M o h' pc lo st h nc ns := by
  intro k
  induction k with
  | zero => intro pc lo st h hg kk; unfold zgp at hg; cases hg; exact kk
  | succ k ih =>
    intro pc lo st h hg kk
    unfold zgp at hg
    split at hg
    · rename_i en hf
      cases hp : zpl2 en.2.1 with
      | false => rw [hp, cond_false] at hg; cases hg; exact kk
      | true =>
      rw [hp, cond_true] at hg
      split at hg
      · rename_i p2 l2 s2 h2 hs
        exact zx_s hf (zpl2_ok hp) hs (ih hg kk)
      · cases hg; exact kk
    · cases hg; exact kk
end ZR4
theorem zwi_in {v lo hi : Int32} (h : zwi v lo hi = 1) : lo ≤ v ∧ v ≤ hi := by
  unfold zwi zc2 at h
  dsimp only at h
  cases h1 : decide (v < lo) with
  | true => rw [h1, cond_true] at h; exact absurd h (by decide)
  | false =>
  rw [h1, cond_false] at h
  cases h2 : decide (hi < v) with
  | true => rw [h2, cond_true] at h; exact absurd h (by decide)
  | false =>
  have a1 := of_decide_eq_false h1
  have a2 := of_decide_eq_false h2
  exact ⟨Int32.not_lt.mp a1, Int32.not_lt.mp a2⟩
theorem zwi_3 {v : Int32} (h : zwi v 0 3 = 1) : v = 0 ∨ v = 1 ∨ v = 2 ∨ v = 3 := by
  obtain ⟨h1, h2⟩ := zwi_in h
  obtain ⟨j, hj, e⟩ := nI_of2 (x := v) (M := 3) (n := 3) rfl (Int32.not_lt.mpr h1) h2
  subst e
  match j, hj with
  | 0, _ => exact Or.inl rfl
  | 1, _ => exact Or.inr (Or.inl rfl)
  | 2, _ => exact Or.inr (Or.inr (Or.inl rfl))
  | 3, _ => exact Or.inr (Or.inr (Or.inr rfl))
theorem zwi_7 {v : Int32} (h : zwi v 0 7 = 1) : v = 0 ∨ v = 1 ∨ v = 2 ∨ v = 3 ∨ v = 4 ∨ v = 5 ∨ v = 6 ∨ v = 7 := by
  obtain ⟨h1, h2⟩ := zwi_in h
  obtain ⟨j, hj, e⟩ := nI_of2 (x := v) (M := 7) (n := 7) rfl (Int32.not_lt.mpr h1) h2
  subst e
  match j, hj with
  | 0, _ => exact Or.inl rfl
  | 1, _ => exact Or.inr (Or.inl rfl)
  | 2, _ => exact Or.inr (Or.inr (Or.inl rfl))
  | 3, _ => exact Or.inr (Or.inr (Or.inr (Or.inl rfl)))
  | 4, _ => exact Or.inr (Or.inr (Or.inr (Or.inr (Or.inl rfl))))
  | 5, _ => exact Or.inr (Or.inr (Or.inr (Or.inr (Or.inr (Or.inl rfl)))))
  | 6, _ => exact Or.inr (Or.inr (Or.inr (Or.inr (Or.inr (Or.inr (Or.inl rfl))))))
  | 7, _ => exact Or.inr (Or.inr (Or.inr (Or.inr (Or.inr (Or.inr (Or.inr rfl))))))
end
section
/-! THE CLASS ON THE FRESH OBJECT: the questions of its arguments, who is there -/
theorem w_isGuest {v r : Int32} (hr : zwi v 0 3 = r) (h : zH) (d : Nat) : zCr (d + 2) 25 [.int v] h (.inl (some (.int r))) h := by
  refine zx_in rfl rfl ?_
  refine zx_go 9 rfl ?_
  refine zx_c rfl rfl rfl rfl (w_within' (lo := 0) (hi := 3) hr _ _) ?_
  rcases zwi_01 v 0 3 with q | q <;> (rw [q] at hr; subst hr; exact zx_r rfl rfl)
theorem w_isVcpu {v r : Int32} (hr : zwi v 0 7 = r) (h : zH) (d : Nat) : zCr (d + 2) 52 [.int v] h (.inl (some (.int r))) h := by
  refine zx_in rfl rfl ?_
  refine zx_go 9 rfl ?_
  refine zx_c rfl rfl rfl rfl (w_within' (lo := 0) (hi := 7) hr _ _) ?_
  rcases zwi_01 v 0 7 with q | q <;> (rw [q] at hr; subst hr; exact zx_r rfl rfl)
theorem w_isMemoryPage {v r : Int32} (hr : zwi v 0 127 = r) (h : zH) (d : Nat) : zCr (d + 2) 165 [.int v] h (.inl (some (.int r))) h := by
  refine zx_in rfl rfl ?_
  refine zx_go 9 rfl ?_
  refine zx_c rfl rfl rfl rfl (w_within' (lo := 0) (hi := 127) hr _ _) ?_
  rcases zwi_01 v 0 127 with q | q <;> (rw [q] at hr; subst hr; exact zx_r rfl rfl)
theorem w_isAddress {v r : Int32} (hr : zwi v 0 4095 = r) (h : zH) (d : Nat) : zCr (d + 2) 61 [.int v] h (.inl (some (.int r))) h := by
  refine zx_in rfl rfl ?_
  refine zx_go 9 rfl ?_
  refine zx_c rfl rfl rfl rfl (w_within' (lo := 0) (hi := 4095) hr _ _) ?_
  rcases zwi_01 v 0 4095 with q | q <;> (rw [q] at hr; subst hr; exact zx_r rfl rfl)
theorem w_isHostAddress {v r : Int32} (hr : zwi v 0 2047 = r) (h : zH) (d : Nat) : zCr (d + 2) 189 [.int v] h (.inl (some (.int r))) h := by
  refine zx_in rfl rfl ?_
  refine zx_go 9 rfl ?_
  refine zx_c rfl rfl rfl rfl (w_within' (lo := 0) (hi := 2047) hr _ _) ?_
  rcases zwi_01 v 0 2047 with q | q <;> (rw [q] at hr; subst hr; exact zx_r rfl rfl)
theorem w_isWord {v r : Int32} (hr : zwi v 0 65535 = r) (h : zH) (d : Nat) : zCr (d + 2) 62 [.int v] h (.inl (some (.int r))) h := by
  refine zx_in rfl rfl ?_
  refine zx_go 9 rfl ?_
  refine zx_c rfl rfl rfl rfl (w_within' (lo := 0) (hi := 65535) hr _ _) ?_
  rcases zwi_01 v 0 65535 with q | q <;> (rw [q] at hr; subst hr; exact zx_r rfl rfl)
theorem w_isFrame {v r : Int32} (hr : zwi v 0 127 = r) (h : zH) (d : Nat) : zCr (d + 2) 198 [.int v] h (.inl (some (.int r))) h := by
  refine zx_in rfl rfl ?_
  refine zx_go 9 rfl ?_
  refine zx_c rfl rfl rfl rfl (w_within' (lo := 0) (hi := 127) hr _ _) ?_
  rcases zwi_01 v 0 127 with q | q <;> (rw [q] at hr; subst hr; exact zx_r rfl rfl)
section ZFR
variable {F : Nat → Nat → Int32} {G : Nat → Nat → Option Nat} {L : Nat → Int64}
theorem w_gt0 (hG : zGk G) (d : Nat) : zCr (d + 2) 27 [.ref 0, .int 0] (zHx F G L) (.inr 1) (zHx F G L) := by
  refine zx_in rfl rfl ?_
  refine zx_go 3 rfl ?_
  refine zx_aal3 rfl rfl rfl rfl hG.1 ?_
  refine zx_go 9 rfl ?_
  exact zx_x rfl rfl rfl rfl (w_st0 _ _) rfl rfl
theorem w_gt1 (hG : zGk G) (d : Nat) : zCr (d + 2) 27 [.ref 0, .int 1] (zHx F G L) (.inr 1) (zHx F G L) := by
  refine zx_in rfl rfl ?_
  refine zx_go 3 rfl ?_
  refine zx_aal3 rfl rfl rfl rfl hG.2.1 ?_
  refine zx_go 9 rfl ?_
  exact zx_x rfl rfl rfl rfl (w_st0 _ _) rfl rfl
theorem w_gt2 (hG : zGk G) (d : Nat) : zCr (d + 2) 27 [.ref 0, .int 2] (zHx F G L) (.inr 1) (zHx F G L) := by
  refine zx_in rfl rfl ?_
  refine zx_go 3 rfl ?_
  refine zx_aal3 rfl rfl rfl rfl hG.2.2.1 ?_
  refine zx_go 9 rfl ?_
  exact zx_x rfl rfl rfl rfl (w_st0 _ _) rfl rfl
theorem w_gt3 (hG : zGk G) (d : Nat) : zCr (d + 2) 27 [.ref 0, .int 3] (zHx F G L) (.inr 1) (zHx F G L) := by
  refine zx_in rfl rfl ?_
  refine zx_go 3 rfl ?_
  refine zx_aal3 rfl rfl rfl rfl hG.2.2.2.1 ?_
  refine zx_go 9 rfl ?_
  exact zx_x rfl rfl rfl rfl (w_st0 _ _) rfl rfl
theorem w_vt0 (hG : zGk G) (d : Nat) : zCr (d + 2) 53 [.ref 0, .int 0] (zHx F G L) (.inr 1) (zHx F G L) := by
  refine zx_in rfl rfl ?_
  refine zx_go 3 rfl ?_
  refine zx_aal4 rfl rfl rfl rfl hG.2.2.2.2.1 ?_
  refine zx_go 9 rfl ?_
  exact zx_x rfl rfl rfl rfl (w_st0 _ _) rfl rfl
theorem w_vt1 (hG : zGk G) (d : Nat) : zCr (d + 2) 53 [.ref 0, .int 1] (zHx F G L) (.inr 1) (zHx F G L) := by
  refine zx_in rfl rfl ?_
  refine zx_go 3 rfl ?_
  refine zx_aal4 rfl rfl rfl rfl hG.2.2.2.2.2.1 ?_
  refine zx_go 9 rfl ?_
  exact zx_x rfl rfl rfl rfl (w_st0 _ _) rfl rfl
theorem w_vt2 (hG : zGk G) (d : Nat) : zCr (d + 2) 53 [.ref 0, .int 2] (zHx F G L) (.inr 1) (zHx F G L) := by
  refine zx_in rfl rfl ?_
  refine zx_go 3 rfl ?_
  refine zx_aal4 rfl rfl rfl rfl hG.2.2.2.2.2.2.1 ?_
  refine zx_go 9 rfl ?_
  exact zx_x rfl rfl rfl rfl (w_st0 _ _) rfl rfl
theorem w_vt3 (hG : zGk G) (d : Nat) : zCr (d + 2) 53 [.ref 0, .int 3] (zHx F G L) (.inr 1) (zHx F G L) := by
  refine zx_in rfl rfl ?_
  refine zx_go 3 rfl ?_
  refine zx_aal4 rfl rfl rfl rfl hG.2.2.2.2.2.2.2.1 ?_
  refine zx_go 9 rfl ?_
  exact zx_x rfl rfl rfl rfl (w_st0 _ _) rfl rfl
theorem w_vt4 (hG : zGk G) (d : Nat) : zCr (d + 2) 53 [.ref 0, .int 4] (zHx F G L) (.inr 1) (zHx F G L) := by
  refine zx_in rfl rfl ?_
  refine zx_go 3 rfl ?_
  refine zx_aal4 rfl rfl rfl rfl hG.2.2.2.2.2.2.2.2.1 ?_
  refine zx_go 9 rfl ?_
  exact zx_x rfl rfl rfl rfl (w_st0 _ _) rfl rfl
theorem w_vt5 (hG : zGk G) (d : Nat) : zCr (d + 2) 53 [.ref 0, .int 5] (zHx F G L) (.inr 1) (zHx F G L) := by
  refine zx_in rfl rfl ?_
  refine zx_go 3 rfl ?_
  refine zx_aal4 rfl rfl rfl rfl hG.2.2.2.2.2.2.2.2.2.1 ?_
  refine zx_go 9 rfl ?_
  exact zx_x rfl rfl rfl rfl (w_st0 _ _) rfl rfl
theorem w_vt6 (hG : zGk G) (d : Nat) : zCr (d + 2) 53 [.ref 0, .int 6] (zHx F G L) (.inr 1) (zHx F G L) := by
  refine zx_in rfl rfl ?_
  refine zx_go 3 rfl ?_
  refine zx_aal4 rfl rfl rfl rfl hG.2.2.2.2.2.2.2.2.2.2.1 ?_
  refine zx_go 9 rfl ?_
  exact zx_x rfl rfl rfl rfl (w_st0 _ _) rfl rfl
theorem w_vt7 (hG : zGk G) (d : Nat) : zCr (d + 2) 53 [.ref 0, .int 7] (zHx F G L) (.inr 1) (zHx F G L) := by
  refine zx_in rfl rfl ?_
  refine zx_go 3 rfl ?_
  refine zx_aal4 rfl rfl rfl rfl hG.2.2.2.2.2.2.2.2.2.2.2 ?_
  refine zx_go 9 rfl ?_
  exact zx_x rfl rfl rfl rfl (w_st0 _ _) rfl rfl
end ZFR
end
section
/-! THE CLASS ON THE FRESH OBJECT: methods that need a guest or a VCPU throw -/
section ZFP
variable {F : Nat → Nat → Int32} {G : Nat → Nat → Option Nat} {L : Nat → Int64}
theorem k_destroy_0 (p0 : Int32) (h0 : zwi p0 0 3 = 0) (h : zH) (d : Nat) : zCr (d + 3) 37 [.ref 0, .int p0] h (.inr 0) h := by
  refine zx_in rfl rfl ?_
  refine zx_go 19 rfl ?_
  refine zx_c rfl rfl rfl rfl (w_isGuest h0 _ _) ?_
  refine zx_go 19 rfl ?_
  exact zx_x rfl rfl rfl rfl (w_arg0 _ _) rfl rfl
theorem k_destroy_t0 (hG : zGk G)  (d : Nat) : zCr (d + 3) 37 [.ref 0, .int 0] (zHx F G L) (.inr 1) (zHx F G L) := by
  refine zx_in rfl rfl ?_
  refine zx_go 19 rfl ?_
  refine zx_c rfl rfl rfl rfl (w_isGuest (show zwi 0 0 3 = 1 by decide) _ _) ?_
  refine zx_go 19 rfl ?_
  refine zx_c rfl rfl rfl rfl (w_arg1 _ _) ?_
  refine zx_go 19 rfl ?_
  exact zx_x rfl rfl rfl rfl (w_gt0 hG _) rfl rfl
theorem k_destroy_t1 (hG : zGk G)  (d : Nat) : zCr (d + 3) 37 [.ref 0, .int 1] (zHx F G L) (.inr 1) (zHx F G L) := by
  refine zx_in rfl rfl ?_
  refine zx_go 19 rfl ?_
  refine zx_c rfl rfl rfl rfl (w_isGuest (show zwi 1 0 3 = 1 by decide) _ _) ?_
  refine zx_go 19 rfl ?_
  refine zx_c rfl rfl rfl rfl (w_arg1 _ _) ?_
  refine zx_go 19 rfl ?_
  exact zx_x rfl rfl rfl rfl (w_gt1 hG _) rfl rfl
theorem k_destroy_t2 (hG : zGk G)  (d : Nat) : zCr (d + 3) 37 [.ref 0, .int 2] (zHx F G L) (.inr 1) (zHx F G L) := by
  refine zx_in rfl rfl ?_
  refine zx_go 19 rfl ?_
  refine zx_c rfl rfl rfl rfl (w_isGuest (show zwi 2 0 3 = 1 by decide) _ _) ?_
  refine zx_go 19 rfl ?_
  refine zx_c rfl rfl rfl rfl (w_arg1 _ _) ?_
  refine zx_go 19 rfl ?_
  exact zx_x rfl rfl rfl rfl (w_gt2 hG _) rfl rfl
theorem k_destroy_t3 (hG : zGk G)  (d : Nat) : zCr (d + 3) 37 [.ref 0, .int 3] (zHx F G L) (.inr 1) (zHx F G L) := by
  refine zx_in rfl rfl ?_
  refine zx_go 19 rfl ?_
  refine zx_c rfl rfl rfl rfl (w_isGuest (show zwi 3 0 3 = 1 by decide) _ _) ?_
  refine zx_go 19 rfl ?_
  refine zx_c rfl rfl rfl rfl (w_arg1 _ _) ?_
  refine zx_go 19 rfl ?_
  exact zx_x rfl rfl rfl rfl (w_gt3 hG _) rfl rfl
theorem k_vcpu_0 (p0 : Int32) (h0 : zwi p0 0 3 = 0) (h : zH) (d : Nat) : zCr (d + 3) 48 [.ref 0, .int p0] h (.inr 0) h := by
  refine zx_in rfl rfl ?_
  refine zx_go 19 rfl ?_
  refine zx_c rfl rfl rfl rfl (w_isGuest h0 _ _) ?_
  refine zx_go 19 rfl ?_
  exact zx_x rfl rfl rfl rfl (w_arg0 _ _) rfl rfl
theorem k_vcpu_t0 (hG : zGk G)  (d : Nat) : zCr (d + 3) 48 [.ref 0, .int 0] (zHx F G L) (.inr 1) (zHx F G L) := by
  refine zx_in rfl rfl ?_
  refine zx_go 19 rfl ?_
  refine zx_c rfl rfl rfl rfl (w_isGuest (show zwi 0 0 3 = 1 by decide) _ _) ?_
  refine zx_go 19 rfl ?_
  refine zx_c rfl rfl rfl rfl (w_arg1 _ _) ?_
  refine zx_go 19 rfl ?_
  exact zx_x rfl rfl rfl rfl (w_gt0 hG _) rfl rfl
theorem k_vcpu_t1 (hG : zGk G)  (d : Nat) : zCr (d + 3) 48 [.ref 0, .int 1] (zHx F G L) (.inr 1) (zHx F G L) := by
  refine zx_in rfl rfl ?_
  refine zx_go 19 rfl ?_
  refine zx_c rfl rfl rfl rfl (w_isGuest (show zwi 1 0 3 = 1 by decide) _ _) ?_
  refine zx_go 19 rfl ?_
  refine zx_c rfl rfl rfl rfl (w_arg1 _ _) ?_
  refine zx_go 19 rfl ?_
  exact zx_x rfl rfl rfl rfl (w_gt1 hG _) rfl rfl
theorem k_vcpu_t2 (hG : zGk G)  (d : Nat) : zCr (d + 3) 48 [.ref 0, .int 2] (zHx F G L) (.inr 1) (zHx F G L) := by
  refine zx_in rfl rfl ?_
  refine zx_go 19 rfl ?_
  refine zx_c rfl rfl rfl rfl (w_isGuest (show zwi 2 0 3 = 1 by decide) _ _) ?_
  refine zx_go 19 rfl ?_
  refine zx_c rfl rfl rfl rfl (w_arg1 _ _) ?_
  refine zx_go 19 rfl ?_
  exact zx_x rfl rfl rfl rfl (w_gt2 hG _) rfl rfl
theorem k_vcpu_t3 (hG : zGk G)  (d : Nat) : zCr (d + 3) 48 [.ref 0, .int 3] (zHx F G L) (.inr 1) (zHx F G L) := by
  refine zx_in rfl rfl ?_
  refine zx_go 19 rfl ?_
  refine zx_c rfl rfl rfl rfl (w_isGuest (show zwi 3 0 3 = 1 by decide) _ _) ?_
  refine zx_go 19 rfl ?_
  refine zx_c rfl rfl rfl rfl (w_arg1 _ _) ?_
  refine zx_go 19 rfl ?_
  exact zx_x rfl rfl rfl rfl (w_gt3 hG _) rfl rfl
theorem k_get_0 (p0 p1 : Int32) (h0 : zwi p0 0 7 = 0) (h : zH) (d : Nat) : zCr (d + 3) 58 [.ref 0, .int p0, .int p1] h (.inr 0) h := by
  refine zx_in rfl rfl ?_
  refine zx_go 19 rfl ?_
  refine zx_c rfl rfl rfl rfl (w_isVcpu h0 _ _) ?_
  refine zx_go 19 rfl ?_
  exact zx_x rfl rfl rfl rfl (w_arg0 _ _) rfl rfl
theorem k_get_1 (p0 p1 : Int32) (h0 : zwi p0 0 7 = 1) (h1 : zwi p1 0 18 = 0) (h : zH) (d : Nat) : zCr (d + 3) 58 [.ref 0, .int p0, .int p1] h (.inr 0) h := by
  refine zx_in rfl rfl ?_
  refine zx_go 19 rfl ?_
  refine zx_c rfl rfl rfl rfl (w_isVcpu h0 _ _) ?_
  refine zx_go 19 rfl ?_
  refine zx_c rfl rfl rfl rfl (w_within' (lo := 0) (hi := 18) h1 _ _) ?_
  refine zx_go 19 rfl ?_
  exact zx_x rfl rfl rfl rfl (w_arg0 _ _) rfl rfl
theorem k_get_t0 (hG : zGk G) (p1 : Int32) (h1 : zwi p1 0 18 = 1) (d : Nat) : zCr (d + 3) 58 [.ref 0, .int 0, .int p1] (zHx F G L) (.inr 1) (zHx F G L) := by
  refine zx_in rfl rfl ?_
  refine zx_go 19 rfl ?_
  refine zx_c rfl rfl rfl rfl (w_isVcpu (show zwi 0 0 7 = 1 by decide) _ _) ?_
  refine zx_go 19 rfl ?_
  refine zx_c rfl rfl rfl rfl (w_within' (lo := 0) (hi := 18) h1 _ _) ?_
  refine zx_go 19 rfl ?_
  refine zx_c rfl rfl rfl rfl (w_arg1 _ _) ?_
  refine zx_go 19 rfl ?_
  exact zx_x rfl rfl rfl rfl (w_vt0 hG _) rfl rfl
theorem k_get_t1 (hG : zGk G) (p1 : Int32) (h1 : zwi p1 0 18 = 1) (d : Nat) : zCr (d + 3) 58 [.ref 0, .int 1, .int p1] (zHx F G L) (.inr 1) (zHx F G L) := by
  refine zx_in rfl rfl ?_
  refine zx_go 19 rfl ?_
  refine zx_c rfl rfl rfl rfl (w_isVcpu (show zwi 1 0 7 = 1 by decide) _ _) ?_
  refine zx_go 19 rfl ?_
  refine zx_c rfl rfl rfl rfl (w_within' (lo := 0) (hi := 18) h1 _ _) ?_
  refine zx_go 19 rfl ?_
  refine zx_c rfl rfl rfl rfl (w_arg1 _ _) ?_
  refine zx_go 19 rfl ?_
  exact zx_x rfl rfl rfl rfl (w_vt1 hG _) rfl rfl
theorem k_get_t2 (hG : zGk G) (p1 : Int32) (h1 : zwi p1 0 18 = 1) (d : Nat) : zCr (d + 3) 58 [.ref 0, .int 2, .int p1] (zHx F G L) (.inr 1) (zHx F G L) := by
  refine zx_in rfl rfl ?_
  refine zx_go 19 rfl ?_
  refine zx_c rfl rfl rfl rfl (w_isVcpu (show zwi 2 0 7 = 1 by decide) _ _) ?_
  refine zx_go 19 rfl ?_
  refine zx_c rfl rfl rfl rfl (w_within' (lo := 0) (hi := 18) h1 _ _) ?_
  refine zx_go 19 rfl ?_
  refine zx_c rfl rfl rfl rfl (w_arg1 _ _) ?_
  refine zx_go 19 rfl ?_
  exact zx_x rfl rfl rfl rfl (w_vt2 hG _) rfl rfl
theorem k_get_t3 (hG : zGk G) (p1 : Int32) (h1 : zwi p1 0 18 = 1) (d : Nat) : zCr (d + 3) 58 [.ref 0, .int 3, .int p1] (zHx F G L) (.inr 1) (zHx F G L) := by
  refine zx_in rfl rfl ?_
  refine zx_go 19 rfl ?_
  refine zx_c rfl rfl rfl rfl (w_isVcpu (show zwi 3 0 7 = 1 by decide) _ _) ?_
  refine zx_go 19 rfl ?_
  refine zx_c rfl rfl rfl rfl (w_within' (lo := 0) (hi := 18) h1 _ _) ?_
  refine zx_go 19 rfl ?_
  refine zx_c rfl rfl rfl rfl (w_arg1 _ _) ?_
  refine zx_go 19 rfl ?_
  exact zx_x rfl rfl rfl rfl (w_vt3 hG _) rfl rfl
theorem k_get_t4 (hG : zGk G) (p1 : Int32) (h1 : zwi p1 0 18 = 1) (d : Nat) : zCr (d + 3) 58 [.ref 0, .int 4, .int p1] (zHx F G L) (.inr 1) (zHx F G L) := by
  refine zx_in rfl rfl ?_
  refine zx_go 19 rfl ?_
  refine zx_c rfl rfl rfl rfl (w_isVcpu (show zwi 4 0 7 = 1 by decide) _ _) ?_
  refine zx_go 19 rfl ?_
  refine zx_c rfl rfl rfl rfl (w_within' (lo := 0) (hi := 18) h1 _ _) ?_
  refine zx_go 19 rfl ?_
  refine zx_c rfl rfl rfl rfl (w_arg1 _ _) ?_
  refine zx_go 19 rfl ?_
  exact zx_x rfl rfl rfl rfl (w_vt4 hG _) rfl rfl
theorem k_get_t5 (hG : zGk G) (p1 : Int32) (h1 : zwi p1 0 18 = 1) (d : Nat) : zCr (d + 3) 58 [.ref 0, .int 5, .int p1] (zHx F G L) (.inr 1) (zHx F G L) := by
  refine zx_in rfl rfl ?_
  refine zx_go 19 rfl ?_
  refine zx_c rfl rfl rfl rfl (w_isVcpu (show zwi 5 0 7 = 1 by decide) _ _) ?_
  refine zx_go 19 rfl ?_
  refine zx_c rfl rfl rfl rfl (w_within' (lo := 0) (hi := 18) h1 _ _) ?_
  refine zx_go 19 rfl ?_
  refine zx_c rfl rfl rfl rfl (w_arg1 _ _) ?_
  refine zx_go 19 rfl ?_
  exact zx_x rfl rfl rfl rfl (w_vt5 hG _) rfl rfl
theorem k_get_t6 (hG : zGk G) (p1 : Int32) (h1 : zwi p1 0 18 = 1) (d : Nat) : zCr (d + 3) 58 [.ref 0, .int 6, .int p1] (zHx F G L) (.inr 1) (zHx F G L) := by
  refine zx_in rfl rfl ?_
  refine zx_go 19 rfl ?_
  refine zx_c rfl rfl rfl rfl (w_isVcpu (show zwi 6 0 7 = 1 by decide) _ _) ?_
  refine zx_go 19 rfl ?_
  refine zx_c rfl rfl rfl rfl (w_within' (lo := 0) (hi := 18) h1 _ _) ?_
  refine zx_go 19 rfl ?_
  refine zx_c rfl rfl rfl rfl (w_arg1 _ _) ?_
  refine zx_go 19 rfl ?_
  exact zx_x rfl rfl rfl rfl (w_vt6 hG _) rfl rfl
theorem k_get_t7 (hG : zGk G) (p1 : Int32) (h1 : zwi p1 0 18 = 1) (d : Nat) : zCr (d + 3) 58 [.ref 0, .int 7, .int p1] (zHx F G L) (.inr 1) (zHx F G L) := by
  refine zx_in rfl rfl ?_
  refine zx_go 19 rfl ?_
  refine zx_c rfl rfl rfl rfl (w_isVcpu (show zwi 7 0 7 = 1 by decide) _ _) ?_
  refine zx_go 19 rfl ?_
  refine zx_c rfl rfl rfl rfl (w_within' (lo := 0) (hi := 18) h1 _ _) ?_
  refine zx_go 19 rfl ?_
  refine zx_c rfl rfl rfl rfl (w_arg1 _ _) ?_
  refine zx_go 19 rfl ?_
  exact zx_x rfl rfl rfl rfl (w_vt7 hG _) rfl rfl
theorem k_access_0 (p0 p1 p2 p3 : Int32) (h0 : zwi p0 0 7 = 0) (h : zH) (d : Nat) : zCr (d + 3) 102 [.ref 0, .int p0, .int p1, .int p2, .int p3] h (.inr 0) h := by
  refine zx_in rfl rfl ?_
  refine zx_go 19 rfl ?_
  refine zx_c rfl rfl rfl rfl (w_isVcpu h0 _ _) ?_
  refine zx_go 19 rfl ?_
  exact zx_x rfl rfl rfl rfl (w_arg0 _ _) rfl rfl
theorem k_access_1 (p0 p1 p2 p3 : Int32) (h0 : zwi p0 0 7 = 1) (h1 : zwi p1 0 2 = 0) (h : zH) (d : Nat) : zCr (d + 3) 102 [.ref 0, .int p0, .int p1, .int p2, .int p3] h (.inr 0) h := by
  refine zx_in rfl rfl ?_
  refine zx_go 19 rfl ?_
  refine zx_c rfl rfl rfl rfl (w_isVcpu h0 _ _) ?_
  refine zx_go 19 rfl ?_
  refine zx_c rfl rfl rfl rfl (w_within' (lo := 0) (hi := 2) h1 _ _) ?_
  refine zx_go 19 rfl ?_
  exact zx_x rfl rfl rfl rfl (w_arg0 _ _) rfl rfl
theorem k_access_2 (p0 p1 p2 p3 : Int32) (h0 : zwi p0 0 7 = 1) (h1 : zwi p1 0 2 = 1) (h2 : zwi p2 0 4095 = 0) (h : zH) (d : Nat) : zCr (d + 3) 102 [.ref 0, .int p0, .int p1, .int p2, .int p3] h (.inr 0) h := by
  refine zx_in rfl rfl ?_
  refine zx_go 19 rfl ?_
  refine zx_c rfl rfl rfl rfl (w_isVcpu h0 _ _) ?_
  refine zx_go 19 rfl ?_
  refine zx_c rfl rfl rfl rfl (w_within' (lo := 0) (hi := 2) h1 _ _) ?_
  refine zx_go 19 rfl ?_
  refine zx_c rfl rfl rfl rfl (w_isAddress h2 _ _) ?_
  refine zx_go 19 rfl ?_
  exact zx_x rfl rfl rfl rfl (w_arg0 _ _) rfl rfl
theorem k_access_3 (p0 p1 p2 p3 : Int32) (h0 : zwi p0 0 7 = 1) (h1 : zwi p1 0 2 = 1) (h2 : zwi p2 0 4095 = 1) (h3 : zwi p3 0 65535 = 0) (h : zH) (d : Nat) : zCr (d + 3) 102 [.ref 0, .int p0, .int p1, .int p2, .int p3] h (.inr 0) h := by
  refine zx_in rfl rfl ?_
  refine zx_go 19 rfl ?_
  refine zx_c rfl rfl rfl rfl (w_isVcpu h0 _ _) ?_
  refine zx_go 19 rfl ?_
  refine zx_c rfl rfl rfl rfl (w_within' (lo := 0) (hi := 2) h1 _ _) ?_
  refine zx_go 19 rfl ?_
  refine zx_c rfl rfl rfl rfl (w_isAddress h2 _ _) ?_
  refine zx_go 19 rfl ?_
  refine zx_c rfl rfl rfl rfl (w_isWord h3 _ _) ?_
  refine zx_go 19 rfl ?_
  exact zx_x rfl rfl rfl rfl (w_arg0 _ _) rfl rfl
theorem k_access_t0 (hG : zGk G) (p1 p2 p3 : Int32) (h1 : zwi p1 0 2 = 1) (h2 : zwi p2 0 4095 = 1) (h3 : zwi p3 0 65535 = 1) (d : Nat) : zCr (d + 3) 102 [.ref 0, .int 0, .int p1, .int p2, .int p3] (zHx F G L) (.inr 1) (zHx F G L) := by
  refine zx_in rfl rfl ?_
  refine zx_go 19 rfl ?_
  refine zx_c rfl rfl rfl rfl (w_isVcpu (show zwi 0 0 7 = 1 by decide) _ _) ?_
  refine zx_go 19 rfl ?_
  refine zx_c rfl rfl rfl rfl (w_within' (lo := 0) (hi := 2) h1 _ _) ?_
  refine zx_go 19 rfl ?_
  refine zx_c rfl rfl rfl rfl (w_isAddress h2 _ _) ?_
  refine zx_go 19 rfl ?_
  refine zx_c rfl rfl rfl rfl (w_isWord h3 _ _) ?_
  refine zx_go 19 rfl ?_
  refine zx_c rfl rfl rfl rfl (w_arg1 _ _) ?_
  refine zx_go 19 rfl ?_
  exact zx_x rfl rfl rfl rfl (w_vt0 hG _) rfl rfl
theorem k_access_t1 (hG : zGk G) (p1 p2 p3 : Int32) (h1 : zwi p1 0 2 = 1) (h2 : zwi p2 0 4095 = 1) (h3 : zwi p3 0 65535 = 1) (d : Nat) : zCr (d + 3) 102 [.ref 0, .int 1, .int p1, .int p2, .int p3] (zHx F G L) (.inr 1) (zHx F G L) := by
  refine zx_in rfl rfl ?_
  refine zx_go 19 rfl ?_
  refine zx_c rfl rfl rfl rfl (w_isVcpu (show zwi 1 0 7 = 1 by decide) _ _) ?_
  refine zx_go 19 rfl ?_
  refine zx_c rfl rfl rfl rfl (w_within' (lo := 0) (hi := 2) h1 _ _) ?_
  refine zx_go 19 rfl ?_
  refine zx_c rfl rfl rfl rfl (w_isAddress h2 _ _) ?_
  refine zx_go 19 rfl ?_
  refine zx_c rfl rfl rfl rfl (w_isWord h3 _ _) ?_
  refine zx_go 19 rfl ?_
  refine zx_c rfl rfl rfl rfl (w_arg1 _ _) ?_
  refine zx_go 19 rfl ?_
  exact zx_x rfl rfl rfl rfl (w_vt1 hG _) rfl rfl
theorem k_access_t2 (hG : zGk G) (p1 p2 p3 : Int32) (h1 : zwi p1 0 2 = 1) (h2 : zwi p2 0 4095 = 1) (h3 : zwi p3 0 65535 = 1) (d : Nat) : zCr (d + 3) 102 [.ref 0, .int 2, .int p1, .int p2, .int p3] (zHx F G L) (.inr 1) (zHx F G L) := by
  refine zx_in rfl rfl ?_
  refine zx_go 19 rfl ?_
  refine zx_c rfl rfl rfl rfl (w_isVcpu (show zwi 2 0 7 = 1 by decide) _ _) ?_
  refine zx_go 19 rfl ?_
  refine zx_c rfl rfl rfl rfl (w_within' (lo := 0) (hi := 2) h1 _ _) ?_
  refine zx_go 19 rfl ?_
  refine zx_c rfl rfl rfl rfl (w_isAddress h2 _ _) ?_
  refine zx_go 19 rfl ?_
  refine zx_c rfl rfl rfl rfl (w_isWord h3 _ _) ?_
  refine zx_go 19 rfl ?_
  refine zx_c rfl rfl rfl rfl (w_arg1 _ _) ?_
  refine zx_go 19 rfl ?_
  exact zx_x rfl rfl rfl rfl (w_vt2 hG _) rfl rfl
theorem k_access_t3 (hG : zGk G) (p1 p2 p3 : Int32) (h1 : zwi p1 0 2 = 1) (h2 : zwi p2 0 4095 = 1) (h3 : zwi p3 0 65535 = 1) (d : Nat) : zCr (d + 3) 102 [.ref 0, .int 3, .int p1, .int p2, .int p3] (zHx F G L) (.inr 1) (zHx F G L) := by
  refine zx_in rfl rfl ?_
  refine zx_go 19 rfl ?_
  refine zx_c rfl rfl rfl rfl (w_isVcpu (show zwi 3 0 7 = 1 by decide) _ _) ?_
  refine zx_go 19 rfl ?_
  refine zx_c rfl rfl rfl rfl (w_within' (lo := 0) (hi := 2) h1 _ _) ?_
  refine zx_go 19 rfl ?_
  refine zx_c rfl rfl rfl rfl (w_isAddress h2 _ _) ?_
  refine zx_go 19 rfl ?_
  refine zx_c rfl rfl rfl rfl (w_isWord h3 _ _) ?_
  refine zx_go 19 rfl ?_
  refine zx_c rfl rfl rfl rfl (w_arg1 _ _) ?_
  refine zx_go 19 rfl ?_
  exact zx_x rfl rfl rfl rfl (w_vt3 hG _) rfl rfl
theorem k_access_t4 (hG : zGk G) (p1 p2 p3 : Int32) (h1 : zwi p1 0 2 = 1) (h2 : zwi p2 0 4095 = 1) (h3 : zwi p3 0 65535 = 1) (d : Nat) : zCr (d + 3) 102 [.ref 0, .int 4, .int p1, .int p2, .int p3] (zHx F G L) (.inr 1) (zHx F G L) := by
  refine zx_in rfl rfl ?_
  refine zx_go 19 rfl ?_
  refine zx_c rfl rfl rfl rfl (w_isVcpu (show zwi 4 0 7 = 1 by decide) _ _) ?_
  refine zx_go 19 rfl ?_
  refine zx_c rfl rfl rfl rfl (w_within' (lo := 0) (hi := 2) h1 _ _) ?_
  refine zx_go 19 rfl ?_
  refine zx_c rfl rfl rfl rfl (w_isAddress h2 _ _) ?_
  refine zx_go 19 rfl ?_
  refine zx_c rfl rfl rfl rfl (w_isWord h3 _ _) ?_
  refine zx_go 19 rfl ?_
  refine zx_c rfl rfl rfl rfl (w_arg1 _ _) ?_
  refine zx_go 19 rfl ?_
  exact zx_x rfl rfl rfl rfl (w_vt4 hG _) rfl rfl
theorem k_access_t5 (hG : zGk G) (p1 p2 p3 : Int32) (h1 : zwi p1 0 2 = 1) (h2 : zwi p2 0 4095 = 1) (h3 : zwi p3 0 65535 = 1) (d : Nat) : zCr (d + 3) 102 [.ref 0, .int 5, .int p1, .int p2, .int p3] (zHx F G L) (.inr 1) (zHx F G L) := by
  refine zx_in rfl rfl ?_
  refine zx_go 19 rfl ?_
  refine zx_c rfl rfl rfl rfl (w_isVcpu (show zwi 5 0 7 = 1 by decide) _ _) ?_
  refine zx_go 19 rfl ?_
  refine zx_c rfl rfl rfl rfl (w_within' (lo := 0) (hi := 2) h1 _ _) ?_
  refine zx_go 19 rfl ?_
  refine zx_c rfl rfl rfl rfl (w_isAddress h2 _ _) ?_
  refine zx_go 19 rfl ?_
  refine zx_c rfl rfl rfl rfl (w_isWord h3 _ _) ?_
  refine zx_go 19 rfl ?_
  refine zx_c rfl rfl rfl rfl (w_arg1 _ _) ?_
  refine zx_go 19 rfl ?_
  exact zx_x rfl rfl rfl rfl (w_vt5 hG _) rfl rfl
theorem k_access_t6 (hG : zGk G) (p1 p2 p3 : Int32) (h1 : zwi p1 0 2 = 1) (h2 : zwi p2 0 4095 = 1) (h3 : zwi p3 0 65535 = 1) (d : Nat) : zCr (d + 3) 102 [.ref 0, .int 6, .int p1, .int p2, .int p3] (zHx F G L) (.inr 1) (zHx F G L) := by
  refine zx_in rfl rfl ?_
  refine zx_go 19 rfl ?_
  refine zx_c rfl rfl rfl rfl (w_isVcpu (show zwi 6 0 7 = 1 by decide) _ _) ?_
  refine zx_go 19 rfl ?_
  refine zx_c rfl rfl rfl rfl (w_within' (lo := 0) (hi := 2) h1 _ _) ?_
  refine zx_go 19 rfl ?_
  refine zx_c rfl rfl rfl rfl (w_isAddress h2 _ _) ?_
  refine zx_go 19 rfl ?_
  refine zx_c rfl rfl rfl rfl (w_isWord h3 _ _) ?_
  refine zx_go 19 rfl ?_
  refine zx_c rfl rfl rfl rfl (w_arg1 _ _) ?_
  refine zx_go 19 rfl ?_
  exact zx_x rfl rfl rfl rfl (w_vt6 hG _) rfl rfl
theorem k_access_t7 (hG : zGk G) (p1 p2 p3 : Int32) (h1 : zwi p1 0 2 = 1) (h2 : zwi p2 0 4095 = 1) (h3 : zwi p3 0 65535 = 1) (d : Nat) : zCr (d + 3) 102 [.ref 0, .int 7, .int p1, .int p2, .int p3] (zHx F G L) (.inr 1) (zHx F G L) := by
  refine zx_in rfl rfl ?_
  refine zx_go 19 rfl ?_
  refine zx_c rfl rfl rfl rfl (w_isVcpu (show zwi 7 0 7 = 1 by decide) _ _) ?_
  refine zx_go 19 rfl ?_
  refine zx_c rfl rfl rfl rfl (w_within' (lo := 0) (hi := 2) h1 _ _) ?_
  refine zx_go 19 rfl ?_
  refine zx_c rfl rfl rfl rfl (w_isAddress h2 _ _) ?_
  refine zx_go 19 rfl ?_
  refine zx_c rfl rfl rfl rfl (w_isWord h3 _ _) ?_
  refine zx_go 19 rfl ?_
  refine zx_c rfl rfl rfl rfl (w_arg1 _ _) ?_
  refine zx_go 19 rfl ?_
  exact zx_x rfl rfl rfl rfl (w_vt7 hG _) rfl rfl
theorem k_run_0 (p0 p1 : Int32) (h0 : zwi p0 0 7 = 0) (h : zH) (d : Nat) : zCr (d + 3) 146 [.ref 0, .int p0, .int p1] h (.inr 0) h := by
  refine zx_in rfl rfl ?_
  refine zx_go 19 rfl ?_
  refine zx_c rfl rfl rfl rfl (w_isVcpu h0 _ _) ?_
  refine zx_go 19 rfl ?_
  exact zx_x rfl rfl rfl rfl (w_arg0 _ _) rfl rfl
theorem k_run_1 (p0 p1 : Int32) (h0 : zwi p0 0 7 = 1) (h1 : zwi p1 1 1000 = 0) (h : zH) (d : Nat) : zCr (d + 3) 146 [.ref 0, .int p0, .int p1] h (.inr 0) h := by
  refine zx_in rfl rfl ?_
  refine zx_go 19 rfl ?_
  refine zx_c rfl rfl rfl rfl (w_isVcpu h0 _ _) ?_
  refine zx_go 19 rfl ?_
  refine zx_c rfl rfl rfl rfl (w_within' (lo := 1) (hi := 1000) h1 _ _) ?_
  refine zx_go 19 rfl ?_
  exact zx_x rfl rfl rfl rfl (w_arg0 _ _) rfl rfl
theorem k_run_t0 (hG : zGk G) (p1 : Int32) (h1 : zwi p1 1 1000 = 1) (d : Nat) : zCr (d + 3) 146 [.ref 0, .int 0, .int p1] (zHx F G L) (.inr 1) (zHx F G L) := by
  refine zx_in rfl rfl ?_
  refine zx_go 19 rfl ?_
  refine zx_c rfl rfl rfl rfl (w_isVcpu (show zwi 0 0 7 = 1 by decide) _ _) ?_
  refine zx_go 19 rfl ?_
  refine zx_c rfl rfl rfl rfl (w_within' (lo := 1) (hi := 1000) h1 _ _) ?_
  refine zx_go 19 rfl ?_
  refine zx_c rfl rfl rfl rfl (w_arg1 _ _) ?_
  refine zx_go 19 rfl ?_
  exact zx_x rfl rfl rfl rfl (w_vt0 hG _) rfl rfl
theorem k_run_t1 (hG : zGk G) (p1 : Int32) (h1 : zwi p1 1 1000 = 1) (d : Nat) : zCr (d + 3) 146 [.ref 0, .int 1, .int p1] (zHx F G L) (.inr 1) (zHx F G L) := by
  refine zx_in rfl rfl ?_
  refine zx_go 19 rfl ?_
  refine zx_c rfl rfl rfl rfl (w_isVcpu (show zwi 1 0 7 = 1 by decide) _ _) ?_
  refine zx_go 19 rfl ?_
  refine zx_c rfl rfl rfl rfl (w_within' (lo := 1) (hi := 1000) h1 _ _) ?_
  refine zx_go 19 rfl ?_
  refine zx_c rfl rfl rfl rfl (w_arg1 _ _) ?_
  refine zx_go 19 rfl ?_
  exact zx_x rfl rfl rfl rfl (w_vt1 hG _) rfl rfl
theorem k_run_t2 (hG : zGk G) (p1 : Int32) (h1 : zwi p1 1 1000 = 1) (d : Nat) : zCr (d + 3) 146 [.ref 0, .int 2, .int p1] (zHx F G L) (.inr 1) (zHx F G L) := by
  refine zx_in rfl rfl ?_
  refine zx_go 19 rfl ?_
  refine zx_c rfl rfl rfl rfl (w_isVcpu (show zwi 2 0 7 = 1 by decide) _ _) ?_
  refine zx_go 19 rfl ?_
  refine zx_c rfl rfl rfl rfl (w_within' (lo := 1) (hi := 1000) h1 _ _) ?_
  refine zx_go 19 rfl ?_
  refine zx_c rfl rfl rfl rfl (w_arg1 _ _) ?_
  refine zx_go 19 rfl ?_
  exact zx_x rfl rfl rfl rfl (w_vt2 hG _) rfl rfl
theorem k_run_t3 (hG : zGk G) (p1 : Int32) (h1 : zwi p1 1 1000 = 1) (d : Nat) : zCr (d + 3) 146 [.ref 0, .int 3, .int p1] (zHx F G L) (.inr 1) (zHx F G L) := by
  refine zx_in rfl rfl ?_
  refine zx_go 19 rfl ?_
  refine zx_c rfl rfl rfl rfl (w_isVcpu (show zwi 3 0 7 = 1 by decide) _ _) ?_
  refine zx_go 19 rfl ?_
  refine zx_c rfl rfl rfl rfl (w_within' (lo := 1) (hi := 1000) h1 _ _) ?_
  refine zx_go 19 rfl ?_
  refine zx_c rfl rfl rfl rfl (w_arg1 _ _) ?_
  refine zx_go 19 rfl ?_
  exact zx_x rfl rfl rfl rfl (w_vt3 hG _) rfl rfl
theorem k_run_t4 (hG : zGk G) (p1 : Int32) (h1 : zwi p1 1 1000 = 1) (d : Nat) : zCr (d + 3) 146 [.ref 0, .int 4, .int p1] (zHx F G L) (.inr 1) (zHx F G L) := by
  refine zx_in rfl rfl ?_
  refine zx_go 19 rfl ?_
  refine zx_c rfl rfl rfl rfl (w_isVcpu (show zwi 4 0 7 = 1 by decide) _ _) ?_
  refine zx_go 19 rfl ?_
  refine zx_c rfl rfl rfl rfl (w_within' (lo := 1) (hi := 1000) h1 _ _) ?_
  refine zx_go 19 rfl ?_
  refine zx_c rfl rfl rfl rfl (w_arg1 _ _) ?_
  refine zx_go 19 rfl ?_
  exact zx_x rfl rfl rfl rfl (w_vt4 hG _) rfl rfl
theorem k_run_t5 (hG : zGk G) (p1 : Int32) (h1 : zwi p1 1 1000 = 1) (d : Nat) : zCr (d + 3) 146 [.ref 0, .int 5, .int p1] (zHx F G L) (.inr 1) (zHx F G L) := by
  refine zx_in rfl rfl ?_
  refine zx_go 19 rfl ?_
  refine zx_c rfl rfl rfl rfl (w_isVcpu (show zwi 5 0 7 = 1 by decide) _ _) ?_
  refine zx_go 19 rfl ?_
  refine zx_c rfl rfl rfl rfl (w_within' (lo := 1) (hi := 1000) h1 _ _) ?_
  refine zx_go 19 rfl ?_
  refine zx_c rfl rfl rfl rfl (w_arg1 _ _) ?_
  refine zx_go 19 rfl ?_
  exact zx_x rfl rfl rfl rfl (w_vt5 hG _) rfl rfl
theorem k_run_t6 (hG : zGk G) (p1 : Int32) (h1 : zwi p1 1 1000 = 1) (d : Nat) : zCr (d + 3) 146 [.ref 0, .int 6, .int p1] (zHx F G L) (.inr 1) (zHx F G L) := by
  refine zx_in rfl rfl ?_
  refine zx_go 19 rfl ?_
  refine zx_c rfl rfl rfl rfl (w_isVcpu (show zwi 6 0 7 = 1 by decide) _ _) ?_
  refine zx_go 19 rfl ?_
  refine zx_c rfl rfl rfl rfl (w_within' (lo := 1) (hi := 1000) h1 _ _) ?_
  refine zx_go 19 rfl ?_
  refine zx_c rfl rfl rfl rfl (w_arg1 _ _) ?_
  refine zx_go 19 rfl ?_
  exact zx_x rfl rfl rfl rfl (w_vt6 hG _) rfl rfl
theorem k_run_t7 (hG : zGk G) (p1 : Int32) (h1 : zwi p1 1 1000 = 1) (d : Nat) : zCr (d + 3) 146 [.ref 0, .int 7, .int p1] (zHx F G L) (.inr 1) (zHx F G L) := by
  refine zx_in rfl rfl ?_
  refine zx_go 19 rfl ?_
  refine zx_c rfl rfl rfl rfl (w_isVcpu (show zwi 7 0 7 = 1 by decide) _ _) ?_
  refine zx_go 19 rfl ?_
  refine zx_c rfl rfl rfl rfl (w_within' (lo := 1) (hi := 1000) h1 _ _) ?_
  refine zx_go 19 rfl ?_
  refine zx_c rfl rfl rfl rfl (w_arg1 _ _) ?_
  refine zx_go 19 rfl ?_
  exact zx_x rfl rfl rfl rfl (w_vt7 hG _) rfl rfl
theorem k_exit_0 (p0 p1 : Int32) (h0 : zwi p0 0 7 = 0) (h : zH) (d : Nat) : zCr (d + 3) 155 [.ref 0, .int p0, .int p1] h (.inr 0) h := by
  refine zx_in rfl rfl ?_
  refine zx_go 19 rfl ?_
  refine zx_c rfl rfl rfl rfl (w_isVcpu h0 _ _) ?_
  refine zx_go 19 rfl ?_
  exact zx_x rfl rfl rfl rfl (w_arg0 _ _) rfl rfl
theorem k_exit_1 (p0 p1 : Int32) (h0 : zwi p0 0 7 = 1) (h1 : zwi p1 0 4 = 0) (h : zH) (d : Nat) : zCr (d + 3) 155 [.ref 0, .int p0, .int p1] h (.inr 0) h := by
  refine zx_in rfl rfl ?_
  refine zx_go 19 rfl ?_
  refine zx_c rfl rfl rfl rfl (w_isVcpu h0 _ _) ?_
  refine zx_go 19 rfl ?_
  refine zx_c rfl rfl rfl rfl (w_within' (lo := 0) (hi := 4) h1 _ _) ?_
  refine zx_go 19 rfl ?_
  exact zx_x rfl rfl rfl rfl (w_arg0 _ _) rfl rfl
theorem k_exit_t0 (hG : zGk G) (p1 : Int32) (h1 : zwi p1 0 4 = 1) (d : Nat) : zCr (d + 3) 155 [.ref 0, .int 0, .int p1] (zHx F G L) (.inr 1) (zHx F G L) := by
  refine zx_in rfl rfl ?_
  refine zx_go 19 rfl ?_
  refine zx_c rfl rfl rfl rfl (w_isVcpu (show zwi 0 0 7 = 1 by decide) _ _) ?_
  refine zx_go 19 rfl ?_
  refine zx_c rfl rfl rfl rfl (w_within' (lo := 0) (hi := 4) h1 _ _) ?_
  refine zx_go 19 rfl ?_
  refine zx_c rfl rfl rfl rfl (w_arg1 _ _) ?_
  refine zx_go 19 rfl ?_
  exact zx_x rfl rfl rfl rfl (w_vt0 hG _) rfl rfl
theorem k_exit_t1 (hG : zGk G) (p1 : Int32) (h1 : zwi p1 0 4 = 1) (d : Nat) : zCr (d + 3) 155 [.ref 0, .int 1, .int p1] (zHx F G L) (.inr 1) (zHx F G L) := by
  refine zx_in rfl rfl ?_
  refine zx_go 19 rfl ?_
  refine zx_c rfl rfl rfl rfl (w_isVcpu (show zwi 1 0 7 = 1 by decide) _ _) ?_
  refine zx_go 19 rfl ?_
  refine zx_c rfl rfl rfl rfl (w_within' (lo := 0) (hi := 4) h1 _ _) ?_
  refine zx_go 19 rfl ?_
  refine zx_c rfl rfl rfl rfl (w_arg1 _ _) ?_
  refine zx_go 19 rfl ?_
  exact zx_x rfl rfl rfl rfl (w_vt1 hG _) rfl rfl
theorem k_exit_t2 (hG : zGk G) (p1 : Int32) (h1 : zwi p1 0 4 = 1) (d : Nat) : zCr (d + 3) 155 [.ref 0, .int 2, .int p1] (zHx F G L) (.inr 1) (zHx F G L) := by
  refine zx_in rfl rfl ?_
  refine zx_go 19 rfl ?_
  refine zx_c rfl rfl rfl rfl (w_isVcpu (show zwi 2 0 7 = 1 by decide) _ _) ?_
  refine zx_go 19 rfl ?_
  refine zx_c rfl rfl rfl rfl (w_within' (lo := 0) (hi := 4) h1 _ _) ?_
  refine zx_go 19 rfl ?_
  refine zx_c rfl rfl rfl rfl (w_arg1 _ _) ?_
  refine zx_go 19 rfl ?_
  exact zx_x rfl rfl rfl rfl (w_vt2 hG _) rfl rfl
theorem k_exit_t3 (hG : zGk G) (p1 : Int32) (h1 : zwi p1 0 4 = 1) (d : Nat) : zCr (d + 3) 155 [.ref 0, .int 3, .int p1] (zHx F G L) (.inr 1) (zHx F G L) := by
  refine zx_in rfl rfl ?_
  refine zx_go 19 rfl ?_
  refine zx_c rfl rfl rfl rfl (w_isVcpu (show zwi 3 0 7 = 1 by decide) _ _) ?_
  refine zx_go 19 rfl ?_
  refine zx_c rfl rfl rfl rfl (w_within' (lo := 0) (hi := 4) h1 _ _) ?_
  refine zx_go 19 rfl ?_
  refine zx_c rfl rfl rfl rfl (w_arg1 _ _) ?_
  refine zx_go 19 rfl ?_
  exact zx_x rfl rfl rfl rfl (w_vt3 hG _) rfl rfl
theorem k_exit_t4 (hG : zGk G) (p1 : Int32) (h1 : zwi p1 0 4 = 1) (d : Nat) : zCr (d + 3) 155 [.ref 0, .int 4, .int p1] (zHx F G L) (.inr 1) (zHx F G L) := by
  refine zx_in rfl rfl ?_
  refine zx_go 19 rfl ?_
  refine zx_c rfl rfl rfl rfl (w_isVcpu (show zwi 4 0 7 = 1 by decide) _ _) ?_
  refine zx_go 19 rfl ?_
  refine zx_c rfl rfl rfl rfl (w_within' (lo := 0) (hi := 4) h1 _ _) ?_
  refine zx_go 19 rfl ?_
  refine zx_c rfl rfl rfl rfl (w_arg1 _ _) ?_
  refine zx_go 19 rfl ?_
  exact zx_x rfl rfl rfl rfl (w_vt4 hG _) rfl rfl
theorem k_exit_t5 (hG : zGk G) (p1 : Int32) (h1 : zwi p1 0 4 = 1) (d : Nat) : zCr (d + 3) 155 [.ref 0, .int 5, .int p1] (zHx F G L) (.inr 1) (zHx F G L) := by
  refine zx_in rfl rfl ?_
  refine zx_go 19 rfl ?_
  refine zx_c rfl rfl rfl rfl (w_isVcpu (show zwi 5 0 7 = 1 by decide) _ _) ?_
  refine zx_go 19 rfl ?_
  refine zx_c rfl rfl rfl rfl (w_within' (lo := 0) (hi := 4) h1 _ _) ?_
  refine zx_go 19 rfl ?_
  refine zx_c rfl rfl rfl rfl (w_arg1 _ _) ?_
  refine zx_go 19 rfl ?_
  exact zx_x rfl rfl rfl rfl (w_vt5 hG _) rfl rfl
theorem k_exit_t6 (hG : zGk G) (p1 : Int32) (h1 : zwi p1 0 4 = 1) (d : Nat) : zCr (d + 3) 155 [.ref 0, .int 6, .int p1] (zHx F G L) (.inr 1) (zHx F G L) := by
  refine zx_in rfl rfl ?_
  refine zx_go 19 rfl ?_
  refine zx_c rfl rfl rfl rfl (w_isVcpu (show zwi 6 0 7 = 1 by decide) _ _) ?_
  refine zx_go 19 rfl ?_
  refine zx_c rfl rfl rfl rfl (w_within' (lo := 0) (hi := 4) h1 _ _) ?_
  refine zx_go 19 rfl ?_
  refine zx_c rfl rfl rfl rfl (w_arg1 _ _) ?_
  refine zx_go 19 rfl ?_
  exact zx_x rfl rfl rfl rfl (w_vt6 hG _) rfl rfl
theorem k_exit_t7 (hG : zGk G) (p1 : Int32) (h1 : zwi p1 0 4 = 1) (d : Nat) : zCr (d + 3) 155 [.ref 0, .int 7, .int p1] (zHx F G L) (.inr 1) (zHx F G L) := by
  refine zx_in rfl rfl ?_
  refine zx_go 19 rfl ?_
  refine zx_c rfl rfl rfl rfl (w_isVcpu (show zwi 7 0 7 = 1 by decide) _ _) ?_
  refine zx_go 19 rfl ?_
  refine zx_c rfl rfl rfl rfl (w_within' (lo := 0) (hi := 4) h1 _ _) ?_
  refine zx_go 19 rfl ?_
  refine zx_c rfl rfl rfl rfl (w_arg1 _ _) ?_
  refine zx_go 19 rfl ?_
  exact zx_x rfl rfl rfl rfl (w_vt7 hG _) rfl rfl
theorem k_flush_0 (p0 p1 p2 : Int32) (h0 : zwi p0 0 7 = 0) (h : zH) (d : Nat) : zCr (d + 3) 158 [.ref 0, .int p0, .int p1, .int p2] h (.inr 0) h := by
  refine zx_in rfl rfl ?_
  refine zx_go 19 rfl ?_
  refine zx_c rfl rfl rfl rfl (w_isVcpu h0 _ _) ?_
  refine zx_go 19 rfl ?_
  exact zx_x rfl rfl rfl rfl (w_arg0 _ _) rfl rfl
theorem k_flush_1 (p0 p1 p2 : Int32) (h0 : zwi p0 0 7 = 1) (h1 : zwi p1 0 2 = 0) (h : zH) (d : Nat) : zCr (d + 3) 158 [.ref 0, .int p0, .int p1, .int p2] h (.inr 0) h := by
  refine zx_in rfl rfl ?_
  refine zx_go 19 rfl ?_
  refine zx_c rfl rfl rfl rfl (w_isVcpu h0 _ _) ?_
  refine zx_go 19 rfl ?_
  refine zx_c rfl rfl rfl rfl (w_within' (lo := 0) (hi := 2) h1 _ _) ?_
  refine zx_go 19 rfl ?_
  exact zx_x rfl rfl rfl rfl (w_arg0 _ _) rfl rfl
theorem k_flush_2 (p0 p1 p2 : Int32) (h0 : zwi p0 0 7 = 1) (h1 : zwi p1 0 2 = 1) (h2 : zwi p2 0 4095 = 0) (h : zH) (d : Nat) : zCr (d + 3) 158 [.ref 0, .int p0, .int p1, .int p2] h (.inr 0) h := by
  refine zx_in rfl rfl ?_
  refine zx_go 19 rfl ?_
  refine zx_c rfl rfl rfl rfl (w_isVcpu h0 _ _) ?_
  refine zx_go 19 rfl ?_
  refine zx_c rfl rfl rfl rfl (w_within' (lo := 0) (hi := 2) h1 _ _) ?_
  refine zx_go 19 rfl ?_
  refine zx_c rfl rfl rfl rfl (w_isAddress h2 _ _) ?_
  refine zx_go 19 rfl ?_
  exact zx_x rfl rfl rfl rfl (w_arg0 _ _) rfl rfl
theorem k_flush_t0 (hG : zGk G) (p1 p2 : Int32) (h1 : zwi p1 0 2 = 1) (h2 : zwi p2 0 4095 = 1) (d : Nat) : zCr (d + 3) 158 [.ref 0, .int 0, .int p1, .int p2] (zHx F G L) (.inr 1) (zHx F G L) := by
  refine zx_in rfl rfl ?_
  refine zx_go 19 rfl ?_
  refine zx_c rfl rfl rfl rfl (w_isVcpu (show zwi 0 0 7 = 1 by decide) _ _) ?_
  refine zx_go 19 rfl ?_
  refine zx_c rfl rfl rfl rfl (w_within' (lo := 0) (hi := 2) h1 _ _) ?_
  refine zx_go 19 rfl ?_
  refine zx_c rfl rfl rfl rfl (w_isAddress h2 _ _) ?_
  refine zx_go 19 rfl ?_
  refine zx_c rfl rfl rfl rfl (w_arg1 _ _) ?_
  refine zx_go 19 rfl ?_
  exact zx_x rfl rfl rfl rfl (w_vt0 hG _) rfl rfl
theorem k_flush_t1 (hG : zGk G) (p1 p2 : Int32) (h1 : zwi p1 0 2 = 1) (h2 : zwi p2 0 4095 = 1) (d : Nat) : zCr (d + 3) 158 [.ref 0, .int 1, .int p1, .int p2] (zHx F G L) (.inr 1) (zHx F G L) := by
  refine zx_in rfl rfl ?_
  refine zx_go 19 rfl ?_
  refine zx_c rfl rfl rfl rfl (w_isVcpu (show zwi 1 0 7 = 1 by decide) _ _) ?_
  refine zx_go 19 rfl ?_
  refine zx_c rfl rfl rfl rfl (w_within' (lo := 0) (hi := 2) h1 _ _) ?_
  refine zx_go 19 rfl ?_
  refine zx_c rfl rfl rfl rfl (w_isAddress h2 _ _) ?_
  refine zx_go 19 rfl ?_
  refine zx_c rfl rfl rfl rfl (w_arg1 _ _) ?_
  refine zx_go 19 rfl ?_
  exact zx_x rfl rfl rfl rfl (w_vt1 hG _) rfl rfl
theorem k_flush_t2 (hG : zGk G) (p1 p2 : Int32) (h1 : zwi p1 0 2 = 1) (h2 : zwi p2 0 4095 = 1) (d : Nat) : zCr (d + 3) 158 [.ref 0, .int 2, .int p1, .int p2] (zHx F G L) (.inr 1) (zHx F G L) := by
  refine zx_in rfl rfl ?_
  refine zx_go 19 rfl ?_
  refine zx_c rfl rfl rfl rfl (w_isVcpu (show zwi 2 0 7 = 1 by decide) _ _) ?_
  refine zx_go 19 rfl ?_
  refine zx_c rfl rfl rfl rfl (w_within' (lo := 0) (hi := 2) h1 _ _) ?_
  refine zx_go 19 rfl ?_
  refine zx_c rfl rfl rfl rfl (w_isAddress h2 _ _) ?_
  refine zx_go 19 rfl ?_
  refine zx_c rfl rfl rfl rfl (w_arg1 _ _) ?_
  refine zx_go 19 rfl ?_
  exact zx_x rfl rfl rfl rfl (w_vt2 hG _) rfl rfl
theorem k_flush_t3 (hG : zGk G) (p1 p2 : Int32) (h1 : zwi p1 0 2 = 1) (h2 : zwi p2 0 4095 = 1) (d : Nat) : zCr (d + 3) 158 [.ref 0, .int 3, .int p1, .int p2] (zHx F G L) (.inr 1) (zHx F G L) := by
  refine zx_in rfl rfl ?_
  refine zx_go 19 rfl ?_
  refine zx_c rfl rfl rfl rfl (w_isVcpu (show zwi 3 0 7 = 1 by decide) _ _) ?_
  refine zx_go 19 rfl ?_
  refine zx_c rfl rfl rfl rfl (w_within' (lo := 0) (hi := 2) h1 _ _) ?_
  refine zx_go 19 rfl ?_
  refine zx_c rfl rfl rfl rfl (w_isAddress h2 _ _) ?_
  refine zx_go 19 rfl ?_
  refine zx_c rfl rfl rfl rfl (w_arg1 _ _) ?_
  refine zx_go 19 rfl ?_
  exact zx_x rfl rfl rfl rfl (w_vt3 hG _) rfl rfl
theorem k_flush_t4 (hG : zGk G) (p1 p2 : Int32) (h1 : zwi p1 0 2 = 1) (h2 : zwi p2 0 4095 = 1) (d : Nat) : zCr (d + 3) 158 [.ref 0, .int 4, .int p1, .int p2] (zHx F G L) (.inr 1) (zHx F G L) := by
  refine zx_in rfl rfl ?_
  refine zx_go 19 rfl ?_
  refine zx_c rfl rfl rfl rfl (w_isVcpu (show zwi 4 0 7 = 1 by decide) _ _) ?_
  refine zx_go 19 rfl ?_
  refine zx_c rfl rfl rfl rfl (w_within' (lo := 0) (hi := 2) h1 _ _) ?_
  refine zx_go 19 rfl ?_
  refine zx_c rfl rfl rfl rfl (w_isAddress h2 _ _) ?_
  refine zx_go 19 rfl ?_
  refine zx_c rfl rfl rfl rfl (w_arg1 _ _) ?_
  refine zx_go 19 rfl ?_
  exact zx_x rfl rfl rfl rfl (w_vt4 hG _) rfl rfl
theorem k_flush_t5 (hG : zGk G) (p1 p2 : Int32) (h1 : zwi p1 0 2 = 1) (h2 : zwi p2 0 4095 = 1) (d : Nat) : zCr (d + 3) 158 [.ref 0, .int 5, .int p1, .int p2] (zHx F G L) (.inr 1) (zHx F G L) := by
  refine zx_in rfl rfl ?_
  refine zx_go 19 rfl ?_
  refine zx_c rfl rfl rfl rfl (w_isVcpu (show zwi 5 0 7 = 1 by decide) _ _) ?_
  refine zx_go 19 rfl ?_
  refine zx_c rfl rfl rfl rfl (w_within' (lo := 0) (hi := 2) h1 _ _) ?_
  refine zx_go 19 rfl ?_
  refine zx_c rfl rfl rfl rfl (w_isAddress h2 _ _) ?_
  refine zx_go 19 rfl ?_
  refine zx_c rfl rfl rfl rfl (w_arg1 _ _) ?_
  refine zx_go 19 rfl ?_
  exact zx_x rfl rfl rfl rfl (w_vt5 hG _) rfl rfl
theorem k_flush_t6 (hG : zGk G) (p1 p2 : Int32) (h1 : zwi p1 0 2 = 1) (h2 : zwi p2 0 4095 = 1) (d : Nat) : zCr (d + 3) 158 [.ref 0, .int 6, .int p1, .int p2] (zHx F G L) (.inr 1) (zHx F G L) := by
  refine zx_in rfl rfl ?_
  refine zx_go 19 rfl ?_
  refine zx_c rfl rfl rfl rfl (w_isVcpu (show zwi 6 0 7 = 1 by decide) _ _) ?_
  refine zx_go 19 rfl ?_
  refine zx_c rfl rfl rfl rfl (w_within' (lo := 0) (hi := 2) h1 _ _) ?_
  refine zx_go 19 rfl ?_
  refine zx_c rfl rfl rfl rfl (w_isAddress h2 _ _) ?_
  refine zx_go 19 rfl ?_
  refine zx_c rfl rfl rfl rfl (w_arg1 _ _) ?_
  refine zx_go 19 rfl ?_
  exact zx_x rfl rfl rfl rfl (w_vt6 hG _) rfl rfl
theorem k_flush_t7 (hG : zGk G) (p1 p2 : Int32) (h1 : zwi p1 0 2 = 1) (h2 : zwi p2 0 4095 = 1) (d : Nat) : zCr (d + 3) 158 [.ref 0, .int 7, .int p1, .int p2] (zHx F G L) (.inr 1) (zHx F G L) := by
  refine zx_in rfl rfl ?_
  refine zx_go 19 rfl ?_
  refine zx_c rfl rfl rfl rfl (w_isVcpu (show zwi 7 0 7 = 1 by decide) _ _) ?_
  refine zx_go 19 rfl ?_
  refine zx_c rfl rfl rfl rfl (w_within' (lo := 0) (hi := 2) h1 _ _) ?_
  refine zx_go 19 rfl ?_
  refine zx_c rfl rfl rfl rfl (w_isAddress h2 _ _) ?_
  refine zx_go 19 rfl ?_
  refine zx_c rfl rfl rfl rfl (w_arg1 _ _) ?_
  refine zx_go 19 rfl ?_
  exact zx_x rfl rfl rfl rfl (w_vt7 hG _) rfl rfl
theorem k_aside_0 (p0 p1 p2 : Int32) (h0 : zwi p0 0 7 = 0) (h : zH) (d : Nat) : zCr (d + 3) 162 [.ref 0, .int p0, .int p1, .int p2] h (.inr 0) h := by
  refine zx_in rfl rfl ?_
  refine zx_go 19 rfl ?_
  refine zx_c rfl rfl rfl rfl (w_isVcpu h0 _ _) ?_
  refine zx_go 19 rfl ?_
  exact zx_x rfl rfl rfl rfl (w_arg0 _ _) rfl rfl
theorem k_aside_1 (p0 p1 p2 : Int32) (h0 : zwi p0 0 7 = 1) (h1 : zwi p1 0 7 = 0) (h : zH) (d : Nat) : zCr (d + 3) 162 [.ref 0, .int p0, .int p1, .int p2] h (.inr 0) h := by
  refine zx_in rfl rfl ?_
  refine zx_go 19 rfl ?_
  refine zx_c rfl rfl rfl rfl (w_isVcpu h0 _ _) ?_
  refine zx_go 19 rfl ?_
  refine zx_c rfl rfl rfl rfl (w_within' (lo := 0) (hi := 7) h1 _ _) ?_
  refine zx_go 19 rfl ?_
  exact zx_x rfl rfl rfl rfl (w_arg0 _ _) rfl rfl
theorem k_aside_2 (p0 p1 p2 : Int32) (h0 : zwi p0 0 7 = 1) (h1 : zwi p1 0 7 = 1) (h2 : zwi p2 0 3 = 0) (h : zH) (d : Nat) : zCr (d + 3) 162 [.ref 0, .int p0, .int p1, .int p2] h (.inr 0) h := by
  refine zx_in rfl rfl ?_
  refine zx_go 19 rfl ?_
  refine zx_c rfl rfl rfl rfl (w_isVcpu h0 _ _) ?_
  refine zx_go 19 rfl ?_
  refine zx_c rfl rfl rfl rfl (w_within' (lo := 0) (hi := 7) h1 _ _) ?_
  refine zx_go 19 rfl ?_
  refine zx_c rfl rfl rfl rfl (w_within' (lo := 0) (hi := 3) h2 _ _) ?_
  refine zx_go 19 rfl ?_
  exact zx_x rfl rfl rfl rfl (w_arg0 _ _) rfl rfl
theorem k_aside_t0 (hG : zGk G) (p1 p2 : Int32) (h1 : zwi p1 0 7 = 1) (h2 : zwi p2 0 3 = 1) (d : Nat) : zCr (d + 3) 162 [.ref 0, .int 0, .int p1, .int p2] (zHx F G L) (.inr 1) (zHx F G L) := by
  refine zx_in rfl rfl ?_
  refine zx_go 19 rfl ?_
  refine zx_c rfl rfl rfl rfl (w_isVcpu (show zwi 0 0 7 = 1 by decide) _ _) ?_
  refine zx_go 19 rfl ?_
  refine zx_c rfl rfl rfl rfl (w_within' (lo := 0) (hi := 7) h1 _ _) ?_
  refine zx_go 19 rfl ?_
  refine zx_c rfl rfl rfl rfl (w_within' (lo := 0) (hi := 3) h2 _ _) ?_
  refine zx_go 19 rfl ?_
  refine zx_c rfl rfl rfl rfl (w_arg1 _ _) ?_
  refine zx_go 19 rfl ?_
  exact zx_x rfl rfl rfl rfl (w_vt0 hG _) rfl rfl
theorem k_aside_t1 (hG : zGk G) (p1 p2 : Int32) (h1 : zwi p1 0 7 = 1) (h2 : zwi p2 0 3 = 1) (d : Nat) : zCr (d + 3) 162 [.ref 0, .int 1, .int p1, .int p2] (zHx F G L) (.inr 1) (zHx F G L) := by
  refine zx_in rfl rfl ?_
  refine zx_go 19 rfl ?_
  refine zx_c rfl rfl rfl rfl (w_isVcpu (show zwi 1 0 7 = 1 by decide) _ _) ?_
  refine zx_go 19 rfl ?_
  refine zx_c rfl rfl rfl rfl (w_within' (lo := 0) (hi := 7) h1 _ _) ?_
  refine zx_go 19 rfl ?_
  refine zx_c rfl rfl rfl rfl (w_within' (lo := 0) (hi := 3) h2 _ _) ?_
  refine zx_go 19 rfl ?_
  refine zx_c rfl rfl rfl rfl (w_arg1 _ _) ?_
  refine zx_go 19 rfl ?_
  exact zx_x rfl rfl rfl rfl (w_vt1 hG _) rfl rfl
theorem k_aside_t2 (hG : zGk G) (p1 p2 : Int32) (h1 : zwi p1 0 7 = 1) (h2 : zwi p2 0 3 = 1) (d : Nat) : zCr (d + 3) 162 [.ref 0, .int 2, .int p1, .int p2] (zHx F G L) (.inr 1) (zHx F G L) := by
  refine zx_in rfl rfl ?_
  refine zx_go 19 rfl ?_
  refine zx_c rfl rfl rfl rfl (w_isVcpu (show zwi 2 0 7 = 1 by decide) _ _) ?_
  refine zx_go 19 rfl ?_
  refine zx_c rfl rfl rfl rfl (w_within' (lo := 0) (hi := 7) h1 _ _) ?_
  refine zx_go 19 rfl ?_
  refine zx_c rfl rfl rfl rfl (w_within' (lo := 0) (hi := 3) h2 _ _) ?_
  refine zx_go 19 rfl ?_
  refine zx_c rfl rfl rfl rfl (w_arg1 _ _) ?_
  refine zx_go 19 rfl ?_
  exact zx_x rfl rfl rfl rfl (w_vt2 hG _) rfl rfl
theorem k_aside_t3 (hG : zGk G) (p1 p2 : Int32) (h1 : zwi p1 0 7 = 1) (h2 : zwi p2 0 3 = 1) (d : Nat) : zCr (d + 3) 162 [.ref 0, .int 3, .int p1, .int p2] (zHx F G L) (.inr 1) (zHx F G L) := by
  refine zx_in rfl rfl ?_
  refine zx_go 19 rfl ?_
  refine zx_c rfl rfl rfl rfl (w_isVcpu (show zwi 3 0 7 = 1 by decide) _ _) ?_
  refine zx_go 19 rfl ?_
  refine zx_c rfl rfl rfl rfl (w_within' (lo := 0) (hi := 7) h1 _ _) ?_
  refine zx_go 19 rfl ?_
  refine zx_c rfl rfl rfl rfl (w_within' (lo := 0) (hi := 3) h2 _ _) ?_
  refine zx_go 19 rfl ?_
  refine zx_c rfl rfl rfl rfl (w_arg1 _ _) ?_
  refine zx_go 19 rfl ?_
  exact zx_x rfl rfl rfl rfl (w_vt3 hG _) rfl rfl
theorem k_aside_t4 (hG : zGk G) (p1 p2 : Int32) (h1 : zwi p1 0 7 = 1) (h2 : zwi p2 0 3 = 1) (d : Nat) : zCr (d + 3) 162 [.ref 0, .int 4, .int p1, .int p2] (zHx F G L) (.inr 1) (zHx F G L) := by
  refine zx_in rfl rfl ?_
  refine zx_go 19 rfl ?_
  refine zx_c rfl rfl rfl rfl (w_isVcpu (show zwi 4 0 7 = 1 by decide) _ _) ?_
  refine zx_go 19 rfl ?_
  refine zx_c rfl rfl rfl rfl (w_within' (lo := 0) (hi := 7) h1 _ _) ?_
  refine zx_go 19 rfl ?_
  refine zx_c rfl rfl rfl rfl (w_within' (lo := 0) (hi := 3) h2 _ _) ?_
  refine zx_go 19 rfl ?_
  refine zx_c rfl rfl rfl rfl (w_arg1 _ _) ?_
  refine zx_go 19 rfl ?_
  exact zx_x rfl rfl rfl rfl (w_vt4 hG _) rfl rfl
theorem k_aside_t5 (hG : zGk G) (p1 p2 : Int32) (h1 : zwi p1 0 7 = 1) (h2 : zwi p2 0 3 = 1) (d : Nat) : zCr (d + 3) 162 [.ref 0, .int 5, .int p1, .int p2] (zHx F G L) (.inr 1) (zHx F G L) := by
  refine zx_in rfl rfl ?_
  refine zx_go 19 rfl ?_
  refine zx_c rfl rfl rfl rfl (w_isVcpu (show zwi 5 0 7 = 1 by decide) _ _) ?_
  refine zx_go 19 rfl ?_
  refine zx_c rfl rfl rfl rfl (w_within' (lo := 0) (hi := 7) h1 _ _) ?_
  refine zx_go 19 rfl ?_
  refine zx_c rfl rfl rfl rfl (w_within' (lo := 0) (hi := 3) h2 _ _) ?_
  refine zx_go 19 rfl ?_
  refine zx_c rfl rfl rfl rfl (w_arg1 _ _) ?_
  refine zx_go 19 rfl ?_
  exact zx_x rfl rfl rfl rfl (w_vt5 hG _) rfl rfl
theorem k_aside_t6 (hG : zGk G) (p1 p2 : Int32) (h1 : zwi p1 0 7 = 1) (h2 : zwi p2 0 3 = 1) (d : Nat) : zCr (d + 3) 162 [.ref 0, .int 6, .int p1, .int p2] (zHx F G L) (.inr 1) (zHx F G L) := by
  refine zx_in rfl rfl ?_
  refine zx_go 19 rfl ?_
  refine zx_c rfl rfl rfl rfl (w_isVcpu (show zwi 6 0 7 = 1 by decide) _ _) ?_
  refine zx_go 19 rfl ?_
  refine zx_c rfl rfl rfl rfl (w_within' (lo := 0) (hi := 7) h1 _ _) ?_
  refine zx_go 19 rfl ?_
  refine zx_c rfl rfl rfl rfl (w_within' (lo := 0) (hi := 3) h2 _ _) ?_
  refine zx_go 19 rfl ?_
  refine zx_c rfl rfl rfl rfl (w_arg1 _ _) ?_
  refine zx_go 19 rfl ?_
  exact zx_x rfl rfl rfl rfl (w_vt6 hG _) rfl rfl
theorem k_aside_t7 (hG : zGk G) (p1 p2 : Int32) (h1 : zwi p1 0 7 = 1) (h2 : zwi p2 0 3 = 1) (d : Nat) : zCr (d + 3) 162 [.ref 0, .int 7, .int p1, .int p2] (zHx F G L) (.inr 1) (zHx F G L) := by
  refine zx_in rfl rfl ?_
  refine zx_go 19 rfl ?_
  refine zx_c rfl rfl rfl rfl (w_isVcpu (show zwi 7 0 7 = 1 by decide) _ _) ?_
  refine zx_go 19 rfl ?_
  refine zx_c rfl rfl rfl rfl (w_within' (lo := 0) (hi := 7) h1 _ _) ?_
  refine zx_go 19 rfl ?_
  refine zx_c rfl rfl rfl rfl (w_within' (lo := 0) (hi := 3) h2 _ _) ?_
  refine zx_go 19 rfl ?_
  refine zx_c rfl rfl rfl rfl (w_arg1 _ _) ?_
  refine zx_go 19 rfl ?_
  exact zx_x rfl rfl rfl rfl (w_vt7 hG _) rfl rfl
theorem k_deny_0 (p0 p1 p2 : Int32) (h0 : zwi p0 0 3 = 0) (h : zH) (d : Nat) : zCr (d + 3) 166 [.ref 0, .int p0, .int p1, .int p2] h (.inr 0) h := by
  refine zx_in rfl rfl ?_
  refine zx_go 19 rfl ?_
  refine zx_c rfl rfl rfl rfl (w_isGuest h0 _ _) ?_
  refine zx_go 19 rfl ?_
  exact zx_x rfl rfl rfl rfl (w_arg0 _ _) rfl rfl
theorem k_deny_1 (p0 p1 p2 : Int32) (h0 : zwi p0 0 3 = 1) (h1 : zwi p1 0 127 = 0) (h : zH) (d : Nat) : zCr (d + 3) 166 [.ref 0, .int p0, .int p1, .int p2] h (.inr 0) h := by
  refine zx_in rfl rfl ?_
  refine zx_go 19 rfl ?_
  refine zx_c rfl rfl rfl rfl (w_isGuest h0 _ _) ?_
  refine zx_go 19 rfl ?_
  refine zx_c rfl rfl rfl rfl (w_isMemoryPage h1 _ _) ?_
  refine zx_go 19 rfl ?_
  exact zx_x rfl rfl rfl rfl (w_arg0 _ _) rfl rfl
theorem k_deny_2 (p0 p1 p2 : Int32) (h0 : zwi p0 0 3 = 1) (h1 : zwi p1 0 127 = 1) (h2 : zwi p2 0 7 = 0) (h : zH) (d : Nat) : zCr (d + 3) 166 [.ref 0, .int p0, .int p1, .int p2] h (.inr 0) h := by
  refine zx_in rfl rfl ?_
  refine zx_go 19 rfl ?_
  refine zx_c rfl rfl rfl rfl (w_isGuest h0 _ _) ?_
  refine zx_go 19 rfl ?_
  refine zx_c rfl rfl rfl rfl (w_isMemoryPage h1 _ _) ?_
  refine zx_go 19 rfl ?_
  refine zx_c rfl rfl rfl rfl (w_within' (lo := 0) (hi := 7) h2 _ _) ?_
  refine zx_go 19 rfl ?_
  exact zx_x rfl rfl rfl rfl (w_arg0 _ _) rfl rfl
theorem k_deny_t0 (hG : zGk G) (p1 p2 : Int32) (h1 : zwi p1 0 127 = 1) (h2 : zwi p2 0 7 = 1) (d : Nat) : zCr (d + 3) 166 [.ref 0, .int 0, .int p1, .int p2] (zHx F G L) (.inr 1) (zHx F G L) := by
  refine zx_in rfl rfl ?_
  refine zx_go 19 rfl ?_
  refine zx_c rfl rfl rfl rfl (w_isGuest (show zwi 0 0 3 = 1 by decide) _ _) ?_
  refine zx_go 19 rfl ?_
  refine zx_c rfl rfl rfl rfl (w_isMemoryPage h1 _ _) ?_
  refine zx_go 19 rfl ?_
  refine zx_c rfl rfl rfl rfl (w_within' (lo := 0) (hi := 7) h2 _ _) ?_
  refine zx_go 19 rfl ?_
  refine zx_c rfl rfl rfl rfl (w_arg1 _ _) ?_
  refine zx_go 19 rfl ?_
  exact zx_x rfl rfl rfl rfl (w_gt0 hG _) rfl rfl
theorem k_deny_t1 (hG : zGk G) (p1 p2 : Int32) (h1 : zwi p1 0 127 = 1) (h2 : zwi p2 0 7 = 1) (d : Nat) : zCr (d + 3) 166 [.ref 0, .int 1, .int p1, .int p2] (zHx F G L) (.inr 1) (zHx F G L) := by
  refine zx_in rfl rfl ?_
  refine zx_go 19 rfl ?_
  refine zx_c rfl rfl rfl rfl (w_isGuest (show zwi 1 0 3 = 1 by decide) _ _) ?_
  refine zx_go 19 rfl ?_
  refine zx_c rfl rfl rfl rfl (w_isMemoryPage h1 _ _) ?_
  refine zx_go 19 rfl ?_
  refine zx_c rfl rfl rfl rfl (w_within' (lo := 0) (hi := 7) h2 _ _) ?_
  refine zx_go 19 rfl ?_
  refine zx_c rfl rfl rfl rfl (w_arg1 _ _) ?_
  refine zx_go 19 rfl ?_
  exact zx_x rfl rfl rfl rfl (w_gt1 hG _) rfl rfl
theorem k_deny_t2 (hG : zGk G) (p1 p2 : Int32) (h1 : zwi p1 0 127 = 1) (h2 : zwi p2 0 7 = 1) (d : Nat) : zCr (d + 3) 166 [.ref 0, .int 2, .int p1, .int p2] (zHx F G L) (.inr 1) (zHx F G L) := by
  refine zx_in rfl rfl ?_
  refine zx_go 19 rfl ?_
  refine zx_c rfl rfl rfl rfl (w_isGuest (show zwi 2 0 3 = 1 by decide) _ _) ?_
  refine zx_go 19 rfl ?_
  refine zx_c rfl rfl rfl rfl (w_isMemoryPage h1 _ _) ?_
  refine zx_go 19 rfl ?_
  refine zx_c rfl rfl rfl rfl (w_within' (lo := 0) (hi := 7) h2 _ _) ?_
  refine zx_go 19 rfl ?_
  refine zx_c rfl rfl rfl rfl (w_arg1 _ _) ?_
  refine zx_go 19 rfl ?_
  exact zx_x rfl rfl rfl rfl (w_gt2 hG _) rfl rfl
theorem k_deny_t3 (hG : zGk G) (p1 p2 : Int32) (h1 : zwi p1 0 127 = 1) (h2 : zwi p2 0 7 = 1) (d : Nat) : zCr (d + 3) 166 [.ref 0, .int 3, .int p1, .int p2] (zHx F G L) (.inr 1) (zHx F G L) := by
  refine zx_in rfl rfl ?_
  refine zx_go 19 rfl ?_
  refine zx_c rfl rfl rfl rfl (w_isGuest (show zwi 3 0 3 = 1 by decide) _ _) ?_
  refine zx_go 19 rfl ?_
  refine zx_c rfl rfl rfl rfl (w_isMemoryPage h1 _ _) ?_
  refine zx_go 19 rfl ?_
  refine zx_c rfl rfl rfl rfl (w_within' (lo := 0) (hi := 7) h2 _ _) ?_
  refine zx_go 19 rfl ?_
  refine zx_c rfl rfl rfl rfl (w_arg1 _ _) ?_
  refine zx_go 19 rfl ?_
  exact zx_x rfl rfl rfl rfl (w_gt3 hG _) rfl rfl
theorem k_swap_0 (p0 p1 : Int32) (h0 : zwi p0 0 3 = 0) (h : zH) (d : Nat) : zCr (d + 3) 171 [.ref 0, .int p0, .int p1] h (.inr 0) h := by
  refine zx_in rfl rfl ?_
  refine zx_go 19 rfl ?_
  refine zx_c rfl rfl rfl rfl (w_isGuest h0 _ _) ?_
  refine zx_go 19 rfl ?_
  exact zx_x rfl rfl rfl rfl (w_arg0 _ _) rfl rfl
theorem k_swap_1 (p0 p1 : Int32) (h0 : zwi p0 0 3 = 1) (h1 : zwi p1 0 127 = 0) (h : zH) (d : Nat) : zCr (d + 3) 171 [.ref 0, .int p0, .int p1] h (.inr 0) h := by
  refine zx_in rfl rfl ?_
  refine zx_go 19 rfl ?_
  refine zx_c rfl rfl rfl rfl (w_isGuest h0 _ _) ?_
  refine zx_go 19 rfl ?_
  refine zx_c rfl rfl rfl rfl (w_isMemoryPage h1 _ _) ?_
  refine zx_go 19 rfl ?_
  exact zx_x rfl rfl rfl rfl (w_arg0 _ _) rfl rfl
theorem k_swap_t0 (hG : zGk G) (p1 : Int32) (h1 : zwi p1 0 127 = 1) (d : Nat) : zCr (d + 3) 171 [.ref 0, .int 0, .int p1] (zHx F G L) (.inr 1) (zHx F G L) := by
  refine zx_in rfl rfl ?_
  refine zx_go 19 rfl ?_
  refine zx_c rfl rfl rfl rfl (w_isGuest (show zwi 0 0 3 = 1 by decide) _ _) ?_
  refine zx_go 19 rfl ?_
  refine zx_c rfl rfl rfl rfl (w_isMemoryPage h1 _ _) ?_
  refine zx_go 19 rfl ?_
  refine zx_c rfl rfl rfl rfl (w_arg1 _ _) ?_
  refine zx_go 19 rfl ?_
  exact zx_x rfl rfl rfl rfl (w_gt0 hG _) rfl rfl
theorem k_swap_t1 (hG : zGk G) (p1 : Int32) (h1 : zwi p1 0 127 = 1) (d : Nat) : zCr (d + 3) 171 [.ref 0, .int 1, .int p1] (zHx F G L) (.inr 1) (zHx F G L) := by
  refine zx_in rfl rfl ?_
  refine zx_go 19 rfl ?_
  refine zx_c rfl rfl rfl rfl (w_isGuest (show zwi 1 0 3 = 1 by decide) _ _) ?_
  refine zx_go 19 rfl ?_
  refine zx_c rfl rfl rfl rfl (w_isMemoryPage h1 _ _) ?_
  refine zx_go 19 rfl ?_
  refine zx_c rfl rfl rfl rfl (w_arg1 _ _) ?_
  refine zx_go 19 rfl ?_
  exact zx_x rfl rfl rfl rfl (w_gt1 hG _) rfl rfl
theorem k_swap_t2 (hG : zGk G) (p1 : Int32) (h1 : zwi p1 0 127 = 1) (d : Nat) : zCr (d + 3) 171 [.ref 0, .int 2, .int p1] (zHx F G L) (.inr 1) (zHx F G L) := by
  refine zx_in rfl rfl ?_
  refine zx_go 19 rfl ?_
  refine zx_c rfl rfl rfl rfl (w_isGuest (show zwi 2 0 3 = 1 by decide) _ _) ?_
  refine zx_go 19 rfl ?_
  refine zx_c rfl rfl rfl rfl (w_isMemoryPage h1 _ _) ?_
  refine zx_go 19 rfl ?_
  refine zx_c rfl rfl rfl rfl (w_arg1 _ _) ?_
  refine zx_go 19 rfl ?_
  exact zx_x rfl rfl rfl rfl (w_gt2 hG _) rfl rfl
theorem k_swap_t3 (hG : zGk G) (p1 : Int32) (h1 : zwi p1 0 127 = 1) (d : Nat) : zCr (d + 3) 171 [.ref 0, .int 3, .int p1] (zHx F G L) (.inr 1) (zHx F G L) := by
  refine zx_in rfl rfl ?_
  refine zx_go 19 rfl ?_
  refine zx_c rfl rfl rfl rfl (w_isGuest (show zwi 3 0 3 = 1 by decide) _ _) ?_
  refine zx_go 19 rfl ?_
  refine zx_c rfl rfl rfl rfl (w_isMemoryPage h1 _ _) ?_
  refine zx_go 19 rfl ?_
  refine zx_c rfl rfl rfl rfl (w_arg1 _ _) ?_
  refine zx_go 19 rfl ?_
  exact zx_x rfl rfl rfl rfl (w_gt3 hG _) rfl rfl
theorem k_move_0 (p0 p1 : Int32) (h0 : zwi p0 0 3 = 0) (h : zH) (d : Nat) : zCr (d + 3) 175 [.ref 0, .int p0, .int p1] h (.inr 0) h := by
  refine zx_in rfl rfl ?_
  refine zx_go 19 rfl ?_
  refine zx_c rfl rfl rfl rfl (w_isGuest h0 _ _) ?_
  refine zx_go 19 rfl ?_
  exact zx_x rfl rfl rfl rfl (w_arg0 _ _) rfl rfl
theorem k_move_1 (p0 p1 : Int32) (h0 : zwi p0 0 3 = 1) (h1 : zwi p1 0 127 = 0) (h : zH) (d : Nat) : zCr (d + 3) 175 [.ref 0, .int p0, .int p1] h (.inr 0) h := by
  refine zx_in rfl rfl ?_
  refine zx_go 19 rfl ?_
  refine zx_c rfl rfl rfl rfl (w_isGuest h0 _ _) ?_
  refine zx_go 19 rfl ?_
  refine zx_c rfl rfl rfl rfl (w_isMemoryPage h1 _ _) ?_
  refine zx_go 19 rfl ?_
  exact zx_x rfl rfl rfl rfl (w_arg0 _ _) rfl rfl
theorem k_move_t0 (hG : zGk G) (p1 : Int32) (h1 : zwi p1 0 127 = 1) (d : Nat) : zCr (d + 3) 175 [.ref 0, .int 0, .int p1] (zHx F G L) (.inr 1) (zHx F G L) := by
  refine zx_in rfl rfl ?_
  refine zx_go 19 rfl ?_
  refine zx_c rfl rfl rfl rfl (w_isGuest (show zwi 0 0 3 = 1 by decide) _ _) ?_
  refine zx_go 19 rfl ?_
  refine zx_c rfl rfl rfl rfl (w_isMemoryPage h1 _ _) ?_
  refine zx_go 19 rfl ?_
  refine zx_c rfl rfl rfl rfl (w_arg1 _ _) ?_
  refine zx_go 19 rfl ?_
  exact zx_x rfl rfl rfl rfl (w_gt0 hG _) rfl rfl
theorem k_move_t1 (hG : zGk G) (p1 : Int32) (h1 : zwi p1 0 127 = 1) (d : Nat) : zCr (d + 3) 175 [.ref 0, .int 1, .int p1] (zHx F G L) (.inr 1) (zHx F G L) := by
  refine zx_in rfl rfl ?_
  refine zx_go 19 rfl ?_
  refine zx_c rfl rfl rfl rfl (w_isGuest (show zwi 1 0 3 = 1 by decide) _ _) ?_
  refine zx_go 19 rfl ?_
  refine zx_c rfl rfl rfl rfl (w_isMemoryPage h1 _ _) ?_
  refine zx_go 19 rfl ?_
  refine zx_c rfl rfl rfl rfl (w_arg1 _ _) ?_
  refine zx_go 19 rfl ?_
  exact zx_x rfl rfl rfl rfl (w_gt1 hG _) rfl rfl
theorem k_move_t2 (hG : zGk G) (p1 : Int32) (h1 : zwi p1 0 127 = 1) (d : Nat) : zCr (d + 3) 175 [.ref 0, .int 2, .int p1] (zHx F G L) (.inr 1) (zHx F G L) := by
  refine zx_in rfl rfl ?_
  refine zx_go 19 rfl ?_
  refine zx_c rfl rfl rfl rfl (w_isGuest (show zwi 2 0 3 = 1 by decide) _ _) ?_
  refine zx_go 19 rfl ?_
  refine zx_c rfl rfl rfl rfl (w_isMemoryPage h1 _ _) ?_
  refine zx_go 19 rfl ?_
  refine zx_c rfl rfl rfl rfl (w_arg1 _ _) ?_
  refine zx_go 19 rfl ?_
  exact zx_x rfl rfl rfl rfl (w_gt2 hG _) rfl rfl
theorem k_move_t3 (hG : zGk G) (p1 : Int32) (h1 : zwi p1 0 127 = 1) (d : Nat) : zCr (d + 3) 175 [.ref 0, .int 3, .int p1] (zHx F G L) (.inr 1) (zHx F G L) := by
  refine zx_in rfl rfl ?_
  refine zx_go 19 rfl ?_
  refine zx_c rfl rfl rfl rfl (w_isGuest (show zwi 3 0 3 = 1 by decide) _ _) ?_
  refine zx_go 19 rfl ?_
  refine zx_c rfl rfl rfl rfl (w_isMemoryPage h1 _ _) ?_
  refine zx_go 19 rfl ?_
  refine zx_c rfl rfl rfl rfl (w_arg1 _ _) ?_
  refine zx_go 19 rfl ?_
  exact zx_x rfl rfl rfl rfl (w_gt3 hG _) rfl rfl
theorem k_target_0 (p0 p1 : Int32) (h0 : zwi p0 0 3 = 0) (h : zH) (d : Nat) : zCr (d + 3) 178 [.ref 0, .int p0, .int p1] h (.inr 0) h := by
  refine zx_in rfl rfl ?_
  refine zx_go 19 rfl ?_
  refine zx_c rfl rfl rfl rfl (w_isGuest h0 _ _) ?_
  refine zx_go 19 rfl ?_
  exact zx_x rfl rfl rfl rfl (w_arg0 _ _) rfl rfl
theorem k_target_1 (p0 p1 : Int32) (h0 : zwi p0 0 3 = 1) (h1 : zwi p1 0 128 = 0) (h : zH) (d : Nat) : zCr (d + 3) 178 [.ref 0, .int p0, .int p1] h (.inr 0) h := by
  refine zx_in rfl rfl ?_
  refine zx_go 19 rfl ?_
  refine zx_c rfl rfl rfl rfl (w_isGuest h0 _ _) ?_
  refine zx_go 19 rfl ?_
  refine zx_c rfl rfl rfl rfl (w_within' (lo := 0) (hi := 128) h1 _ _) ?_
  refine zx_go 19 rfl ?_
  exact zx_x rfl rfl rfl rfl (w_arg0 _ _) rfl rfl
theorem k_target_t0 (hG : zGk G) (p1 : Int32) (h1 : zwi p1 0 128 = 1) (d : Nat) : zCr (d + 3) 178 [.ref 0, .int 0, .int p1] (zHx F G L) (.inr 1) (zHx F G L) := by
  refine zx_in rfl rfl ?_
  refine zx_go 19 rfl ?_
  refine zx_c rfl rfl rfl rfl (w_isGuest (show zwi 0 0 3 = 1 by decide) _ _) ?_
  refine zx_go 19 rfl ?_
  refine zx_c rfl rfl rfl rfl (w_within' (lo := 0) (hi := 128) h1 _ _) ?_
  refine zx_go 19 rfl ?_
  refine zx_c rfl rfl rfl rfl (w_arg1 _ _) ?_
  refine zx_go 19 rfl ?_
  exact zx_x rfl rfl rfl rfl (w_gt0 hG _) rfl rfl
theorem k_target_t1 (hG : zGk G) (p1 : Int32) (h1 : zwi p1 0 128 = 1) (d : Nat) : zCr (d + 3) 178 [.ref 0, .int 1, .int p1] (zHx F G L) (.inr 1) (zHx F G L) := by
  refine zx_in rfl rfl ?_
  refine zx_go 19 rfl ?_
  refine zx_c rfl rfl rfl rfl (w_isGuest (show zwi 1 0 3 = 1 by decide) _ _) ?_
  refine zx_go 19 rfl ?_
  refine zx_c rfl rfl rfl rfl (w_within' (lo := 0) (hi := 128) h1 _ _) ?_
  refine zx_go 19 rfl ?_
  refine zx_c rfl rfl rfl rfl (w_arg1 _ _) ?_
  refine zx_go 19 rfl ?_
  exact zx_x rfl rfl rfl rfl (w_gt1 hG _) rfl rfl
theorem k_target_t2 (hG : zGk G) (p1 : Int32) (h1 : zwi p1 0 128 = 1) (d : Nat) : zCr (d + 3) 178 [.ref 0, .int 2, .int p1] (zHx F G L) (.inr 1) (zHx F G L) := by
  refine zx_in rfl rfl ?_
  refine zx_go 19 rfl ?_
  refine zx_c rfl rfl rfl rfl (w_isGuest (show zwi 2 0 3 = 1 by decide) _ _) ?_
  refine zx_go 19 rfl ?_
  refine zx_c rfl rfl rfl rfl (w_within' (lo := 0) (hi := 128) h1 _ _) ?_
  refine zx_go 19 rfl ?_
  refine zx_c rfl rfl rfl rfl (w_arg1 _ _) ?_
  refine zx_go 19 rfl ?_
  exact zx_x rfl rfl rfl rfl (w_gt2 hG _) rfl rfl
theorem k_target_t3 (hG : zGk G) (p1 : Int32) (h1 : zwi p1 0 128 = 1) (d : Nat) : zCr (d + 3) 178 [.ref 0, .int 3, .int p1] (zHx F G L) (.inr 1) (zHx F G L) := by
  refine zx_in rfl rfl ?_
  refine zx_go 19 rfl ?_
  refine zx_c rfl rfl rfl rfl (w_isGuest (show zwi 3 0 3 = 1 by decide) _ _) ?_
  refine zx_go 19 rfl ?_
  refine zx_c rfl rfl rfl rfl (w_within' (lo := 0) (hi := 128) h1 _ _) ?_
  refine zx_go 19 rfl ?_
  refine zx_c rfl rfl rfl rfl (w_arg1 _ _) ?_
  refine zx_go 19 rfl ?_
  exact zx_x rfl rfl rfl rfl (w_gt3 hG _) rfl rfl
theorem k_harvest_0 (p0 : Int32) (h0 : zwi p0 0 3 = 0) (h : zH) (d : Nat) : zCr (d + 3) 181 [.ref 0, .int p0] h (.inr 0) h := by
  refine zx_in rfl rfl ?_
  refine zx_go 19 rfl ?_
  refine zx_c rfl rfl rfl rfl (w_isGuest h0 _ _) ?_
  refine zx_go 19 rfl ?_
  exact zx_x rfl rfl rfl rfl (w_arg0 _ _) rfl rfl
theorem k_harvest_t0 (hG : zGk G)  (d : Nat) : zCr (d + 3) 181 [.ref 0, .int 0] (zHx F G L) (.inr 1) (zHx F G L) := by
  refine zx_in rfl rfl ?_
  refine zx_go 19 rfl ?_
  refine zx_c rfl rfl rfl rfl (w_isGuest (show zwi 0 0 3 = 1 by decide) _ _) ?_
  refine zx_go 19 rfl ?_
  refine zx_c rfl rfl rfl rfl (w_arg1 _ _) ?_
  refine zx_go 19 rfl ?_
  exact zx_x rfl rfl rfl rfl (w_gt0 hG _) rfl rfl
theorem k_harvest_t1 (hG : zGk G)  (d : Nat) : zCr (d + 3) 181 [.ref 0, .int 1] (zHx F G L) (.inr 1) (zHx F G L) := by
  refine zx_in rfl rfl ?_
  refine zx_go 19 rfl ?_
  refine zx_c rfl rfl rfl rfl (w_isGuest (show zwi 1 0 3 = 1 by decide) _ _) ?_
  refine zx_go 19 rfl ?_
  refine zx_c rfl rfl rfl rfl (w_arg1 _ _) ?_
  refine zx_go 19 rfl ?_
  exact zx_x rfl rfl rfl rfl (w_gt1 hG _) rfl rfl
theorem k_harvest_t2 (hG : zGk G)  (d : Nat) : zCr (d + 3) 181 [.ref 0, .int 2] (zHx F G L) (.inr 1) (zHx F G L) := by
  refine zx_in rfl rfl ?_
  refine zx_go 19 rfl ?_
  refine zx_c rfl rfl rfl rfl (w_isGuest (show zwi 2 0 3 = 1 by decide) _ _) ?_
  refine zx_go 19 rfl ?_
  refine zx_c rfl rfl rfl rfl (w_arg1 _ _) ?_
  refine zx_go 19 rfl ?_
  exact zx_x rfl rfl rfl rfl (w_gt2 hG _) rfl rfl
theorem k_harvest_t3 (hG : zGk G)  (d : Nat) : zCr (d + 3) 181 [.ref 0, .int 3] (zHx F G L) (.inr 1) (zHx F G L) := by
  refine zx_in rfl rfl ?_
  refine zx_go 19 rfl ?_
  refine zx_c rfl rfl rfl rfl (w_isGuest (show zwi 3 0 3 = 1 by decide) _ _) ?_
  refine zx_go 19 rfl ?_
  refine zx_c rfl rfl rfl rfl (w_arg1 _ _) ?_
  refine zx_go 19 rfl ?_
  exact zx_x rfl rfl rfl rfl (w_gt3 hG _) rfl rfl
theorem k_entry_0 (p0 p1 : Int32) (h0 : zwi p0 0 3 = 0) (h : zH) (d : Nat) : zCr (d + 3) 186 [.ref 0, .int p0, .int p1] h (.inr 0) h := by
  refine zx_in rfl rfl ?_
  refine zx_go 19 rfl ?_
  refine zx_c rfl rfl rfl rfl (w_isGuest h0 _ _) ?_
  refine zx_go 19 rfl ?_
  exact zx_x rfl rfl rfl rfl (w_arg0 _ _) rfl rfl
theorem k_entry_1 (p0 p1 : Int32) (h0 : zwi p0 0 3 = 1) (h1 : zwi p1 0 127 = 0) (h : zH) (d : Nat) : zCr (d + 3) 186 [.ref 0, .int p0, .int p1] h (.inr 0) h := by
  refine zx_in rfl rfl ?_
  refine zx_go 19 rfl ?_
  refine zx_c rfl rfl rfl rfl (w_isGuest h0 _ _) ?_
  refine zx_go 19 rfl ?_
  refine zx_c rfl rfl rfl rfl (w_isMemoryPage h1 _ _) ?_
  refine zx_go 19 rfl ?_
  exact zx_x rfl rfl rfl rfl (w_arg0 _ _) rfl rfl
theorem k_entry_t0 (hG : zGk G) (p1 : Int32) (h1 : zwi p1 0 127 = 1) (d : Nat) : zCr (d + 3) 186 [.ref 0, .int 0, .int p1] (zHx F G L) (.inr 1) (zHx F G L) := by
  refine zx_in rfl rfl ?_
  refine zx_go 19 rfl ?_
  refine zx_c rfl rfl rfl rfl (w_isGuest (show zwi 0 0 3 = 1 by decide) _ _) ?_
  refine zx_go 19 rfl ?_
  refine zx_c rfl rfl rfl rfl (w_isMemoryPage h1 _ _) ?_
  refine zx_go 19 rfl ?_
  refine zx_c rfl rfl rfl rfl (w_arg1 _ _) ?_
  refine zx_go 19 rfl ?_
  exact zx_x rfl rfl rfl rfl (w_gt0 hG _) rfl rfl
theorem k_entry_t1 (hG : zGk G) (p1 : Int32) (h1 : zwi p1 0 127 = 1) (d : Nat) : zCr (d + 3) 186 [.ref 0, .int 1, .int p1] (zHx F G L) (.inr 1) (zHx F G L) := by
  refine zx_in rfl rfl ?_
  refine zx_go 19 rfl ?_
  refine zx_c rfl rfl rfl rfl (w_isGuest (show zwi 1 0 3 = 1 by decide) _ _) ?_
  refine zx_go 19 rfl ?_
  refine zx_c rfl rfl rfl rfl (w_isMemoryPage h1 _ _) ?_
  refine zx_go 19 rfl ?_
  refine zx_c rfl rfl rfl rfl (w_arg1 _ _) ?_
  refine zx_go 19 rfl ?_
  exact zx_x rfl rfl rfl rfl (w_gt1 hG _) rfl rfl
theorem k_entry_t2 (hG : zGk G) (p1 : Int32) (h1 : zwi p1 0 127 = 1) (d : Nat) : zCr (d + 3) 186 [.ref 0, .int 2, .int p1] (zHx F G L) (.inr 1) (zHx F G L) := by
  refine zx_in rfl rfl ?_
  refine zx_go 19 rfl ?_
  refine zx_c rfl rfl rfl rfl (w_isGuest (show zwi 2 0 3 = 1 by decide) _ _) ?_
  refine zx_go 19 rfl ?_
  refine zx_c rfl rfl rfl rfl (w_isMemoryPage h1 _ _) ?_
  refine zx_go 19 rfl ?_
  refine zx_c rfl rfl rfl rfl (w_arg1 _ _) ?_
  refine zx_go 19 rfl ?_
  exact zx_x rfl rfl rfl rfl (w_gt2 hG _) rfl rfl
theorem k_entry_t3 (hG : zGk G) (p1 : Int32) (h1 : zwi p1 0 127 = 1) (d : Nat) : zCr (d + 3) 186 [.ref 0, .int 3, .int p1] (zHx F G L) (.inr 1) (zHx F G L) := by
  refine zx_in rfl rfl ?_
  refine zx_go 19 rfl ?_
  refine zx_c rfl rfl rfl rfl (w_isGuest (show zwi 3 0 3 = 1 by decide) _ _) ?_
  refine zx_go 19 rfl ?_
  refine zx_c rfl rfl rfl rfl (w_isMemoryPage h1 _ _) ?_
  refine zx_go 19 rfl ?_
  refine zx_c rfl rfl rfl rfl (w_arg1 _ _) ?_
  refine zx_go 19 rfl ?_
  exact zx_x rfl rfl rfl rfl (w_gt3 hG _) rfl rfl
theorem k_peek_0 (p0 p1 : Int32) (h0 : zwi p0 0 3 = 0) (h : zH) (d : Nat) : zCr (d + 3) 195 [.ref 0, .int p0, .int p1] h (.inr 0) h := by
  refine zx_in rfl rfl ?_
  refine zx_go 19 rfl ?_
  refine zx_c rfl rfl rfl rfl (w_isGuest h0 _ _) ?_
  refine zx_go 19 rfl ?_
  exact zx_x rfl rfl rfl rfl (w_arg0 _ _) rfl rfl
theorem k_peek_1 (p0 p1 : Int32) (h0 : zwi p0 0 3 = 1) (h1 : zwi p1 0 2047 = 0) (h : zH) (d : Nat) : zCr (d + 3) 195 [.ref 0, .int p0, .int p1] h (.inr 0) h := by
  refine zx_in rfl rfl ?_
  refine zx_go 19 rfl ?_
  refine zx_c rfl rfl rfl rfl (w_isGuest h0 _ _) ?_
  refine zx_go 19 rfl ?_
  refine zx_c rfl rfl rfl rfl (w_isHostAddress h1 _ _) ?_
  refine zx_go 19 rfl ?_
  exact zx_x rfl rfl rfl rfl (w_arg0 _ _) rfl rfl
theorem k_peek_t0 (hG : zGk G) (p1 : Int32) (h1 : zwi p1 0 2047 = 1) (d : Nat) : zCr (d + 3) 195 [.ref 0, .int 0, .int p1] (zHx F G L) (.inr 1) (zHx F G L) := by
  refine zx_in rfl rfl ?_
  refine zx_go 19 rfl ?_
  refine zx_c rfl rfl rfl rfl (w_isGuest (show zwi 0 0 3 = 1 by decide) _ _) ?_
  refine zx_go 19 rfl ?_
  refine zx_c rfl rfl rfl rfl (w_isHostAddress h1 _ _) ?_
  refine zx_go 19 rfl ?_
  refine zx_c rfl rfl rfl rfl (w_arg1 _ _) ?_
  refine zx_go 19 rfl ?_
  exact zx_x rfl rfl rfl rfl (w_gt0 hG _) rfl rfl
theorem k_peek_t1 (hG : zGk G) (p1 : Int32) (h1 : zwi p1 0 2047 = 1) (d : Nat) : zCr (d + 3) 195 [.ref 0, .int 1, .int p1] (zHx F G L) (.inr 1) (zHx F G L) := by
  refine zx_in rfl rfl ?_
  refine zx_go 19 rfl ?_
  refine zx_c rfl rfl rfl rfl (w_isGuest (show zwi 1 0 3 = 1 by decide) _ _) ?_
  refine zx_go 19 rfl ?_
  refine zx_c rfl rfl rfl rfl (w_isHostAddress h1 _ _) ?_
  refine zx_go 19 rfl ?_
  refine zx_c rfl rfl rfl rfl (w_arg1 _ _) ?_
  refine zx_go 19 rfl ?_
  exact zx_x rfl rfl rfl rfl (w_gt1 hG _) rfl rfl
theorem k_peek_t2 (hG : zGk G) (p1 : Int32) (h1 : zwi p1 0 2047 = 1) (d : Nat) : zCr (d + 3) 195 [.ref 0, .int 2, .int p1] (zHx F G L) (.inr 1) (zHx F G L) := by
  refine zx_in rfl rfl ?_
  refine zx_go 19 rfl ?_
  refine zx_c rfl rfl rfl rfl (w_isGuest (show zwi 2 0 3 = 1 by decide) _ _) ?_
  refine zx_go 19 rfl ?_
  refine zx_c rfl rfl rfl rfl (w_isHostAddress h1 _ _) ?_
  refine zx_go 19 rfl ?_
  refine zx_c rfl rfl rfl rfl (w_arg1 _ _) ?_
  refine zx_go 19 rfl ?_
  exact zx_x rfl rfl rfl rfl (w_gt2 hG _) rfl rfl
theorem k_peek_t3 (hG : zGk G) (p1 : Int32) (h1 : zwi p1 0 2047 = 1) (d : Nat) : zCr (d + 3) 195 [.ref 0, .int 3, .int p1] (zHx F G L) (.inr 1) (zHx F G L) := by
  refine zx_in rfl rfl ?_
  refine zx_go 19 rfl ?_
  refine zx_c rfl rfl rfl rfl (w_isGuest (show zwi 3 0 3 = 1 by decide) _ _) ?_
  refine zx_go 19 rfl ?_
  refine zx_c rfl rfl rfl rfl (w_isHostAddress h1 _ _) ?_
  refine zx_go 19 rfl ?_
  refine zx_c rfl rfl rfl rfl (w_arg1 _ _) ?_
  refine zx_go 19 rfl ?_
  exact zx_x rfl rfl rfl rfl (w_gt3 hG _) rfl rfl
theorem k_count_0 (p0 p1 : Int32) (h0 : zwi p0 0 3 = 0) (h : zH) (d : Nat) : zCr (d + 3) 206 [.ref 0, .int p0, .int p1] h (.inr 0) h := by
  refine zx_in rfl rfl ?_
  refine zx_go 19 rfl ?_
  refine zx_c rfl rfl rfl rfl (w_isGuest h0 _ _) ?_
  refine zx_go 19 rfl ?_
  exact zx_x rfl rfl rfl rfl (w_arg0 _ _) rfl rfl
theorem k_count_1 (p0 p1 : Int32) (h0 : zwi p0 0 3 = 1) (h1 : zwi p1 0 11 = 0) (h : zH) (d : Nat) : zCr (d + 3) 206 [.ref 0, .int p0, .int p1] h (.inr 0) h := by
  refine zx_in rfl rfl ?_
  refine zx_go 19 rfl ?_
  refine zx_c rfl rfl rfl rfl (w_isGuest h0 _ _) ?_
  refine zx_go 19 rfl ?_
  refine zx_c rfl rfl rfl rfl (w_within' (lo := 0) (hi := 11) h1 _ _) ?_
  refine zx_go 19 rfl ?_
  exact zx_x rfl rfl rfl rfl (w_arg0 _ _) rfl rfl
theorem k_count_t0 (hG : zGk G) (p1 : Int32) (h1 : zwi p1 0 11 = 1) (d : Nat) : zCr (d + 3) 206 [.ref 0, .int 0, .int p1] (zHx F G L) (.inr 1) (zHx F G L) := by
  refine zx_in rfl rfl ?_
  refine zx_go 19 rfl ?_
  refine zx_c rfl rfl rfl rfl (w_isGuest (show zwi 0 0 3 = 1 by decide) _ _) ?_
  refine zx_go 19 rfl ?_
  refine zx_c rfl rfl rfl rfl (w_within' (lo := 0) (hi := 11) h1 _ _) ?_
  refine zx_go 19 rfl ?_
  refine zx_c rfl rfl rfl rfl (w_arg1 _ _) ?_
  refine zx_go 19 rfl ?_
  exact zx_x rfl rfl rfl rfl (w_gt0 hG _) rfl rfl
theorem k_count_t1 (hG : zGk G) (p1 : Int32) (h1 : zwi p1 0 11 = 1) (d : Nat) : zCr (d + 3) 206 [.ref 0, .int 1, .int p1] (zHx F G L) (.inr 1) (zHx F G L) := by
  refine zx_in rfl rfl ?_
  refine zx_go 19 rfl ?_
  refine zx_c rfl rfl rfl rfl (w_isGuest (show zwi 1 0 3 = 1 by decide) _ _) ?_
  refine zx_go 19 rfl ?_
  refine zx_c rfl rfl rfl rfl (w_within' (lo := 0) (hi := 11) h1 _ _) ?_
  refine zx_go 19 rfl ?_
  refine zx_c rfl rfl rfl rfl (w_arg1 _ _) ?_
  refine zx_go 19 rfl ?_
  exact zx_x rfl rfl rfl rfl (w_gt1 hG _) rfl rfl
theorem k_count_t2 (hG : zGk G) (p1 : Int32) (h1 : zwi p1 0 11 = 1) (d : Nat) : zCr (d + 3) 206 [.ref 0, .int 2, .int p1] (zHx F G L) (.inr 1) (zHx F G L) := by
  refine zx_in rfl rfl ?_
  refine zx_go 19 rfl ?_
  refine zx_c rfl rfl rfl rfl (w_isGuest (show zwi 2 0 3 = 1 by decide) _ _) ?_
  refine zx_go 19 rfl ?_
  refine zx_c rfl rfl rfl rfl (w_within' (lo := 0) (hi := 11) h1 _ _) ?_
  refine zx_go 19 rfl ?_
  refine zx_c rfl rfl rfl rfl (w_arg1 _ _) ?_
  refine zx_go 19 rfl ?_
  exact zx_x rfl rfl rfl rfl (w_gt2 hG _) rfl rfl
theorem k_count_t3 (hG : zGk G) (p1 : Int32) (h1 : zwi p1 0 11 = 1) (d : Nat) : zCr (d + 3) 206 [.ref 0, .int 3, .int p1] (zHx F G L) (.inr 1) (zHx F G L) := by
  refine zx_in rfl rfl ?_
  refine zx_go 19 rfl ?_
  refine zx_c rfl rfl rfl rfl (w_isGuest (show zwi 3 0 3 = 1 by decide) _ _) ?_
  refine zx_go 19 rfl ?_
  refine zx_c rfl rfl rfl rfl (w_within' (lo := 0) (hi := 11) h1 _ _) ?_
  refine zx_go 19 rfl ?_
  refine zx_c rfl rfl rfl rfl (w_arg1 _ _) ?_
  refine zx_go 19 rfl ?_
  exact zx_x rfl rfl rfl rfl (w_gt3 hG _) rfl rfl
theorem k_printed_0 (p0 p1 : Int32) (h0 : zwi p0 0 3 = 0) (h : zH) (d : Nat) : zCr (d + 3) 212 [.ref 0, .int p0, .int p1] h (.inr 0) h := by
  refine zx_in rfl rfl ?_
  refine zx_go 19 rfl ?_
  refine zx_c rfl rfl rfl rfl (w_isGuest h0 _ _) ?_
  refine zx_go 19 rfl ?_
  exact zx_x rfl rfl rfl rfl (w_arg0 _ _) rfl rfl
theorem k_printed_t0 (hG : zGk G) (p1 : Int32)  (d : Nat) : zCr (d + 3) 212 [.ref 0, .int 0, .int p1] (zHx F G L) (.inr 1) (zHx F G L) := by
  refine zx_in rfl rfl ?_
  refine zx_go 19 rfl ?_
  refine zx_c rfl rfl rfl rfl (w_isGuest (show zwi 0 0 3 = 1 by decide) _ _) ?_
  refine zx_go 19 rfl ?_
  refine zx_c rfl rfl rfl rfl (w_arg1 _ _) ?_
  refine zx_go 19 rfl ?_
  exact zx_x rfl rfl rfl rfl (w_gt0 hG _) rfl rfl
theorem k_printed_t1 (hG : zGk G) (p1 : Int32)  (d : Nat) : zCr (d + 3) 212 [.ref 0, .int 1, .int p1] (zHx F G L) (.inr 1) (zHx F G L) := by
  refine zx_in rfl rfl ?_
  refine zx_go 19 rfl ?_
  refine zx_c rfl rfl rfl rfl (w_isGuest (show zwi 1 0 3 = 1 by decide) _ _) ?_
  refine zx_go 19 rfl ?_
  refine zx_c rfl rfl rfl rfl (w_arg1 _ _) ?_
  refine zx_go 19 rfl ?_
  exact zx_x rfl rfl rfl rfl (w_gt1 hG _) rfl rfl
theorem k_printed_t2 (hG : zGk G) (p1 : Int32)  (d : Nat) : zCr (d + 3) 212 [.ref 0, .int 2, .int p1] (zHx F G L) (.inr 1) (zHx F G L) := by
  refine zx_in rfl rfl ?_
  refine zx_go 19 rfl ?_
  refine zx_c rfl rfl rfl rfl (w_isGuest (show zwi 2 0 3 = 1 by decide) _ _) ?_
  refine zx_go 19 rfl ?_
  refine zx_c rfl rfl rfl rfl (w_arg1 _ _) ?_
  refine zx_go 19 rfl ?_
  exact zx_x rfl rfl rfl rfl (w_gt2 hG _) rfl rfl
theorem k_printed_t3 (hG : zGk G) (p1 : Int32)  (d : Nat) : zCr (d + 3) 212 [.ref 0, .int 3, .int p1] (zHx F G L) (.inr 1) (zHx F G L) := by
  refine zx_in rfl rfl ?_
  refine zx_go 19 rfl ?_
  refine zx_c rfl rfl rfl rfl (w_isGuest (show zwi 3 0 3 = 1 by decide) _ _) ?_
  refine zx_go 19 rfl ?_
  refine zx_c rfl rfl rfl rfl (w_arg1 _ _) ?_
  refine zx_go 19 rfl ?_
  exact zx_x rfl rfl rfl rfl (w_gt3 hG _) rfl rfl
end ZFP
end
section
/-! THE MODEL ON THE FRESH OBJECT -/
def zmf : List Value := [.int 0, .ref 114, .ref 115, .ref 116, .ref 117, .ref 118, .ref 119, .int 0, .ref 120, .ref 121, .ref 122, .ref 123, .ref 124, .ref 125, .ref 126, .ref 127, .ref 128, .ref 129, .ref 130, .ref 131, .ref 132, .ref 133, .ref 134, .ref 135, .ref 136, .ref 137, .ref 138, .ref 139, .ref 140, .ref 141, .ref 142, .ref 143, .ref 144, .ref 145, .ref 146, .int 0, .ref 147, .int 0, .int 0, .int 0, .int 0, .int 0]
/-- .. with its field thrown set -/
def zHt (F : Nat → Nat → Int32) (G : Nat → Nat → Option Nat) (L : Nat → Int64) (k : Int32) : zH := (zHx F G L).set 113 (.inr (11, zmf.set 0 (.int k)))
/-- nobody is there -/
def zFk (F : Nat → Nat → Int32) : Prop := F 120 0 = 0 ∧ F 120 1 = 0 ∧ F 120 2 = 0 ∧ F 120 3 = 0 ∧ F 138 0 = 0 ∧ F 138 1 = 0 ∧ F 138 2 = 0 ∧ F 138 3 = 0 ∧ F 138 4 = 0 ∧ F 138 5 = 0 ∧ F 138 6 = 0 ∧ F 138 7 = 0
section ZMO
variable {F : Nat → Nat → Int32} {G : Nat → Nat → Option Nat} {L : Nat → Int64}
theorem m_rf0 (d : Nat) : zCr (d + 1) 21 [.ref 113, .int 0] (zHx F G L) (.inl (some (.int 0))) (zHt F G L 0) := by
  refine zx_in rfl rfl ?_
  refine zx_go 19 rfl ?_
  exact zx_r rfl rfl
theorem m_rf1 (d : Nat) : zCr (d + 1) 21 [.ref 113, .int 1] (zHx F G L) (.inl (some (.int 1))) (zHt F G L 1) := by
  refine zx_in rfl rfl ?_
  refine zx_go 19 rfl ?_
  exact zx_r rfl rfl
theorem m_rf2 (d : Nat) : zCr (d + 1) 21 [.ref 113, .int 2] (zHx F G L) (.inl (some (.int 1))) (zHt F G L 2) := by
  refine zx_in rfl rfl ?_
  refine zx_go 19 rfl ?_
  exact zx_r rfl rfl
theorem m_destroy_0 (p0 : Int32) (h0 : zwi p0 0 3 = 0) (d : Nat) : zCr (d + 2) 44 [.ref 113, .int p0] (zHx F G L) (.inl (some (.int 0))) (zHt F G L 1) := by
  refine zx_in rfl rfl ?_
  refine zx_gp 19 rfl ?_
  refine zx_c rfl rfl rfl rfl (w_isIn' (lo := 0) (hi := 3) h0 _ _) ?_
  refine zx_gp 19 rfl ?_
  refine zx_c rfl rfl rfl rfl (m_rf1 _) ?_
  refine zx_gp 19 rfl ?_
  exact zx_r rfl rfl
theorem m_destroy_t0 (hF : zFk F)  (d : Nat) : zCr (d + 2) 44 [.ref 113, .int 0] (zHx F G L) (.inl (some (.int 0))) (zHt F G L 2) := by
  refine zx_in rfl rfl ?_
  refine zx_gp 19 rfl ?_
  refine zx_c rfl rfl rfl rfl (w_isIn' (lo := 0) (hi := 3) (show zwi 0 0 3 = 1 by decide) _ _) ?_
  refine zx_gp 19 rfl ?_
  refine zx_bal rfl rfl rfl rfl hF.1 ?_
  refine zx_gp 19 rfl ?_
  refine zx_c rfl rfl rfl rfl (m_rf2 _) ?_
  refine zx_gp 19 rfl ?_
  exact zx_r rfl rfl
theorem m_destroy_t1 (hF : zFk F)  (d : Nat) : zCr (d + 2) 44 [.ref 113, .int 1] (zHx F G L) (.inl (some (.int 0))) (zHt F G L 2) := by
  refine zx_in rfl rfl ?_
  refine zx_gp 19 rfl ?_
  refine zx_c rfl rfl rfl rfl (w_isIn' (lo := 0) (hi := 3) (show zwi 1 0 3 = 1 by decide) _ _) ?_
  refine zx_gp 19 rfl ?_
  refine zx_bal rfl rfl rfl rfl hF.2.1 ?_
  refine zx_gp 19 rfl ?_
  refine zx_c rfl rfl rfl rfl (m_rf2 _) ?_
  refine zx_gp 19 rfl ?_
  exact zx_r rfl rfl
theorem m_destroy_t2 (hF : zFk F)  (d : Nat) : zCr (d + 2) 44 [.ref 113, .int 2] (zHx F G L) (.inl (some (.int 0))) (zHt F G L 2) := by
  refine zx_in rfl rfl ?_
  refine zx_gp 19 rfl ?_
  refine zx_c rfl rfl rfl rfl (w_isIn' (lo := 0) (hi := 3) (show zwi 2 0 3 = 1 by decide) _ _) ?_
  refine zx_gp 19 rfl ?_
  refine zx_bal rfl rfl rfl rfl hF.2.2.1 ?_
  refine zx_gp 19 rfl ?_
  refine zx_c rfl rfl rfl rfl (m_rf2 _) ?_
  refine zx_gp 19 rfl ?_
  exact zx_r rfl rfl
theorem m_destroy_t3 (hF : zFk F)  (d : Nat) : zCr (d + 2) 44 [.ref 113, .int 3] (zHx F G L) (.inl (some (.int 0))) (zHt F G L 2) := by
  refine zx_in rfl rfl ?_
  refine zx_gp 19 rfl ?_
  refine zx_c rfl rfl rfl rfl (w_isIn' (lo := 0) (hi := 3) (show zwi 3 0 3 = 1 by decide) _ _) ?_
  refine zx_gp 19 rfl ?_
  refine zx_bal rfl rfl rfl rfl hF.2.2.2.1 ?_
  refine zx_gp 19 rfl ?_
  refine zx_c rfl rfl rfl rfl (m_rf2 _) ?_
  refine zx_gp 19 rfl ?_
  exact zx_r rfl rfl
theorem m_vcpu_0 (p0 : Int32) (h0 : zwi p0 0 3 = 0) (d : Nat) : zCr (d + 2) 51 [.ref 113, .int p0] (zHx F G L) (.inl (some (.int 0))) (zHt F G L 1) := by
  refine zx_in rfl rfl ?_
  refine zx_gp 19 rfl ?_
  refine zx_c rfl rfl rfl rfl (w_isIn' (lo := 0) (hi := 3) h0 _ _) ?_
  refine zx_gp 19 rfl ?_
  refine zx_c rfl rfl rfl rfl (m_rf1 _) ?_
  refine zx_gp 19 rfl ?_
  exact zx_r rfl rfl
theorem m_vcpu_t0 (hF : zFk F)  (d : Nat) : zCr (d + 2) 51 [.ref 113, .int 0] (zHx F G L) (.inl (some (.int 0))) (zHt F G L 2) := by
  refine zx_in rfl rfl ?_
  refine zx_gp 19 rfl ?_
  refine zx_c rfl rfl rfl rfl (w_isIn' (lo := 0) (hi := 3) (show zwi 0 0 3 = 1 by decide) _ _) ?_
  refine zx_gp 19 rfl ?_
  refine zx_bal rfl rfl rfl rfl hF.1 ?_
  refine zx_gp 19 rfl ?_
  refine zx_c rfl rfl rfl rfl (m_rf2 _) ?_
  refine zx_gp 19 rfl ?_
  exact zx_r rfl rfl
theorem m_vcpu_t1 (hF : zFk F)  (d : Nat) : zCr (d + 2) 51 [.ref 113, .int 1] (zHx F G L) (.inl (some (.int 0))) (zHt F G L 2) := by
  refine zx_in rfl rfl ?_
  refine zx_gp 19 rfl ?_
  refine zx_c rfl rfl rfl rfl (w_isIn' (lo := 0) (hi := 3) (show zwi 1 0 3 = 1 by decide) _ _) ?_
  refine zx_gp 19 rfl ?_
  refine zx_bal rfl rfl rfl rfl hF.2.1 ?_
  refine zx_gp 19 rfl ?_
  refine zx_c rfl rfl rfl rfl (m_rf2 _) ?_
  refine zx_gp 19 rfl ?_
  exact zx_r rfl rfl
theorem m_vcpu_t2 (hF : zFk F)  (d : Nat) : zCr (d + 2) 51 [.ref 113, .int 2] (zHx F G L) (.inl (some (.int 0))) (zHt F G L 2) := by
  refine zx_in rfl rfl ?_
  refine zx_gp 19 rfl ?_
  refine zx_c rfl rfl rfl rfl (w_isIn' (lo := 0) (hi := 3) (show zwi 2 0 3 = 1 by decide) _ _) ?_
  refine zx_gp 19 rfl ?_
  refine zx_bal rfl rfl rfl rfl hF.2.2.1 ?_
  refine zx_gp 19 rfl ?_
  refine zx_c rfl rfl rfl rfl (m_rf2 _) ?_
  refine zx_gp 19 rfl ?_
  exact zx_r rfl rfl
theorem m_vcpu_t3 (hF : zFk F)  (d : Nat) : zCr (d + 2) 51 [.ref 113, .int 3] (zHx F G L) (.inl (some (.int 0))) (zHt F G L 2) := by
  refine zx_in rfl rfl ?_
  refine zx_gp 19 rfl ?_
  refine zx_c rfl rfl rfl rfl (w_isIn' (lo := 0) (hi := 3) (show zwi 3 0 3 = 1 by decide) _ _) ?_
  refine zx_gp 19 rfl ?_
  refine zx_bal rfl rfl rfl rfl hF.2.2.2.1 ?_
  refine zx_gp 19 rfl ?_
  refine zx_c rfl rfl rfl rfl (m_rf2 _) ?_
  refine zx_gp 19 rfl ?_
  exact zx_r rfl rfl
theorem m_get_0 (p0 p1 : Int32) (h0 : zwi p0 0 7 = 0) (d : Nat) : zCr (d + 2) 60 [.ref 113, .int p0, .int p1] (zHx F G L) (.inl (some (.int 0))) (zHt F G L 1) := by
  refine zx_in rfl rfl ?_
  refine zx_gp 19 rfl ?_
  refine zx_c rfl rfl rfl rfl (w_isIn' (lo := 0) (hi := 7) h0 _ _) ?_
  refine zx_gp 19 rfl ?_
  refine zx_c rfl rfl rfl rfl (m_rf1 _) ?_
  refine zx_gp 19 rfl ?_
  exact zx_r rfl rfl
theorem m_get_1 (p0 p1 : Int32) (h0 : zwi p0 0 7 = 1) (h1 : zwi p1 0 18 = 0) (d : Nat) : zCr (d + 2) 60 [.ref 113, .int p0, .int p1] (zHx F G L) (.inl (some (.int 0))) (zHt F G L 1) := by
  refine zx_in rfl rfl ?_
  refine zx_gp 19 rfl ?_
  refine zx_c rfl rfl rfl rfl (w_isIn' (lo := 0) (hi := 7) h0 _ _) ?_
  refine zx_gp 19 rfl ?_
  refine zx_c rfl rfl rfl rfl (w_isIn' (lo := 0) (hi := 18) h1 _ _) ?_
  refine zx_gp 19 rfl ?_
  refine zx_c rfl rfl rfl rfl (m_rf1 _) ?_
  refine zx_gp 19 rfl ?_
  exact zx_r rfl rfl
theorem m_get_t0 (hF : zFk F) (p1 : Int32) (h1 : zwi p1 0 18 = 1) (d : Nat) : zCr (d + 2) 60 [.ref 113, .int 0, .int p1] (zHx F G L) (.inl (some (.int 0))) (zHt F G L 2) := by
  refine zx_in rfl rfl ?_
  refine zx_gp 19 rfl ?_
  refine zx_c rfl rfl rfl rfl (w_isIn' (lo := 0) (hi := 7) (show zwi 0 0 7 = 1 by decide) _ _) ?_
  refine zx_gp 19 rfl ?_
  refine zx_c rfl rfl rfl rfl (w_isIn' (lo := 0) (hi := 18) h1 _ _) ?_
  refine zx_gp 19 rfl ?_
  refine zx_bal rfl rfl rfl rfl hF.2.2.2.2.1 ?_
  refine zx_gp 19 rfl ?_
  refine zx_c rfl rfl rfl rfl (m_rf2 _) ?_
  refine zx_gp 19 rfl ?_
  exact zx_r rfl rfl
theorem m_get_t1 (hF : zFk F) (p1 : Int32) (h1 : zwi p1 0 18 = 1) (d : Nat) : zCr (d + 2) 60 [.ref 113, .int 1, .int p1] (zHx F G L) (.inl (some (.int 0))) (zHt F G L 2) := by
  refine zx_in rfl rfl ?_
  refine zx_gp 19 rfl ?_
  refine zx_c rfl rfl rfl rfl (w_isIn' (lo := 0) (hi := 7) (show zwi 1 0 7 = 1 by decide) _ _) ?_
  refine zx_gp 19 rfl ?_
  refine zx_c rfl rfl rfl rfl (w_isIn' (lo := 0) (hi := 18) h1 _ _) ?_
  refine zx_gp 19 rfl ?_
  refine zx_bal rfl rfl rfl rfl hF.2.2.2.2.2.1 ?_
  refine zx_gp 19 rfl ?_
  refine zx_c rfl rfl rfl rfl (m_rf2 _) ?_
  refine zx_gp 19 rfl ?_
  exact zx_r rfl rfl
theorem m_get_t2 (hF : zFk F) (p1 : Int32) (h1 : zwi p1 0 18 = 1) (d : Nat) : zCr (d + 2) 60 [.ref 113, .int 2, .int p1] (zHx F G L) (.inl (some (.int 0))) (zHt F G L 2) := by
  refine zx_in rfl rfl ?_
  refine zx_gp 19 rfl ?_
  refine zx_c rfl rfl rfl rfl (w_isIn' (lo := 0) (hi := 7) (show zwi 2 0 7 = 1 by decide) _ _) ?_
  refine zx_gp 19 rfl ?_
  refine zx_c rfl rfl rfl rfl (w_isIn' (lo := 0) (hi := 18) h1 _ _) ?_
  refine zx_gp 19 rfl ?_
  refine zx_bal rfl rfl rfl rfl hF.2.2.2.2.2.2.1 ?_
  refine zx_gp 19 rfl ?_
  refine zx_c rfl rfl rfl rfl (m_rf2 _) ?_
  refine zx_gp 19 rfl ?_
  exact zx_r rfl rfl
theorem m_get_t3 (hF : zFk F) (p1 : Int32) (h1 : zwi p1 0 18 = 1) (d : Nat) : zCr (d + 2) 60 [.ref 113, .int 3, .int p1] (zHx F G L) (.inl (some (.int 0))) (zHt F G L 2) := by
  refine zx_in rfl rfl ?_
  refine zx_gp 19 rfl ?_
  refine zx_c rfl rfl rfl rfl (w_isIn' (lo := 0) (hi := 7) (show zwi 3 0 7 = 1 by decide) _ _) ?_
  refine zx_gp 19 rfl ?_
  refine zx_c rfl rfl rfl rfl (w_isIn' (lo := 0) (hi := 18) h1 _ _) ?_
  refine zx_gp 19 rfl ?_
  refine zx_bal rfl rfl rfl rfl hF.2.2.2.2.2.2.2.1 ?_
  refine zx_gp 19 rfl ?_
  refine zx_c rfl rfl rfl rfl (m_rf2 _) ?_
  refine zx_gp 19 rfl ?_
  exact zx_r rfl rfl
theorem m_get_t4 (hF : zFk F) (p1 : Int32) (h1 : zwi p1 0 18 = 1) (d : Nat) : zCr (d + 2) 60 [.ref 113, .int 4, .int p1] (zHx F G L) (.inl (some (.int 0))) (zHt F G L 2) := by
  refine zx_in rfl rfl ?_
  refine zx_gp 19 rfl ?_
  refine zx_c rfl rfl rfl rfl (w_isIn' (lo := 0) (hi := 7) (show zwi 4 0 7 = 1 by decide) _ _) ?_
  refine zx_gp 19 rfl ?_
  refine zx_c rfl rfl rfl rfl (w_isIn' (lo := 0) (hi := 18) h1 _ _) ?_
  refine zx_gp 19 rfl ?_
  refine zx_bal rfl rfl rfl rfl hF.2.2.2.2.2.2.2.2.1 ?_
  refine zx_gp 19 rfl ?_
  refine zx_c rfl rfl rfl rfl (m_rf2 _) ?_
  refine zx_gp 19 rfl ?_
  exact zx_r rfl rfl
theorem m_get_t5 (hF : zFk F) (p1 : Int32) (h1 : zwi p1 0 18 = 1) (d : Nat) : zCr (d + 2) 60 [.ref 113, .int 5, .int p1] (zHx F G L) (.inl (some (.int 0))) (zHt F G L 2) := by
  refine zx_in rfl rfl ?_
  refine zx_gp 19 rfl ?_
  refine zx_c rfl rfl rfl rfl (w_isIn' (lo := 0) (hi := 7) (show zwi 5 0 7 = 1 by decide) _ _) ?_
  refine zx_gp 19 rfl ?_
  refine zx_c rfl rfl rfl rfl (w_isIn' (lo := 0) (hi := 18) h1 _ _) ?_
  refine zx_gp 19 rfl ?_
  refine zx_bal rfl rfl rfl rfl hF.2.2.2.2.2.2.2.2.2.1 ?_
  refine zx_gp 19 rfl ?_
  refine zx_c rfl rfl rfl rfl (m_rf2 _) ?_
  refine zx_gp 19 rfl ?_
  exact zx_r rfl rfl
theorem m_get_t6 (hF : zFk F) (p1 : Int32) (h1 : zwi p1 0 18 = 1) (d : Nat) : zCr (d + 2) 60 [.ref 113, .int 6, .int p1] (zHx F G L) (.inl (some (.int 0))) (zHt F G L 2) := by
  refine zx_in rfl rfl ?_
  refine zx_gp 19 rfl ?_
  refine zx_c rfl rfl rfl rfl (w_isIn' (lo := 0) (hi := 7) (show zwi 6 0 7 = 1 by decide) _ _) ?_
  refine zx_gp 19 rfl ?_
  refine zx_c rfl rfl rfl rfl (w_isIn' (lo := 0) (hi := 18) h1 _ _) ?_
  refine zx_gp 19 rfl ?_
  refine zx_bal rfl rfl rfl rfl hF.2.2.2.2.2.2.2.2.2.2.1 ?_
  refine zx_gp 19 rfl ?_
  refine zx_c rfl rfl rfl rfl (m_rf2 _) ?_
  refine zx_gp 19 rfl ?_
  exact zx_r rfl rfl
theorem m_get_t7 (hF : zFk F) (p1 : Int32) (h1 : zwi p1 0 18 = 1) (d : Nat) : zCr (d + 2) 60 [.ref 113, .int 7, .int p1] (zHx F G L) (.inl (some (.int 0))) (zHt F G L 2) := by
  refine zx_in rfl rfl ?_
  refine zx_gp 19 rfl ?_
  refine zx_c rfl rfl rfl rfl (w_isIn' (lo := 0) (hi := 7) (show zwi 7 0 7 = 1 by decide) _ _) ?_
  refine zx_gp 19 rfl ?_
  refine zx_c rfl rfl rfl rfl (w_isIn' (lo := 0) (hi := 18) h1 _ _) ?_
  refine zx_gp 19 rfl ?_
  refine zx_bal rfl rfl rfl rfl hF.2.2.2.2.2.2.2.2.2.2.2 ?_
  refine zx_gp 19 rfl ?_
  refine zx_c rfl rfl rfl rfl (m_rf2 _) ?_
  refine zx_gp 19 rfl ?_
  exact zx_r rfl rfl
theorem m_access_0 (p0 p1 p2 p3 : Int32) (h0 : zwi p0 0 7 = 0) (d : Nat) : zCr (d + 2) 129 [.ref 113, .int p0, .int p1, .int p2, .int p3] (zHx F G L) (.inl (some (.int 0))) (zHt F G L 1) := by
  refine zx_in rfl rfl ?_
  refine zx_gp 19 rfl ?_
  refine zx_c rfl rfl rfl rfl (w_isIn' (lo := 0) (hi := 7) h0 _ _) ?_
  refine zx_gp 19 rfl ?_
  refine zx_c rfl rfl rfl rfl (m_rf1 _) ?_
  refine zx_gp 19 rfl ?_
  exact zx_r rfl rfl
theorem m_access_1 (p0 p1 p2 p3 : Int32) (h0 : zwi p0 0 7 = 1) (h1 : zwi p1 0 2 = 0) (d : Nat) : zCr (d + 2) 129 [.ref 113, .int p0, .int p1, .int p2, .int p3] (zHx F G L) (.inl (some (.int 0))) (zHt F G L 1) := by
  refine zx_in rfl rfl ?_
  refine zx_gp 19 rfl ?_
  refine zx_c rfl rfl rfl rfl (w_isIn' (lo := 0) (hi := 7) h0 _ _) ?_
  refine zx_gp 19 rfl ?_
  refine zx_c rfl rfl rfl rfl (w_isIn' (lo := 0) (hi := 2) h1 _ _) ?_
  refine zx_gp 19 rfl ?_
  refine zx_c rfl rfl rfl rfl (m_rf1 _) ?_
  refine zx_gp 19 rfl ?_
  exact zx_r rfl rfl
theorem m_access_2 (p0 p1 p2 p3 : Int32) (h0 : zwi p0 0 7 = 1) (h1 : zwi p1 0 2 = 1) (h2 : zwi p2 0 4095 = 0) (d : Nat) : zCr (d + 2) 129 [.ref 113, .int p0, .int p1, .int p2, .int p3] (zHx F G L) (.inl (some (.int 0))) (zHt F G L 1) := by
  refine zx_in rfl rfl ?_
  refine zx_gp 19 rfl ?_
  refine zx_c rfl rfl rfl rfl (w_isIn' (lo := 0) (hi := 7) h0 _ _) ?_
  refine zx_gp 19 rfl ?_
  refine zx_c rfl rfl rfl rfl (w_isIn' (lo := 0) (hi := 2) h1 _ _) ?_
  refine zx_gp 19 rfl ?_
  refine zx_c rfl rfl rfl rfl (w_isIn' (lo := 0) (hi := 4095) h2 _ _) ?_
  refine zx_gp 19 rfl ?_
  refine zx_c rfl rfl rfl rfl (m_rf1 _) ?_
  refine zx_gp 19 rfl ?_
  exact zx_r rfl rfl
theorem m_access_3 (p0 p1 p2 p3 : Int32) (h0 : zwi p0 0 7 = 1) (h1 : zwi p1 0 2 = 1) (h2 : zwi p2 0 4095 = 1) (h3 : zwi p3 0 65535 = 0) (d : Nat) : zCr (d + 2) 129 [.ref 113, .int p0, .int p1, .int p2, .int p3] (zHx F G L) (.inl (some (.int 0))) (zHt F G L 1) := by
  refine zx_in rfl rfl ?_
  refine zx_gp 19 rfl ?_
  refine zx_c rfl rfl rfl rfl (w_isIn' (lo := 0) (hi := 7) h0 _ _) ?_
  refine zx_gp 19 rfl ?_
  refine zx_c rfl rfl rfl rfl (w_isIn' (lo := 0) (hi := 2) h1 _ _) ?_
  refine zx_gp 19 rfl ?_
  refine zx_c rfl rfl rfl rfl (w_isIn' (lo := 0) (hi := 4095) h2 _ _) ?_
  refine zx_gp 19 rfl ?_
  refine zx_c rfl rfl rfl rfl (w_isIn' (lo := 0) (hi := 65535) h3 _ _) ?_
  refine zx_gp 19 rfl ?_
  refine zx_c rfl rfl rfl rfl (m_rf1 _) ?_
  refine zx_gp 19 rfl ?_
  exact zx_r rfl rfl
theorem m_access_t0 (hF : zFk F) (p1 p2 p3 : Int32) (h1 : zwi p1 0 2 = 1) (h2 : zwi p2 0 4095 = 1) (h3 : zwi p3 0 65535 = 1) (d : Nat) : zCr (d + 2) 129 [.ref 113, .int 0, .int p1, .int p2, .int p3] (zHx F G L) (.inl (some (.int 0))) (zHt F G L 2) := by
  refine zx_in rfl rfl ?_
  refine zx_gp 19 rfl ?_
  refine zx_c rfl rfl rfl rfl (w_isIn' (lo := 0) (hi := 7) (show zwi 0 0 7 = 1 by decide) _ _) ?_
  refine zx_gp 19 rfl ?_
  refine zx_c rfl rfl rfl rfl (w_isIn' (lo := 0) (hi := 2) h1 _ _) ?_
  refine zx_gp 19 rfl ?_
  refine zx_c rfl rfl rfl rfl (w_isIn' (lo := 0) (hi := 4095) h2 _ _) ?_
  refine zx_gp 19 rfl ?_
  refine zx_c rfl rfl rfl rfl (w_isIn' (lo := 0) (hi := 65535) h3 _ _) ?_
  refine zx_gp 19 rfl ?_
  refine zx_bal rfl rfl rfl rfl hF.2.2.2.2.1 ?_
  refine zx_gp 19 rfl ?_
  refine zx_c rfl rfl rfl rfl (m_rf2 _) ?_
  refine zx_gp 19 rfl ?_
  exact zx_r rfl rfl
theorem m_access_t1 (hF : zFk F) (p1 p2 p3 : Int32) (h1 : zwi p1 0 2 = 1) (h2 : zwi p2 0 4095 = 1) (h3 : zwi p3 0 65535 = 1) (d : Nat) : zCr (d + 2) 129 [.ref 113, .int 1, .int p1, .int p2, .int p3] (zHx F G L) (.inl (some (.int 0))) (zHt F G L 2) := by
  refine zx_in rfl rfl ?_
  refine zx_gp 19 rfl ?_
  refine zx_c rfl rfl rfl rfl (w_isIn' (lo := 0) (hi := 7) (show zwi 1 0 7 = 1 by decide) _ _) ?_
  refine zx_gp 19 rfl ?_
  refine zx_c rfl rfl rfl rfl (w_isIn' (lo := 0) (hi := 2) h1 _ _) ?_
  refine zx_gp 19 rfl ?_
  refine zx_c rfl rfl rfl rfl (w_isIn' (lo := 0) (hi := 4095) h2 _ _) ?_
  refine zx_gp 19 rfl ?_
  refine zx_c rfl rfl rfl rfl (w_isIn' (lo := 0) (hi := 65535) h3 _ _) ?_
  refine zx_gp 19 rfl ?_
  refine zx_bal rfl rfl rfl rfl hF.2.2.2.2.2.1 ?_
  refine zx_gp 19 rfl ?_
  refine zx_c rfl rfl rfl rfl (m_rf2 _) ?_
  refine zx_gp 19 rfl ?_
  exact zx_r rfl rfl
theorem m_access_t2 (hF : zFk F) (p1 p2 p3 : Int32) (h1 : zwi p1 0 2 = 1) (h2 : zwi p2 0 4095 = 1) (h3 : zwi p3 0 65535 = 1) (d : Nat) : zCr (d + 2) 129 [.ref 113, .int 2, .int p1, .int p2, .int p3] (zHx F G L) (.inl (some (.int 0))) (zHt F G L 2) := by
  refine zx_in rfl rfl ?_
  refine zx_gp 19 rfl ?_
  refine zx_c rfl rfl rfl rfl (w_isIn' (lo := 0) (hi := 7) (show zwi 2 0 7 = 1 by decide) _ _) ?_
  refine zx_gp 19 rfl ?_
  refine zx_c rfl rfl rfl rfl (w_isIn' (lo := 0) (hi := 2) h1 _ _) ?_
  refine zx_gp 19 rfl ?_
  refine zx_c rfl rfl rfl rfl (w_isIn' (lo := 0) (hi := 4095) h2 _ _) ?_
  refine zx_gp 19 rfl ?_
  refine zx_c rfl rfl rfl rfl (w_isIn' (lo := 0) (hi := 65535) h3 _ _) ?_
  refine zx_gp 19 rfl ?_
  refine zx_bal rfl rfl rfl rfl hF.2.2.2.2.2.2.1 ?_
  refine zx_gp 19 rfl ?_
  refine zx_c rfl rfl rfl rfl (m_rf2 _) ?_
  refine zx_gp 19 rfl ?_
  exact zx_r rfl rfl
theorem m_access_t3 (hF : zFk F) (p1 p2 p3 : Int32) (h1 : zwi p1 0 2 = 1) (h2 : zwi p2 0 4095 = 1) (h3 : zwi p3 0 65535 = 1) (d : Nat) : zCr (d + 2) 129 [.ref 113, .int 3, .int p1, .int p2, .int p3] (zHx F G L) (.inl (some (.int 0))) (zHt F G L 2) := by
  refine zx_in rfl rfl ?_
  refine zx_gp 19 rfl ?_
  refine zx_c rfl rfl rfl rfl (w_isIn' (lo := 0) (hi := 7) (show zwi 3 0 7 = 1 by decide) _ _) ?_
  refine zx_gp 19 rfl ?_
  refine zx_c rfl rfl rfl rfl (w_isIn' (lo := 0) (hi := 2) h1 _ _) ?_
  refine zx_gp 19 rfl ?_
  refine zx_c rfl rfl rfl rfl (w_isIn' (lo := 0) (hi := 4095) h2 _ _) ?_
  refine zx_gp 19 rfl ?_
  refine zx_c rfl rfl rfl rfl (w_isIn' (lo := 0) (hi := 65535) h3 _ _) ?_
  refine zx_gp 19 rfl ?_
  refine zx_bal rfl rfl rfl rfl hF.2.2.2.2.2.2.2.1 ?_
  refine zx_gp 19 rfl ?_
  refine zx_c rfl rfl rfl rfl (m_rf2 _) ?_
  refine zx_gp 19 rfl ?_
  exact zx_r rfl rfl
theorem m_access_t4 (hF : zFk F) (p1 p2 p3 : Int32) (h1 : zwi p1 0 2 = 1) (h2 : zwi p2 0 4095 = 1) (h3 : zwi p3 0 65535 = 1) (d : Nat) : zCr (d + 2) 129 [.ref 113, .int 4, .int p1, .int p2, .int p3] (zHx F G L) (.inl (some (.int 0))) (zHt F G L 2) := by
  refine zx_in rfl rfl ?_
  refine zx_gp 19 rfl ?_
  refine zx_c rfl rfl rfl rfl (w_isIn' (lo := 0) (hi := 7) (show zwi 4 0 7 = 1 by decide) _ _) ?_
  refine zx_gp 19 rfl ?_
  refine zx_c rfl rfl rfl rfl (w_isIn' (lo := 0) (hi := 2) h1 _ _) ?_
  refine zx_gp 19 rfl ?_
  refine zx_c rfl rfl rfl rfl (w_isIn' (lo := 0) (hi := 4095) h2 _ _) ?_
  refine zx_gp 19 rfl ?_
  refine zx_c rfl rfl rfl rfl (w_isIn' (lo := 0) (hi := 65535) h3 _ _) ?_
  refine zx_gp 19 rfl ?_
  refine zx_bal rfl rfl rfl rfl hF.2.2.2.2.2.2.2.2.1 ?_
  refine zx_gp 19 rfl ?_
  refine zx_c rfl rfl rfl rfl (m_rf2 _) ?_
  refine zx_gp 19 rfl ?_
  exact zx_r rfl rfl
theorem m_access_t5 (hF : zFk F) (p1 p2 p3 : Int32) (h1 : zwi p1 0 2 = 1) (h2 : zwi p2 0 4095 = 1) (h3 : zwi p3 0 65535 = 1) (d : Nat) : zCr (d + 2) 129 [.ref 113, .int 5, .int p1, .int p2, .int p3] (zHx F G L) (.inl (some (.int 0))) (zHt F G L 2) := by
  refine zx_in rfl rfl ?_
  refine zx_gp 19 rfl ?_
  refine zx_c rfl rfl rfl rfl (w_isIn' (lo := 0) (hi := 7) (show zwi 5 0 7 = 1 by decide) _ _) ?_
  refine zx_gp 19 rfl ?_
  refine zx_c rfl rfl rfl rfl (w_isIn' (lo := 0) (hi := 2) h1 _ _) ?_
  refine zx_gp 19 rfl ?_
  refine zx_c rfl rfl rfl rfl (w_isIn' (lo := 0) (hi := 4095) h2 _ _) ?_
  refine zx_gp 19 rfl ?_
  refine zx_c rfl rfl rfl rfl (w_isIn' (lo := 0) (hi := 65535) h3 _ _) ?_
  refine zx_gp 19 rfl ?_
  refine zx_bal rfl rfl rfl rfl hF.2.2.2.2.2.2.2.2.2.1 ?_
  refine zx_gp 19 rfl ?_
  refine zx_c rfl rfl rfl rfl (m_rf2 _) ?_
  refine zx_gp 19 rfl ?_
  exact zx_r rfl rfl
theorem m_access_t6 (hF : zFk F) (p1 p2 p3 : Int32) (h1 : zwi p1 0 2 = 1) (h2 : zwi p2 0 4095 = 1) (h3 : zwi p3 0 65535 = 1) (d : Nat) : zCr (d + 2) 129 [.ref 113, .int 6, .int p1, .int p2, .int p3] (zHx F G L) (.inl (some (.int 0))) (zHt F G L 2) := by
  refine zx_in rfl rfl ?_
  refine zx_gp 19 rfl ?_
  refine zx_c rfl rfl rfl rfl (w_isIn' (lo := 0) (hi := 7) (show zwi 6 0 7 = 1 by decide) _ _) ?_
  refine zx_gp 19 rfl ?_
  refine zx_c rfl rfl rfl rfl (w_isIn' (lo := 0) (hi := 2) h1 _ _) ?_
  refine zx_gp 19 rfl ?_
  refine zx_c rfl rfl rfl rfl (w_isIn' (lo := 0) (hi := 4095) h2 _ _) ?_
  refine zx_gp 19 rfl ?_
  refine zx_c rfl rfl rfl rfl (w_isIn' (lo := 0) (hi := 65535) h3 _ _) ?_
  refine zx_gp 19 rfl ?_
  refine zx_bal rfl rfl rfl rfl hF.2.2.2.2.2.2.2.2.2.2.1 ?_
  refine zx_gp 19 rfl ?_
  refine zx_c rfl rfl rfl rfl (m_rf2 _) ?_
  refine zx_gp 19 rfl ?_
  exact zx_r rfl rfl
theorem m_access_t7 (hF : zFk F) (p1 p2 p3 : Int32) (h1 : zwi p1 0 2 = 1) (h2 : zwi p2 0 4095 = 1) (h3 : zwi p3 0 65535 = 1) (d : Nat) : zCr (d + 2) 129 [.ref 113, .int 7, .int p1, .int p2, .int p3] (zHx F G L) (.inl (some (.int 0))) (zHt F G L 2) := by
  refine zx_in rfl rfl ?_
  refine zx_gp 19 rfl ?_
  refine zx_c rfl rfl rfl rfl (w_isIn' (lo := 0) (hi := 7) (show zwi 7 0 7 = 1 by decide) _ _) ?_
  refine zx_gp 19 rfl ?_
  refine zx_c rfl rfl rfl rfl (w_isIn' (lo := 0) (hi := 2) h1 _ _) ?_
  refine zx_gp 19 rfl ?_
  refine zx_c rfl rfl rfl rfl (w_isIn' (lo := 0) (hi := 4095) h2 _ _) ?_
  refine zx_gp 19 rfl ?_
  refine zx_c rfl rfl rfl rfl (w_isIn' (lo := 0) (hi := 65535) h3 _ _) ?_
  refine zx_gp 19 rfl ?_
  refine zx_bal rfl rfl rfl rfl hF.2.2.2.2.2.2.2.2.2.2.2 ?_
  refine zx_gp 19 rfl ?_
  refine zx_c rfl rfl rfl rfl (m_rf2 _) ?_
  refine zx_gp 19 rfl ?_
  exact zx_r rfl rfl
theorem m_run_0 (p0 p1 : Int32) (h0 : zwi p0 0 7 = 0) (d : Nat) : zCr (d + 2) 154 [.ref 113, .int p0, .int p1] (zHx F G L) (.inl (some (.int 0))) (zHt F G L 1) := by
  refine zx_in rfl rfl ?_
  refine zx_gp 19 rfl ?_
  refine zx_c rfl rfl rfl rfl (w_isIn' (lo := 0) (hi := 7) h0 _ _) ?_
  refine zx_gp 19 rfl ?_
  refine zx_c rfl rfl rfl rfl (m_rf1 _) ?_
  refine zx_gp 19 rfl ?_
  exact zx_r rfl rfl
theorem m_run_1 (p0 p1 : Int32) (h0 : zwi p0 0 7 = 1) (h1 : zwi p1 1 1000 = 0) (d : Nat) : zCr (d + 2) 154 [.ref 113, .int p0, .int p1] (zHx F G L) (.inl (some (.int 0))) (zHt F G L 1) := by
  refine zx_in rfl rfl ?_
  refine zx_gp 19 rfl ?_
  refine zx_c rfl rfl rfl rfl (w_isIn' (lo := 0) (hi := 7) h0 _ _) ?_
  refine zx_gp 19 rfl ?_
  refine zx_c rfl rfl rfl rfl (w_isIn' (lo := 1) (hi := 1000) h1 _ _) ?_
  refine zx_gp 19 rfl ?_
  refine zx_c rfl rfl rfl rfl (m_rf1 _) ?_
  refine zx_gp 19 rfl ?_
  exact zx_r rfl rfl
theorem m_run_t0 (hF : zFk F) (p1 : Int32) (h1 : zwi p1 1 1000 = 1) (d : Nat) : zCr (d + 2) 154 [.ref 113, .int 0, .int p1] (zHx F G L) (.inl (some (.int 0))) (zHt F G L 2) := by
  refine zx_in rfl rfl ?_
  refine zx_gp 19 rfl ?_
  refine zx_c rfl rfl rfl rfl (w_isIn' (lo := 0) (hi := 7) (show zwi 0 0 7 = 1 by decide) _ _) ?_
  refine zx_gp 19 rfl ?_
  refine zx_c rfl rfl rfl rfl (w_isIn' (lo := 1) (hi := 1000) h1 _ _) ?_
  refine zx_gp 19 rfl ?_
  refine zx_bal rfl rfl rfl rfl hF.2.2.2.2.1 ?_
  refine zx_gp 19 rfl ?_
  refine zx_c rfl rfl rfl rfl (m_rf2 _) ?_
  refine zx_gp 19 rfl ?_
  exact zx_r rfl rfl
theorem m_run_t1 (hF : zFk F) (p1 : Int32) (h1 : zwi p1 1 1000 = 1) (d : Nat) : zCr (d + 2) 154 [.ref 113, .int 1, .int p1] (zHx F G L) (.inl (some (.int 0))) (zHt F G L 2) := by
  refine zx_in rfl rfl ?_
  refine zx_gp 19 rfl ?_
  refine zx_c rfl rfl rfl rfl (w_isIn' (lo := 0) (hi := 7) (show zwi 1 0 7 = 1 by decide) _ _) ?_
  refine zx_gp 19 rfl ?_
  refine zx_c rfl rfl rfl rfl (w_isIn' (lo := 1) (hi := 1000) h1 _ _) ?_
  refine zx_gp 19 rfl ?_
  refine zx_bal rfl rfl rfl rfl hF.2.2.2.2.2.1 ?_
  refine zx_gp 19 rfl ?_
  refine zx_c rfl rfl rfl rfl (m_rf2 _) ?_
  refine zx_gp 19 rfl ?_
  exact zx_r rfl rfl
theorem m_run_t2 (hF : zFk F) (p1 : Int32) (h1 : zwi p1 1 1000 = 1) (d : Nat) : zCr (d + 2) 154 [.ref 113, .int 2, .int p1] (zHx F G L) (.inl (some (.int 0))) (zHt F G L 2) := by
  refine zx_in rfl rfl ?_
  refine zx_gp 19 rfl ?_
  refine zx_c rfl rfl rfl rfl (w_isIn' (lo := 0) (hi := 7) (show zwi 2 0 7 = 1 by decide) _ _) ?_
  refine zx_gp 19 rfl ?_
  refine zx_c rfl rfl rfl rfl (w_isIn' (lo := 1) (hi := 1000) h1 _ _) ?_
  refine zx_gp 19 rfl ?_
  refine zx_bal rfl rfl rfl rfl hF.2.2.2.2.2.2.1 ?_
  refine zx_gp 19 rfl ?_
  refine zx_c rfl rfl rfl rfl (m_rf2 _) ?_
  refine zx_gp 19 rfl ?_
  exact zx_r rfl rfl
theorem m_run_t3 (hF : zFk F) (p1 : Int32) (h1 : zwi p1 1 1000 = 1) (d : Nat) : zCr (d + 2) 154 [.ref 113, .int 3, .int p1] (zHx F G L) (.inl (some (.int 0))) (zHt F G L 2) := by
  refine zx_in rfl rfl ?_
  refine zx_gp 19 rfl ?_
  refine zx_c rfl rfl rfl rfl (w_isIn' (lo := 0) (hi := 7) (show zwi 3 0 7 = 1 by decide) _ _) ?_
  refine zx_gp 19 rfl ?_
  refine zx_c rfl rfl rfl rfl (w_isIn' (lo := 1) (hi := 1000) h1 _ _) ?_
  refine zx_gp 19 rfl ?_
  refine zx_bal rfl rfl rfl rfl hF.2.2.2.2.2.2.2.1 ?_
  refine zx_gp 19 rfl ?_
  refine zx_c rfl rfl rfl rfl (m_rf2 _) ?_
  refine zx_gp 19 rfl ?_
  exact zx_r rfl rfl
theorem m_run_t4 (hF : zFk F) (p1 : Int32) (h1 : zwi p1 1 1000 = 1) (d : Nat) : zCr (d + 2) 154 [.ref 113, .int 4, .int p1] (zHx F G L) (.inl (some (.int 0))) (zHt F G L 2) := by
  refine zx_in rfl rfl ?_
  refine zx_gp 19 rfl ?_
  refine zx_c rfl rfl rfl rfl (w_isIn' (lo := 0) (hi := 7) (show zwi 4 0 7 = 1 by decide) _ _) ?_
  refine zx_gp 19 rfl ?_
  refine zx_c rfl rfl rfl rfl (w_isIn' (lo := 1) (hi := 1000) h1 _ _) ?_
  refine zx_gp 19 rfl ?_
  refine zx_bal rfl rfl rfl rfl hF.2.2.2.2.2.2.2.2.1 ?_
  refine zx_gp 19 rfl ?_
  refine zx_c rfl rfl rfl rfl (m_rf2 _) ?_
  refine zx_gp 19 rfl ?_
  exact zx_r rfl rfl
theorem m_run_t5 (hF : zFk F) (p1 : Int32) (h1 : zwi p1 1 1000 = 1) (d : Nat) : zCr (d + 2) 154 [.ref 113, .int 5, .int p1] (zHx F G L) (.inl (some (.int 0))) (zHt F G L 2) := by
  refine zx_in rfl rfl ?_
  refine zx_gp 19 rfl ?_
  refine zx_c rfl rfl rfl rfl (w_isIn' (lo := 0) (hi := 7) (show zwi 5 0 7 = 1 by decide) _ _) ?_
  refine zx_gp 19 rfl ?_
  refine zx_c rfl rfl rfl rfl (w_isIn' (lo := 1) (hi := 1000) h1 _ _) ?_
  refine zx_gp 19 rfl ?_
  refine zx_bal rfl rfl rfl rfl hF.2.2.2.2.2.2.2.2.2.1 ?_
  refine zx_gp 19 rfl ?_
  refine zx_c rfl rfl rfl rfl (m_rf2 _) ?_
  refine zx_gp 19 rfl ?_
  exact zx_r rfl rfl
theorem m_run_t6 (hF : zFk F) (p1 : Int32) (h1 : zwi p1 1 1000 = 1) (d : Nat) : zCr (d + 2) 154 [.ref 113, .int 6, .int p1] (zHx F G L) (.inl (some (.int 0))) (zHt F G L 2) := by
  refine zx_in rfl rfl ?_
  refine zx_gp 19 rfl ?_
  refine zx_c rfl rfl rfl rfl (w_isIn' (lo := 0) (hi := 7) (show zwi 6 0 7 = 1 by decide) _ _) ?_
  refine zx_gp 19 rfl ?_
  refine zx_c rfl rfl rfl rfl (w_isIn' (lo := 1) (hi := 1000) h1 _ _) ?_
  refine zx_gp 19 rfl ?_
  refine zx_bal rfl rfl rfl rfl hF.2.2.2.2.2.2.2.2.2.2.1 ?_
  refine zx_gp 19 rfl ?_
  refine zx_c rfl rfl rfl rfl (m_rf2 _) ?_
  refine zx_gp 19 rfl ?_
  exact zx_r rfl rfl
theorem m_run_t7 (hF : zFk F) (p1 : Int32) (h1 : zwi p1 1 1000 = 1) (d : Nat) : zCr (d + 2) 154 [.ref 113, .int 7, .int p1] (zHx F G L) (.inl (some (.int 0))) (zHt F G L 2) := by
  refine zx_in rfl rfl ?_
  refine zx_gp 19 rfl ?_
  refine zx_c rfl rfl rfl rfl (w_isIn' (lo := 0) (hi := 7) (show zwi 7 0 7 = 1 by decide) _ _) ?_
  refine zx_gp 19 rfl ?_
  refine zx_c rfl rfl rfl rfl (w_isIn' (lo := 1) (hi := 1000) h1 _ _) ?_
  refine zx_gp 19 rfl ?_
  refine zx_bal rfl rfl rfl rfl hF.2.2.2.2.2.2.2.2.2.2.2 ?_
  refine zx_gp 19 rfl ?_
  refine zx_c rfl rfl rfl rfl (m_rf2 _) ?_
  refine zx_gp 19 rfl ?_
  exact zx_r rfl rfl
theorem m_exit_0 (p0 p1 : Int32) (h0 : zwi p0 0 7 = 0) (d : Nat) : zCr (d + 2) 157 [.ref 113, .int p0, .int p1] (zHx F G L) (.inl (some (.int 0))) (zHt F G L 1) := by
  refine zx_in rfl rfl ?_
  refine zx_gp 19 rfl ?_
  refine zx_c rfl rfl rfl rfl (w_isIn' (lo := 0) (hi := 7) h0 _ _) ?_
  refine zx_gp 19 rfl ?_
  refine zx_c rfl rfl rfl rfl (m_rf1 _) ?_
  refine zx_gp 19 rfl ?_
  exact zx_r rfl rfl
theorem m_exit_1 (p0 p1 : Int32) (h0 : zwi p0 0 7 = 1) (h1 : zwi p1 0 4 = 0) (d : Nat) : zCr (d + 2) 157 [.ref 113, .int p0, .int p1] (zHx F G L) (.inl (some (.int 0))) (zHt F G L 1) := by
  refine zx_in rfl rfl ?_
  refine zx_gp 19 rfl ?_
  refine zx_c rfl rfl rfl rfl (w_isIn' (lo := 0) (hi := 7) h0 _ _) ?_
  refine zx_gp 19 rfl ?_
  refine zx_c rfl rfl rfl rfl (w_isIn' (lo := 0) (hi := 4) h1 _ _) ?_
  refine zx_gp 19 rfl ?_
  refine zx_c rfl rfl rfl rfl (m_rf1 _) ?_
  refine zx_gp 19 rfl ?_
  exact zx_r rfl rfl
theorem m_exit_t0 (hF : zFk F) (p1 : Int32) (h1 : zwi p1 0 4 = 1) (d : Nat) : zCr (d + 2) 157 [.ref 113, .int 0, .int p1] (zHx F G L) (.inl (some (.int 0))) (zHt F G L 2) := by
  refine zx_in rfl rfl ?_
  refine zx_gp 19 rfl ?_
  refine zx_c rfl rfl rfl rfl (w_isIn' (lo := 0) (hi := 7) (show zwi 0 0 7 = 1 by decide) _ _) ?_
  refine zx_gp 19 rfl ?_
  refine zx_c rfl rfl rfl rfl (w_isIn' (lo := 0) (hi := 4) h1 _ _) ?_
  refine zx_gp 19 rfl ?_
  refine zx_bal rfl rfl rfl rfl hF.2.2.2.2.1 ?_
  refine zx_gp 19 rfl ?_
  refine zx_c rfl rfl rfl rfl (m_rf2 _) ?_
  refine zx_gp 19 rfl ?_
  exact zx_r rfl rfl
theorem m_exit_t1 (hF : zFk F) (p1 : Int32) (h1 : zwi p1 0 4 = 1) (d : Nat) : zCr (d + 2) 157 [.ref 113, .int 1, .int p1] (zHx F G L) (.inl (some (.int 0))) (zHt F G L 2) := by
  refine zx_in rfl rfl ?_
  refine zx_gp 19 rfl ?_
  refine zx_c rfl rfl rfl rfl (w_isIn' (lo := 0) (hi := 7) (show zwi 1 0 7 = 1 by decide) _ _) ?_
  refine zx_gp 19 rfl ?_
  refine zx_c rfl rfl rfl rfl (w_isIn' (lo := 0) (hi := 4) h1 _ _) ?_
  refine zx_gp 19 rfl ?_
  refine zx_bal rfl rfl rfl rfl hF.2.2.2.2.2.1 ?_
  refine zx_gp 19 rfl ?_
  refine zx_c rfl rfl rfl rfl (m_rf2 _) ?_
  refine zx_gp 19 rfl ?_
  exact zx_r rfl rfl
theorem m_exit_t2 (hF : zFk F) (p1 : Int32) (h1 : zwi p1 0 4 = 1) (d : Nat) : zCr (d + 2) 157 [.ref 113, .int 2, .int p1] (zHx F G L) (.inl (some (.int 0))) (zHt F G L 2) := by
  refine zx_in rfl rfl ?_
  refine zx_gp 19 rfl ?_
  refine zx_c rfl rfl rfl rfl (w_isIn' (lo := 0) (hi := 7) (show zwi 2 0 7 = 1 by decide) _ _) ?_
  refine zx_gp 19 rfl ?_
  refine zx_c rfl rfl rfl rfl (w_isIn' (lo := 0) (hi := 4) h1 _ _) ?_
  refine zx_gp 19 rfl ?_
  refine zx_bal rfl rfl rfl rfl hF.2.2.2.2.2.2.1 ?_
  refine zx_gp 19 rfl ?_
  refine zx_c rfl rfl rfl rfl (m_rf2 _) ?_
  refine zx_gp 19 rfl ?_
  exact zx_r rfl rfl
theorem m_exit_t3 (hF : zFk F) (p1 : Int32) (h1 : zwi p1 0 4 = 1) (d : Nat) : zCr (d + 2) 157 [.ref 113, .int 3, .int p1] (zHx F G L) (.inl (some (.int 0))) (zHt F G L 2) := by
  refine zx_in rfl rfl ?_
  refine zx_gp 19 rfl ?_
  refine zx_c rfl rfl rfl rfl (w_isIn' (lo := 0) (hi := 7) (show zwi 3 0 7 = 1 by decide) _ _) ?_
  refine zx_gp 19 rfl ?_
  refine zx_c rfl rfl rfl rfl (w_isIn' (lo := 0) (hi := 4) h1 _ _) ?_
  refine zx_gp 19 rfl ?_
  refine zx_bal rfl rfl rfl rfl hF.2.2.2.2.2.2.2.1 ?_
  refine zx_gp 19 rfl ?_
  refine zx_c rfl rfl rfl rfl (m_rf2 _) ?_
  refine zx_gp 19 rfl ?_
  exact zx_r rfl rfl
theorem m_exit_t4 (hF : zFk F) (p1 : Int32) (h1 : zwi p1 0 4 = 1) (d : Nat) : zCr (d + 2) 157 [.ref 113, .int 4, .int p1] (zHx F G L) (.inl (some (.int 0))) (zHt F G L 2) := by
  refine zx_in rfl rfl ?_
  refine zx_gp 19 rfl ?_
  refine zx_c rfl rfl rfl rfl (w_isIn' (lo := 0) (hi := 7) (show zwi 4 0 7 = 1 by decide) _ _) ?_
  refine zx_gp 19 rfl ?_
  refine zx_c rfl rfl rfl rfl (w_isIn' (lo := 0) (hi := 4) h1 _ _) ?_
  refine zx_gp 19 rfl ?_
  refine zx_bal rfl rfl rfl rfl hF.2.2.2.2.2.2.2.2.1 ?_
  refine zx_gp 19 rfl ?_
  refine zx_c rfl rfl rfl rfl (m_rf2 _) ?_
  refine zx_gp 19 rfl ?_
  exact zx_r rfl rfl
theorem m_exit_t5 (hF : zFk F) (p1 : Int32) (h1 : zwi p1 0 4 = 1) (d : Nat) : zCr (d + 2) 157 [.ref 113, .int 5, .int p1] (zHx F G L) (.inl (some (.int 0))) (zHt F G L 2) := by
  refine zx_in rfl rfl ?_
  refine zx_gp 19 rfl ?_
  refine zx_c rfl rfl rfl rfl (w_isIn' (lo := 0) (hi := 7) (show zwi 5 0 7 = 1 by decide) _ _) ?_
  refine zx_gp 19 rfl ?_
  refine zx_c rfl rfl rfl rfl (w_isIn' (lo := 0) (hi := 4) h1 _ _) ?_
  refine zx_gp 19 rfl ?_
  refine zx_bal rfl rfl rfl rfl hF.2.2.2.2.2.2.2.2.2.1 ?_
  refine zx_gp 19 rfl ?_
  refine zx_c rfl rfl rfl rfl (m_rf2 _) ?_
  refine zx_gp 19 rfl ?_
  exact zx_r rfl rfl
theorem m_exit_t6 (hF : zFk F) (p1 : Int32) (h1 : zwi p1 0 4 = 1) (d : Nat) : zCr (d + 2) 157 [.ref 113, .int 6, .int p1] (zHx F G L) (.inl (some (.int 0))) (zHt F G L 2) := by
  refine zx_in rfl rfl ?_
  refine zx_gp 19 rfl ?_
  refine zx_c rfl rfl rfl rfl (w_isIn' (lo := 0) (hi := 7) (show zwi 6 0 7 = 1 by decide) _ _) ?_
  refine zx_gp 19 rfl ?_
  refine zx_c rfl rfl rfl rfl (w_isIn' (lo := 0) (hi := 4) h1 _ _) ?_
  refine zx_gp 19 rfl ?_
  refine zx_bal rfl rfl rfl rfl hF.2.2.2.2.2.2.2.2.2.2.1 ?_
  refine zx_gp 19 rfl ?_
  refine zx_c rfl rfl rfl rfl (m_rf2 _) ?_
  refine zx_gp 19 rfl ?_
  exact zx_r rfl rfl
theorem m_exit_t7 (hF : zFk F) (p1 : Int32) (h1 : zwi p1 0 4 = 1) (d : Nat) : zCr (d + 2) 157 [.ref 113, .int 7, .int p1] (zHx F G L) (.inl (some (.int 0))) (zHt F G L 2) := by
  refine zx_in rfl rfl ?_
  refine zx_gp 19 rfl ?_
  refine zx_c rfl rfl rfl rfl (w_isIn' (lo := 0) (hi := 7) (show zwi 7 0 7 = 1 by decide) _ _) ?_
  refine zx_gp 19 rfl ?_
  refine zx_c rfl rfl rfl rfl (w_isIn' (lo := 0) (hi := 4) h1 _ _) ?_
  refine zx_gp 19 rfl ?_
  refine zx_bal rfl rfl rfl rfl hF.2.2.2.2.2.2.2.2.2.2.2 ?_
  refine zx_gp 19 rfl ?_
  refine zx_c rfl rfl rfl rfl (m_rf2 _) ?_
  refine zx_gp 19 rfl ?_
  exact zx_r rfl rfl
theorem m_flush_0 (p0 p1 p2 : Int32) (h0 : zwi p0 0 7 = 0) (d : Nat) : zCr (d + 2) 160 [.ref 113, .int p0, .int p1, .int p2] (zHx F G L) (.inl (some (.int 0))) (zHt F G L 1) := by
  refine zx_in rfl rfl ?_
  refine zx_gp 19 rfl ?_
  refine zx_c rfl rfl rfl rfl (w_isIn' (lo := 0) (hi := 7) h0 _ _) ?_
  refine zx_gp 19 rfl ?_
  refine zx_c rfl rfl rfl rfl (m_rf1 _) ?_
  refine zx_gp 19 rfl ?_
  exact zx_r rfl rfl
theorem m_flush_1 (p0 p1 p2 : Int32) (h0 : zwi p0 0 7 = 1) (h1 : zwi p1 0 2 = 0) (d : Nat) : zCr (d + 2) 160 [.ref 113, .int p0, .int p1, .int p2] (zHx F G L) (.inl (some (.int 0))) (zHt F G L 1) := by
  refine zx_in rfl rfl ?_
  refine zx_gp 19 rfl ?_
  refine zx_c rfl rfl rfl rfl (w_isIn' (lo := 0) (hi := 7) h0 _ _) ?_
  refine zx_gp 19 rfl ?_
  refine zx_c rfl rfl rfl rfl (w_isIn' (lo := 0) (hi := 2) h1 _ _) ?_
  refine zx_gp 19 rfl ?_
  refine zx_c rfl rfl rfl rfl (m_rf1 _) ?_
  refine zx_gp 19 rfl ?_
  exact zx_r rfl rfl
theorem m_flush_2 (p0 p1 p2 : Int32) (h0 : zwi p0 0 7 = 1) (h1 : zwi p1 0 2 = 1) (h2 : zwi p2 0 4095 = 0) (d : Nat) : zCr (d + 2) 160 [.ref 113, .int p0, .int p1, .int p2] (zHx F G L) (.inl (some (.int 0))) (zHt F G L 1) := by
  refine zx_in rfl rfl ?_
  refine zx_gp 19 rfl ?_
  refine zx_c rfl rfl rfl rfl (w_isIn' (lo := 0) (hi := 7) h0 _ _) ?_
  refine zx_gp 19 rfl ?_
  refine zx_c rfl rfl rfl rfl (w_isIn' (lo := 0) (hi := 2) h1 _ _) ?_
  refine zx_gp 19 rfl ?_
  refine zx_c rfl rfl rfl rfl (w_isIn' (lo := 0) (hi := 4095) h2 _ _) ?_
  refine zx_gp 19 rfl ?_
  refine zx_c rfl rfl rfl rfl (m_rf1 _) ?_
  refine zx_gp 19 rfl ?_
  exact zx_r rfl rfl
theorem m_flush_t0 (hF : zFk F) (p1 p2 : Int32) (h1 : zwi p1 0 2 = 1) (h2 : zwi p2 0 4095 = 1) (d : Nat) : zCr (d + 2) 160 [.ref 113, .int 0, .int p1, .int p2] (zHx F G L) (.inl (some (.int 0))) (zHt F G L 2) := by
  refine zx_in rfl rfl ?_
  refine zx_gp 19 rfl ?_
  refine zx_c rfl rfl rfl rfl (w_isIn' (lo := 0) (hi := 7) (show zwi 0 0 7 = 1 by decide) _ _) ?_
  refine zx_gp 19 rfl ?_
  refine zx_c rfl rfl rfl rfl (w_isIn' (lo := 0) (hi := 2) h1 _ _) ?_
  refine zx_gp 19 rfl ?_
  refine zx_c rfl rfl rfl rfl (w_isIn' (lo := 0) (hi := 4095) h2 _ _) ?_
  refine zx_gp 19 rfl ?_
  refine zx_bal rfl rfl rfl rfl hF.2.2.2.2.1 ?_
  refine zx_gp 19 rfl ?_
  refine zx_c rfl rfl rfl rfl (m_rf2 _) ?_
  refine zx_gp 19 rfl ?_
  exact zx_r rfl rfl
theorem m_flush_t1 (hF : zFk F) (p1 p2 : Int32) (h1 : zwi p1 0 2 = 1) (h2 : zwi p2 0 4095 = 1) (d : Nat) : zCr (d + 2) 160 [.ref 113, .int 1, .int p1, .int p2] (zHx F G L) (.inl (some (.int 0))) (zHt F G L 2) := by
  refine zx_in rfl rfl ?_
  refine zx_gp 19 rfl ?_
  refine zx_c rfl rfl rfl rfl (w_isIn' (lo := 0) (hi := 7) (show zwi 1 0 7 = 1 by decide) _ _) ?_
  refine zx_gp 19 rfl ?_
  refine zx_c rfl rfl rfl rfl (w_isIn' (lo := 0) (hi := 2) h1 _ _) ?_
  refine zx_gp 19 rfl ?_
  refine zx_c rfl rfl rfl rfl (w_isIn' (lo := 0) (hi := 4095) h2 _ _) ?_
  refine zx_gp 19 rfl ?_
  refine zx_bal rfl rfl rfl rfl hF.2.2.2.2.2.1 ?_
  refine zx_gp 19 rfl ?_
  refine zx_c rfl rfl rfl rfl (m_rf2 _) ?_
  refine zx_gp 19 rfl ?_
  exact zx_r rfl rfl
theorem m_flush_t2 (hF : zFk F) (p1 p2 : Int32) (h1 : zwi p1 0 2 = 1) (h2 : zwi p2 0 4095 = 1) (d : Nat) : zCr (d + 2) 160 [.ref 113, .int 2, .int p1, .int p2] (zHx F G L) (.inl (some (.int 0))) (zHt F G L 2) := by
  refine zx_in rfl rfl ?_
  refine zx_gp 19 rfl ?_
  refine zx_c rfl rfl rfl rfl (w_isIn' (lo := 0) (hi := 7) (show zwi 2 0 7 = 1 by decide) _ _) ?_
  refine zx_gp 19 rfl ?_
  refine zx_c rfl rfl rfl rfl (w_isIn' (lo := 0) (hi := 2) h1 _ _) ?_
  refine zx_gp 19 rfl ?_
  refine zx_c rfl rfl rfl rfl (w_isIn' (lo := 0) (hi := 4095) h2 _ _) ?_
  refine zx_gp 19 rfl ?_
  refine zx_bal rfl rfl rfl rfl hF.2.2.2.2.2.2.1 ?_
  refine zx_gp 19 rfl ?_
  refine zx_c rfl rfl rfl rfl (m_rf2 _) ?_
  refine zx_gp 19 rfl ?_
  exact zx_r rfl rfl
theorem m_flush_t3 (hF : zFk F) (p1 p2 : Int32) (h1 : zwi p1 0 2 = 1) (h2 : zwi p2 0 4095 = 1) (d : Nat) : zCr (d + 2) 160 [.ref 113, .int 3, .int p1, .int p2] (zHx F G L) (.inl (some (.int 0))) (zHt F G L 2) := by
  refine zx_in rfl rfl ?_
  refine zx_gp 19 rfl ?_
  refine zx_c rfl rfl rfl rfl (w_isIn' (lo := 0) (hi := 7) (show zwi 3 0 7 = 1 by decide) _ _) ?_
  refine zx_gp 19 rfl ?_
  refine zx_c rfl rfl rfl rfl (w_isIn' (lo := 0) (hi := 2) h1 _ _) ?_
  refine zx_gp 19 rfl ?_
  refine zx_c rfl rfl rfl rfl (w_isIn' (lo := 0) (hi := 4095) h2 _ _) ?_
  refine zx_gp 19 rfl ?_
  refine zx_bal rfl rfl rfl rfl hF.2.2.2.2.2.2.2.1 ?_
  refine zx_gp 19 rfl ?_
  refine zx_c rfl rfl rfl rfl (m_rf2 _) ?_
  refine zx_gp 19 rfl ?_
  exact zx_r rfl rfl
theorem m_flush_t4 (hF : zFk F) (p1 p2 : Int32) (h1 : zwi p1 0 2 = 1) (h2 : zwi p2 0 4095 = 1) (d : Nat) : zCr (d + 2) 160 [.ref 113, .int 4, .int p1, .int p2] (zHx F G L) (.inl (some (.int 0))) (zHt F G L 2) := by
  refine zx_in rfl rfl ?_
  refine zx_gp 19 rfl ?_
  refine zx_c rfl rfl rfl rfl (w_isIn' (lo := 0) (hi := 7) (show zwi 4 0 7 = 1 by decide) _ _) ?_
  refine zx_gp 19 rfl ?_
  refine zx_c rfl rfl rfl rfl (w_isIn' (lo := 0) (hi := 2) h1 _ _) ?_
  refine zx_gp 19 rfl ?_
  refine zx_c rfl rfl rfl rfl (w_isIn' (lo := 0) (hi := 4095) h2 _ _) ?_
  refine zx_gp 19 rfl ?_
  refine zx_bal rfl rfl rfl rfl hF.2.2.2.2.2.2.2.2.1 ?_
  refine zx_gp 19 rfl ?_
  refine zx_c rfl rfl rfl rfl (m_rf2 _) ?_
  refine zx_gp 19 rfl ?_
  exact zx_r rfl rfl
theorem m_flush_t5 (hF : zFk F) (p1 p2 : Int32) (h1 : zwi p1 0 2 = 1) (h2 : zwi p2 0 4095 = 1) (d : Nat) : zCr (d + 2) 160 [.ref 113, .int 5, .int p1, .int p2] (zHx F G L) (.inl (some (.int 0))) (zHt F G L 2) := by
  refine zx_in rfl rfl ?_
  refine zx_gp 19 rfl ?_
  refine zx_c rfl rfl rfl rfl (w_isIn' (lo := 0) (hi := 7) (show zwi 5 0 7 = 1 by decide) _ _) ?_
  refine zx_gp 19 rfl ?_
  refine zx_c rfl rfl rfl rfl (w_isIn' (lo := 0) (hi := 2) h1 _ _) ?_
  refine zx_gp 19 rfl ?_
  refine zx_c rfl rfl rfl rfl (w_isIn' (lo := 0) (hi := 4095) h2 _ _) ?_
  refine zx_gp 19 rfl ?_
  refine zx_bal rfl rfl rfl rfl hF.2.2.2.2.2.2.2.2.2.1 ?_
  refine zx_gp 19 rfl ?_
  refine zx_c rfl rfl rfl rfl (m_rf2 _) ?_
  refine zx_gp 19 rfl ?_
  exact zx_r rfl rfl
theorem m_flush_t6 (hF : zFk F) (p1 p2 : Int32) (h1 : zwi p1 0 2 = 1) (h2 : zwi p2 0 4095 = 1) (d : Nat) : zCr (d + 2) 160 [.ref 113, .int 6, .int p1, .int p2] (zHx F G L) (.inl (some (.int 0))) (zHt F G L 2) := by
  refine zx_in rfl rfl ?_
  refine zx_gp 19 rfl ?_
  refine zx_c rfl rfl rfl rfl (w_isIn' (lo := 0) (hi := 7) (show zwi 6 0 7 = 1 by decide) _ _) ?_
  refine zx_gp 19 rfl ?_
  refine zx_c rfl rfl rfl rfl (w_isIn' (lo := 0) (hi := 2) h1 _ _) ?_
  refine zx_gp 19 rfl ?_
  refine zx_c rfl rfl rfl rfl (w_isIn' (lo := 0) (hi := 4095) h2 _ _) ?_
  refine zx_gp 19 rfl ?_
  refine zx_bal rfl rfl rfl rfl hF.2.2.2.2.2.2.2.2.2.2.1 ?_
  refine zx_gp 19 rfl ?_
  refine zx_c rfl rfl rfl rfl (m_rf2 _) ?_
  refine zx_gp 19 rfl ?_
  exact zx_r rfl rfl
theorem m_flush_t7 (hF : zFk F) (p1 p2 : Int32) (h1 : zwi p1 0 2 = 1) (h2 : zwi p2 0 4095 = 1) (d : Nat) : zCr (d + 2) 160 [.ref 113, .int 7, .int p1, .int p2] (zHx F G L) (.inl (some (.int 0))) (zHt F G L 2) := by
  refine zx_in rfl rfl ?_
  refine zx_gp 19 rfl ?_
  refine zx_c rfl rfl rfl rfl (w_isIn' (lo := 0) (hi := 7) (show zwi 7 0 7 = 1 by decide) _ _) ?_
  refine zx_gp 19 rfl ?_
  refine zx_c rfl rfl rfl rfl (w_isIn' (lo := 0) (hi := 2) h1 _ _) ?_
  refine zx_gp 19 rfl ?_
  refine zx_c rfl rfl rfl rfl (w_isIn' (lo := 0) (hi := 4095) h2 _ _) ?_
  refine zx_gp 19 rfl ?_
  refine zx_bal rfl rfl rfl rfl hF.2.2.2.2.2.2.2.2.2.2.2 ?_
  refine zx_gp 19 rfl ?_
  refine zx_c rfl rfl rfl rfl (m_rf2 _) ?_
  refine zx_gp 19 rfl ?_
  exact zx_r rfl rfl
theorem m_aside_0 (p0 p1 p2 : Int32) (h0 : zwi p0 0 7 = 0) (d : Nat) : zCr (d + 2) 164 [.ref 113, .int p0, .int p1, .int p2] (zHx F G L) (.inl (some (.int 0))) (zHt F G L 1) := by
  refine zx_in rfl rfl ?_
  refine zx_gp 19 rfl ?_
  refine zx_c rfl rfl rfl rfl (w_isIn' (lo := 0) (hi := 7) h0 _ _) ?_
  refine zx_gp 19 rfl ?_
  refine zx_c rfl rfl rfl rfl (m_rf1 _) ?_
  refine zx_gp 19 rfl ?_
  exact zx_r rfl rfl
theorem m_aside_1 (p0 p1 p2 : Int32) (h0 : zwi p0 0 7 = 1) (h1 : zwi p1 0 7 = 0) (d : Nat) : zCr (d + 2) 164 [.ref 113, .int p0, .int p1, .int p2] (zHx F G L) (.inl (some (.int 0))) (zHt F G L 1) := by
  refine zx_in rfl rfl ?_
  refine zx_gp 19 rfl ?_
  refine zx_c rfl rfl rfl rfl (w_isIn' (lo := 0) (hi := 7) h0 _ _) ?_
  refine zx_gp 19 rfl ?_
  refine zx_c rfl rfl rfl rfl (w_isIn' (lo := 0) (hi := 7) h1 _ _) ?_
  refine zx_gp 19 rfl ?_
  refine zx_c rfl rfl rfl rfl (m_rf1 _) ?_
  refine zx_gp 19 rfl ?_
  exact zx_r rfl rfl
theorem m_aside_2 (p0 p1 p2 : Int32) (h0 : zwi p0 0 7 = 1) (h1 : zwi p1 0 7 = 1) (h2 : zwi p2 0 3 = 0) (d : Nat) : zCr (d + 2) 164 [.ref 113, .int p0, .int p1, .int p2] (zHx F G L) (.inl (some (.int 0))) (zHt F G L 1) := by
  refine zx_in rfl rfl ?_
  refine zx_gp 19 rfl ?_
  refine zx_c rfl rfl rfl rfl (w_isIn' (lo := 0) (hi := 7) h0 _ _) ?_
  refine zx_gp 19 rfl ?_
  refine zx_c rfl rfl rfl rfl (w_isIn' (lo := 0) (hi := 7) h1 _ _) ?_
  refine zx_gp 19 rfl ?_
  refine zx_c rfl rfl rfl rfl (w_isIn' (lo := 0) (hi := 3) h2 _ _) ?_
  refine zx_gp 19 rfl ?_
  refine zx_c rfl rfl rfl rfl (m_rf1 _) ?_
  refine zx_gp 19 rfl ?_
  exact zx_r rfl rfl
theorem m_aside_t0 (hF : zFk F) (p1 p2 : Int32) (h1 : zwi p1 0 7 = 1) (h2 : zwi p2 0 3 = 1) (d : Nat) : zCr (d + 2) 164 [.ref 113, .int 0, .int p1, .int p2] (zHx F G L) (.inl (some (.int 0))) (zHt F G L 2) := by
  refine zx_in rfl rfl ?_
  refine zx_gp 19 rfl ?_
  refine zx_c rfl rfl rfl rfl (w_isIn' (lo := 0) (hi := 7) (show zwi 0 0 7 = 1 by decide) _ _) ?_
  refine zx_gp 19 rfl ?_
  refine zx_c rfl rfl rfl rfl (w_isIn' (lo := 0) (hi := 7) h1 _ _) ?_
  refine zx_gp 19 rfl ?_
  refine zx_c rfl rfl rfl rfl (w_isIn' (lo := 0) (hi := 3) h2 _ _) ?_
  refine zx_gp 19 rfl ?_
  refine zx_bal rfl rfl rfl rfl hF.2.2.2.2.1 ?_
  refine zx_gp 19 rfl ?_
  refine zx_c rfl rfl rfl rfl (m_rf2 _) ?_
  refine zx_gp 19 rfl ?_
  exact zx_r rfl rfl
theorem m_aside_t1 (hF : zFk F) (p1 p2 : Int32) (h1 : zwi p1 0 7 = 1) (h2 : zwi p2 0 3 = 1) (d : Nat) : zCr (d + 2) 164 [.ref 113, .int 1, .int p1, .int p2] (zHx F G L) (.inl (some (.int 0))) (zHt F G L 2) := by
  refine zx_in rfl rfl ?_
  refine zx_gp 19 rfl ?_
  refine zx_c rfl rfl rfl rfl (w_isIn' (lo := 0) (hi := 7) (show zwi 1 0 7 = 1 by decide) _ _) ?_
  refine zx_gp 19 rfl ?_
  refine zx_c rfl rfl rfl rfl (w_isIn' (lo := 0) (hi := 7) h1 _ _) ?_
  refine zx_gp 19 rfl ?_
  refine zx_c rfl rfl rfl rfl (w_isIn' (lo := 0) (hi := 3) h2 _ _) ?_
  refine zx_gp 19 rfl ?_
  refine zx_bal rfl rfl rfl rfl hF.2.2.2.2.2.1 ?_
  refine zx_gp 19 rfl ?_
  refine zx_c rfl rfl rfl rfl (m_rf2 _) ?_
  refine zx_gp 19 rfl ?_
  exact zx_r rfl rfl
theorem m_aside_t2 (hF : zFk F) (p1 p2 : Int32) (h1 : zwi p1 0 7 = 1) (h2 : zwi p2 0 3 = 1) (d : Nat) : zCr (d + 2) 164 [.ref 113, .int 2, .int p1, .int p2] (zHx F G L) (.inl (some (.int 0))) (zHt F G L 2) := by
  refine zx_in rfl rfl ?_
  refine zx_gp 19 rfl ?_
  refine zx_c rfl rfl rfl rfl (w_isIn' (lo := 0) (hi := 7) (show zwi 2 0 7 = 1 by decide) _ _) ?_
  refine zx_gp 19 rfl ?_
  refine zx_c rfl rfl rfl rfl (w_isIn' (lo := 0) (hi := 7) h1 _ _) ?_
  refine zx_gp 19 rfl ?_
  refine zx_c rfl rfl rfl rfl (w_isIn' (lo := 0) (hi := 3) h2 _ _) ?_
  refine zx_gp 19 rfl ?_
  refine zx_bal rfl rfl rfl rfl hF.2.2.2.2.2.2.1 ?_
  refine zx_gp 19 rfl ?_
  refine zx_c rfl rfl rfl rfl (m_rf2 _) ?_
  refine zx_gp 19 rfl ?_
  exact zx_r rfl rfl
theorem m_aside_t3 (hF : zFk F) (p1 p2 : Int32) (h1 : zwi p1 0 7 = 1) (h2 : zwi p2 0 3 = 1) (d : Nat) : zCr (d + 2) 164 [.ref 113, .int 3, .int p1, .int p2] (zHx F G L) (.inl (some (.int 0))) (zHt F G L 2) := by
  refine zx_in rfl rfl ?_
  refine zx_gp 19 rfl ?_
  refine zx_c rfl rfl rfl rfl (w_isIn' (lo := 0) (hi := 7) (show zwi 3 0 7 = 1 by decide) _ _) ?_
  refine zx_gp 19 rfl ?_
  refine zx_c rfl rfl rfl rfl (w_isIn' (lo := 0) (hi := 7) h1 _ _) ?_
  refine zx_gp 19 rfl ?_
  refine zx_c rfl rfl rfl rfl (w_isIn' (lo := 0) (hi := 3) h2 _ _) ?_
  refine zx_gp 19 rfl ?_
  refine zx_bal rfl rfl rfl rfl hF.2.2.2.2.2.2.2.1 ?_
  refine zx_gp 19 rfl ?_
  refine zx_c rfl rfl rfl rfl (m_rf2 _) ?_
  refine zx_gp 19 rfl ?_
  exact zx_r rfl rfl
theorem m_aside_t4 (hF : zFk F) (p1 p2 : Int32) (h1 : zwi p1 0 7 = 1) (h2 : zwi p2 0 3 = 1) (d : Nat) : zCr (d + 2) 164 [.ref 113, .int 4, .int p1, .int p2] (zHx F G L) (.inl (some (.int 0))) (zHt F G L 2) := by
  refine zx_in rfl rfl ?_
  refine zx_gp 19 rfl ?_
  refine zx_c rfl rfl rfl rfl (w_isIn' (lo := 0) (hi := 7) (show zwi 4 0 7 = 1 by decide) _ _) ?_
  refine zx_gp 19 rfl ?_
  refine zx_c rfl rfl rfl rfl (w_isIn' (lo := 0) (hi := 7) h1 _ _) ?_
  refine zx_gp 19 rfl ?_
  refine zx_c rfl rfl rfl rfl (w_isIn' (lo := 0) (hi := 3) h2 _ _) ?_
  refine zx_gp 19 rfl ?_
  refine zx_bal rfl rfl rfl rfl hF.2.2.2.2.2.2.2.2.1 ?_
  refine zx_gp 19 rfl ?_
  refine zx_c rfl rfl rfl rfl (m_rf2 _) ?_
  refine zx_gp 19 rfl ?_
  exact zx_r rfl rfl
theorem m_aside_t5 (hF : zFk F) (p1 p2 : Int32) (h1 : zwi p1 0 7 = 1) (h2 : zwi p2 0 3 = 1) (d : Nat) : zCr (d + 2) 164 [.ref 113, .int 5, .int p1, .int p2] (zHx F G L) (.inl (some (.int 0))) (zHt F G L 2) := by
  refine zx_in rfl rfl ?_
  refine zx_gp 19 rfl ?_
  refine zx_c rfl rfl rfl rfl (w_isIn' (lo := 0) (hi := 7) (show zwi 5 0 7 = 1 by decide) _ _) ?_
  refine zx_gp 19 rfl ?_
  refine zx_c rfl rfl rfl rfl (w_isIn' (lo := 0) (hi := 7) h1 _ _) ?_
  refine zx_gp 19 rfl ?_
  refine zx_c rfl rfl rfl rfl (w_isIn' (lo := 0) (hi := 3) h2 _ _) ?_
  refine zx_gp 19 rfl ?_
  refine zx_bal rfl rfl rfl rfl hF.2.2.2.2.2.2.2.2.2.1 ?_
  refine zx_gp 19 rfl ?_
  refine zx_c rfl rfl rfl rfl (m_rf2 _) ?_
  refine zx_gp 19 rfl ?_
  exact zx_r rfl rfl
theorem m_aside_t6 (hF : zFk F) (p1 p2 : Int32) (h1 : zwi p1 0 7 = 1) (h2 : zwi p2 0 3 = 1) (d : Nat) : zCr (d + 2) 164 [.ref 113, .int 6, .int p1, .int p2] (zHx F G L) (.inl (some (.int 0))) (zHt F G L 2) := by
  refine zx_in rfl rfl ?_
  refine zx_gp 19 rfl ?_
  refine zx_c rfl rfl rfl rfl (w_isIn' (lo := 0) (hi := 7) (show zwi 6 0 7 = 1 by decide) _ _) ?_
  refine zx_gp 19 rfl ?_
  refine zx_c rfl rfl rfl rfl (w_isIn' (lo := 0) (hi := 7) h1 _ _) ?_
  refine zx_gp 19 rfl ?_
  refine zx_c rfl rfl rfl rfl (w_isIn' (lo := 0) (hi := 3) h2 _ _) ?_
  refine zx_gp 19 rfl ?_
  refine zx_bal rfl rfl rfl rfl hF.2.2.2.2.2.2.2.2.2.2.1 ?_
  refine zx_gp 19 rfl ?_
  refine zx_c rfl rfl rfl rfl (m_rf2 _) ?_
  refine zx_gp 19 rfl ?_
  exact zx_r rfl rfl
theorem m_aside_t7 (hF : zFk F) (p1 p2 : Int32) (h1 : zwi p1 0 7 = 1) (h2 : zwi p2 0 3 = 1) (d : Nat) : zCr (d + 2) 164 [.ref 113, .int 7, .int p1, .int p2] (zHx F G L) (.inl (some (.int 0))) (zHt F G L 2) := by
  refine zx_in rfl rfl ?_
  refine zx_gp 19 rfl ?_
  refine zx_c rfl rfl rfl rfl (w_isIn' (lo := 0) (hi := 7) (show zwi 7 0 7 = 1 by decide) _ _) ?_
  refine zx_gp 19 rfl ?_
  refine zx_c rfl rfl rfl rfl (w_isIn' (lo := 0) (hi := 7) h1 _ _) ?_
  refine zx_gp 19 rfl ?_
  refine zx_c rfl rfl rfl rfl (w_isIn' (lo := 0) (hi := 3) h2 _ _) ?_
  refine zx_gp 19 rfl ?_
  refine zx_bal rfl rfl rfl rfl hF.2.2.2.2.2.2.2.2.2.2.2 ?_
  refine zx_gp 19 rfl ?_
  refine zx_c rfl rfl rfl rfl (m_rf2 _) ?_
  refine zx_gp 19 rfl ?_
  exact zx_r rfl rfl
theorem m_target_0 (p0 p1 : Int32) (h0 : zwi p0 0 3 = 0) (d : Nat) : zCr (d + 2) 180 [.ref 113, .int p0, .int p1] (zHx F G L) (.inl (some (.int 0))) (zHt F G L 1) := by
  refine zx_in rfl rfl ?_
  refine zx_gp 19 rfl ?_
  refine zx_c rfl rfl rfl rfl (w_isIn' (lo := 0) (hi := 3) h0 _ _) ?_
  refine zx_gp 19 rfl ?_
  refine zx_c rfl rfl rfl rfl (m_rf1 _) ?_
  refine zx_gp 19 rfl ?_
  exact zx_r rfl rfl
theorem m_target_1 (p0 p1 : Int32) (h0 : zwi p0 0 3 = 1) (h1 : zwi p1 0 128 = 0) (d : Nat) : zCr (d + 2) 180 [.ref 113, .int p0, .int p1] (zHx F G L) (.inl (some (.int 0))) (zHt F G L 1) := by
  refine zx_in rfl rfl ?_
  refine zx_gp 19 rfl ?_
  refine zx_c rfl rfl rfl rfl (w_isIn' (lo := 0) (hi := 3) h0 _ _) ?_
  refine zx_gp 19 rfl ?_
  refine zx_c rfl rfl rfl rfl (w_isIn' (lo := 0) (hi := 128) h1 _ _) ?_
  refine zx_gp 19 rfl ?_
  refine zx_c rfl rfl rfl rfl (m_rf1 _) ?_
  refine zx_gp 19 rfl ?_
  exact zx_r rfl rfl
theorem m_target_t0 (hF : zFk F) (p1 : Int32) (h1 : zwi p1 0 128 = 1) (d : Nat) : zCr (d + 2) 180 [.ref 113, .int 0, .int p1] (zHx F G L) (.inl (some (.int 0))) (zHt F G L 2) := by
  refine zx_in rfl rfl ?_
  refine zx_gp 19 rfl ?_
  refine zx_c rfl rfl rfl rfl (w_isIn' (lo := 0) (hi := 3) (show zwi 0 0 3 = 1 by decide) _ _) ?_
  refine zx_gp 19 rfl ?_
  refine zx_c rfl rfl rfl rfl (w_isIn' (lo := 0) (hi := 128) h1 _ _) ?_
  refine zx_gp 19 rfl ?_
  refine zx_bal rfl rfl rfl rfl hF.1 ?_
  refine zx_gp 19 rfl ?_
  refine zx_c rfl rfl rfl rfl (m_rf2 _) ?_
  refine zx_gp 19 rfl ?_
  exact zx_r rfl rfl
theorem m_target_t1 (hF : zFk F) (p1 : Int32) (h1 : zwi p1 0 128 = 1) (d : Nat) : zCr (d + 2) 180 [.ref 113, .int 1, .int p1] (zHx F G L) (.inl (some (.int 0))) (zHt F G L 2) := by
  refine zx_in rfl rfl ?_
  refine zx_gp 19 rfl ?_
  refine zx_c rfl rfl rfl rfl (w_isIn' (lo := 0) (hi := 3) (show zwi 1 0 3 = 1 by decide) _ _) ?_
  refine zx_gp 19 rfl ?_
  refine zx_c rfl rfl rfl rfl (w_isIn' (lo := 0) (hi := 128) h1 _ _) ?_
  refine zx_gp 19 rfl ?_
  refine zx_bal rfl rfl rfl rfl hF.2.1 ?_
  refine zx_gp 19 rfl ?_
  refine zx_c rfl rfl rfl rfl (m_rf2 _) ?_
  refine zx_gp 19 rfl ?_
  exact zx_r rfl rfl
theorem m_target_t2 (hF : zFk F) (p1 : Int32) (h1 : zwi p1 0 128 = 1) (d : Nat) : zCr (d + 2) 180 [.ref 113, .int 2, .int p1] (zHx F G L) (.inl (some (.int 0))) (zHt F G L 2) := by
  refine zx_in rfl rfl ?_
  refine zx_gp 19 rfl ?_
  refine zx_c rfl rfl rfl rfl (w_isIn' (lo := 0) (hi := 3) (show zwi 2 0 3 = 1 by decide) _ _) ?_
  refine zx_gp 19 rfl ?_
  refine zx_c rfl rfl rfl rfl (w_isIn' (lo := 0) (hi := 128) h1 _ _) ?_
  refine zx_gp 19 rfl ?_
  refine zx_bal rfl rfl rfl rfl hF.2.2.1 ?_
  refine zx_gp 19 rfl ?_
  refine zx_c rfl rfl rfl rfl (m_rf2 _) ?_
  refine zx_gp 19 rfl ?_
  exact zx_r rfl rfl
theorem m_target_t3 (hF : zFk F) (p1 : Int32) (h1 : zwi p1 0 128 = 1) (d : Nat) : zCr (d + 2) 180 [.ref 113, .int 3, .int p1] (zHx F G L) (.inl (some (.int 0))) (zHt F G L 2) := by
  refine zx_in rfl rfl ?_
  refine zx_gp 19 rfl ?_
  refine zx_c rfl rfl rfl rfl (w_isIn' (lo := 0) (hi := 3) (show zwi 3 0 3 = 1 by decide) _ _) ?_
  refine zx_gp 19 rfl ?_
  refine zx_c rfl rfl rfl rfl (w_isIn' (lo := 0) (hi := 128) h1 _ _) ?_
  refine zx_gp 19 rfl ?_
  refine zx_bal rfl rfl rfl rfl hF.2.2.2.1 ?_
  refine zx_gp 19 rfl ?_
  refine zx_c rfl rfl rfl rfl (m_rf2 _) ?_
  refine zx_gp 19 rfl ?_
  exact zx_r rfl rfl
theorem m_harvest_0 (p0 : Int32) (h0 : zwi p0 0 3 = 0) (d : Nat) : zCr (d + 2) 183 [.ref 113, .int p0] (zHx F G L) (.inl (some (.int 0))) (zHt F G L 1) := by
  refine zx_in rfl rfl ?_
  refine zx_gp 19 rfl ?_
  refine zx_c rfl rfl rfl rfl (w_isIn' (lo := 0) (hi := 3) h0 _ _) ?_
  refine zx_gp 19 rfl ?_
  refine zx_c rfl rfl rfl rfl (m_rf1 _) ?_
  refine zx_gp 19 rfl ?_
  exact zx_r rfl rfl
theorem m_harvest_t0 (hF : zFk F)  (d : Nat) : zCr (d + 2) 183 [.ref 113, .int 0] (zHx F G L) (.inl (some (.int 0))) (zHt F G L 2) := by
  refine zx_in rfl rfl ?_
  refine zx_gp 19 rfl ?_
  refine zx_c rfl rfl rfl rfl (w_isIn' (lo := 0) (hi := 3) (show zwi 0 0 3 = 1 by decide) _ _) ?_
  refine zx_gp 19 rfl ?_
  refine zx_bal rfl rfl rfl rfl hF.1 ?_
  refine zx_gp 19 rfl ?_
  refine zx_c rfl rfl rfl rfl (m_rf2 _) ?_
  refine zx_gp 19 rfl ?_
  exact zx_r rfl rfl
theorem m_harvest_t1 (hF : zFk F)  (d : Nat) : zCr (d + 2) 183 [.ref 113, .int 1] (zHx F G L) (.inl (some (.int 0))) (zHt F G L 2) := by
  refine zx_in rfl rfl ?_
  refine zx_gp 19 rfl ?_
  refine zx_c rfl rfl rfl rfl (w_isIn' (lo := 0) (hi := 3) (show zwi 1 0 3 = 1 by decide) _ _) ?_
  refine zx_gp 19 rfl ?_
  refine zx_bal rfl rfl rfl rfl hF.2.1 ?_
  refine zx_gp 19 rfl ?_
  refine zx_c rfl rfl rfl rfl (m_rf2 _) ?_
  refine zx_gp 19 rfl ?_
  exact zx_r rfl rfl
theorem m_harvest_t2 (hF : zFk F)  (d : Nat) : zCr (d + 2) 183 [.ref 113, .int 2] (zHx F G L) (.inl (some (.int 0))) (zHt F G L 2) := by
  refine zx_in rfl rfl ?_
  refine zx_gp 19 rfl ?_
  refine zx_c rfl rfl rfl rfl (w_isIn' (lo := 0) (hi := 3) (show zwi 2 0 3 = 1 by decide) _ _) ?_
  refine zx_gp 19 rfl ?_
  refine zx_bal rfl rfl rfl rfl hF.2.2.1 ?_
  refine zx_gp 19 rfl ?_
  refine zx_c rfl rfl rfl rfl (m_rf2 _) ?_
  refine zx_gp 19 rfl ?_
  exact zx_r rfl rfl
theorem m_harvest_t3 (hF : zFk F)  (d : Nat) : zCr (d + 2) 183 [.ref 113, .int 3] (zHx F G L) (.inl (some (.int 0))) (zHt F G L 2) := by
  refine zx_in rfl rfl ?_
  refine zx_gp 19 rfl ?_
  refine zx_c rfl rfl rfl rfl (w_isIn' (lo := 0) (hi := 3) (show zwi 3 0 3 = 1 by decide) _ _) ?_
  refine zx_gp 19 rfl ?_
  refine zx_bal rfl rfl rfl rfl hF.2.2.2.1 ?_
  refine zx_gp 19 rfl ?_
  refine zx_c rfl rfl rfl rfl (m_rf2 _) ?_
  refine zx_gp 19 rfl ?_
  exact zx_r rfl rfl
theorem m_entry_0 (p0 p1 : Int32) (h0 : zwi p0 0 3 = 0) (d : Nat) : zCr (d + 2) 188 [.ref 113, .int p0, .int p1] (zHx F G L) (.inl (some (.int 0))) (zHt F G L 1) := by
  refine zx_in rfl rfl ?_
  refine zx_gp 19 rfl ?_
  refine zx_c rfl rfl rfl rfl (w_isIn' (lo := 0) (hi := 3) h0 _ _) ?_
  refine zx_gp 19 rfl ?_
  refine zx_c rfl rfl rfl rfl (m_rf1 _) ?_
  refine zx_gp 19 rfl ?_
  exact zx_r rfl rfl
theorem m_entry_1 (p0 p1 : Int32) (h0 : zwi p0 0 3 = 1) (h1 : zwi p1 0 127 = 0) (d : Nat) : zCr (d + 2) 188 [.ref 113, .int p0, .int p1] (zHx F G L) (.inl (some (.int 0))) (zHt F G L 1) := by
  refine zx_in rfl rfl ?_
  refine zx_gp 19 rfl ?_
  refine zx_c rfl rfl rfl rfl (w_isIn' (lo := 0) (hi := 3) h0 _ _) ?_
  refine zx_gp 19 rfl ?_
  refine zx_c rfl rfl rfl rfl (w_isIn' (lo := 0) (hi := 127) h1 _ _) ?_
  refine zx_gp 19 rfl ?_
  refine zx_c rfl rfl rfl rfl (m_rf1 _) ?_
  refine zx_gp 19 rfl ?_
  exact zx_r rfl rfl
theorem m_entry_t0 (hF : zFk F) (p1 : Int32) (h1 : zwi p1 0 127 = 1) (d : Nat) : zCr (d + 2) 188 [.ref 113, .int 0, .int p1] (zHx F G L) (.inl (some (.int 0))) (zHt F G L 2) := by
  refine zx_in rfl rfl ?_
  refine zx_gp 19 rfl ?_
  refine zx_c rfl rfl rfl rfl (w_isIn' (lo := 0) (hi := 3) (show zwi 0 0 3 = 1 by decide) _ _) ?_
  refine zx_gp 19 rfl ?_
  refine zx_c rfl rfl rfl rfl (w_isIn' (lo := 0) (hi := 127) h1 _ _) ?_
  refine zx_gp 19 rfl ?_
  refine zx_bal rfl rfl rfl rfl hF.1 ?_
  refine zx_gp 19 rfl ?_
  refine zx_c rfl rfl rfl rfl (m_rf2 _) ?_
  refine zx_gp 19 rfl ?_
  exact zx_r rfl rfl
theorem m_entry_t1 (hF : zFk F) (p1 : Int32) (h1 : zwi p1 0 127 = 1) (d : Nat) : zCr (d + 2) 188 [.ref 113, .int 1, .int p1] (zHx F G L) (.inl (some (.int 0))) (zHt F G L 2) := by
  refine zx_in rfl rfl ?_
  refine zx_gp 19 rfl ?_
  refine zx_c rfl rfl rfl rfl (w_isIn' (lo := 0) (hi := 3) (show zwi 1 0 3 = 1 by decide) _ _) ?_
  refine zx_gp 19 rfl ?_
  refine zx_c rfl rfl rfl rfl (w_isIn' (lo := 0) (hi := 127) h1 _ _) ?_
  refine zx_gp 19 rfl ?_
  refine zx_bal rfl rfl rfl rfl hF.2.1 ?_
  refine zx_gp 19 rfl ?_
  refine zx_c rfl rfl rfl rfl (m_rf2 _) ?_
  refine zx_gp 19 rfl ?_
  exact zx_r rfl rfl
theorem m_entry_t2 (hF : zFk F) (p1 : Int32) (h1 : zwi p1 0 127 = 1) (d : Nat) : zCr (d + 2) 188 [.ref 113, .int 2, .int p1] (zHx F G L) (.inl (some (.int 0))) (zHt F G L 2) := by
  refine zx_in rfl rfl ?_
  refine zx_gp 19 rfl ?_
  refine zx_c rfl rfl rfl rfl (w_isIn' (lo := 0) (hi := 3) (show zwi 2 0 3 = 1 by decide) _ _) ?_
  refine zx_gp 19 rfl ?_
  refine zx_c rfl rfl rfl rfl (w_isIn' (lo := 0) (hi := 127) h1 _ _) ?_
  refine zx_gp 19 rfl ?_
  refine zx_bal rfl rfl rfl rfl hF.2.2.1 ?_
  refine zx_gp 19 rfl ?_
  refine zx_c rfl rfl rfl rfl (m_rf2 _) ?_
  refine zx_gp 19 rfl ?_
  exact zx_r rfl rfl
theorem m_entry_t3 (hF : zFk F) (p1 : Int32) (h1 : zwi p1 0 127 = 1) (d : Nat) : zCr (d + 2) 188 [.ref 113, .int 3, .int p1] (zHx F G L) (.inl (some (.int 0))) (zHt F G L 2) := by
  refine zx_in rfl rfl ?_
  refine zx_gp 19 rfl ?_
  refine zx_c rfl rfl rfl rfl (w_isIn' (lo := 0) (hi := 3) (show zwi 3 0 3 = 1 by decide) _ _) ?_
  refine zx_gp 19 rfl ?_
  refine zx_c rfl rfl rfl rfl (w_isIn' (lo := 0) (hi := 127) h1 _ _) ?_
  refine zx_gp 19 rfl ?_
  refine zx_bal rfl rfl rfl rfl hF.2.2.2.1 ?_
  refine zx_gp 19 rfl ?_
  refine zx_c rfl rfl rfl rfl (m_rf2 _) ?_
  refine zx_gp 19 rfl ?_
  exact zx_r rfl rfl
theorem m_peek_0 (p0 p1 : Int32) (h0 : zwi p0 0 3 = 0) (d : Nat) : zCr (d + 2) 197 [.ref 113, .int p0, .int p1] (zHx F G L) (.inl (some (.int 0))) (zHt F G L 1) := by
  refine zx_in rfl rfl ?_
  refine zx_gp 19 rfl ?_
  refine zx_c rfl rfl rfl rfl (w_isIn' (lo := 0) (hi := 3) h0 _ _) ?_
  refine zx_gp 19 rfl ?_
  refine zx_c rfl rfl rfl rfl (m_rf1 _) ?_
  refine zx_gp 19 rfl ?_
  exact zx_r rfl rfl
theorem m_peek_1 (p0 p1 : Int32) (h0 : zwi p0 0 3 = 1) (h1 : zwi p1 0 2047 = 0) (d : Nat) : zCr (d + 2) 197 [.ref 113, .int p0, .int p1] (zHx F G L) (.inl (some (.int 0))) (zHt F G L 1) := by
  refine zx_in rfl rfl ?_
  refine zx_gp 19 rfl ?_
  refine zx_c rfl rfl rfl rfl (w_isIn' (lo := 0) (hi := 3) h0 _ _) ?_
  refine zx_gp 19 rfl ?_
  refine zx_c rfl rfl rfl rfl (w_isIn' (lo := 0) (hi := 2047) h1 _ _) ?_
  refine zx_gp 19 rfl ?_
  refine zx_c rfl rfl rfl rfl (m_rf1 _) ?_
  refine zx_gp 19 rfl ?_
  exact zx_r rfl rfl
theorem m_peek_t0 (hF : zFk F) (p1 : Int32) (h1 : zwi p1 0 2047 = 1) (d : Nat) : zCr (d + 2) 197 [.ref 113, .int 0, .int p1] (zHx F G L) (.inl (some (.int 0))) (zHt F G L 2) := by
  refine zx_in rfl rfl ?_
  refine zx_gp 19 rfl ?_
  refine zx_c rfl rfl rfl rfl (w_isIn' (lo := 0) (hi := 3) (show zwi 0 0 3 = 1 by decide) _ _) ?_
  refine zx_gp 19 rfl ?_
  refine zx_c rfl rfl rfl rfl (w_isIn' (lo := 0) (hi := 2047) h1 _ _) ?_
  refine zx_gp 19 rfl ?_
  refine zx_bal rfl rfl rfl rfl hF.1 ?_
  refine zx_gp 19 rfl ?_
  refine zx_c rfl rfl rfl rfl (m_rf2 _) ?_
  refine zx_gp 19 rfl ?_
  exact zx_r rfl rfl
theorem m_peek_t1 (hF : zFk F) (p1 : Int32) (h1 : zwi p1 0 2047 = 1) (d : Nat) : zCr (d + 2) 197 [.ref 113, .int 1, .int p1] (zHx F G L) (.inl (some (.int 0))) (zHt F G L 2) := by
  refine zx_in rfl rfl ?_
  refine zx_gp 19 rfl ?_
  refine zx_c rfl rfl rfl rfl (w_isIn' (lo := 0) (hi := 3) (show zwi 1 0 3 = 1 by decide) _ _) ?_
  refine zx_gp 19 rfl ?_
  refine zx_c rfl rfl rfl rfl (w_isIn' (lo := 0) (hi := 2047) h1 _ _) ?_
  refine zx_gp 19 rfl ?_
  refine zx_bal rfl rfl rfl rfl hF.2.1 ?_
  refine zx_gp 19 rfl ?_
  refine zx_c rfl rfl rfl rfl (m_rf2 _) ?_
  refine zx_gp 19 rfl ?_
  exact zx_r rfl rfl
theorem m_peek_t2 (hF : zFk F) (p1 : Int32) (h1 : zwi p1 0 2047 = 1) (d : Nat) : zCr (d + 2) 197 [.ref 113, .int 2, .int p1] (zHx F G L) (.inl (some (.int 0))) (zHt F G L 2) := by
  refine zx_in rfl rfl ?_
  refine zx_gp 19 rfl ?_
  refine zx_c rfl rfl rfl rfl (w_isIn' (lo := 0) (hi := 3) (show zwi 2 0 3 = 1 by decide) _ _) ?_
  refine zx_gp 19 rfl ?_
  refine zx_c rfl rfl rfl rfl (w_isIn' (lo := 0) (hi := 2047) h1 _ _) ?_
  refine zx_gp 19 rfl ?_
  refine zx_bal rfl rfl rfl rfl hF.2.2.1 ?_
  refine zx_gp 19 rfl ?_
  refine zx_c rfl rfl rfl rfl (m_rf2 _) ?_
  refine zx_gp 19 rfl ?_
  exact zx_r rfl rfl
theorem m_peek_t3 (hF : zFk F) (p1 : Int32) (h1 : zwi p1 0 2047 = 1) (d : Nat) : zCr (d + 2) 197 [.ref 113, .int 3, .int p1] (zHx F G L) (.inl (some (.int 0))) (zHt F G L 2) := by
  refine zx_in rfl rfl ?_
  refine zx_gp 19 rfl ?_
  refine zx_c rfl rfl rfl rfl (w_isIn' (lo := 0) (hi := 3) (show zwi 3 0 3 = 1 by decide) _ _) ?_
  refine zx_gp 19 rfl ?_
  refine zx_c rfl rfl rfl rfl (w_isIn' (lo := 0) (hi := 2047) h1 _ _) ?_
  refine zx_gp 19 rfl ?_
  refine zx_bal rfl rfl rfl rfl hF.2.2.2.1 ?_
  refine zx_gp 19 rfl ?_
  refine zx_c rfl rfl rfl rfl (m_rf2 _) ?_
  refine zx_gp 19 rfl ?_
  exact zx_r rfl rfl
theorem m_count_0 (p0 p1 : Int32) (h0 : zwi p0 0 3 = 0) (d : Nat) : zCr (d + 2) 210 [.ref 113, .int p0, .int p1] (zHx F G L) (.inl (some (.int 0))) (zHt F G L 1) := by
  refine zx_in rfl rfl ?_
  refine zx_gp 19 rfl ?_
  refine zx_c rfl rfl rfl rfl (w_isIn' (lo := 0) (hi := 3) h0 _ _) ?_
  refine zx_gp 19 rfl ?_
  refine zx_c rfl rfl rfl rfl (m_rf1 _) ?_
  refine zx_gp 19 rfl ?_
  exact zx_r rfl rfl
theorem m_count_1 (p0 p1 : Int32) (h0 : zwi p0 0 3 = 1) (h1 : zwi p1 0 11 = 0) (d : Nat) : zCr (d + 2) 210 [.ref 113, .int p0, .int p1] (zHx F G L) (.inl (some (.int 0))) (zHt F G L 1) := by
  refine zx_in rfl rfl ?_
  refine zx_gp 19 rfl ?_
  refine zx_c rfl rfl rfl rfl (w_isIn' (lo := 0) (hi := 3) h0 _ _) ?_
  refine zx_gp 19 rfl ?_
  refine zx_c rfl rfl rfl rfl (w_isIn' (lo := 0) (hi := 11) h1 _ _) ?_
  refine zx_gp 19 rfl ?_
  refine zx_c rfl rfl rfl rfl (m_rf1 _) ?_
  refine zx_gp 19 rfl ?_
  exact zx_r rfl rfl
theorem m_count_t0 (hF : zFk F) (p1 : Int32) (h1 : zwi p1 0 11 = 1) (d : Nat) : zCr (d + 2) 210 [.ref 113, .int 0, .int p1] (zHx F G L) (.inl (some (.int 0))) (zHt F G L 2) := by
  refine zx_in rfl rfl ?_
  refine zx_gp 19 rfl ?_
  refine zx_c rfl rfl rfl rfl (w_isIn' (lo := 0) (hi := 3) (show zwi 0 0 3 = 1 by decide) _ _) ?_
  refine zx_gp 19 rfl ?_
  refine zx_c rfl rfl rfl rfl (w_isIn' (lo := 0) (hi := 11) h1 _ _) ?_
  refine zx_gp 19 rfl ?_
  refine zx_bal rfl rfl rfl rfl hF.1 ?_
  refine zx_gp 19 rfl ?_
  refine zx_c rfl rfl rfl rfl (m_rf2 _) ?_
  refine zx_gp 19 rfl ?_
  exact zx_r rfl rfl
theorem m_count_t1 (hF : zFk F) (p1 : Int32) (h1 : zwi p1 0 11 = 1) (d : Nat) : zCr (d + 2) 210 [.ref 113, .int 1, .int p1] (zHx F G L) (.inl (some (.int 0))) (zHt F G L 2) := by
  refine zx_in rfl rfl ?_
  refine zx_gp 19 rfl ?_
  refine zx_c rfl rfl rfl rfl (w_isIn' (lo := 0) (hi := 3) (show zwi 1 0 3 = 1 by decide) _ _) ?_
  refine zx_gp 19 rfl ?_
  refine zx_c rfl rfl rfl rfl (w_isIn' (lo := 0) (hi := 11) h1 _ _) ?_
  refine zx_gp 19 rfl ?_
  refine zx_bal rfl rfl rfl rfl hF.2.1 ?_
  refine zx_gp 19 rfl ?_
  refine zx_c rfl rfl rfl rfl (m_rf2 _) ?_
  refine zx_gp 19 rfl ?_
  exact zx_r rfl rfl
theorem m_count_t2 (hF : zFk F) (p1 : Int32) (h1 : zwi p1 0 11 = 1) (d : Nat) : zCr (d + 2) 210 [.ref 113, .int 2, .int p1] (zHx F G L) (.inl (some (.int 0))) (zHt F G L 2) := by
  refine zx_in rfl rfl ?_
  refine zx_gp 19 rfl ?_
  refine zx_c rfl rfl rfl rfl (w_isIn' (lo := 0) (hi := 3) (show zwi 2 0 3 = 1 by decide) _ _) ?_
  refine zx_gp 19 rfl ?_
  refine zx_c rfl rfl rfl rfl (w_isIn' (lo := 0) (hi := 11) h1 _ _) ?_
  refine zx_gp 19 rfl ?_
  refine zx_bal rfl rfl rfl rfl hF.2.2.1 ?_
  refine zx_gp 19 rfl ?_
  refine zx_c rfl rfl rfl rfl (m_rf2 _) ?_
  refine zx_gp 19 rfl ?_
  exact zx_r rfl rfl
theorem m_count_t3 (hF : zFk F) (p1 : Int32) (h1 : zwi p1 0 11 = 1) (d : Nat) : zCr (d + 2) 210 [.ref 113, .int 3, .int p1] (zHx F G L) (.inl (some (.int 0))) (zHt F G L 2) := by
  refine zx_in rfl rfl ?_
  refine zx_gp 19 rfl ?_
  refine zx_c rfl rfl rfl rfl (w_isIn' (lo := 0) (hi := 3) (show zwi 3 0 3 = 1 by decide) _ _) ?_
  refine zx_gp 19 rfl ?_
  refine zx_c rfl rfl rfl rfl (w_isIn' (lo := 0) (hi := 11) h1 _ _) ?_
  refine zx_gp 19 rfl ?_
  refine zx_bal rfl rfl rfl rfl hF.2.2.2.1 ?_
  refine zx_gp 19 rfl ?_
  refine zx_c rfl rfl rfl rfl (m_rf2 _) ?_
  refine zx_gp 19 rfl ?_
  exact zx_r rfl rfl
theorem m_printed_0 (p0 p1 : Int32) (h0 : zwi p0 0 3 = 0) (d : Nat) : zCr (d + 2) 214 [.ref 113, .int p0, .int p1] (zHx F G L) (.inl (some (.int 0))) (zHt F G L 1) := by
  refine zx_in rfl rfl ?_
  refine zx_gp 19 rfl ?_
  refine zx_c rfl rfl rfl rfl (w_isIn' (lo := 0) (hi := 3) h0 _ _) ?_
  refine zx_gp 19 rfl ?_
  refine zx_c rfl rfl rfl rfl (m_rf1 _) ?_
  refine zx_gp 19 rfl ?_
  exact zx_r rfl rfl
theorem m_printed_t0 (hF : zFk F) (p1 : Int32)  (d : Nat) : zCr (d + 2) 214 [.ref 113, .int 0, .int p1] (zHx F G L) (.inl (some (.int 0))) (zHt F G L 2) := by
  refine zx_in rfl rfl ?_
  refine zx_gp 19 rfl ?_
  refine zx_c rfl rfl rfl rfl (w_isIn' (lo := 0) (hi := 3) (show zwi 0 0 3 = 1 by decide) _ _) ?_
  refine zx_gp 19 rfl ?_
  refine zx_bal rfl rfl rfl rfl hF.1 ?_
  refine zx_gp 19 rfl ?_
  refine zx_c rfl rfl rfl rfl (m_rf2 _) ?_
  refine zx_gp 19 rfl ?_
  exact zx_r rfl rfl
theorem m_printed_t1 (hF : zFk F) (p1 : Int32)  (d : Nat) : zCr (d + 2) 214 [.ref 113, .int 1, .int p1] (zHx F G L) (.inl (some (.int 0))) (zHt F G L 2) := by
  refine zx_in rfl rfl ?_
  refine zx_gp 19 rfl ?_
  refine zx_c rfl rfl rfl rfl (w_isIn' (lo := 0) (hi := 3) (show zwi 1 0 3 = 1 by decide) _ _) ?_
  refine zx_gp 19 rfl ?_
  refine zx_bal rfl rfl rfl rfl hF.2.1 ?_
  refine zx_gp 19 rfl ?_
  refine zx_c rfl rfl rfl rfl (m_rf2 _) ?_
  refine zx_gp 19 rfl ?_
  exact zx_r rfl rfl
theorem m_printed_t2 (hF : zFk F) (p1 : Int32)  (d : Nat) : zCr (d + 2) 214 [.ref 113, .int 2, .int p1] (zHx F G L) (.inl (some (.int 0))) (zHt F G L 2) := by
  refine zx_in rfl rfl ?_
  refine zx_gp 19 rfl ?_
  refine zx_c rfl rfl rfl rfl (w_isIn' (lo := 0) (hi := 3) (show zwi 2 0 3 = 1 by decide) _ _) ?_
  refine zx_gp 19 rfl ?_
  refine zx_bal rfl rfl rfl rfl hF.2.2.1 ?_
  refine zx_gp 19 rfl ?_
  refine zx_c rfl rfl rfl rfl (m_rf2 _) ?_
  refine zx_gp 19 rfl ?_
  exact zx_r rfl rfl
theorem m_printed_t3 (hF : zFk F) (p1 : Int32)  (d : Nat) : zCr (d + 2) 214 [.ref 113, .int 3, .int p1] (zHx F G L) (.inl (some (.int 0))) (zHt F G L 2) := by
  refine zx_in rfl rfl ?_
  refine zx_gp 19 rfl ?_
  refine zx_c rfl rfl rfl rfl (w_isIn' (lo := 0) (hi := 3) (show zwi 3 0 3 = 1 by decide) _ _) ?_
  refine zx_gp 19 rfl ?_
  refine zx_bal rfl rfl rfl rfl hF.2.2.2.1 ?_
  refine zx_gp 19 rfl ?_
  refine zx_c rfl rfl rfl rfl (m_rf2 _) ?_
  refine zx_gp 19 rfl ?_
  exact zx_r rfl rfl
theorem m_thrown (k : Int32) (d : Nat) : zCr (d + 1) 24 [.ref 113] (zHt F G L k) (.inl (some (.int k))) (zHt F G L k) := by
  refine zx_in rfl rfl ?_
  refine zx_go 9 rfl ?_
  exact zx_r rfl rfl
end ZMO
end
section
/-! MORE ROWS -/
section ZR5
variable {Pg : List zM} {FT : zFT} {FN : Nat → Nat} {X : zX} {cr : Nat → List Value → zH → zO → zH → Prop} {M : zM} {o : zO} {h h' : zH} {pc nc ns t : Nat} {lo : zL} {r : List Value} {en : zN} {x : Int32}
theorem zx_if {cd : ClassFile.Cond} {off : Int} {b : Bool} (hf : zfind (zIns M) pc = some en) (hi : en.2.1 = .ifCond cd off) (hx : zc1 cd x = b) (ht : ztgt en.1 off = some t) (k : zBx Pg FT FN X cr M o h' (bif b then t else pc + 3) lo r h nc ns) : zBx Pg FT FN X cr M o h' pc lo (.int x :: r) h nc ns := by
  have hpc := (zfind_eq hf).2
  refine zx_s hf (by rw [hi]; rfl) ?_ k
  unfold zstep
  rw [hi]
  dsimp only [zpush, zlod, zsto, zjmp, z1]
  rw [ht]
  dsimp only
  rw [hx, hpc]
theorem zx_sw {d lw hw : Int} {offs : Array Int} (hf : zfind (zIns M) pc = some en) (hi : en.2.1 = .tableswitch d lw hw offs) (hx : (decide (x.toInt < lw) || decide (hw < x.toInt)) = true) (ht : ztgt en.1 d = some t) (k : zBx Pg FT FN X cr M o h' t lo r h nc ns) : zBx Pg FT FN X cr M o h' pc lo (.int x :: r) h nc ns := by
  refine zx_s hf (by rw [hi]; rfl) ?_ k
  unfold zstep
  rw [hi]
  dsimp only [zpush, zlod, zsto, zjmp, z1]
  rw [hx, cond_true, ht]
/-- another name for the top of the stack -/
theorem zx_eq {y : Int32} (e : x = y) (k : zBx Pg FT FN X cr M o h' pc lo (.int y :: r) h nc ns) : zBx Pg FT FN X cr M o h' pc lo (.int x :: r) h nc ns := by
  subst e; exact k
end ZR5
theorem zwi_out {v lo hi : Int32} (h : zwi v lo hi = 0) : v < lo ∨ hi < v := by
  unfold zwi zc2 at h
  dsimp only at h
  cases h1 : decide (v < lo) with
  | true => exact Or.inl (of_decide_eq_true h1)
  | false =>
  rw [h1, cond_false] at h
  cases h2 : decide (hi < v) with
  | true => exact Or.inr (of_decide_eq_true h2)
  | false => rw [h2, cond_false] at h; exact absurd h (by decide)
theorem zwi_sw9 {v : Int32} (h : zwi v 0 9 = 0) : (decide (v.toInt < 0) || decide (9 < v.toInt)) = true := by
  rw [Bool.or_eq_true, decide_eq_true_eq, decide_eq_true_eq]
  rcases zwi_out h with q | q
  · exact Or.inl (Int32.lt_iff_toInt_lt.mp q)
  · exact Or.inr (Int32.lt_iff_toInt_lt.mp q)
theorem zwi_neg (v : Int32) : zwi v 0 (-1) = 0 := by
  rcases zwi_01 v 0 (-1) with q | q
  · exact q
  · obtain ⟨h1, h2⟩ := zwi_in q
    have a1 := Int32.le_iff_toInt_le.mp h1
    have a2 := Int32.le_iff_toInt_le.mp h2
    have e1 : (0 : Int32).toInt = 0 := rfl
    have e2 : (-1 : Int32).toInt = -1 := rfl
    omega
theorem zwi_nI {v hi : Int32} {n : Nat} (hM : hi.toInt = n) (h : zwi v 0 hi = 1) : ∃ j : Nat, j ≤ n ∧ v = nI j := by
  obtain ⟨h1, h2⟩ := zwi_in h
  exact nI_of2 hM (Int32.not_lt.mpr h1) h2
theorem zin_nI {j n : Nat} (h : j < n) (hn : n < 2 ^ 31) : zin (nI j) n = true := by
  unfold zin
  exact decide_eq_true (vp_in_nI h hn)
theorem zfrm {p0 p1 : Int32} (h0 : zwi p0 0 127 = 1) (h1 : zwi p1 0 15 = 1) : ∃ j : Nat, j < 2048 ∧ p0 * 16 + p1 = nI j ∧ 16 * p0 + p1 = nI j := by
  obtain ⟨a, ha, rfl⟩ := zwi_nI (n := 127) rfl h0
  obtain ⟨b, hb, rfl⟩ := zwi_nI (n := 15) rfl h1
  refine ⟨a * 16 + b, by omega, ?_, ?_⟩
  · rw [show (16 : Int32) = nI 16 from rfl, pk_mul, nI_add]
  · rw [show (16 : Int32) = nI 16 from rfl, pk_mul, nI_add, Nat.mul_comm]
/-- the arrays of the start -/
def zFz (F : Nat → Nat → Int32) : Prop := (∀ j, j < 2048 → F 2 j = 0) ∧ (∀ j, j < 128 → F 3 j = 0) ∧ (∀ j, j < 128 → F 4 j = -1) ∧ (∀ j, j < 128 → F 5 j = -1) ∧ (∀ j, j < 2048 → F 114 j = 0) ∧ (∀ j, j < 128 → F 115 j = 0)
/-! THE CLASS: the other methods -/
section ZCP
variable {F : Nat → Nat → Int32} {G : Nat → Nat → Option Nat} {L : Nat → Int64}
theorem w_gt {v : Int32} (hv : zwi v 0 3 = 1) (hG : zGk G) (d : Nat) : zCr (d + 2) 27 [.ref 0, .int v] (zHx F G L) (.inr 1) (zHx F G L) := by
  rcases zwi_3 hv with rfl | rfl | rfl | rfl
  · exact w_gt0 hG d
  · exact w_gt1 hG d
  · exact w_gt2 hG d
  · exact w_gt3 hG d
theorem w_vt {v : Int32} (hv : zwi v 0 7 = 1) (hG : zGk G) (d : Nat) : zCr (d + 2) 53 [.ref 0, .int v] (zHx F G L) (.inr 1) (zHx F G L) := by
  rcases zwi_7 hv with rfl | rfl | rfl | rfl | rfl | rfl | rfl | rfl
  · exact w_vt0 hG d
  · exact w_vt1 hG d
  · exact w_vt2 hG d
  · exact w_vt3 hG d
  · exact w_vt4 hG d
  · exact w_vt5 hG d
  · exact w_vt6 hG d
  · exact w_vt7 hG d
theorem k_set_0 (p0 p1 p2 : Int32) (h0 : zwi p0 0 7 = 0) (h : zH) (d : Nat) : zCr (d + 3) 54 [.ref 0, .int p0, .int p1, .int p2] h (.inr 0) h := by
  refine zx_in rfl rfl ?_
  refine zx_go 19 rfl ?_
  refine zx_c rfl rfl rfl rfl (w_isVcpu h0 _ _) ?_
  refine zx_go 19 rfl ?_
  exact zx_x rfl rfl rfl rfl (w_arg0 _ _) rfl rfl
theorem k_set_1 (p0 p1 p2 : Int32) (h0 : zwi p0 0 7 = 1) (h1 : zwi p1 0 9 = 0) (h : zH) (d : Nat) : zCr (d + 3) 54 [.ref 0, .int p0, .int p1, .int p2] h (.inr 0) h := by
  refine zx_in rfl rfl ?_
  refine zx_go 19 rfl ?_
  refine zx_c rfl rfl rfl rfl (w_isVcpu h0 _ _) ?_
  refine zx_go 19 rfl ?_
  refine zx_c rfl rfl rfl rfl (w_within' (lo := 0) (hi := 9) h1 _ _) ?_
  refine zx_go 19 rfl ?_
  exact zx_x rfl rfl rfl rfl (w_arg0 _ _) rfl rfl
theorem k_set_b0 (p0 p2 : Int32) (h0 : zwi p0 0 7 = 1) (h2 : zwi p2 0 65535 = 0) (h : zH) (d : Nat) : zCr (d + 3) 54 [.ref 0, .int p0, .int 0, .int p2] h (.inr 0) h := by
  refine zx_in rfl rfl ?_
  refine zx_go 19 rfl ?_
  refine zx_c rfl rfl rfl rfl (w_isVcpu h0 _ _) ?_
  refine zx_go 19 rfl ?_
  refine zx_c rfl rfl rfl rfl (w_within' (lo := 0) (hi := 9) (show zwi 0 0 9 = 1 by decide) _ _) ?_
  refine zx_go 19 rfl ?_
  refine zx_c rfl rfl rfl rfl (w_arg1 _ _) ?_
  refine zx_go 19 rfl ?_
  refine zx_c rfl rfl rfl rfl (w_within' (lo := 0) (hi := 65535) h2 _ _) ?_
  refine zx_go 19 rfl ?_
  exact zx_x rfl rfl rfl rfl (w_arg0 _ _) rfl rfl
theorem k_set_t0 (hG : zGk G) (p0 p2 : Int32) (h0 : zwi p0 0 7 = 1) (h2 : zwi p2 0 65535 = 1) (d : Nat) : zCr (d + 3) 54 [.ref 0, .int p0, .int 0, .int p2] (zHx F G L) (.inr 1) (zHx F G L) := by
  refine zx_in rfl rfl ?_
  refine zx_go 19 rfl ?_
  refine zx_c rfl rfl rfl rfl (w_isVcpu h0 _ _) ?_
  refine zx_go 19 rfl ?_
  refine zx_c rfl rfl rfl rfl (w_within' (lo := 0) (hi := 9) (show zwi 0 0 9 = 1 by decide) _ _) ?_
  refine zx_go 19 rfl ?_
  refine zx_c rfl rfl rfl rfl (w_arg1 _ _) ?_
  refine zx_go 19 rfl ?_
  refine zx_c rfl rfl rfl rfl (w_within' (lo := 0) (hi := 65535) h2 _ _) ?_
  refine zx_go 19 rfl ?_
  refine zx_c rfl rfl rfl rfl (w_arg1 _ _) ?_
  refine zx_go 19 rfl ?_
  exact zx_x rfl rfl rfl rfl (w_vt h0 hG _) rfl rfl
theorem k_set_b1 (p0 p2 : Int32) (h0 : zwi p0 0 7 = 1) (h2 : zwi p2 0 65535 = 0) (h : zH) (d : Nat) : zCr (d + 3) 54 [.ref 0, .int p0, .int 1, .int p2] h (.inr 0) h := by
  refine zx_in rfl rfl ?_
  refine zx_go 19 rfl ?_
  refine zx_c rfl rfl rfl rfl (w_isVcpu h0 _ _) ?_
  refine zx_go 19 rfl ?_
  refine zx_c rfl rfl rfl rfl (w_within' (lo := 0) (hi := 9) (show zwi 1 0 9 = 1 by decide) _ _) ?_
  refine zx_go 19 rfl ?_
  refine zx_c rfl rfl rfl rfl (w_arg1 _ _) ?_
  refine zx_go 19 rfl ?_
  refine zx_c rfl rfl rfl rfl (w_within' (lo := 0) (hi := 65535) h2 _ _) ?_
  refine zx_go 19 rfl ?_
  exact zx_x rfl rfl rfl rfl (w_arg0 _ _) rfl rfl
theorem k_set_t1 (hG : zGk G) (p0 p2 : Int32) (h0 : zwi p0 0 7 = 1) (h2 : zwi p2 0 65535 = 1) (d : Nat) : zCr (d + 3) 54 [.ref 0, .int p0, .int 1, .int p2] (zHx F G L) (.inr 1) (zHx F G L) := by
  refine zx_in rfl rfl ?_
  refine zx_go 19 rfl ?_
  refine zx_c rfl rfl rfl rfl (w_isVcpu h0 _ _) ?_
  refine zx_go 19 rfl ?_
  refine zx_c rfl rfl rfl rfl (w_within' (lo := 0) (hi := 9) (show zwi 1 0 9 = 1 by decide) _ _) ?_
  refine zx_go 19 rfl ?_
  refine zx_c rfl rfl rfl rfl (w_arg1 _ _) ?_
  refine zx_go 19 rfl ?_
  refine zx_c rfl rfl rfl rfl (w_within' (lo := 0) (hi := 65535) h2 _ _) ?_
  refine zx_go 19 rfl ?_
  refine zx_c rfl rfl rfl rfl (w_arg1 _ _) ?_
  refine zx_go 19 rfl ?_
  exact zx_x rfl rfl rfl rfl (w_vt h0 hG _) rfl rfl
theorem k_set_b2 (p0 p2 : Int32) (h0 : zwi p0 0 7 = 1) (h2 : zwi p2 0 4095 = 0) (h : zH) (d : Nat) : zCr (d + 3) 54 [.ref 0, .int p0, .int 2, .int p2] h (.inr 0) h := by
  refine zx_in rfl rfl ?_
  refine zx_go 19 rfl ?_
  refine zx_c rfl rfl rfl rfl (w_isVcpu h0 _ _) ?_
  refine zx_go 19 rfl ?_
  refine zx_c rfl rfl rfl rfl (w_within' (lo := 0) (hi := 9) (show zwi 2 0 9 = 1 by decide) _ _) ?_
  refine zx_go 19 rfl ?_
  refine zx_c rfl rfl rfl rfl (w_arg1 _ _) ?_
  refine zx_go 19 rfl ?_
  refine zx_c rfl rfl rfl rfl (w_within' (lo := 0) (hi := 4095) h2 _ _) ?_
  refine zx_go 19 rfl ?_
  exact zx_x rfl rfl rfl rfl (w_arg0 _ _) rfl rfl
theorem k_set_t2 (hG : zGk G) (p0 p2 : Int32) (h0 : zwi p0 0 7 = 1) (h2 : zwi p2 0 4095 = 1) (d : Nat) : zCr (d + 3) 54 [.ref 0, .int p0, .int 2, .int p2] (zHx F G L) (.inr 1) (zHx F G L) := by
  refine zx_in rfl rfl ?_
  refine zx_go 19 rfl ?_
  refine zx_c rfl rfl rfl rfl (w_isVcpu h0 _ _) ?_
  refine zx_go 19 rfl ?_
  refine zx_c rfl rfl rfl rfl (w_within' (lo := 0) (hi := 9) (show zwi 2 0 9 = 1 by decide) _ _) ?_
  refine zx_go 19 rfl ?_
  refine zx_c rfl rfl rfl rfl (w_arg1 _ _) ?_
  refine zx_go 19 rfl ?_
  refine zx_c rfl rfl rfl rfl (w_within' (lo := 0) (hi := 4095) h2 _ _) ?_
  refine zx_go 19 rfl ?_
  refine zx_c rfl rfl rfl rfl (w_arg1 _ _) ?_
  refine zx_go 19 rfl ?_
  exact zx_x rfl rfl rfl rfl (w_vt h0 hG _) rfl rfl
theorem k_set_b3 (p0 p2 : Int32) (h0 : zwi p0 0 7 = 1) (h2 : zwi p2 0 1 = 0) (h : zH) (d : Nat) : zCr (d + 3) 54 [.ref 0, .int p0, .int 3, .int p2] h (.inr 0) h := by
  refine zx_in rfl rfl ?_
  refine zx_go 19 rfl ?_
  refine zx_c rfl rfl rfl rfl (w_isVcpu h0 _ _) ?_
  refine zx_go 19 rfl ?_
  refine zx_c rfl rfl rfl rfl (w_within' (lo := 0) (hi := 9) (show zwi 3 0 9 = 1 by decide) _ _) ?_
  refine zx_go 19 rfl ?_
  refine zx_c rfl rfl rfl rfl (w_arg1 _ _) ?_
  refine zx_go 19 rfl ?_
  refine zx_c rfl rfl rfl rfl (w_within' (lo := 0) (hi := 1) h2 _ _) ?_
  refine zx_go 19 rfl ?_
  exact zx_x rfl rfl rfl rfl (w_arg0 _ _) rfl rfl
theorem k_set_t3 (hG : zGk G) (p0 p2 : Int32) (h0 : zwi p0 0 7 = 1) (h2 : zwi p2 0 1 = 1) (d : Nat) : zCr (d + 3) 54 [.ref 0, .int p0, .int 3, .int p2] (zHx F G L) (.inr 1) (zHx F G L) := by
  refine zx_in rfl rfl ?_
  refine zx_go 19 rfl ?_
  refine zx_c rfl rfl rfl rfl (w_isVcpu h0 _ _) ?_
  refine zx_go 19 rfl ?_
  refine zx_c rfl rfl rfl rfl (w_within' (lo := 0) (hi := 9) (show zwi 3 0 9 = 1 by decide) _ _) ?_
  refine zx_go 19 rfl ?_
  refine zx_c rfl rfl rfl rfl (w_arg1 _ _) ?_
  refine zx_go 19 rfl ?_
  refine zx_c rfl rfl rfl rfl (w_within' (lo := 0) (hi := 1) h2 _ _) ?_
  refine zx_go 19 rfl ?_
  refine zx_c rfl rfl rfl rfl (w_arg1 _ _) ?_
  refine zx_go 19 rfl ?_
  exact zx_x rfl rfl rfl rfl (w_vt h0 hG _) rfl rfl
theorem k_set_b4 (p0 p2 : Int32) (h0 : zwi p0 0 7 = 1) (h2 : zwi p2 0 3 = 0) (h : zH) (d : Nat) : zCr (d + 3) 54 [.ref 0, .int p0, .int 4, .int p2] h (.inr 0) h := by
  refine zx_in rfl rfl ?_
  refine zx_go 19 rfl ?_
  refine zx_c rfl rfl rfl rfl (w_isVcpu h0 _ _) ?_
  refine zx_go 19 rfl ?_
  refine zx_c rfl rfl rfl rfl (w_within' (lo := 0) (hi := 9) (show zwi 4 0 9 = 1 by decide) _ _) ?_
  refine zx_go 19 rfl ?_
  refine zx_c rfl rfl rfl rfl (w_arg1 _ _) ?_
  refine zx_go 19 rfl ?_
  refine zx_c rfl rfl rfl rfl (w_within' (lo := 0) (hi := 3) h2 _ _) ?_
  refine zx_go 19 rfl ?_
  exact zx_x rfl rfl rfl rfl (w_arg0 _ _) rfl rfl
theorem k_set_t4 (hG : zGk G) (p0 p2 : Int32) (h0 : zwi p0 0 7 = 1) (h2 : zwi p2 0 3 = 1) (d : Nat) : zCr (d + 3) 54 [.ref 0, .int p0, .int 4, .int p2] (zHx F G L) (.inr 1) (zHx F G L) := by
  refine zx_in rfl rfl ?_
  refine zx_go 19 rfl ?_
  refine zx_c rfl rfl rfl rfl (w_isVcpu h0 _ _) ?_
  refine zx_go 19 rfl ?_
  refine zx_c rfl rfl rfl rfl (w_within' (lo := 0) (hi := 9) (show zwi 4 0 9 = 1 by decide) _ _) ?_
  refine zx_go 19 rfl ?_
  refine zx_c rfl rfl rfl rfl (w_arg1 _ _) ?_
  refine zx_go 19 rfl ?_
  refine zx_c rfl rfl rfl rfl (w_within' (lo := 0) (hi := 3) h2 _ _) ?_
  refine zx_go 19 rfl ?_
  refine zx_c rfl rfl rfl rfl (w_arg1 _ _) ?_
  refine zx_go 19 rfl ?_
  exact zx_x rfl rfl rfl rfl (w_vt h0 hG _) rfl rfl
theorem k_set_b5 (p0 p2 : Int32) (h0 : zwi p0 0 7 = 1) (h2 : zwi p2 0 255 = 0) (h : zH) (d : Nat) : zCr (d + 3) 54 [.ref 0, .int p0, .int 5, .int p2] h (.inr 0) h := by
  refine zx_in rfl rfl ?_
  refine zx_go 19 rfl ?_
  refine zx_c rfl rfl rfl rfl (w_isVcpu h0 _ _) ?_
  refine zx_go 19 rfl ?_
  refine zx_c rfl rfl rfl rfl (w_within' (lo := 0) (hi := 9) (show zwi 5 0 9 = 1 by decide) _ _) ?_
  refine zx_go 19 rfl ?_
  refine zx_c rfl rfl rfl rfl (w_arg1 _ _) ?_
  refine zx_go 19 rfl ?_
  refine zx_c rfl rfl rfl rfl (w_within' (lo := 0) (hi := 255) h2 _ _) ?_
  refine zx_go 19 rfl ?_
  exact zx_x rfl rfl rfl rfl (w_arg0 _ _) rfl rfl
theorem k_set_t5 (hG : zGk G) (p0 p2 : Int32) (h0 : zwi p0 0 7 = 1) (h2 : zwi p2 0 255 = 1) (d : Nat) : zCr (d + 3) 54 [.ref 0, .int p0, .int 5, .int p2] (zHx F G L) (.inr 1) (zHx F G L) := by
  refine zx_in rfl rfl ?_
  refine zx_go 19 rfl ?_
  refine zx_c rfl rfl rfl rfl (w_isVcpu h0 _ _) ?_
  refine zx_go 19 rfl ?_
  refine zx_c rfl rfl rfl rfl (w_within' (lo := 0) (hi := 9) (show zwi 5 0 9 = 1 by decide) _ _) ?_
  refine zx_go 19 rfl ?_
  refine zx_c rfl rfl rfl rfl (w_arg1 _ _) ?_
  refine zx_go 19 rfl ?_
  refine zx_c rfl rfl rfl rfl (w_within' (lo := 0) (hi := 255) h2 _ _) ?_
  refine zx_go 19 rfl ?_
  refine zx_c rfl rfl rfl rfl (w_arg1 _ _) ?_
  refine zx_go 19 rfl ?_
  exact zx_x rfl rfl rfl rfl (w_vt h0 hG _) rfl rfl
theorem k_set_b6 (p0 p2 : Int32) (h0 : zwi p0 0 7 = 1) (h2 : zwi p2 0 3 = 0) (h : zH) (d : Nat) : zCr (d + 3) 54 [.ref 0, .int p0, .int 6, .int p2] h (.inr 0) h := by
  refine zx_in rfl rfl ?_
  refine zx_go 19 rfl ?_
  refine zx_c rfl rfl rfl rfl (w_isVcpu h0 _ _) ?_
  refine zx_go 19 rfl ?_
  refine zx_c rfl rfl rfl rfl (w_within' (lo := 0) (hi := 9) (show zwi 6 0 9 = 1 by decide) _ _) ?_
  refine zx_go 19 rfl ?_
  refine zx_c rfl rfl rfl rfl (w_arg1 _ _) ?_
  refine zx_go 19 rfl ?_
  refine zx_c rfl rfl rfl rfl (w_within' (lo := 0) (hi := 3) h2 _ _) ?_
  refine zx_go 19 rfl ?_
  exact zx_x rfl rfl rfl rfl (w_arg0 _ _) rfl rfl
theorem k_set_t6 (hG : zGk G) (p0 p2 : Int32) (h0 : zwi p0 0 7 = 1) (h2 : zwi p2 0 3 = 1) (d : Nat) : zCr (d + 3) 54 [.ref 0, .int p0, .int 6, .int p2] (zHx F G L) (.inr 1) (zHx F G L) := by
  refine zx_in rfl rfl ?_
  refine zx_go 19 rfl ?_
  refine zx_c rfl rfl rfl rfl (w_isVcpu h0 _ _) ?_
  refine zx_go 19 rfl ?_
  refine zx_c rfl rfl rfl rfl (w_within' (lo := 0) (hi := 9) (show zwi 6 0 9 = 1 by decide) _ _) ?_
  refine zx_go 19 rfl ?_
  refine zx_c rfl rfl rfl rfl (w_arg1 _ _) ?_
  refine zx_go 19 rfl ?_
  refine zx_c rfl rfl rfl rfl (w_within' (lo := 0) (hi := 3) h2 _ _) ?_
  refine zx_go 19 rfl ?_
  refine zx_c rfl rfl rfl rfl (w_arg1 _ _) ?_
  refine zx_go 19 rfl ?_
  exact zx_x rfl rfl rfl rfl (w_vt h0 hG _) rfl rfl
theorem k_set_b7 (p0 p2 : Int32) (h0 : zwi p0 0 7 = 1) (h2 : zwi p2 (-1) 4095 = 0) (h : zH) (d : Nat) : zCr (d + 3) 54 [.ref 0, .int p0, .int 7, .int p2] h (.inr 0) h := by
  refine zx_in rfl rfl ?_
  refine zx_go 19 rfl ?_
  refine zx_c rfl rfl rfl rfl (w_isVcpu h0 _ _) ?_
  refine zx_go 19 rfl ?_
  refine zx_c rfl rfl rfl rfl (w_within' (lo := 0) (hi := 9) (show zwi 7 0 9 = 1 by decide) _ _) ?_
  refine zx_go 19 rfl ?_
  refine zx_c rfl rfl rfl rfl (w_arg1 _ _) ?_
  refine zx_go 19 rfl ?_
  refine zx_c rfl rfl rfl rfl (w_within' (lo := (-1)) (hi := 4095) h2 _ _) ?_
  refine zx_go 19 rfl ?_
  exact zx_x rfl rfl rfl rfl (w_arg0 _ _) rfl rfl
theorem k_set_t7 (hG : zGk G) (p0 p2 : Int32) (h0 : zwi p0 0 7 = 1) (h2 : zwi p2 (-1) 4095 = 1) (d : Nat) : zCr (d + 3) 54 [.ref 0, .int p0, .int 7, .int p2] (zHx F G L) (.inr 1) (zHx F G L) := by
  refine zx_in rfl rfl ?_
  refine zx_go 19 rfl ?_
  refine zx_c rfl rfl rfl rfl (w_isVcpu h0 _ _) ?_
  refine zx_go 19 rfl ?_
  refine zx_c rfl rfl rfl rfl (w_within' (lo := 0) (hi := 9) (show zwi 7 0 9 = 1 by decide) _ _) ?_
  refine zx_go 19 rfl ?_
  refine zx_c rfl rfl rfl rfl (w_arg1 _ _) ?_
  refine zx_go 19 rfl ?_
  refine zx_c rfl rfl rfl rfl (w_within' (lo := (-1)) (hi := 4095) h2 _ _) ?_
  refine zx_go 19 rfl ?_
  refine zx_c rfl rfl rfl rfl (w_arg1 _ _) ?_
  refine zx_go 19 rfl ?_
  exact zx_x rfl rfl rfl rfl (w_vt h0 hG _) rfl rfl
theorem k_set_b8 (p0 p2 : Int32) (h0 : zwi p0 0 7 = 1) (h2 : zwi p2 0 4095 = 0) (h : zH) (d : Nat) : zCr (d + 3) 54 [.ref 0, .int p0, .int 8, .int p2] h (.inr 0) h := by
  refine zx_in rfl rfl ?_
  refine zx_go 19 rfl ?_
  refine zx_c rfl rfl rfl rfl (w_isVcpu h0 _ _) ?_
  refine zx_go 19 rfl ?_
  refine zx_c rfl rfl rfl rfl (w_within' (lo := 0) (hi := 9) (show zwi 8 0 9 = 1 by decide) _ _) ?_
  refine zx_go 19 rfl ?_
  refine zx_c rfl rfl rfl rfl (w_arg1 _ _) ?_
  refine zx_go 19 rfl ?_
  refine zx_c rfl rfl rfl rfl (w_within' (lo := 0) (hi := 4095) h2 _ _) ?_
  refine zx_go 19 rfl ?_
  exact zx_x rfl rfl rfl rfl (w_arg0 _ _) rfl rfl
theorem k_set_t8 (hG : zGk G) (p0 p2 : Int32) (h0 : zwi p0 0 7 = 1) (h2 : zwi p2 0 4095 = 1) (d : Nat) : zCr (d + 3) 54 [.ref 0, .int p0, .int 8, .int p2] (zHx F G L) (.inr 1) (zHx F G L) := by
  refine zx_in rfl rfl ?_
  refine zx_go 19 rfl ?_
  refine zx_c rfl rfl rfl rfl (w_isVcpu h0 _ _) ?_
  refine zx_go 19 rfl ?_
  refine zx_c rfl rfl rfl rfl (w_within' (lo := 0) (hi := 9) (show zwi 8 0 9 = 1 by decide) _ _) ?_
  refine zx_go 19 rfl ?_
  refine zx_c rfl rfl rfl rfl (w_arg1 _ _) ?_
  refine zx_go 19 rfl ?_
  refine zx_c rfl rfl rfl rfl (w_within' (lo := 0) (hi := 4095) h2 _ _) ?_
  refine zx_go 19 rfl ?_
  refine zx_c rfl rfl rfl rfl (w_arg1 _ _) ?_
  refine zx_go 19 rfl ?_
  exact zx_x rfl rfl rfl rfl (w_vt h0 hG _) rfl rfl
theorem k_set_b9 (p0 p2 : Int32) (h0 : zwi p0 0 7 = 1) (h2 : zwi p2 0 1 = 0) (h : zH) (d : Nat) : zCr (d + 3) 54 [.ref 0, .int p0, .int 9, .int p2] h (.inr 0) h := by
  refine zx_in rfl rfl ?_
  refine zx_go 19 rfl ?_
  refine zx_c rfl rfl rfl rfl (w_isVcpu h0 _ _) ?_
  refine zx_go 19 rfl ?_
  refine zx_c rfl rfl rfl rfl (w_within' (lo := 0) (hi := 9) (show zwi 9 0 9 = 1 by decide) _ _) ?_
  refine zx_go 19 rfl ?_
  refine zx_c rfl rfl rfl rfl (w_arg1 _ _) ?_
  refine zx_go 19 rfl ?_
  refine zx_c rfl rfl rfl rfl (w_within' (lo := 0) (hi := 1) h2 _ _) ?_
  refine zx_go 19 rfl ?_
  exact zx_x rfl rfl rfl rfl (w_arg0 _ _) rfl rfl
theorem k_set_t9 (hG : zGk G) (p0 p2 : Int32) (h0 : zwi p0 0 7 = 1) (h2 : zwi p2 0 1 = 1) (d : Nat) : zCr (d + 3) 54 [.ref 0, .int p0, .int 9, .int p2] (zHx F G L) (.inr 1) (zHx F G L) := by
  refine zx_in rfl rfl ?_
  refine zx_go 19 rfl ?_
  refine zx_c rfl rfl rfl rfl (w_isVcpu h0 _ _) ?_
  refine zx_go 19 rfl ?_
  refine zx_c rfl rfl rfl rfl (w_within' (lo := 0) (hi := 9) (show zwi 9 0 9 = 1 by decide) _ _) ?_
  refine zx_go 19 rfl ?_
  refine zx_c rfl rfl rfl rfl (w_arg1 _ _) ?_
  refine zx_go 19 rfl ?_
  refine zx_c rfl rfl rfl rfl (w_within' (lo := 0) (hi := 1) h2 _ _) ?_
  refine zx_go 19 rfl ?_
  refine zx_c rfl rfl rfl rfl (w_arg1 _ _) ?_
  refine zx_go 19 rfl ?_
  exact zx_x rfl rfl rfl rfl (w_vt h0 hG _) rfl rfl
theorem k_poke_0 (p0 p1 p2 p3 p4 p5 : Int32) (h0 : zwi p0 0 3 = 0) (h : zH) (d : Nat) : zCr (d + 3) 190 [.ref 0, .int p0, .int p1, .int p2, .int p3, .int p4, .int p5] h (.inr 0) h := by
  refine zx_in rfl rfl ?_
  refine zx_go 19 rfl ?_
  refine zx_c rfl rfl rfl rfl (w_isGuest h0 _ _) ?_
  refine zx_go 19 rfl ?_
  exact zx_x rfl rfl rfl rfl (w_arg0 _ _) rfl rfl
theorem k_poke_1 (p0 p1 p2 p3 p4 p5 : Int32) (h0 : zwi p0 0 3 = 1) (h1 : zwi p1 0 2047 = 0) (h : zH) (d : Nat) : zCr (d + 3) 190 [.ref 0, .int p0, .int p1, .int p2, .int p3, .int p4, .int p5] h (.inr 0) h := by
  refine zx_in rfl rfl ?_
  refine zx_go 19 rfl ?_
  refine zx_c rfl rfl rfl rfl (w_isGuest h0 _ _) ?_
  refine zx_go 19 rfl ?_
  refine zx_c rfl rfl rfl rfl (w_isHostAddress h1 _ _) ?_
  refine zx_go 19 rfl ?_
  exact zx_x rfl rfl rfl rfl (w_arg0 _ _) rfl rfl
theorem k_poke_2 (p0 p1 p2 p3 p4 p5 : Int32) (h0 : zwi p0 0 3 = 1) (h1 : zwi p1 0 2047 = 1) (hm : zc1 .ne (p1 - p1 / 4 * 4) = true) (h : zH) (d : Nat) : zCr (d + 3) 190 [.ref 0, .int p0, .int p1, .int p2, .int p3, .int p4, .int p5] h (.inr 0) h := by
  refine zx_in rfl rfl ?_
  refine zx_go 19 rfl ?_
  refine zx_c rfl rfl rfl rfl (w_isGuest h0 _ _) ?_
  refine zx_go 19 rfl ?_
  refine zx_c rfl rfl rfl rfl (w_isHostAddress h1 _ _) ?_
  refine zx_go 4 rfl ?_
  refine zx_if rfl rfl hm rfl ?_
  refine zx_go 19 rfl ?_
  exact zx_x rfl rfl rfl rfl (w_arg0 _ _) rfl rfl
theorem k_poke_3 (p0 p1 p2 p3 p4 p5 : Int32) (h0 : zwi p0 0 3 = 1) (h1 : zwi p1 0 2047 = 1) (hm : zc1 .ne (p1 - p1 / 4 * 4) = false) (h2 : zwi p2 0 65535 = 0) (h : zH) (d : Nat) : zCr (d + 3) 190 [.ref 0, .int p0, .int p1, .int p2, .int p3, .int p4, .int p5] h (.inr 0) h := by
  refine zx_in rfl rfl ?_
  refine zx_go 19 rfl ?_
  refine zx_c rfl rfl rfl rfl (w_isGuest h0 _ _) ?_
  refine zx_go 19 rfl ?_
  refine zx_c rfl rfl rfl rfl (w_isHostAddress h1 _ _) ?_
  refine zx_go 4 rfl ?_
  refine zx_if rfl rfl hm rfl ?_
  refine zx_go 19 rfl ?_
  refine zx_c rfl rfl rfl rfl (w_arg1 _ _) ?_
  refine zx_go 19 rfl ?_
  refine zx_c rfl rfl rfl rfl (w_isWord h2 _ _) ?_
  refine zx_go 19 rfl ?_
  exact zx_x rfl rfl rfl rfl (w_arg0 _ _) rfl rfl
theorem k_poke_4 (p0 p1 p2 p3 p4 p5 : Int32) (h0 : zwi p0 0 3 = 1) (h1 : zwi p1 0 2047 = 1) (hm : zc1 .ne (p1 - p1 / 4 * 4) = false) (h2 : zwi p2 0 65535 = 1) (h3 : zwi p3 0 65535 = 0) (h : zH) (d : Nat) : zCr (d + 3) 190 [.ref 0, .int p0, .int p1, .int p2, .int p3, .int p4, .int p5] h (.inr 0) h := by
  refine zx_in rfl rfl ?_
  refine zx_go 19 rfl ?_
  refine zx_c rfl rfl rfl rfl (w_isGuest h0 _ _) ?_
  refine zx_go 19 rfl ?_
  refine zx_c rfl rfl rfl rfl (w_isHostAddress h1 _ _) ?_
  refine zx_go 4 rfl ?_
  refine zx_if rfl rfl hm rfl ?_
  refine zx_go 19 rfl ?_
  refine zx_c rfl rfl rfl rfl (w_arg1 _ _) ?_
  refine zx_go 19 rfl ?_
  refine zx_c rfl rfl rfl rfl (w_isWord h2 _ _) ?_
  refine zx_go 19 rfl ?_
  refine zx_c rfl rfl rfl rfl (w_isWord h3 _ _) ?_
  refine zx_go 19 rfl ?_
  exact zx_x rfl rfl rfl rfl (w_arg0 _ _) rfl rfl
theorem k_poke_5 (p0 p1 p2 p3 p4 p5 : Int32) (h0 : zwi p0 0 3 = 1) (h1 : zwi p1 0 2047 = 1) (hm : zc1 .ne (p1 - p1 / 4 * 4) = false) (h2 : zwi p2 0 65535 = 1) (h3 : zwi p3 0 65535 = 1) (h4 : zwi p4 0 65535 = 0) (h : zH) (d : Nat) : zCr (d + 3) 190 [.ref 0, .int p0, .int p1, .int p2, .int p3, .int p4, .int p5] h (.inr 0) h := by
  refine zx_in rfl rfl ?_
  refine zx_go 19 rfl ?_
  refine zx_c rfl rfl rfl rfl (w_isGuest h0 _ _) ?_
  refine zx_go 19 rfl ?_
  refine zx_c rfl rfl rfl rfl (w_isHostAddress h1 _ _) ?_
  refine zx_go 4 rfl ?_
  refine zx_if rfl rfl hm rfl ?_
  refine zx_go 19 rfl ?_
  refine zx_c rfl rfl rfl rfl (w_arg1 _ _) ?_
  refine zx_go 19 rfl ?_
  refine zx_c rfl rfl rfl rfl (w_isWord h2 _ _) ?_
  refine zx_go 19 rfl ?_
  refine zx_c rfl rfl rfl rfl (w_isWord h3 _ _) ?_
  refine zx_go 19 rfl ?_
  refine zx_c rfl rfl rfl rfl (w_isWord h4 _ _) ?_
  refine zx_go 19 rfl ?_
  exact zx_x rfl rfl rfl rfl (w_arg0 _ _) rfl rfl
theorem k_poke_6 (p0 p1 p2 p3 p4 p5 : Int32) (h0 : zwi p0 0 3 = 1) (h1 : zwi p1 0 2047 = 1) (hm : zc1 .ne (p1 - p1 / 4 * 4) = false) (h2 : zwi p2 0 65535 = 1) (h3 : zwi p3 0 65535 = 1) (h4 : zwi p4 0 65535 = 1) (h5 : zwi p5 0 65535 = 0) (h : zH) (d : Nat) : zCr (d + 3) 190 [.ref 0, .int p0, .int p1, .int p2, .int p3, .int p4, .int p5] h (.inr 0) h := by
  refine zx_in rfl rfl ?_
  refine zx_go 19 rfl ?_
  refine zx_c rfl rfl rfl rfl (w_isGuest h0 _ _) ?_
  refine zx_go 19 rfl ?_
  refine zx_c rfl rfl rfl rfl (w_isHostAddress h1 _ _) ?_
  refine zx_go 4 rfl ?_
  refine zx_if rfl rfl hm rfl ?_
  refine zx_go 19 rfl ?_
  refine zx_c rfl rfl rfl rfl (w_arg1 _ _) ?_
  refine zx_go 19 rfl ?_
  refine zx_c rfl rfl rfl rfl (w_isWord h2 _ _) ?_
  refine zx_go 19 rfl ?_
  refine zx_c rfl rfl rfl rfl (w_isWord h3 _ _) ?_
  refine zx_go 19 rfl ?_
  refine zx_c rfl rfl rfl rfl (w_isWord h4 _ _) ?_
  refine zx_go 19 rfl ?_
  refine zx_c rfl rfl rfl rfl (w_isWord h5 _ _) ?_
  refine zx_go 19 rfl ?_
  exact zx_x rfl rfl rfl rfl (w_arg0 _ _) rfl rfl
theorem k_poke_ok (hG : zGk G) (p0 p1 p2 p3 p4 p5 : Int32) (h0 : zwi p0 0 3 = 1) (h1 : zwi p1 0 2047 = 1) (hm : zc1 .ne (p1 - p1 / 4 * 4) = false) (h2 : zwi p2 0 65535 = 1) (h3 : zwi p3 0 65535 = 1) (h4 : zwi p4 0 65535 = 1) (h5 : zwi p5 0 65535 = 1) (d : Nat) : zCr (d + 3) 190 [.ref 0, .int p0, .int p1, .int p2, .int p3, .int p4, .int p5] (zHx F G L) (.inr 1) (zHx F G L) := by
  refine zx_in rfl rfl ?_
  refine zx_go 19 rfl ?_
  refine zx_c rfl rfl rfl rfl (w_isGuest h0 _ _) ?_
  refine zx_go 19 rfl ?_
  refine zx_c rfl rfl rfl rfl (w_isHostAddress h1 _ _) ?_
  refine zx_go 4 rfl ?_
  refine zx_if rfl rfl hm rfl ?_
  refine zx_go 19 rfl ?_
  refine zx_c rfl rfl rfl rfl (w_arg1 _ _) ?_
  refine zx_go 19 rfl ?_
  refine zx_c rfl rfl rfl rfl (w_isWord h2 _ _) ?_
  refine zx_go 19 rfl ?_
  refine zx_c rfl rfl rfl rfl (w_isWord h3 _ _) ?_
  refine zx_go 19 rfl ?_
  refine zx_c rfl rfl rfl rfl (w_isWord h4 _ _) ?_
  refine zx_go 19 rfl ?_
  refine zx_c rfl rfl rfl rfl (w_isWord h5 _ _) ?_
  refine zx_go 19 rfl ?_
  refine zx_c rfl rfl rfl rfl (w_arg1 _ _) ?_
  refine zx_go 19 rfl ?_
  exact zx_x rfl rfl rfl rfl (w_gt h0 hG _) rfl rfl
theorem k_frame_0 (p0 p1 : Int32) (h0 : zwi p0 0 127 = 0) (h : zH) (d : Nat) : zCr (d + 3) 199 [.ref 0, .int p0, .int p1] h (.inr 0) h := by
  refine zx_in rfl rfl ?_
  refine zx_go 19 rfl ?_
  refine zx_c rfl rfl rfl rfl (w_isFrame h0 _ _) ?_
  refine zx_go 19 rfl ?_
  exact zx_x rfl rfl rfl rfl (w_arg0 _ _) rfl rfl
theorem k_frame_1 (p0 p1 : Int32) (h0 : zwi p0 0 127 = 1) (h1 : zwi p1 0 15 = 0) (h : zH) (d : Nat) : zCr (d + 3) 199 [.ref 0, .int p0, .int p1] h (.inr 0) h := by
  refine zx_in rfl rfl ?_
  refine zx_go 19 rfl ?_
  refine zx_c rfl rfl rfl rfl (w_isFrame h0 _ _) ?_
  refine zx_go 19 rfl ?_
  refine zx_c rfl rfl rfl rfl (w_within' (lo := 0) (hi := 15) h1 _ _) ?_
  refine zx_go 19 rfl ?_
  exact zx_x rfl rfl rfl rfl (w_arg0 _ _) rfl rfl
theorem k_frame_ok (hF : zFz F) (p0 p1 : Int32) (h0 : zwi p0 0 127 = 1) (h1 : zwi p1 0 15 = 1) (d : Nat) : zCr (d + 3) 199 [.ref 0, .int p0, .int p1] (zHx F G L) (.inl (some (.int 0))) (zHx F G L) := by
  obtain ⟨j, hj, e1, -⟩ := zfrm h0 h1
  refine zx_in rfl rfl ?_
  refine zx_go 19 rfl ?_
  refine zx_c rfl rfl rfl rfl (w_isFrame h0 _ _) ?_
  refine zx_go 19 rfl ?_
  refine zx_c rfl rfl rfl rfl (w_within' (lo := 0) (hi := 15) h1 _ _) ?_
  refine zx_go 19 rfl ?_
  refine zx_c rfl rfl rfl rfl (w_arg1 _ _) ?_
  refine zx_gp 19 rfl ?_
  refine zx_eq (y := nI j) e1 ?_
  refine zx_ial (x := 0) rfl rfl rfl (zin_nI hj (by decide)) (by rw [nI_clamp (by omega)]; exact hF.1 j hj) ?_
  exact zx_r rfl rfl
theorem k_owner_0 (p0 p1 : Int32) (h0 : zwi p0 0 127 = 0) (h : zH) (d : Nat) : zCr (d + 3) 202 [.ref 0, .int p0, .int p1] h (.inr 0) h := by
  refine zx_in rfl rfl ?_
  refine zx_go 19 rfl ?_
  refine zx_c rfl rfl rfl rfl (w_isFrame h0 _ _) ?_
  refine zx_go 19 rfl ?_
  exact zx_x rfl rfl rfl rfl (w_arg0 _ _) rfl rfl
theorem k_owner_1 (p0 p1 : Int32) (h0 : zwi p0 0 127 = 1) (h1 : zwi p1 0 2 = 0) (h : zH) (d : Nat) : zCr (d + 3) 202 [.ref 0, .int p0, .int p1] h (.inr 0) h := by
  refine zx_in rfl rfl ?_
  refine zx_go 19 rfl ?_
  refine zx_c rfl rfl rfl rfl (w_isFrame h0 _ _) ?_
  refine zx_go 19 rfl ?_
  refine zx_c rfl rfl rfl rfl (w_within' (lo := 0) (hi := 2) h1 _ _) ?_
  refine zx_go 19 rfl ?_
  exact zx_x rfl rfl rfl rfl (w_arg0 _ _) rfl rfl
theorem k_owner_t0 (hF : zFz F) (p0 : Int32) (h0 : zwi p0 0 127 = 1) (d : Nat) : zCr (d + 3) 202 [.ref 0, .int p0, .int 0] (zHx F G L) (.inl (some (.int 0))) (zHx F G L) := by
  obtain ⟨j, hj, e1⟩ := zwi_nI (n := 127) rfl h0
  refine zx_in rfl rfl ?_
  refine zx_go 19 rfl ?_
  refine zx_c rfl rfl rfl rfl (w_isFrame h0 _ _) ?_
  refine zx_go 19 rfl ?_
  refine zx_c rfl rfl rfl rfl (w_within' (lo := 0) (hi := 2) (show zwi 0 0 2 = 1 by decide) _ _) ?_
  refine zx_go 19 rfl ?_
  refine zx_c rfl rfl rfl rfl (w_arg1 _ _) ?_
  refine zx_gp 19 rfl ?_
  refine zx_eq (y := nI j) e1 ?_
  refine zx_ial (x := 0) rfl rfl rfl (zin_nI (n := 128) (by omega) (by decide)) (by rw [nI_clamp (by omega)]; exact hF.2.1 j (by omega)) ?_
  exact zx_r rfl rfl
theorem k_owner_t1 (hF : zFz F) (p0 : Int32) (h0 : zwi p0 0 127 = 1) (d : Nat) : zCr (d + 3) 202 [.ref 0, .int p0, .int 1] (zHx F G L) (.inl (some (.int (-1)))) (zHx F G L) := by
  obtain ⟨j, hj, e1⟩ := zwi_nI (n := 127) rfl h0
  refine zx_in rfl rfl ?_
  refine zx_go 19 rfl ?_
  refine zx_c rfl rfl rfl rfl (w_isFrame h0 _ _) ?_
  refine zx_go 19 rfl ?_
  refine zx_c rfl rfl rfl rfl (w_within' (lo := 0) (hi := 2) (show zwi 1 0 2 = 1 by decide) _ _) ?_
  refine zx_go 19 rfl ?_
  refine zx_c rfl rfl rfl rfl (w_arg1 _ _) ?_
  refine zx_gp 19 rfl ?_
  refine zx_eq (y := nI j) e1 ?_
  refine zx_ial (x := (-1)) rfl rfl rfl (zin_nI (n := 128) (by omega) (by decide)) (by rw [nI_clamp (by omega)]; exact hF.2.2.1 j (by omega)) ?_
  exact zx_r rfl rfl
theorem k_owner_t2 (hF : zFz F) (p0 : Int32) (h0 : zwi p0 0 127 = 1) (d : Nat) : zCr (d + 3) 202 [.ref 0, .int p0, .int 2] (zHx F G L) (.inl (some (.int (-1)))) (zHx F G L) := by
  obtain ⟨j, hj, e1⟩ := zwi_nI (n := 127) rfl h0
  refine zx_in rfl rfl ?_
  refine zx_go 19 rfl ?_
  refine zx_c rfl rfl rfl rfl (w_isFrame h0 _ _) ?_
  refine zx_go 19 rfl ?_
  refine zx_c rfl rfl rfl rfl (w_within' (lo := 0) (hi := 2) (show zwi 2 0 2 = 1 by decide) _ _) ?_
  refine zx_go 19 rfl ?_
  refine zx_c rfl rfl rfl rfl (w_arg1 _ _) ?_
  refine zx_gp 19 rfl ?_
  refine zx_eq (y := nI j) e1 ?_
  refine zx_ial (x := (-1)) rfl rfl rfl (zin_nI (n := 128) (by omega) (by decide)) (by rw [nI_clamp (by omega)]; exact hF.2.2.2.1 j (by omega)) ?_
  exact zx_r rfl rfl
theorem k_dirty (p0 : Int32) (d : Nat) : zCr (d + 3) 184 [.ref 0, .int p0] (zHx F G L) (.inl (some (.int (-1)))) (zHx F G L) := by
  refine zx_in rfl rfl ?_
  refine zx_go 19 rfl ?_
  refine zx_c rfl rfl rfl rfl (w_within' (lo := 0) (hi := -1) (zwi_neg p0) _ _) ?_
  refine zx_go 19 rfl ?_
  exact zx_r rfl rfl
end ZCP
end
section
/-! THE MODEL: the other methods -/
section ZMP
variable {F : Nat → Nat → Int32} {G : Nat → Nat → Option Nat} {L : Nat → Int64}
theorem m_isValue_o {p1 : Int32} (p2 : Int32) (h1 : zwi p1 0 9 = 0) (h : zH) (d : Nat) : zCr (d + 2) 56 [.int p1, .int p2] h (.inl (some (.int 0))) h := by
  refine zx_in rfl rfl ?_
  refine zx_go 1 rfl ?_
  refine zx_sw rfl rfl (zwi_sw9 h1) rfl ?_
  refine zx_go 9 rfl ?_
  exact zx_r rfl rfl
theorem m_isValue_0 {p2 r : Int32} (hr : zwi p2 0 65535 = r) (h : zH) (d : Nat) : zCr (d + 2) 56 [.int 0, .int p2] h (.inl (some (.int r))) h := by
  refine zx_in rfl rfl ?_
  refine zx_go 9 rfl ?_
  refine zx_c rfl rfl rfl rfl (w_isIn' (lo := 0) (hi := 65535) hr _ _) ?_
  rcases zwi_01 p2 0 65535 with q | q <;> (rw [q] at hr; subst hr; exact zx_r rfl rfl)
theorem m_isValue_1 {p2 r : Int32} (hr : zwi p2 0 65535 = r) (h : zH) (d : Nat) : zCr (d + 2) 56 [.int 1, .int p2] h (.inl (some (.int r))) h := by
  refine zx_in rfl rfl ?_
  refine zx_go 9 rfl ?_
  refine zx_c rfl rfl rfl rfl (w_isIn' (lo := 0) (hi := 65535) hr _ _) ?_
  rcases zwi_01 p2 0 65535 with q | q <;> (rw [q] at hr; subst hr; exact zx_r rfl rfl)
theorem m_isValue_2 {p2 r : Int32} (hr : zwi p2 0 4095 = r) (h : zH) (d : Nat) : zCr (d + 2) 56 [.int 2, .int p2] h (.inl (some (.int r))) h := by
  refine zx_in rfl rfl ?_
  refine zx_go 9 rfl ?_
  refine zx_c rfl rfl rfl rfl (w_isIn' (lo := 0) (hi := 4095) hr _ _) ?_
  rcases zwi_01 p2 0 4095 with q | q <;> (rw [q] at hr; subst hr; exact zx_r rfl rfl)
theorem m_isValue_3 {p2 r : Int32} (hr : zwi p2 0 1 = r) (h : zH) (d : Nat) : zCr (d + 2) 56 [.int 3, .int p2] h (.inl (some (.int r))) h := by
  refine zx_in rfl rfl ?_
  refine zx_go 9 rfl ?_
  refine zx_c rfl rfl rfl rfl (w_isIn' (lo := 0) (hi := 1) hr _ _) ?_
  rcases zwi_01 p2 0 1 with q | q <;> (rw [q] at hr; subst hr; exact zx_r rfl rfl)
theorem m_isValue_4 {p2 r : Int32} (hr : zwi p2 0 3 = r) (h : zH) (d : Nat) : zCr (d + 2) 56 [.int 4, .int p2] h (.inl (some (.int r))) h := by
  refine zx_in rfl rfl ?_
  refine zx_go 9 rfl ?_
  refine zx_c rfl rfl rfl rfl (w_isIn' (lo := 0) (hi := 3) hr _ _) ?_
  rcases zwi_01 p2 0 3 with q | q <;> (rw [q] at hr; subst hr; exact zx_r rfl rfl)
theorem m_isValue_5 {p2 r : Int32} (hr : zwi p2 0 255 = r) (h : zH) (d : Nat) : zCr (d + 2) 56 [.int 5, .int p2] h (.inl (some (.int r))) h := by
  refine zx_in rfl rfl ?_
  refine zx_go 9 rfl ?_
  refine zx_c rfl rfl rfl rfl (w_isIn' (lo := 0) (hi := 255) hr _ _) ?_
  rcases zwi_01 p2 0 255 with q | q <;> (rw [q] at hr; subst hr; exact zx_r rfl rfl)
theorem m_isValue_6 {p2 r : Int32} (hr : zwi p2 0 3 = r) (h : zH) (d : Nat) : zCr (d + 2) 56 [.int 6, .int p2] h (.inl (some (.int r))) h := by
  refine zx_in rfl rfl ?_
  refine zx_go 9 rfl ?_
  refine zx_c rfl rfl rfl rfl (w_isIn' (lo := 0) (hi := 3) hr _ _) ?_
  rcases zwi_01 p2 0 3 with q | q <;> (rw [q] at hr; subst hr; exact zx_r rfl rfl)
theorem m_isValue_7 {p2 r : Int32} (hr : zwi p2 (-1) 4095 = r) (h : zH) (d : Nat) : zCr (d + 2) 56 [.int 7, .int p2] h (.inl (some (.int r))) h := by
  refine zx_in rfl rfl ?_
  refine zx_go 9 rfl ?_
  refine zx_c rfl rfl rfl rfl (w_isIn' (lo := (-1)) (hi := 4095) hr _ _) ?_
  rcases zwi_01 p2 (-1) 4095 with q | q <;> (rw [q] at hr; subst hr; exact zx_r rfl rfl)
theorem m_isValue_8 {p2 r : Int32} (hr : zwi p2 0 4095 = r) (h : zH) (d : Nat) : zCr (d + 2) 56 [.int 8, .int p2] h (.inl (some (.int r))) h := by
  refine zx_in rfl rfl ?_
  refine zx_go 9 rfl ?_
  refine zx_c rfl rfl rfl rfl (w_isIn' (lo := 0) (hi := 4095) hr _ _) ?_
  rcases zwi_01 p2 0 4095 with q | q <;> (rw [q] at hr; subst hr; exact zx_r rfl rfl)
theorem m_isValue_9 {p2 r : Int32} (hr : zwi p2 0 1 = r) (h : zH) (d : Nat) : zCr (d + 2) 56 [.int 9, .int p2] h (.inl (some (.int r))) h := by
  refine zx_in rfl rfl ?_
  refine zx_go 9 rfl ?_
  refine zx_c rfl rfl rfl rfl (w_isIn' (lo := 0) (hi := 1) hr _ _) ?_
  rcases zwi_01 p2 0 1 with q | q <;> (rw [q] at hr; subst hr; exact zx_r rfl rfl)
theorem m_set_0 (p0 p1 p2 : Int32) (h0 : zwi p0 0 7 = 0) (d : Nat) : zCr (d + 3) 57 [.ref 113, .int p0, .int p1, .int p2] (zHx F G L) (.inl none) (zHt F G L 1) := by
  refine zx_in rfl rfl ?_
  refine zx_gp 19 rfl ?_
  refine zx_c rfl rfl rfl rfl (w_isIn' (lo := 0) (hi := 7) h0 _ _) ?_
  refine zx_gp 19 rfl ?_
  refine zx_c rfl rfl rfl rfl (m_rf1 _) ?_
  refine zx_gp 19 rfl ?_
  exact zx_r rfl rfl
theorem m_set_1 (p0 p1 p2 : Int32) (h0 : zwi p0 0 7 = 1) (h1 : zwi p1 0 9 = 0) (d : Nat) : zCr (d + 3) 57 [.ref 113, .int p0, .int p1, .int p2] (zHx F G L) (.inl none) (zHt F G L 1) := by
  refine zx_in rfl rfl ?_
  refine zx_gp 19 rfl ?_
  refine zx_c rfl rfl rfl rfl (w_isIn' (lo := 0) (hi := 7) h0 _ _) ?_
  refine zx_gp 19 rfl ?_
  refine zx_c rfl rfl rfl rfl (m_isValue_o _ h1 _ _) ?_
  refine zx_gp 19 rfl ?_
  refine zx_c rfl rfl rfl rfl (m_rf1 _) ?_
  refine zx_gp 19 rfl ?_
  exact zx_r rfl rfl
theorem m_set_b0 (p0 p2 : Int32) (h0 : zwi p0 0 7 = 1) (h2 : zwi p2 0 65535 = 0) (d : Nat) : zCr (d + 3) 57 [.ref 113, .int p0, .int 0, .int p2] (zHx F G L) (.inl none) (zHt F G L 1) := by
  refine zx_in rfl rfl ?_
  refine zx_gp 19 rfl ?_
  refine zx_c rfl rfl rfl rfl (w_isIn' (lo := 0) (hi := 7) h0 _ _) ?_
  refine zx_gp 19 rfl ?_
  refine zx_c rfl rfl rfl rfl (m_isValue_0 h2 _ _) ?_
  refine zx_gp 19 rfl ?_
  refine zx_c rfl rfl rfl rfl (m_rf1 _) ?_
  refine zx_gp 19 rfl ?_
  exact zx_r rfl rfl
theorem m_set_t0 (hF : zFk F) (p0 p2 : Int32) (h0 : zwi p0 0 7 = 1) (h2 : zwi p2 0 65535 = 1) (d : Nat) : zCr (d + 3) 57 [.ref 113, .int p0, .int 0, .int p2] (zHx F G L) (.inl none) (zHt F G L 2) := by
  have key : ∀ j : Int32, zin j 8 = true → F 138 j.toNatClampNeg = 0 → zwi j 0 7 = 1 → zCr (d + 3) 57 [.ref 113, .int j, .int 0, .int p2] (zHx F G L) (.inl none) (zHt F G L 2) := by
    intro j hz hv hj
    refine zx_in rfl rfl ?_
    refine zx_gp 19 rfl ?_
    refine zx_c rfl rfl rfl rfl (w_isIn' (lo := 0) (hi := 7) hj _ _) ?_
    refine zx_gp 19 rfl ?_
    refine zx_c rfl rfl rfl rfl (m_isValue_0 h2 _ _) ?_
    refine zx_gp 19 rfl ?_
    refine zx_bal rfl rfl rfl hz hv ?_
    refine zx_gp 19 rfl ?_
    refine zx_c rfl rfl rfl rfl (m_rf2 _) ?_
    refine zx_gp 19 rfl ?_
    exact zx_r rfl rfl
  rcases zwi_7 h0 with rfl | rfl | rfl | rfl | rfl | rfl | rfl | rfl
  · exact key 0 rfl hF.2.2.2.2.1 rfl
  · exact key 1 rfl hF.2.2.2.2.2.1 rfl
  · exact key 2 rfl hF.2.2.2.2.2.2.1 rfl
  · exact key 3 rfl hF.2.2.2.2.2.2.2.1 rfl
  · exact key 4 rfl hF.2.2.2.2.2.2.2.2.1 rfl
  · exact key 5 rfl hF.2.2.2.2.2.2.2.2.2.1 rfl
  · exact key 6 rfl hF.2.2.2.2.2.2.2.2.2.2.1 rfl
  · exact key 7 rfl hF.2.2.2.2.2.2.2.2.2.2.2 rfl
theorem m_set_b1 (p0 p2 : Int32) (h0 : zwi p0 0 7 = 1) (h2 : zwi p2 0 65535 = 0) (d : Nat) : zCr (d + 3) 57 [.ref 113, .int p0, .int 1, .int p2] (zHx F G L) (.inl none) (zHt F G L 1) := by
  refine zx_in rfl rfl ?_
  refine zx_gp 19 rfl ?_
  refine zx_c rfl rfl rfl rfl (w_isIn' (lo := 0) (hi := 7) h0 _ _) ?_
  refine zx_gp 19 rfl ?_
  refine zx_c rfl rfl rfl rfl (m_isValue_1 h2 _ _) ?_
  refine zx_gp 19 rfl ?_
  refine zx_c rfl rfl rfl rfl (m_rf1 _) ?_
  refine zx_gp 19 rfl ?_
  exact zx_r rfl rfl
theorem m_set_t1 (hF : zFk F) (p0 p2 : Int32) (h0 : zwi p0 0 7 = 1) (h2 : zwi p2 0 65535 = 1) (d : Nat) : zCr (d + 3) 57 [.ref 113, .int p0, .int 1, .int p2] (zHx F G L) (.inl none) (zHt F G L 2) := by
  have key : ∀ j : Int32, zin j 8 = true → F 138 j.toNatClampNeg = 0 → zwi j 0 7 = 1 → zCr (d + 3) 57 [.ref 113, .int j, .int 1, .int p2] (zHx F G L) (.inl none) (zHt F G L 2) := by
    intro j hz hv hj
    refine zx_in rfl rfl ?_
    refine zx_gp 19 rfl ?_
    refine zx_c rfl rfl rfl rfl (w_isIn' (lo := 0) (hi := 7) hj _ _) ?_
    refine zx_gp 19 rfl ?_
    refine zx_c rfl rfl rfl rfl (m_isValue_1 h2 _ _) ?_
    refine zx_gp 19 rfl ?_
    refine zx_bal rfl rfl rfl hz hv ?_
    refine zx_gp 19 rfl ?_
    refine zx_c rfl rfl rfl rfl (m_rf2 _) ?_
    refine zx_gp 19 rfl ?_
    exact zx_r rfl rfl
  rcases zwi_7 h0 with rfl | rfl | rfl | rfl | rfl | rfl | rfl | rfl
  · exact key 0 rfl hF.2.2.2.2.1 rfl
  · exact key 1 rfl hF.2.2.2.2.2.1 rfl
  · exact key 2 rfl hF.2.2.2.2.2.2.1 rfl
  · exact key 3 rfl hF.2.2.2.2.2.2.2.1 rfl
  · exact key 4 rfl hF.2.2.2.2.2.2.2.2.1 rfl
  · exact key 5 rfl hF.2.2.2.2.2.2.2.2.2.1 rfl
  · exact key 6 rfl hF.2.2.2.2.2.2.2.2.2.2.1 rfl
  · exact key 7 rfl hF.2.2.2.2.2.2.2.2.2.2.2 rfl
theorem m_set_b2 (p0 p2 : Int32) (h0 : zwi p0 0 7 = 1) (h2 : zwi p2 0 4095 = 0) (d : Nat) : zCr (d + 3) 57 [.ref 113, .int p0, .int 2, .int p2] (zHx F G L) (.inl none) (zHt F G L 1) := by
  refine zx_in rfl rfl ?_
  refine zx_gp 19 rfl ?_
  refine zx_c rfl rfl rfl rfl (w_isIn' (lo := 0) (hi := 7) h0 _ _) ?_
  refine zx_gp 19 rfl ?_
  refine zx_c rfl rfl rfl rfl (m_isValue_2 h2 _ _) ?_
  refine zx_gp 19 rfl ?_
  refine zx_c rfl rfl rfl rfl (m_rf1 _) ?_
  refine zx_gp 19 rfl ?_
  exact zx_r rfl rfl
theorem m_set_t2 (hF : zFk F) (p0 p2 : Int32) (h0 : zwi p0 0 7 = 1) (h2 : zwi p2 0 4095 = 1) (d : Nat) : zCr (d + 3) 57 [.ref 113, .int p0, .int 2, .int p2] (zHx F G L) (.inl none) (zHt F G L 2) := by
  have key : ∀ j : Int32, zin j 8 = true → F 138 j.toNatClampNeg = 0 → zwi j 0 7 = 1 → zCr (d + 3) 57 [.ref 113, .int j, .int 2, .int p2] (zHx F G L) (.inl none) (zHt F G L 2) := by
    intro j hz hv hj
    refine zx_in rfl rfl ?_
    refine zx_gp 19 rfl ?_
    refine zx_c rfl rfl rfl rfl (w_isIn' (lo := 0) (hi := 7) hj _ _) ?_
    refine zx_gp 19 rfl ?_
    refine zx_c rfl rfl rfl rfl (m_isValue_2 h2 _ _) ?_
    refine zx_gp 19 rfl ?_
    refine zx_bal rfl rfl rfl hz hv ?_
    refine zx_gp 19 rfl ?_
    refine zx_c rfl rfl rfl rfl (m_rf2 _) ?_
    refine zx_gp 19 rfl ?_
    exact zx_r rfl rfl
  rcases zwi_7 h0 with rfl | rfl | rfl | rfl | rfl | rfl | rfl | rfl
  · exact key 0 rfl hF.2.2.2.2.1 rfl
  · exact key 1 rfl hF.2.2.2.2.2.1 rfl
  · exact key 2 rfl hF.2.2.2.2.2.2.1 rfl
  · exact key 3 rfl hF.2.2.2.2.2.2.2.1 rfl
  · exact key 4 rfl hF.2.2.2.2.2.2.2.2.1 rfl
  · exact key 5 rfl hF.2.2.2.2.2.2.2.2.2.1 rfl
  · exact key 6 rfl hF.2.2.2.2.2.2.2.2.2.2.1 rfl
  · exact key 7 rfl hF.2.2.2.2.2.2.2.2.2.2.2 rfl
theorem m_set_b3 (p0 p2 : Int32) (h0 : zwi p0 0 7 = 1) (h2 : zwi p2 0 1 = 0) (d : Nat) : zCr (d + 3) 57 [.ref 113, .int p0, .int 3, .int p2] (zHx F G L) (.inl none) (zHt F G L 1) := by
  refine zx_in rfl rfl ?_
  refine zx_gp 19 rfl ?_
  refine zx_c rfl rfl rfl rfl (w_isIn' (lo := 0) (hi := 7) h0 _ _) ?_
  refine zx_gp 19 rfl ?_
  refine zx_c rfl rfl rfl rfl (m_isValue_3 h2 _ _) ?_
  refine zx_gp 19 rfl ?_
  refine zx_c rfl rfl rfl rfl (m_rf1 _) ?_
  refine zx_gp 19 rfl ?_
  exact zx_r rfl rfl
theorem m_set_t3 (hF : zFk F) (p0 p2 : Int32) (h0 : zwi p0 0 7 = 1) (h2 : zwi p2 0 1 = 1) (d : Nat) : zCr (d + 3) 57 [.ref 113, .int p0, .int 3, .int p2] (zHx F G L) (.inl none) (zHt F G L 2) := by
  have key : ∀ j : Int32, zin j 8 = true → F 138 j.toNatClampNeg = 0 → zwi j 0 7 = 1 → zCr (d + 3) 57 [.ref 113, .int j, .int 3, .int p2] (zHx F G L) (.inl none) (zHt F G L 2) := by
    intro j hz hv hj
    refine zx_in rfl rfl ?_
    refine zx_gp 19 rfl ?_
    refine zx_c rfl rfl rfl rfl (w_isIn' (lo := 0) (hi := 7) hj _ _) ?_
    refine zx_gp 19 rfl ?_
    refine zx_c rfl rfl rfl rfl (m_isValue_3 h2 _ _) ?_
    refine zx_gp 19 rfl ?_
    refine zx_bal rfl rfl rfl hz hv ?_
    refine zx_gp 19 rfl ?_
    refine zx_c rfl rfl rfl rfl (m_rf2 _) ?_
    refine zx_gp 19 rfl ?_
    exact zx_r rfl rfl
  rcases zwi_7 h0 with rfl | rfl | rfl | rfl | rfl | rfl | rfl | rfl
  · exact key 0 rfl hF.2.2.2.2.1 rfl
  · exact key 1 rfl hF.2.2.2.2.2.1 rfl
  · exact key 2 rfl hF.2.2.2.2.2.2.1 rfl
  · exact key 3 rfl hF.2.2.2.2.2.2.2.1 rfl
  · exact key 4 rfl hF.2.2.2.2.2.2.2.2.1 rfl
  · exact key 5 rfl hF.2.2.2.2.2.2.2.2.2.1 rfl
  · exact key 6 rfl hF.2.2.2.2.2.2.2.2.2.2.1 rfl
  · exact key 7 rfl hF.2.2.2.2.2.2.2.2.2.2.2 rfl
theorem m_set_b4 (p0 p2 : Int32) (h0 : zwi p0 0 7 = 1) (h2 : zwi p2 0 3 = 0) (d : Nat) : zCr (d + 3) 57 [.ref 113, .int p0, .int 4, .int p2] (zHx F G L) (.inl none) (zHt F G L 1) := by
  refine zx_in rfl rfl ?_
  refine zx_gp 19 rfl ?_
  refine zx_c rfl rfl rfl rfl (w_isIn' (lo := 0) (hi := 7) h0 _ _) ?_
  refine zx_gp 19 rfl ?_
  refine zx_c rfl rfl rfl rfl (m_isValue_4 h2 _ _) ?_
  refine zx_gp 19 rfl ?_
  refine zx_c rfl rfl rfl rfl (m_rf1 _) ?_
  refine zx_gp 19 rfl ?_
  exact zx_r rfl rfl
theorem m_set_t4 (hF : zFk F) (p0 p2 : Int32) (h0 : zwi p0 0 7 = 1) (h2 : zwi p2 0 3 = 1) (d : Nat) : zCr (d + 3) 57 [.ref 113, .int p0, .int 4, .int p2] (zHx F G L) (.inl none) (zHt F G L 2) := by
  have key : ∀ j : Int32, zin j 8 = true → F 138 j.toNatClampNeg = 0 → zwi j 0 7 = 1 → zCr (d + 3) 57 [.ref 113, .int j, .int 4, .int p2] (zHx F G L) (.inl none) (zHt F G L 2) := by
    intro j hz hv hj
    refine zx_in rfl rfl ?_
    refine zx_gp 19 rfl ?_
    refine zx_c rfl rfl rfl rfl (w_isIn' (lo := 0) (hi := 7) hj _ _) ?_
    refine zx_gp 19 rfl ?_
    refine zx_c rfl rfl rfl rfl (m_isValue_4 h2 _ _) ?_
    refine zx_gp 19 rfl ?_
    refine zx_bal rfl rfl rfl hz hv ?_
    refine zx_gp 19 rfl ?_
    refine zx_c rfl rfl rfl rfl (m_rf2 _) ?_
    refine zx_gp 19 rfl ?_
    exact zx_r rfl rfl
  rcases zwi_7 h0 with rfl | rfl | rfl | rfl | rfl | rfl | rfl | rfl
  · exact key 0 rfl hF.2.2.2.2.1 rfl
  · exact key 1 rfl hF.2.2.2.2.2.1 rfl
  · exact key 2 rfl hF.2.2.2.2.2.2.1 rfl
  · exact key 3 rfl hF.2.2.2.2.2.2.2.1 rfl
  · exact key 4 rfl hF.2.2.2.2.2.2.2.2.1 rfl
  · exact key 5 rfl hF.2.2.2.2.2.2.2.2.2.1 rfl
  · exact key 6 rfl hF.2.2.2.2.2.2.2.2.2.2.1 rfl
  · exact key 7 rfl hF.2.2.2.2.2.2.2.2.2.2.2 rfl
theorem m_set_b5 (p0 p2 : Int32) (h0 : zwi p0 0 7 = 1) (h2 : zwi p2 0 255 = 0) (d : Nat) : zCr (d + 3) 57 [.ref 113, .int p0, .int 5, .int p2] (zHx F G L) (.inl none) (zHt F G L 1) := by
  refine zx_in rfl rfl ?_
  refine zx_gp 19 rfl ?_
  refine zx_c rfl rfl rfl rfl (w_isIn' (lo := 0) (hi := 7) h0 _ _) ?_
  refine zx_gp 19 rfl ?_
  refine zx_c rfl rfl rfl rfl (m_isValue_5 h2 _ _) ?_
  refine zx_gp 19 rfl ?_
  refine zx_c rfl rfl rfl rfl (m_rf1 _) ?_
  refine zx_gp 19 rfl ?_
  exact zx_r rfl rfl
theorem m_set_t5 (hF : zFk F) (p0 p2 : Int32) (h0 : zwi p0 0 7 = 1) (h2 : zwi p2 0 255 = 1) (d : Nat) : zCr (d + 3) 57 [.ref 113, .int p0, .int 5, .int p2] (zHx F G L) (.inl none) (zHt F G L 2) := by
  have key : ∀ j : Int32, zin j 8 = true → F 138 j.toNatClampNeg = 0 → zwi j 0 7 = 1 → zCr (d + 3) 57 [.ref 113, .int j, .int 5, .int p2] (zHx F G L) (.inl none) (zHt F G L 2) := by
    intro j hz hv hj
    refine zx_in rfl rfl ?_
    refine zx_gp 19 rfl ?_
    refine zx_c rfl rfl rfl rfl (w_isIn' (lo := 0) (hi := 7) hj _ _) ?_
    refine zx_gp 19 rfl ?_
    refine zx_c rfl rfl rfl rfl (m_isValue_5 h2 _ _) ?_
    refine zx_gp 19 rfl ?_
    refine zx_bal rfl rfl rfl hz hv ?_
    refine zx_gp 19 rfl ?_
    refine zx_c rfl rfl rfl rfl (m_rf2 _) ?_
    refine zx_gp 19 rfl ?_
    exact zx_r rfl rfl
  rcases zwi_7 h0 with rfl | rfl | rfl | rfl | rfl | rfl | rfl | rfl
  · exact key 0 rfl hF.2.2.2.2.1 rfl
  · exact key 1 rfl hF.2.2.2.2.2.1 rfl
  · exact key 2 rfl hF.2.2.2.2.2.2.1 rfl
  · exact key 3 rfl hF.2.2.2.2.2.2.2.1 rfl
  · exact key 4 rfl hF.2.2.2.2.2.2.2.2.1 rfl
  · exact key 5 rfl hF.2.2.2.2.2.2.2.2.2.1 rfl
  · exact key 6 rfl hF.2.2.2.2.2.2.2.2.2.2.1 rfl
  · exact key 7 rfl hF.2.2.2.2.2.2.2.2.2.2.2 rfl
theorem m_set_b6 (p0 p2 : Int32) (h0 : zwi p0 0 7 = 1) (h2 : zwi p2 0 3 = 0) (d : Nat) : zCr (d + 3) 57 [.ref 113, .int p0, .int 6, .int p2] (zHx F G L) (.inl none) (zHt F G L 1) := by
  refine zx_in rfl rfl ?_
  refine zx_gp 19 rfl ?_
  refine zx_c rfl rfl rfl rfl (w_isIn' (lo := 0) (hi := 7) h0 _ _) ?_
  refine zx_gp 19 rfl ?_
  refine zx_c rfl rfl rfl rfl (m_isValue_6 h2 _ _) ?_
  refine zx_gp 19 rfl ?_
  refine zx_c rfl rfl rfl rfl (m_rf1 _) ?_
  refine zx_gp 19 rfl ?_
  exact zx_r rfl rfl
theorem m_set_t6 (hF : zFk F) (p0 p2 : Int32) (h0 : zwi p0 0 7 = 1) (h2 : zwi p2 0 3 = 1) (d : Nat) : zCr (d + 3) 57 [.ref 113, .int p0, .int 6, .int p2] (zHx F G L) (.inl none) (zHt F G L 2) := by
  have key : ∀ j : Int32, zin j 8 = true → F 138 j.toNatClampNeg = 0 → zwi j 0 7 = 1 → zCr (d + 3) 57 [.ref 113, .int j, .int 6, .int p2] (zHx F G L) (.inl none) (zHt F G L 2) := by
    intro j hz hv hj
    refine zx_in rfl rfl ?_
    refine zx_gp 19 rfl ?_
    refine zx_c rfl rfl rfl rfl (w_isIn' (lo := 0) (hi := 7) hj _ _) ?_
    refine zx_gp 19 rfl ?_
    refine zx_c rfl rfl rfl rfl (m_isValue_6 h2 _ _) ?_
    refine zx_gp 19 rfl ?_
    refine zx_bal rfl rfl rfl hz hv ?_
    refine zx_gp 19 rfl ?_
    refine zx_c rfl rfl rfl rfl (m_rf2 _) ?_
    refine zx_gp 19 rfl ?_
    exact zx_r rfl rfl
  rcases zwi_7 h0 with rfl | rfl | rfl | rfl | rfl | rfl | rfl | rfl
  · exact key 0 rfl hF.2.2.2.2.1 rfl
  · exact key 1 rfl hF.2.2.2.2.2.1 rfl
  · exact key 2 rfl hF.2.2.2.2.2.2.1 rfl
  · exact key 3 rfl hF.2.2.2.2.2.2.2.1 rfl
  · exact key 4 rfl hF.2.2.2.2.2.2.2.2.1 rfl
  · exact key 5 rfl hF.2.2.2.2.2.2.2.2.2.1 rfl
  · exact key 6 rfl hF.2.2.2.2.2.2.2.2.2.2.1 rfl
  · exact key 7 rfl hF.2.2.2.2.2.2.2.2.2.2.2 rfl
theorem m_set_b7 (p0 p2 : Int32) (h0 : zwi p0 0 7 = 1) (h2 : zwi p2 (-1) 4095 = 0) (d : Nat) : zCr (d + 3) 57 [.ref 113, .int p0, .int 7, .int p2] (zHx F G L) (.inl none) (zHt F G L 1) := by
  refine zx_in rfl rfl ?_
  refine zx_gp 19 rfl ?_
  refine zx_c rfl rfl rfl rfl (w_isIn' (lo := 0) (hi := 7) h0 _ _) ?_
  refine zx_gp 19 rfl ?_
  refine zx_c rfl rfl rfl rfl (m_isValue_7 h2 _ _) ?_
  refine zx_gp 19 rfl ?_
  refine zx_c rfl rfl rfl rfl (m_rf1 _) ?_
  refine zx_gp 19 rfl ?_
  exact zx_r rfl rfl
theorem m_set_t7 (hF : zFk F) (p0 p2 : Int32) (h0 : zwi p0 0 7 = 1) (h2 : zwi p2 (-1) 4095 = 1) (d : Nat) : zCr (d + 3) 57 [.ref 113, .int p0, .int 7, .int p2] (zHx F G L) (.inl none) (zHt F G L 2) := by
  have key : ∀ j : Int32, zin j 8 = true → F 138 j.toNatClampNeg = 0 → zwi j 0 7 = 1 → zCr (d + 3) 57 [.ref 113, .int j, .int 7, .int p2] (zHx F G L) (.inl none) (zHt F G L 2) := by
    intro j hz hv hj
    refine zx_in rfl rfl ?_
    refine zx_gp 19 rfl ?_
    refine zx_c rfl rfl rfl rfl (w_isIn' (lo := 0) (hi := 7) hj _ _) ?_
    refine zx_gp 19 rfl ?_
    refine zx_c rfl rfl rfl rfl (m_isValue_7 h2 _ _) ?_
    refine zx_gp 19 rfl ?_
    refine zx_bal rfl rfl rfl hz hv ?_
    refine zx_gp 19 rfl ?_
    refine zx_c rfl rfl rfl rfl (m_rf2 _) ?_
    refine zx_gp 19 rfl ?_
    exact zx_r rfl rfl
  rcases zwi_7 h0 with rfl | rfl | rfl | rfl | rfl | rfl | rfl | rfl
  · exact key 0 rfl hF.2.2.2.2.1 rfl
  · exact key 1 rfl hF.2.2.2.2.2.1 rfl
  · exact key 2 rfl hF.2.2.2.2.2.2.1 rfl
  · exact key 3 rfl hF.2.2.2.2.2.2.2.1 rfl
  · exact key 4 rfl hF.2.2.2.2.2.2.2.2.1 rfl
  · exact key 5 rfl hF.2.2.2.2.2.2.2.2.2.1 rfl
  · exact key 6 rfl hF.2.2.2.2.2.2.2.2.2.2.1 rfl
  · exact key 7 rfl hF.2.2.2.2.2.2.2.2.2.2.2 rfl
theorem m_set_b8 (p0 p2 : Int32) (h0 : zwi p0 0 7 = 1) (h2 : zwi p2 0 4095 = 0) (d : Nat) : zCr (d + 3) 57 [.ref 113, .int p0, .int 8, .int p2] (zHx F G L) (.inl none) (zHt F G L 1) := by
  refine zx_in rfl rfl ?_
  refine zx_gp 19 rfl ?_
  refine zx_c rfl rfl rfl rfl (w_isIn' (lo := 0) (hi := 7) h0 _ _) ?_
  refine zx_gp 19 rfl ?_
  refine zx_c rfl rfl rfl rfl (m_isValue_8 h2 _ _) ?_
  refine zx_gp 19 rfl ?_
  refine zx_c rfl rfl rfl rfl (m_rf1 _) ?_
  refine zx_gp 19 rfl ?_
  exact zx_r rfl rfl
theorem m_set_t8 (hF : zFk F) (p0 p2 : Int32) (h0 : zwi p0 0 7 = 1) (h2 : zwi p2 0 4095 = 1) (d : Nat) : zCr (d + 3) 57 [.ref 113, .int p0, .int 8, .int p2] (zHx F G L) (.inl none) (zHt F G L 2) := by
  have key : ∀ j : Int32, zin j 8 = true → F 138 j.toNatClampNeg = 0 → zwi j 0 7 = 1 → zCr (d + 3) 57 [.ref 113, .int j, .int 8, .int p2] (zHx F G L) (.inl none) (zHt F G L 2) := by
    intro j hz hv hj
    refine zx_in rfl rfl ?_
    refine zx_gp 19 rfl ?_
    refine zx_c rfl rfl rfl rfl (w_isIn' (lo := 0) (hi := 7) hj _ _) ?_
    refine zx_gp 19 rfl ?_
    refine zx_c rfl rfl rfl rfl (m_isValue_8 h2 _ _) ?_
    refine zx_gp 19 rfl ?_
    refine zx_bal rfl rfl rfl hz hv ?_
    refine zx_gp 19 rfl ?_
    refine zx_c rfl rfl rfl rfl (m_rf2 _) ?_
    refine zx_gp 19 rfl ?_
    exact zx_r rfl rfl
  rcases zwi_7 h0 with rfl | rfl | rfl | rfl | rfl | rfl | rfl | rfl
  · exact key 0 rfl hF.2.2.2.2.1 rfl
  · exact key 1 rfl hF.2.2.2.2.2.1 rfl
  · exact key 2 rfl hF.2.2.2.2.2.2.1 rfl
  · exact key 3 rfl hF.2.2.2.2.2.2.2.1 rfl
  · exact key 4 rfl hF.2.2.2.2.2.2.2.2.1 rfl
  · exact key 5 rfl hF.2.2.2.2.2.2.2.2.2.1 rfl
  · exact key 6 rfl hF.2.2.2.2.2.2.2.2.2.2.1 rfl
  · exact key 7 rfl hF.2.2.2.2.2.2.2.2.2.2.2 rfl
theorem m_set_b9 (p0 p2 : Int32) (h0 : zwi p0 0 7 = 1) (h2 : zwi p2 0 1 = 0) (d : Nat) : zCr (d + 3) 57 [.ref 113, .int p0, .int 9, .int p2] (zHx F G L) (.inl none) (zHt F G L 1) := by
  refine zx_in rfl rfl ?_
  refine zx_gp 19 rfl ?_
  refine zx_c rfl rfl rfl rfl (w_isIn' (lo := 0) (hi := 7) h0 _ _) ?_
  refine zx_gp 19 rfl ?_
  refine zx_c rfl rfl rfl rfl (m_isValue_9 h2 _ _) ?_
  refine zx_gp 19 rfl ?_
  refine zx_c rfl rfl rfl rfl (m_rf1 _) ?_
  refine zx_gp 19 rfl ?_
  exact zx_r rfl rfl
theorem m_set_t9 (hF : zFk F) (p0 p2 : Int32) (h0 : zwi p0 0 7 = 1) (h2 : zwi p2 0 1 = 1) (d : Nat) : zCr (d + 3) 57 [.ref 113, .int p0, .int 9, .int p2] (zHx F G L) (.inl none) (zHt F G L 2) := by
  have key : ∀ j : Int32, zin j 8 = true → F 138 j.toNatClampNeg = 0 → zwi j 0 7 = 1 → zCr (d + 3) 57 [.ref 113, .int j, .int 9, .int p2] (zHx F G L) (.inl none) (zHt F G L 2) := by
    intro j hz hv hj
    refine zx_in rfl rfl ?_
    refine zx_gp 19 rfl ?_
    refine zx_c rfl rfl rfl rfl (w_isIn' (lo := 0) (hi := 7) hj _ _) ?_
    refine zx_gp 19 rfl ?_
    refine zx_c rfl rfl rfl rfl (m_isValue_9 h2 _ _) ?_
    refine zx_gp 19 rfl ?_
    refine zx_bal rfl rfl rfl hz hv ?_
    refine zx_gp 19 rfl ?_
    refine zx_c rfl rfl rfl rfl (m_rf2 _) ?_
    refine zx_gp 19 rfl ?_
    exact zx_r rfl rfl
  rcases zwi_7 h0 with rfl | rfl | rfl | rfl | rfl | rfl | rfl | rfl
  · exact key 0 rfl hF.2.2.2.2.1 rfl
  · exact key 1 rfl hF.2.2.2.2.2.1 rfl
  · exact key 2 rfl hF.2.2.2.2.2.2.1 rfl
  · exact key 3 rfl hF.2.2.2.2.2.2.2.1 rfl
  · exact key 4 rfl hF.2.2.2.2.2.2.2.2.1 rfl
  · exact key 5 rfl hF.2.2.2.2.2.2.2.2.2.1 rfl
  · exact key 6 rfl hF.2.2.2.2.2.2.2.2.2.2.1 rfl
  · exact key 7 rfl hF.2.2.2.2.2.2.2.2.2.2.2 rfl
theorem m_pr_0 (p0 p1 f : Int32) (h0 : zwi p0 0 3 = 0) (h : zH) (d : Nat) : zCr (d + 2) 168 [.ref 113, .int p0, .int p1, .int f] h (.inl (some (.int 1))) h := by
  refine zx_in rfl rfl ?_
  refine zx_gp 19 rfl ?_
  refine zx_c rfl rfl rfl rfl (w_isIn' (lo := 0) (hi := 3) h0 _ _) ?_
  refine zx_gp 19 rfl ?_
  exact zx_r rfl rfl
theorem m_pr_1 (p0 p1 f : Int32) (h0 : zwi p0 0 3 = 1) (h1 : zwi p1 0 127 = 0) (h : zH) (d : Nat) : zCr (d + 2) 168 [.ref 113, .int p0, .int p1, .int f] h (.inl (some (.int 1))) h := by
  refine zx_in rfl rfl ?_
  refine zx_gp 19 rfl ?_
  refine zx_c rfl rfl rfl rfl (w_isIn' (lo := 0) (hi := 3) h0 _ _) ?_
  refine zx_gp 19 rfl ?_
  refine zx_c rfl rfl rfl rfl (w_isIn' (lo := 0) (hi := 127) h1 _ _) ?_
  refine zx_gp 19 rfl ?_
  exact zx_r rfl rfl
theorem m_pr_t (hF : zFk F) (p0 p1 f : Int32) (h0 : zwi p0 0 3 = 1) (h1 : zwi p1 0 127 = 1) (d : Nat) : zCr (d + 2) 168 [.ref 113, .int p0, .int p1, .int f] (zHx F G L) (.inl (some (.int 2))) (zHx F G L) := by
  have key : ∀ j : Int32, zin j 4 = true → F 120 j.toNatClampNeg = 0 → zwi j 0 3 = 1 → zCr (d + 2) 168 [.ref 113, .int j, .int p1, .int f] (zHx F G L) (.inl (some (.int 2))) (zHx F G L) := by
    intro j hz hv hj
    refine zx_in rfl rfl ?_
    refine zx_gp 19 rfl ?_
    refine zx_c rfl rfl rfl rfl (w_isIn' (lo := 0) (hi := 3) hj _ _) ?_
    refine zx_gp 19 rfl ?_
    refine zx_c rfl rfl rfl rfl (w_isIn' (lo := 0) (hi := 127) h1 _ _) ?_
    refine zx_gp 19 rfl ?_
    refine zx_bal rfl rfl rfl hz hv ?_
    refine zx_gp 19 rfl ?_
    exact zx_r rfl rfl
  rcases zwi_3 h0 with rfl | rfl | rfl | rfl
  · exact key 0 rfl hF.1 rfl
  · exact key 1 rfl hF.2.1 rfl
  · exact key 2 rfl hF.2.2.1 rfl
  · exact key 3 rfl hF.2.2.2.1 rfl
theorem m_deny_0 (p0 p1 p2 : Int32) (h2 : zwi p2 0 7 = 0) (d : Nat) : zCr (d + 3) 169 [.ref 113, .int p0, .int p1, .int p2] (zHx F G L) (.inl (some (.int 0))) (zHt F G L 1) := by
  refine zx_in rfl rfl ?_
  refine zx_gp 19 rfl ?_
  refine zx_c rfl rfl rfl rfl (w_isIn' (lo := 0) (hi := 7) h2 _ _) ?_
  refine zx_gp 19 rfl ?_
  refine zx_c rfl rfl rfl rfl (m_rf1 _) ?_
  refine zx_gp 19 rfl ?_
  exact zx_r rfl rfl
theorem m_deny_1 (p0 p1 p2 : Int32) (h2 : zwi p2 0 7 = 1) (h0 : zwi p0 0 3 = 0) (d : Nat) : zCr (d + 3) 169 [.ref 113, .int p0, .int p1, .int p2] (zHx F G L) (.inl (some (.int 0))) (zHt F G L 1) := by
  refine zx_in rfl rfl ?_
  refine zx_gp 19 rfl ?_
  refine zx_c rfl rfl rfl rfl (w_isIn' (lo := 0) (hi := 7) h2 _ _) ?_
  refine zx_gp 19 rfl ?_
  refine zx_c rfl rfl rfl rfl (m_pr_0 _ _ 0 h0 _ _) ?_
  refine zx_gp 19 rfl ?_
  refine zx_c rfl rfl rfl rfl (m_rf1 _) ?_
  refine zx_gp 19 rfl ?_
  exact zx_r rfl rfl
theorem m_deny_2 (p0 p1 p2 : Int32) (h2 : zwi p2 0 7 = 1) (h0 : zwi p0 0 3 = 1) (h1 : zwi p1 0 127 = 0) (d : Nat) : zCr (d + 3) 169 [.ref 113, .int p0, .int p1, .int p2] (zHx F G L) (.inl (some (.int 0))) (zHt F G L 1) := by
  refine zx_in rfl rfl ?_
  refine zx_gp 19 rfl ?_
  refine zx_c rfl rfl rfl rfl (w_isIn' (lo := 0) (hi := 7) h2 _ _) ?_
  refine zx_gp 19 rfl ?_
  refine zx_c rfl rfl rfl rfl (m_pr_1 _ _ 0 h0 h1 _ _) ?_
  refine zx_gp 19 rfl ?_
  refine zx_c rfl rfl rfl rfl (m_rf1 _) ?_
  refine zx_gp 19 rfl ?_
  exact zx_r rfl rfl
theorem m_deny_ok (hF : zFk F) (p0 p1 p2 : Int32) (h2 : zwi p2 0 7 = 1) (h0 : zwi p0 0 3 = 1) (h1 : zwi p1 0 127 = 1) (d : Nat) : zCr (d + 3) 169 [.ref 113, .int p0, .int p1, .int p2] (zHx F G L) (.inl (some (.int 0))) (zHt F G L 2) := by
  refine zx_in rfl rfl ?_
  refine zx_gp 19 rfl ?_
  refine zx_c rfl rfl rfl rfl (w_isIn' (lo := 0) (hi := 7) h2 _ _) ?_
  refine zx_gp 19 rfl ?_
  refine zx_c rfl rfl rfl rfl (m_pr_t hF _ _ 0 h0 h1 _) ?_
  refine zx_gp 19 rfl ?_
  refine zx_c rfl rfl rfl rfl (m_rf2 _) ?_
  refine zx_gp 19 rfl ?_
  exact zx_r rfl rfl
theorem m_swap_0 (p0 p1 : Int32) (h0 : zwi p0 0 3 = 0) (d : Nat) : zCr (d + 3) 173 [.ref 113, .int p0, .int p1] (zHx F G L) (.inl (some (.int 0))) (zHt F G L 1) := by
  refine zx_in rfl rfl ?_
  refine zx_gp 19 rfl ?_
  refine zx_c rfl rfl rfl rfl (m_pr_0 _ _ 1 h0 _ _) ?_
  refine zx_gp 19 rfl ?_
  refine zx_c rfl rfl rfl rfl (m_rf1 _) ?_
  refine zx_gp 19 rfl ?_
  exact zx_r rfl rfl
theorem m_swap_1 (p0 p1 : Int32) (h0 : zwi p0 0 3 = 1) (h1 : zwi p1 0 127 = 0) (d : Nat) : zCr (d + 3) 173 [.ref 113, .int p0, .int p1] (zHx F G L) (.inl (some (.int 0))) (zHt F G L 1) := by
  refine zx_in rfl rfl ?_
  refine zx_gp 19 rfl ?_
  refine zx_c rfl rfl rfl rfl (m_pr_1 _ _ 1 h0 h1 _ _) ?_
  refine zx_gp 19 rfl ?_
  refine zx_c rfl rfl rfl rfl (m_rf1 _) ?_
  refine zx_gp 19 rfl ?_
  exact zx_r rfl rfl
theorem m_swap_ok (hF : zFk F) (p0 p1 : Int32) (h0 : zwi p0 0 3 = 1) (h1 : zwi p1 0 127 = 1) (d : Nat) : zCr (d + 3) 173 [.ref 113, .int p0, .int p1] (zHx F G L) (.inl (some (.int 0))) (zHt F G L 2) := by
  refine zx_in rfl rfl ?_
  refine zx_gp 19 rfl ?_
  refine zx_c rfl rfl rfl rfl (m_pr_t hF _ _ 1 h0 h1 _) ?_
  refine zx_gp 19 rfl ?_
  refine zx_c rfl rfl rfl rfl (m_rf2 _) ?_
  refine zx_gp 19 rfl ?_
  exact zx_r rfl rfl
theorem m_move_0 (p0 p1 : Int32) (h0 : zwi p0 0 3 = 0) (d : Nat) : zCr (d + 3) 177 [.ref 113, .int p0, .int p1] (zHx F G L) (.inl (some (.int 0))) (zHt F G L 1) := by
  refine zx_in rfl rfl ?_
  refine zx_gp 19 rfl ?_
  refine zx_c rfl rfl rfl rfl (m_pr_0 _ _ 1 h0 _ _) ?_
  refine zx_gp 19 rfl ?_
  refine zx_c rfl rfl rfl rfl (m_rf1 _) ?_
  refine zx_gp 19 rfl ?_
  exact zx_r rfl rfl
theorem m_move_1 (p0 p1 : Int32) (h0 : zwi p0 0 3 = 1) (h1 : zwi p1 0 127 = 0) (d : Nat) : zCr (d + 3) 177 [.ref 113, .int p0, .int p1] (zHx F G L) (.inl (some (.int 0))) (zHt F G L 1) := by
  refine zx_in rfl rfl ?_
  refine zx_gp 19 rfl ?_
  refine zx_c rfl rfl rfl rfl (m_pr_1 _ _ 1 h0 h1 _ _) ?_
  refine zx_gp 19 rfl ?_
  refine zx_c rfl rfl rfl rfl (m_rf1 _) ?_
  refine zx_gp 19 rfl ?_
  exact zx_r rfl rfl
theorem m_move_ok (hF : zFk F) (p0 p1 : Int32) (h0 : zwi p0 0 3 = 1) (h1 : zwi p1 0 127 = 1) (d : Nat) : zCr (d + 3) 177 [.ref 113, .int p0, .int p1] (zHx F G L) (.inl (some (.int 0))) (zHt F G L 2) := by
  refine zx_in rfl rfl ?_
  refine zx_gp 19 rfl ?_
  refine zx_c rfl rfl rfl rfl (m_pr_t hF _ _ 1 h0 h1 _) ?_
  refine zx_gp 19 rfl ?_
  refine zx_c rfl rfl rfl rfl (m_rf2 _) ?_
  refine zx_gp 19 rfl ?_
  exact zx_r rfl rfl
end ZMP
end
section
/-! THE MODEL: poke, frame, owner, dirty -/
section ZMQ
variable {F : Nat → Nat → Int32} {G : Nat → Nat → Option Nat} {L : Nat → Int64}
theorem m_isWord {v r : Int32} (hr : zwi v 0 65535 = r) (h : zH) (d : Nat) : zCr (d + 2) 192 [.int v] h (.inl (some (.int r))) h := by
  refine zx_in rfl rfl ?_
  refine zx_go 9 rfl ?_
  refine zx_c rfl rfl rfl rfl (w_isIn' (lo := 0) (hi := 65535) hr _ _) ?_
  rcases zwi_01 v 0 65535 with q | q <;> (rw [q] at hr; subst hr; exact zx_r rfl rfl)
theorem m_poke_0 (p0 p1 p2 p3 p4 p5 : Int32) (h0 : zwi p0 0 3 = 0) (d : Nat) : zCr (d + 3) 193 [.ref 113, .int p0, .int p1, .int p2, .int p3, .int p4, .int p5] (zHx F G L) (.inl (some (.int 0))) (zHt F G L 1) := by
  refine zx_in rfl rfl ?_
  refine zx_gp 19 rfl ?_
  refine zx_c rfl rfl rfl rfl (w_isIn' (lo := 0) (hi := 3) h0 _ _) ?_
  refine zx_gp 19 rfl ?_
  refine zx_c rfl rfl rfl rfl (m_rf1 _) ?_
  refine zx_gp 19 rfl ?_
  exact zx_r rfl rfl
theorem m_poke_1 (p0 p1 p2 p3 p4 p5 : Int32) (h0 : zwi p0 0 3 = 1) (h1 : zwi p1 0 2047 = 0) (d : Nat) : zCr (d + 3) 193 [.ref 113, .int p0, .int p1, .int p2, .int p3, .int p4, .int p5] (zHx F G L) (.inl (some (.int 0))) (zHt F G L 1) := by
  refine zx_in rfl rfl ?_
  refine zx_gp 19 rfl ?_
  refine zx_c rfl rfl rfl rfl (w_isIn' (lo := 0) (hi := 3) h0 _ _) ?_
  refine zx_gp 19 rfl ?_
  refine zx_c rfl rfl rfl rfl (w_isIn' (lo := 0) (hi := 2047) h1 _ _) ?_
  refine zx_gp 19 rfl ?_
  refine zx_c rfl rfl rfl rfl (m_rf1 _) ?_
  refine zx_gp 19 rfl ?_
  exact zx_r rfl rfl
theorem m_poke_2 (p0 p1 p2 p3 p4 p5 : Int32) (h0 : zwi p0 0 3 = 1) (h1 : zwi p1 0 2047 = 1) (hm : zc1 .ne (p1 - p1 / 4 * 4) = true) (d : Nat) : zCr (d + 3) 193 [.ref 113, .int p0, .int p1, .int p2, .int p3, .int p4, .int p5] (zHx F G L) (.inl (some (.int 0))) (zHt F G L 1) := by
  refine zx_in rfl rfl ?_
  refine zx_gp 19 rfl ?_
  refine zx_c rfl rfl rfl rfl (w_isIn' (lo := 0) (hi := 3) h0 _ _) ?_
  refine zx_gp 19 rfl ?_
  refine zx_c rfl rfl rfl rfl (w_isIn' (lo := 0) (hi := 2047) h1 _ _) ?_
  refine zx_gp 4 rfl ?_
  refine zx_if rfl rfl hm rfl ?_
  refine zx_gp 19 rfl ?_
  refine zx_c rfl rfl rfl rfl (m_rf1 _) ?_
  refine zx_gp 19 rfl ?_
  exact zx_r rfl rfl
theorem m_poke_3 (p0 p1 p2 p3 p4 p5 : Int32) (h0 : zwi p0 0 3 = 1) (h1 : zwi p1 0 2047 = 1) (hm : zc1 .ne (p1 - p1 / 4 * 4) = false) (h2 : zwi p2 0 65535 = 0) (d : Nat) : zCr (d + 3) 193 [.ref 113, .int p0, .int p1, .int p2, .int p3, .int p4, .int p5] (zHx F G L) (.inl (some (.int 0))) (zHt F G L 1) := by
  refine zx_in rfl rfl ?_
  refine zx_gp 19 rfl ?_
  refine zx_c rfl rfl rfl rfl (w_isIn' (lo := 0) (hi := 3) h0 _ _) ?_
  refine zx_gp 19 rfl ?_
  refine zx_c rfl rfl rfl rfl (w_isIn' (lo := 0) (hi := 2047) h1 _ _) ?_
  refine zx_gp 4 rfl ?_
  refine zx_if rfl rfl hm rfl ?_
  refine zx_gp 19 rfl ?_
  refine zx_c rfl rfl rfl rfl (m_isWord h2 _ _) ?_
  refine zx_gp 19 rfl ?_
  refine zx_c rfl rfl rfl rfl (m_rf1 _) ?_
  refine zx_gp 19 rfl ?_
  exact zx_r rfl rfl
theorem m_poke_4 (p0 p1 p2 p3 p4 p5 : Int32) (h0 : zwi p0 0 3 = 1) (h1 : zwi p1 0 2047 = 1) (hm : zc1 .ne (p1 - p1 / 4 * 4) = false) (h2 : zwi p2 0 65535 = 1) (h3 : zwi p3 0 65535 = 0) (d : Nat) : zCr (d + 3) 193 [.ref 113, .int p0, .int p1, .int p2, .int p3, .int p4, .int p5] (zHx F G L) (.inl (some (.int 0))) (zHt F G L 1) := by
  refine zx_in rfl rfl ?_
  refine zx_gp 19 rfl ?_
  refine zx_c rfl rfl rfl rfl (w_isIn' (lo := 0) (hi := 3) h0 _ _) ?_
  refine zx_gp 19 rfl ?_
  refine zx_c rfl rfl rfl rfl (w_isIn' (lo := 0) (hi := 2047) h1 _ _) ?_
  refine zx_gp 4 rfl ?_
  refine zx_if rfl rfl hm rfl ?_
  refine zx_gp 19 rfl ?_
  refine zx_c rfl rfl rfl rfl (m_isWord h2 _ _) ?_
  refine zx_gp 19 rfl ?_
  refine zx_c rfl rfl rfl rfl (m_isWord h3 _ _) ?_
  refine zx_gp 19 rfl ?_
  refine zx_c rfl rfl rfl rfl (m_rf1 _) ?_
  refine zx_gp 19 rfl ?_
  exact zx_r rfl rfl
theorem m_poke_5 (p0 p1 p2 p3 p4 p5 : Int32) (h0 : zwi p0 0 3 = 1) (h1 : zwi p1 0 2047 = 1) (hm : zc1 .ne (p1 - p1 / 4 * 4) = false) (h2 : zwi p2 0 65535 = 1) (h3 : zwi p3 0 65535 = 1) (h4 : zwi p4 0 65535 = 0) (d : Nat) : zCr (d + 3) 193 [.ref 113, .int p0, .int p1, .int p2, .int p3, .int p4, .int p5] (zHx F G L) (.inl (some (.int 0))) (zHt F G L 1) := by
  refine zx_in rfl rfl ?_
  refine zx_gp 19 rfl ?_
  refine zx_c rfl rfl rfl rfl (w_isIn' (lo := 0) (hi := 3) h0 _ _) ?_
  refine zx_gp 19 rfl ?_
  refine zx_c rfl rfl rfl rfl (w_isIn' (lo := 0) (hi := 2047) h1 _ _) ?_
  refine zx_gp 4 rfl ?_
  refine zx_if rfl rfl hm rfl ?_
  refine zx_gp 19 rfl ?_
  refine zx_c rfl rfl rfl rfl (m_isWord h2 _ _) ?_
  refine zx_gp 19 rfl ?_
  refine zx_c rfl rfl rfl rfl (m_isWord h3 _ _) ?_
  refine zx_gp 19 rfl ?_
  refine zx_c rfl rfl rfl rfl (m_isWord h4 _ _) ?_
  refine zx_gp 19 rfl ?_
  refine zx_c rfl rfl rfl rfl (m_rf1 _) ?_
  refine zx_gp 19 rfl ?_
  exact zx_r rfl rfl
theorem m_poke_6 (p0 p1 p2 p3 p4 p5 : Int32) (h0 : zwi p0 0 3 = 1) (h1 : zwi p1 0 2047 = 1) (hm : zc1 .ne (p1 - p1 / 4 * 4) = false) (h2 : zwi p2 0 65535 = 1) (h3 : zwi p3 0 65535 = 1) (h4 : zwi p4 0 65535 = 1) (h5 : zwi p5 0 65535 = 0) (d : Nat) : zCr (d + 3) 193 [.ref 113, .int p0, .int p1, .int p2, .int p3, .int p4, .int p5] (zHx F G L) (.inl (some (.int 0))) (zHt F G L 1) := by
  refine zx_in rfl rfl ?_
  refine zx_gp 19 rfl ?_
  refine zx_c rfl rfl rfl rfl (w_isIn' (lo := 0) (hi := 3) h0 _ _) ?_
  refine zx_gp 19 rfl ?_
  refine zx_c rfl rfl rfl rfl (w_isIn' (lo := 0) (hi := 2047) h1 _ _) ?_
  refine zx_gp 4 rfl ?_
  refine zx_if rfl rfl hm rfl ?_
  refine zx_gp 19 rfl ?_
  refine zx_c rfl rfl rfl rfl (m_isWord h2 _ _) ?_
  refine zx_gp 19 rfl ?_
  refine zx_c rfl rfl rfl rfl (m_isWord h3 _ _) ?_
  refine zx_gp 19 rfl ?_
  refine zx_c rfl rfl rfl rfl (m_isWord h4 _ _) ?_
  refine zx_gp 19 rfl ?_
  refine zx_c rfl rfl rfl rfl (m_isWord h5 _ _) ?_
  refine zx_gp 19 rfl ?_
  refine zx_c rfl rfl rfl rfl (m_rf1 _) ?_
  refine zx_gp 19 rfl ?_
  exact zx_r rfl rfl
theorem m_poke_ok (hF : zFk F) (p0 p1 p2 p3 p4 p5 : Int32) (h0 : zwi p0 0 3 = 1) (h1 : zwi p1 0 2047 = 1) (hm : zc1 .ne (p1 - p1 / 4 * 4) = false) (h2 : zwi p2 0 65535 = 1) (h3 : zwi p3 0 65535 = 1) (h4 : zwi p4 0 65535 = 1) (h5 : zwi p5 0 65535 = 1) (d : Nat) : zCr (d + 3) 193 [.ref 113, .int p0, .int p1, .int p2, .int p3, .int p4, .int p5] (zHx F G L) (.inl (some (.int 0))) (zHt F G L 2) := by
  have key : ∀ j : Int32, zin j 4 = true → F 120 j.toNatClampNeg = 0 → zwi j 0 3 = 1 → zCr (d + 3) 193 [.ref 113, .int j, .int p1, .int p2, .int p3, .int p4, .int p5] (zHx F G L) (.inl (some (.int 0))) (zHt F G L 2) := by
    intro j hz hv h0
    refine zx_in rfl rfl ?_
    refine zx_gp 19 rfl ?_
    refine zx_c rfl rfl rfl rfl (w_isIn' (lo := 0) (hi := 3) h0 _ _) ?_
    refine zx_gp 19 rfl ?_
    refine zx_c rfl rfl rfl rfl (w_isIn' (lo := 0) (hi := 2047) h1 _ _) ?_
    refine zx_gp 4 rfl ?_
    refine zx_if rfl rfl hm rfl ?_
    refine zx_gp 19 rfl ?_
    refine zx_c rfl rfl rfl rfl (m_isWord h2 _ _) ?_
    refine zx_gp 19 rfl ?_
    refine zx_c rfl rfl rfl rfl (m_isWord h3 _ _) ?_
    refine zx_gp 19 rfl ?_
    refine zx_c rfl rfl rfl rfl (m_isWord h4 _ _) ?_
    refine zx_gp 19 rfl ?_
    refine zx_c rfl rfl rfl rfl (m_isWord h5 _ _) ?_
    refine zx_gp 19 rfl ?_
    refine zx_bal rfl rfl rfl hz hv ?_
    refine zx_gp 19 rfl ?_
    refine zx_c rfl rfl rfl rfl (m_rf2 _) ?_
    refine zx_gp 19 rfl ?_
    exact zx_r rfl rfl
  rcases zwi_3 h0 with rfl | rfl | rfl | rfl
  · exact key 0 rfl hF.1 rfl
  · exact key 1 rfl hF.2.1 rfl
  · exact key 2 rfl hF.2.2.1 rfl
  · exact key 3 rfl hF.2.2.2.1 rfl
theorem m_frame_0 (p0 p1 : Int32) (h0 : zwi p0 0 127 = 0) (d : Nat) : zCr (d + 2) 201 [.ref 113, .int p0, .int p1] (zHx F G L) (.inl (some (.int 0))) (zHt F G L 1) := by
  refine zx_in rfl rfl ?_
  refine zx_gp 19 rfl ?_
  refine zx_c rfl rfl rfl rfl (w_isIn' (lo := 0) (hi := 127) h0 _ _) ?_
  refine zx_gp 19 rfl ?_
  refine zx_c rfl rfl rfl rfl (m_rf1 _) ?_
  refine zx_gp 19 rfl ?_
  exact zx_r rfl rfl
theorem m_frame_1 (p0 p1 : Int32) (h0 : zwi p0 0 127 = 1) (h1 : zwi p1 0 15 = 0) (d : Nat) : zCr (d + 2) 201 [.ref 113, .int p0, .int p1] (zHx F G L) (.inl (some (.int 0))) (zHt F G L 1) := by
  refine zx_in rfl rfl ?_
  refine zx_gp 19 rfl ?_
  refine zx_c rfl rfl rfl rfl (w_isIn' (lo := 0) (hi := 127) h0 _ _) ?_
  refine zx_gp 19 rfl ?_
  refine zx_c rfl rfl rfl rfl (w_isIn' (lo := 0) (hi := 15) h1 _ _) ?_
  refine zx_gp 19 rfl ?_
  refine zx_c rfl rfl rfl rfl (m_rf1 _) ?_
  refine zx_gp 19 rfl ?_
  exact zx_r rfl rfl
theorem m_frame_ok (hF : zFz F) (p0 p1 : Int32) (h0 : zwi p0 0 127 = 1) (h1 : zwi p1 0 15 = 1) (d : Nat) : zCr (d + 2) 201 [.ref 113, .int p0, .int p1] (zHx F G L) (.inl (some (.int 0))) (zHt F G L 0) := by
  obtain ⟨j, hj, -, e1⟩ := zfrm h0 h1
  refine zx_in rfl rfl ?_
  refine zx_gp 19 rfl ?_
  refine zx_c rfl rfl rfl rfl (w_isIn' (lo := 0) (hi := 127) h0 _ _) ?_
  refine zx_gp 19 rfl ?_
  refine zx_c rfl rfl rfl rfl (w_isIn' (lo := 0) (hi := 15) h1 _ _) ?_
  refine zx_gp 19 rfl ?_
  refine zx_c rfl rfl rfl rfl (m_rf0 _) ?_
  refine zx_gp 19 rfl ?_
  refine zx_eq (y := nI j) e1 ?_
  refine zx_ial (x := 0) rfl rfl rfl (zin_nI hj (by decide)) (by rw [nI_clamp (by omega)]; exact hF.2.2.2.2.1 j hj) ?_
  exact zx_r rfl rfl
theorem m_owner_0 (p0 p1 : Int32) (h0 : zwi p0 0 127 = 0) (d : Nat) : zCr (d + 2) 204 [.ref 113, .int p0, .int p1] (zHx F G L) (.inl (some (.int 0))) (zHt F G L 1) := by
  refine zx_in rfl rfl ?_
  refine zx_gp 19 rfl ?_
  refine zx_c rfl rfl rfl rfl (w_isIn' (lo := 0) (hi := 127) h0 _ _) ?_
  refine zx_gp 19 rfl ?_
  refine zx_c rfl rfl rfl rfl (m_rf1 _) ?_
  refine zx_gp 19 rfl ?_
  exact zx_r rfl rfl
theorem m_owner_1 (p0 p1 : Int32) (h0 : zwi p0 0 127 = 1) (h1 : zwi p1 0 2 = 0) (d : Nat) : zCr (d + 2) 204 [.ref 113, .int p0, .int p1] (zHx F G L) (.inl (some (.int 0))) (zHt F G L 1) := by
  refine zx_in rfl rfl ?_
  refine zx_gp 19 rfl ?_
  refine zx_c rfl rfl rfl rfl (w_isIn' (lo := 0) (hi := 127) h0 _ _) ?_
  refine zx_gp 19 rfl ?_
  refine zx_c rfl rfl rfl rfl (w_isIn' (lo := 0) (hi := 2) h1 _ _) ?_
  refine zx_gp 19 rfl ?_
  refine zx_c rfl rfl rfl rfl (m_rf1 _) ?_
  refine zx_gp 19 rfl ?_
  exact zx_r rfl rfl
theorem m_owner_t0 (hF : zFz F) (p0 : Int32) (h0 : zwi p0 0 127 = 1) (d : Nat) : zCr (d + 2) 204 [.ref 113, .int p0, .int 0] (zHx F G L) (.inl (some (.int 0))) (zHt F G L 0) := by
  obtain ⟨j, hj, e1⟩ := zwi_nI (n := 127) rfl h0
  refine zx_in rfl rfl ?_
  refine zx_gp 19 rfl ?_
  refine zx_c rfl rfl rfl rfl (w_isIn' (lo := 0) (hi := 127) h0 _ _) ?_
  refine zx_gp 19 rfl ?_
  refine zx_c rfl rfl rfl rfl (w_isIn' (lo := 0) (hi := 2) (show zwi 0 0 2 = 1 by decide) _ _) ?_
  refine zx_gp 19 rfl ?_
  refine zx_c rfl rfl rfl rfl (m_rf0 _) ?_
  refine zx_gp 19 rfl ?_
  refine zx_eq (y := nI j) e1 ?_
  refine zx_ial (x := 0) rfl rfl rfl (zin_nI (n := 128) (by omega) (by decide)) (by rw [nI_clamp (by omega)]; exact hF.2.2.2.2.2 j (by omega)) ?_
  refine zx_gp 19 rfl ?_
  exact zx_r rfl rfl
theorem m_owner_t1 (hF : zFz F) (p0 : Int32) (h0 : zwi p0 0 127 = 1) (d : Nat) : zCr (d + 2) 204 [.ref 113, .int p0, .int 1] (zHx F G L) (.inl (some (.int (-1)))) (zHt F G L 0) := by
  obtain ⟨j, hj, e1⟩ := zwi_nI (n := 127) rfl h0
  refine zx_in rfl rfl ?_
  refine zx_gp 19 rfl ?_
  refine zx_c rfl rfl rfl rfl (w_isIn' (lo := 0) (hi := 127) h0 _ _) ?_
  refine zx_gp 19 rfl ?_
  refine zx_c rfl rfl rfl rfl (w_isIn' (lo := 0) (hi := 2) (show zwi 1 0 2 = 1 by decide) _ _) ?_
  refine zx_gp 19 rfl ?_
  refine zx_c rfl rfl rfl rfl (m_rf0 _) ?_
  refine zx_gp 19 rfl ?_
  refine zx_eq (y := nI j) e1 ?_
  refine zx_ial (x := 0) rfl rfl rfl (zin_nI (n := 128) (by omega) (by decide)) (by rw [nI_clamp (by omega)]; exact hF.2.2.2.2.2 j (by omega)) ?_
  refine zx_gp 19 rfl ?_
  exact zx_r rfl rfl
theorem m_owner_t2 (hF : zFz F) (p0 : Int32) (h0 : zwi p0 0 127 = 1) (d : Nat) : zCr (d + 2) 204 [.ref 113, .int p0, .int 2] (zHx F G L) (.inl (some (.int (-1)))) (zHt F G L 0) := by
  obtain ⟨j, hj, e1⟩ := zwi_nI (n := 127) rfl h0
  refine zx_in rfl rfl ?_
  refine zx_gp 19 rfl ?_
  refine zx_c rfl rfl rfl rfl (w_isIn' (lo := 0) (hi := 127) h0 _ _) ?_
  refine zx_gp 19 rfl ?_
  refine zx_c rfl rfl rfl rfl (w_isIn' (lo := 0) (hi := 2) (show zwi 2 0 2 = 1 by decide) _ _) ?_
  refine zx_gp 19 rfl ?_
  refine zx_c rfl rfl rfl rfl (m_rf0 _) ?_
  refine zx_gp 19 rfl ?_
  refine zx_eq (y := nI j) e1 ?_
  refine zx_ial (x := 0) rfl rfl rfl (zin_nI (n := 128) (by omega) (by decide)) (by rw [nI_clamp (by omega)]; exact hF.2.2.2.2.2 j (by omega)) ?_
  refine zx_gp 19 rfl ?_
  exact zx_r rfl rfl
theorem m_dirty (p0 : Int32) (d : Nat) : zCr (d + 2) 185 [.ref 113, .int p0] (zHx F G L) (.inl (some (.int (-1)))) (zHt F G L 0) := by
  refine zx_in rfl rfl ?_
  refine zx_gp 19 rfl ?_
  refine zx_c rfl rfl rfl rfl (w_isIn' (lo := 0) (hi := (-1)) (zwi_neg p0) _ _) ?_
  refine zx_gp 19 rfl ?_
  exact zx_r rfl rfl
theorem k_guest_0 (p0 : Int32) (h0 : zwi p0 1 128 = 0) (h : zH) (d : Nat) : zCr (d + 3) 18 [.ref 0, .int p0] h (.inr 0) h := by
  refine zx_in rfl rfl ?_
  refine zx_go 19 rfl ?_
  refine zx_c rfl rfl rfl rfl (w_within' (lo := 1) (hi := 128) h0 _ _) ?_
  refine zx_go 19 rfl ?_
  exact zx_x rfl rfl rfl rfl (w_arg0 _ _) rfl rfl
theorem k_host_0 (p0 : Int32) (h0 : zwi p0 0 4 = 0) (h : zH) (d : Nat) : zCr (d + 3) 218 [.ref 0, .int p0] h (.inr 0) h := by
  refine zx_in rfl rfl ?_
  refine zx_go 19 rfl ?_
  refine zx_c rfl rfl rfl rfl (w_within' (lo := 0) (hi := 4) h0 _ _) ?_
  refine zx_go 19 rfl ?_
  exact zx_x rfl rfl rfl rfl (w_arg0 _ _) rfl rfl
theorem m_guest_0 (p0 : Int32) (h0 : zwi p0 1 128 = 0) (d : Nat) : zCr (d + 2) 23 [.ref 113, .int p0] (zHx F G L) (.inl (some (.int 0))) (zHt F G L 1) := by
  refine zx_in rfl rfl ?_
  refine zx_gp 19 rfl ?_
  refine zx_c rfl rfl rfl rfl (w_isIn' (lo := 1) (hi := 128) h0 _ _) ?_
  refine zx_gp 19 rfl ?_
  refine zx_c rfl rfl rfl rfl (m_rf1 _) ?_
  refine zx_gp 19 rfl ?_
  exact zx_r rfl rfl
theorem m_host_0 (p0 : Int32) (h0 : zwi p0 0 4 = 0) (d : Nat) : zCr (d + 2) 220 [.ref 113, .int p0] (zHx F G L) (.inl (some (.int 0))) (zHt F G L 1) := by
  refine zx_in rfl rfl ?_
  refine zx_gp 19 rfl ?_
  refine zx_c rfl rfl rfl rfl (w_isIn' (lo := 0) (hi := 4) h0 _ _) ?_
  refine zx_gp 19 rfl ?_
  refine zx_c rfl rfl rfl rfl (m_rf1 _) ?_
  refine zx_gp 19 rfl ?_
  exact zx_r rfl rfl
end ZMQ
end
section
/-! A CALL IS ALIKE ON BOTH SIDES; guest and host by the kernel -/
/-- one call of the law: helper z, the model's method m, then thrown() -/
def zRs (z m : Nat) (al am : List Value) (H : zH) : Prop := ∃ (k b : Int32) (h1 h2 h3 : zH) (f : Nat → Int64), zCr 8 z al H (.inl (some (.int k))) h1 ∧ zCr 8 m am h1 (.inl (some (.int b))) h2 ∧ zCr 8 24 [.ref 113] h2 (.inl (some (.int k))) h3 ∧ h3[148]? = some (.inl (2, 1, .inr (.inl f))) ∧ (k = 0 → f 0 = b.toInt64)
abbrev zcl0 (z : Nat) (a : List Value) (h : zH) : Option (zO × zH) := zcall zPg zft zfn zX0 8 z a h
def zEvR (z m : Nat) (al am : List Value) (H : zH) : Bool := match zcl0 z al H with
  | some (.inl (some (.int k)), h1) => (match zcl0 m am h1 with
    | some (.inl (some (.int b)), h2) => (match zcl0 24 [.ref 113] h2 with
      | some (.inl (some (.int k')), h3) => (match (h3[148]? : Option zE) with
        | some (.inl (2, 1, .inr (.inl f))) => decide (k' = k) && decide (f 0 = b.toInt64)
        | _ => false)
      | _ => false)
    | _ => false)
  | _ => false
theorem zEvR_ok {z m : Nat} {al am : List Value} {H : zH} (h : zEvR z m al am H = true) : zRs z m al am H := by
  unfold zEvR at h
  split at h
  · rename_i k h1 e1
    split at h
    · rename_i b h2 e2
      split at h
      · rename_i k' h3 e3
        split at h
        · rename_i f e4
          rw [Bool.and_eq_true, decide_eq_true_eq, decide_eq_true_eq] at h
          obtain ⟨rfl, h⟩ := h
          exact ⟨_, b, h1, h2, h3, f, zCR_of _ _ _ _ _ _ e1, zCR_of _ _ _ _ _ _ e2, zCR_of _ _ _ _ _ _ e3, e4, fun _ => h⟩
        · cases h
      · cases h
    · cases h
  · cases h
def zL0 : Nat → Int64 := fun _ => 0
def zH0 : zH := zHb ++ [.inl (2, 1, .inr (.inl zL0))]
abbrev zF0 : Nat → Nat → Int32 := zfi zHb
abbrev zG0 : Nat → Nat → Option Nat := zfr zHb
theorem zH0_eq : zH0 = zHx zF0 zG0 zL0 := by
  unfold zH0 zHx
  rw [show zrls zF0 zG0 0 zsh = zHb from (zsm_eq zHb [] zHb zsh (List.nil_append zHb).symm zHb_sm).symm]
theorem zG0_k : zGk zG0 := zHb_G
theorem zF0_k : zFk zF0 := by unfold zFk; decide +kernel
theorem zal0 {n : Nat} {f : Nat → Int32} {x : Int32} (h : (List.range n).all (fun j => decide (f j = x)) = true) : ∀ j, j < n → f j = x := by
  intro j hj
  exact of_decide_eq_true (List.all_eq_true.mp h j (List.mem_range.mpr hj))
theorem zF0_z : zFz zF0 := ⟨zal0 (by decide +kernel), zal0 (by decide +kernel), zal0 zHb_F4, zal0 zHb_F5, zal0 (by decide +kernel), zal0 (by decide +kernel)⟩
end
section
/-! host by the kernel -/
theorem zEv_host : (List.range 5).all (fun r => zEvR 219 220 [.ref 0, .int (nI r), .ref 148] [.ref 113, .int (nI r)] zH0) = true := by decide +kernel
end
section
/-! guest: its loops by induction -/
section ZR6
variable {Pg : List zM} {FT : zFT} {FN : Nat → Nat} {X : zX} {cr : Nat → List Value → zH → zO → zH → Prop} {M : zM} {o : zO} {h h' : zH} {pc nc ns t : Nat} {lo : zL} {r : List Value} {en : zN} {x y : Int32}
theorem zx_ic {cd : ClassFile.Cond} {off : Int} {b : Bool} (hf : zfind (zIns M) pc = some en) (hi : en.2.1 = .if_icmp cd off) (hx : zc2 cd x y = b) (ht : ztgt en.1 off = some t) (k : zBx Pg FT FN X cr M o h' (bif b then t else pc + 3) lo r h nc ns) : zBx Pg FT FN X cr M o h' pc lo (.int y :: .int x :: r) h nc ns := by
  have hpc := (zfind_eq hf).2
  refine zx_s hf (by rw [hi]; rfl) ?_ k
  unfold zstep
  rw [hi]
  dsimp only [zpush, zlod, zsto, zjmp, z2]
  rw [ht]
  dsimp only
  rw [hx, hpc]
theorem zx_gf {q ci b ix : Nat} {fs : List Value} {v : Value} (hf : zfind (zIns M) pc = some en) (hi : en.2.1 = .getfield ix) (ha : en.2.2.2.1 = ci) (hb : en.2.2.2.2.1 = b) (hq : h[q]? = some (.inr (ci, fs))) (hv : fs[b]? = some v) (k : zBx Pg FT FN X cr M o h' (pc + 3) lo (v :: r) h nc ns) : zBx Pg FT FN X cr M o h' pc lo (.ref q :: r) h nc ns := by
  have hpc := (zfind_eq hf).2
  have e : zfld en.2.2.2.1 en.2.2.2.2.1 (.ref q :: r) h = some (v, r) := by
    unfold zfld
    dsimp only [zr1]
    rw [hq]
    dsimp only
    rw [ha, Nat.beq_refl, cond_true, hb, hv]
  refine zx_s hf (by rw [hi]; rfl) ?_ k
  unfold zstep
  rw [hi]
  dsimp only [zpush, zlod, zsto, zjmp]
  rw [e]
  dsimp only
  rw [hpc]
theorem zx_ias {q n : Nat} {f : Nat → Int32} {j : Int32} (hf : zfind (zIns M) pc = some en) (hi : en.2.1 = .iastore) (hq : h[q]? = some (.inl (0, n, .inl f))) (hz : zin j n = true) (k : zBx Pg FT FN X cr M o h' (pc + 1) lo r (h.set q (.inl (0, n, .inl (upd f j.toNatClampNeg x)))) nc ns) : zBx Pg FT FN X cr M o h' pc lo (.int x :: .int j :: .ref q :: r) h nc ns := by
  have hpc := (zfind_eq hf).2
  have e0 : zal .iastore X (.int x :: .int j :: .ref q :: r) h = none := rfl
  have e : zas .iastore (.int x :: .int j :: .ref q :: r) h = some (r, h.set q (.inl (0, n, .inl (upd f j.toNatClampNeg x)))) := by
    unfold zas
    dsimp only [zvir]
    rw [hq]
    show (bif zin j n then some (r, _) else none) = _
    rw [hz]
    rfl
  refine zx_s hf (by rw [hi]; rfl) ?_ k
  unfold zstep
  rw [hi]
  dsimp only [zpush, zlod, zsto, zjmp]
  rw [e0]
  dsimp only
  rw [e]
  dsimp only
  rw [hpc]
end ZR6
/-- n zeros from place k on -/
def zfil : Nat → Nat → (Nat → Int32) → Nat → Int32
  | 0, _, f => f
  | n + 1, k, f => zfil n (k + 1) (upd f k 0)
theorem zset_same {h : zH} {a : Nat} {c : zE} (e : h[a]? = some c) : h.set a c = h := by
  apply List.ext_getElem?
  intro i
  rw [List.getElem?_set]
  split
  · rename_i hi
    subst hi
    split
    · exact e.symm
    · rename_i hl
      rw [List.getElem?_eq_none (Nat.le_of_not_lt hl)] at e
      cases e
  · rfl
theorem zset_at {h : zH} {a : Nat} {c c' : zE} (e : h[a]? = some c) : (h.set a c')[a]? = some c' := by
  rw [List.getElem?_set]
  obtain ⟨hl, -⟩ := List.getElem?_eq_some_iff.mp e
  rw [if_pos rfl, if_pos hl]
theorem zset_ne {h : zH} {a b : Nat} {c : zE} (e : ¬ a = b) : (h.set a c)[b]? = h[b]? := by
  rw [List.getElem?_set, if_neg e]
section ZLP
variable {cr : Nat → List Value → zH → zO → zH → Prop} {o : zO} {h' : zH} {nc ns : Nat}
abbrev zBz (cr : Nat → List Value → zH → zO → zH → Prop) (M : zM) (o : zO) (h' : zH) (pc : Nat) (lo : zL) (st : List Value) (h : zH) (nc ns : Nat) : Prop := zBx zPg zft zfn zX0 cr M o h' pc lo st h nc ns
theorem b_loop {dk a : Nat} {fs : List Value} (hda : ¬ a = dk) : ∀ (n k : Nat) (f : Nat → Int32) (h : zH), k + n = 256 → h[dk]? = some (.inr (1, .ref a :: fs)) → h[a]? = some (.inl (0, 256, .inl f)) → zBz cr zm_16 o h' 22 [(1, .int (nI 256)), (0, .ref dk)] [] (h.set a (.inl (0, 256, .inl (zfil n k f)))) nc ns → zBz cr zm_16 o h' 2 [(1, .int (nI k)), (0, .ref dk)] [] h nc ns := by
  intro n
  induction n with
  | zero =>
    intro k f h hk hd ha kk
    obtain rfl : k = 256 := hk
    refine zx_go 2 rfl ?_
    refine zx_ic (b := true) rfl rfl (by decide) rfl ?_
    rw [show (zfil 0 256 f) = f from rfl, zset_same ha] at kk
    exact kk
  | succ n ih =>
    intro k f h hk hd ha kk
    have hk1 : k < 256 := by omega
    refine zx_go 2 rfl ?_
    refine zx_ic (b := false) rfl rfl (decide_eq_false (nI_ge hk1 (by decide))) rfl ?_
    refine zx_go 1 rfl ?_
    refine zx_gf rfl rfl rfl rfl hd rfl ?_
    refine zx_go 2 rfl ?_
    refine zx_ias rfl rfl ha (zin_nI hk1 (by decide)) ?_
    refine zx_go 2 rfl ?_
    rw [nI_clamp (by omega)]
    have e : nI k + Int32.ofInt 1 = nI (k + 1) := nI_1 k
    show zBz cr zm_16 o h' 2 [(1, .int (nI k + Int32.ofInt 1)), (0, .ref dk)] [] _ nc ns
    rw [e]
    refine ih (k + 1) (upd f k 0) _ (by omega) (by rw [zset_ne hda]; exact hd) (zset_at ha) ?_
    rw [List.set_set]
    exact kk
theorem m_loop {p : Int32} {w1 w3 : Value} {fs : List Value} {a : Nat} (hf : fs[20]? = some (.ref a)) (hda : ¬ a = 113) : ∀ (n k : Nat) (f : Nat → Int32) (h : zH), k + n = 256 → h[113]? = some (.inr (11, fs)) → h[a]? = some (.inl (0, 1024, .inl f)) → zBz cr zm_23 o h' 216 [(4, .int (nI 256)), (3, w3), (2, .int 0), (0, .ref 113), (1, w1)] [] (h.set a (.inl (0, 1024, .inl (zfil n k f)))) nc ns → zBz cr zm_23 o h' 188 [(4, .int (nI k)), (3, w3), (2, .int 0), (0, .ref 113), (1, w1)] [] h nc ns := by
  intro n
  induction n with
  | zero =>
    intro k f h hk hd ha kk
    obtain rfl : k = 256 := hk
    refine zx_go 2 rfl ?_
    refine zx_ic (b := true) rfl rfl (by decide) rfl ?_
    rw [show (zfil 0 256 f) = f from rfl, zset_same ha] at kk
    exact kk
  | succ n ih =>
    intro k f h hk hd ha kk
    have hk1 : k < 256 := by omega
    refine zx_go 2 rfl ?_
    refine zx_ic (b := false) rfl rfl (decide_eq_false (nI_ge hk1 (by decide))) rfl ?_
    refine zx_go 1 rfl ?_
    refine zx_gf rfl rfl rfl rfl hd hf ?_
    refine zx_go 6 rfl ?_
    have e0 : (256 : Int32) * 0 + nI k = nI k := by rw [show (256 : Int32) * 0 = nI 0 from rfl, nI_add, Nat.zero_add]
    show zBz cr zm_23 o h' 209 [(4, .int (nI k)), (3, w3), (2, .int 0), (0, .ref 113), (1, w1)] [.int 0, .int (256 * 0 + nI k), .ref a] h nc ns
    rw [e0]
    refine zx_ias rfl rfl ha (zin_nI (n := 1024) (by omega) (by decide)) ?_
    refine zx_go 2 rfl ?_
    rw [nI_clamp (by omega)]
    have e : nI k + Int32.ofInt 1 = nI (k + 1) := nI_1 k
    show zBz cr zm_23 o h' 188 [(4, .int (nI k + Int32.ofInt 1)), (3, w3), (2, .int 0), (0, .ref 113), (1, w1)] [] _ nc ns
    rw [e]
    refine ih (k + 1) (upd f k 0) _ (by omega) (by rw [zset_ne hda]; exact hd) (zset_at ha) ?_
    rw [List.set_set]
    exact kk
end ZLP
end
