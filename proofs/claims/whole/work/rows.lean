section
-- pasted from claim/NAMES.whole.lean.txt (a starting text): words of a list, exceptions
/-! ===== BEGIN words of one list among another's, by their places ===== -/
theorem goodIn_r {big : List Cond} (ws : List Cond) (ps : List Nat) (hp : ws = ps.filterMap (fun i => big[i]?)) (h : ws.all goodWord = true) : GoodIn big ws := by
  intro w hw
  have h1 := List.all_eq_true.mp h w hw
  rw [hp] at hw
  obtain ⟨i, -, hi⟩ := List.mem_filterMap.mp hw
  have hm : w ∈ big := by first | exact List.mem_of_getElem? hi | exact List.getElem?_mem hi
  exact ⟨hm, good_of_word h1⟩
theorem goodIn_app {big a b : List Cond} (ha : GoodIn big a) (hb : GoodIn big b) : GoodIn big (a ++ b) := fun w h => (List.mem_append.mp h).elim (ha w) (hb w)
theorem goodIn_ca {big a b : List Cond} {c : Cond} (ha : GoodIn big (c :: a)) (hb : GoodIn big b) : GoodIn big (c :: (a ++ b)) := fun w h => (List.mem_cons.mp h).elim (fun e => ha w (List.mem_cons.mpr (Or.inl e))) (fun h => (List.mem_append.mp h).elim (fun h => ha w (List.mem_cons.mpr (Or.inr h))) (hb w))
theorem goodIn_sub {big ws : List Cond} (hm : ∀ w ∈ ws, w ∈ big) (h : ws.all goodWord = true) : GoodIn big ws := fun w hw => ⟨hm w hw, good_of_word (List.all_eq_true.mp h w hw)⟩
/-! ===== END ===== -/
/-! ===== BEGIN exceptions that leave a method, and their catching by the caller (launches without stack traces) ===== -/
section VXA
/-! The laws vx_back, vx_callV, vx_callS, vx_callSW, vx_throw0, vx_throwS follow proofs of the library, with one case more: JvmDerived/Free/Laws.lean (Back.of_free), Shelf42/LK1.lean (callV, callS), Shelf/KitTraced.lean (throwNew0V, throwNewS). -/
/-- where a method has thrown q: the class by its name, the cell, what was written, the world -/
def vx_T (XC : String → State → State → Prop) (st : State) (q : Addr) (t : State) (mc ms : Nat) (free : Addr → Prop) : Prop :=
  ∃ (E : String) (ce : Cell) (L : List Loc), XC E st t ∧ t.heap[q]? = some ce ∧ ce.vm = .none ∧ st.vm.findClass E = some ce.cls ∧ st.WarmedH t.vm ∧ st.sameButNew ({ t with vm := st.vm } : State) L mc ms ∧ ∀ z ∈ L, free z.base
def vx_Q (Qc : Array Value → State → Outcome → State → Prop) (XC : String → State → State → Prop) (mc ms : Nat) (free : Addr → Prop) : Array Value → State → Outcome → State → Prop := fun a st o t =>
  (Qc a st o t ∧ ∃ L, FrameEnd st o t L mc ms ∧ ∀ q ∈ L, free q.base) ∨ ∃ q, o = .threw q ∧ vx_T XC st q t mc ms free
/-- a callee that returns or throws -/
def vx_Met (l : Launch) (y : MethodName) (ws : List Cond) (rm : Room) (Pc : Array Value → State → Prop) (Qc : Array Value → State → Outcome → State → Prop) (XC : String → State → State → Prop) (mc ms : Nat) (free : Addr → Prop) : Prop :=
  MetFree l y (headSpec ws rm) Pc (fun _ _ _ _ _ => True) (vx_Q Qc XC mc ms free)
def vx_Post (XC : String → State → State → Prop) (mc ms : Nat) (free : Addr → Prop) : Pt → Array Value → Addr → Pt → Prop := fun A a q B =>
  ∃ (g : JFrame) (mk : MethodId) (t : State) (L : List Loc) (E : String) (ce : Cell), B.U.heap = t.heap ∧ B.U.vm = t.vm ∧ XC E (A.U.calling g mk a) t ∧ t.heap[q]? = some ce ∧ ce.vm = .none ∧ A.U.vm.findClass E = some ce.cls ∧ B.locs = A.locs ++ L ∧ (∀ z ∈ L, free z.base) ∧ B.cells = A.cells + mc ∧ B.slots = A.slots + ms
def vx_Back (l : Launch) (R : Room) (p : Program) (e : Env) (below : List Frame) (s : State) (sargs : Array Value) (y : MethodName) (len W9 : Nat)
    (Pre : Pt → Array Value → Prop) (Post : Pt → Array Value → Option Value → Pt → Prop) (PostX : Pt → Array Value → Addr → Pt → Prop) : Prop :=
  ∀ (m : MethodId) (meth : Method) (c : Code) (A : Pt) (g : JFrame) (ig : Instr) (mk : MethodId) (a : Array Value),
    Stand p l e R s m sargs below meth c A.U A.locs A.cells A.slots → g.method = m → g.locals.size = c.maxLocals → decode c.code g.pc = .ok (ig, len) →
    2 * g.monitorRoom + (g.stack.map fun v => v.category).sum ≤ W9 → A.U.methodNamed? y = some mk → Pre A a →
    (∃ (v : Option Value) (B : Pt), Stand p l e R s m sargs below meth c B.U B.locs B.cells B.slots ∧ Post A a v B ∧
      Steps p.tables e below (doInvoke e (A.U.setTop g) [] mk a).1 (B.U.setTop { g with pc := g.pc + len, stack := v.toList ++ g.stack })) ∨
    (∃ (q : Addr) (B : Pt), Stand p l e R s m sargs below meth c B.U B.locs B.cells B.slots ∧ PostX A a q B ∧
      Steps p.tables e below (doInvoke e (A.U.setTop g) [] mk a).1 ((B.U.setTop g).pushFrame (.throwing q)))
section Payer
variable {l : Launch} {R : Room} {p : Program} {e : Env} {below : List Frame} {s : State} {sargs : Array Value} {y : MethodName} {len W9 : Nat}
theorem vx_back {ws : List Cond} {rm : Room} {Pc : Array Value → State → Prop} {Qc : Array Value → State → Outcome → State → Prop} {XC : String → State → State → Prop} {mc ms : Nat} {free : Addr → Prop} {bytes : ByteArray} {maxL : Nat} {ret : Option FieldType}
    (hM : vx_Met l y ws rm Pc Qc XC mc ms free) (hblind : FrameBlind Pc) (hrc : rm.cells = mc) (hrs : rm.slots = ms)
    (hframes : rm.frames + 1 ≤ R.frames) (hlocals : W9 + (maxL + 11) + rm.locals ≤ R.locals)
    (hws : ∀ w ∈ ws, ∀ a' U, s.WarmedH U.vm → w.before a' U = true) (hcode : Cond.code y bytes maxL ret ∈ ws) (hinit : ∀ a' U, s.WarmedH U.vm → (Cond.initialized y.cls).before a' U = true) :
    vx_Back l R p e below s sargs y len W9 (PreOf R mc ms Pc) (PostOf Qc mc ms free) (vx_Post XC mc ms free) := by
  intro m meth c A g ig mk a X hg hsize hdg hW hn hp
  have h1 : (headSpec ws rm).pre.before a A.U = true := atoms_intro fun w hw => hws w hw _ _ X.warmed
  have h2 : (Cond.code y bytes maxL ret).before a A.U = true := hws _ hcode _ _ X.warmed
  have h3 : (Cond.initialized y.cls).before a A.U = true := hinit _ _ X.warmed
  have h4 : A.cells + (headSpec ws rm).room.cells ≤ R.cells := by rw [show (headSpec ws rm).room.cells = mc from hrc]; exact hp.1
  have h5 : A.slots + (headSpec ws rm).room.slots ≤ R.slots := by rw [show (headSpec ws rm).room.slots = ms from hrs]; exact hp.2.1
  have hPc : Pc a (A.U.calling g mk a) := hblind _ _ _ _ hp.2.2
  obtain ⟨U, Ls, c0, s0⟩ := A
  dsimp only [Pt.U, Pt.locs, Pt.cells, Pt.slots] at h1 h2 h3 h4 h5 X hn hPc ⊢
  obtain ⟨methY, cY, hmY, hcY, -, hlY, -, -, -, -⟩ := Cond.code_spec hn h2
  obtain ⟨kY, hkY, -⟩ := className_of_methodNamed hn
  have hinitY : kY.init = .initialized := Cond.initialized_spec (findClass_of_methodNamed hn) hkY h3
  have h : At U g.method c below := by rw [hg]; exact X.here
  have hlocals9 : W9 + (maxL + 11) + (headSpec ws rm).room.locals ≤ R.locals := hlocals
  have happ : (headSpec ws rm).appliesLoose y e.platform (U.calling g mk a) = true :=
    Spec.appliesLoose_calling (g := g) h hdg hn hkY hinitY
      (X.room_calling (g := g) (R' := (headSpec ws rm).room) hsize hmY hcY hframes (by rw [hlY]; omega) h4 h5) h1
  obtain ⟨mid, hmid⟩ := h.above
  have hfr : (U.setTop g).frames = (.java g :: mid) ++ below := by rw [State.frames_setTop' g h.top, hmid]; rfl
  obtain ⟨o, s₂, hsteps, -, hend, hq⟩ := Steps.callFree hM p X.admits X.cas X.clock (acts := []) hfr happ hPc trivial
  have hq' : vx_Q Qc XC mc ms free a (U.calling g mk a) o s₂ := hq
  rw [State.frames_setTop' g h.top] at hend
  obtain ⟨g₀, hg0⟩ := Option.isSome_iff_exists.mp h.top
  obtain ⟨r, hr⟩ := State.topJava?_eq_some.mp hg0
  have hr' : (({ U with heap := s₂.heap, slotsUsed := s₂.slotsUsed } : State).setVm s₂.vm).frames = .java g₀ :: r := hr
  rcases hq' with ⟨hqc, L, hfe, hL⟩ | ⟨q, rfl, E, ce, L, hx, hce, hcv, hcl, hW₂, hsm, hL⟩
  · obtain ⟨⟨v, rfl⟩, hW₂, e2, q2, q3, q4, q5, q6⟩ := id hfe
    have e3 : s₂ = ({ (U.calling g mk a).setFrames s₂.frames with heap := s₂.heap, slotsUsed := s₂.slotsUsed } : State).setVm s₂.vm := by
      have : s₂ = ({ s₂ with vm := (U.calling g mk a).vm } : State).setVm s₂.vm := rfl
      rw [e2] at this
      exact this
    obtain ⟨c₂, i₂, len₂, hc₂, hd₂, hf₂⟩ := hend
    have hW' : U.WarmedH s₂.vm := hW₂
    have hcc : c₂ = c := by
      have h1 : s₂.code? g.method = U.code? g.method := by
        rw [State.code?_eq, State.code?_eq, hW'.alike.method?]
      exact Option.some.inj (hc₂.symm.trans (h1.trans h.code))
    subst hcc
    have hlen : len₂ = len := by rw [hdg] at hd₂; cases hd₂; rfl
    subst hlen
    have hs₂ : s₂ = (({ U with heap := s₂.heap, slotsUsed := s₂.slotsUsed } : State).setVm s₂.vm).setTop { g with pc := g.pc + len₂, stack := v.toList ++ g.stack } := by
      refine e3.trans ?_
      rw [hf₂, State.calling_eq h.top, State.setFrames_setFrames, State.setTop_of_frames _ hr', hr]
      rfl
    have hsame : U.sameButNew ({ U with heap := s₂.heap, slotsUsed := s₂.slotsUsed } : State) L mc ms := by
      refine ⟨?_, q2, q3, q4, q5, q6⟩
      obtain ⟨t, ht, -⟩ := State.frames_cons hr
      show ({ U with heap := s₂.heap, slotsUsed := s₂.slotsUsed } : State) = { U.setFrames U.frames with heap := s₂.heap, slotsUsed := s₂.slotsUsed }
      rw [State.setFrames_self ht]
    subst hg
    refine Or.inl ⟨v, ⟨(({ U with heap := s₂.heap, slotsUsed := s₂.slotsUsed } : State).setVm s₂.vm), Ls ++ L, c0 + mc, s0 + ms⟩,
      ⟨X.admits, X.cas, X.clock, X.frames, X.room, X.hears, X.method, X.code, (X.here.setHeapUsed s₂.heap s₂.slotsUsed).setVm hW'.alike, X.tail, State.WarmedH.trans X.warmed hW', X.limits, X.bytes, X.same.trans (hsame.setVm s.vm)⟩,
      ⟨g, mk, s₂, L, rfl, rfl, hqc, rfl, hL, rfl, rfl⟩, ?_⟩
    show Steps p.tables e below _ ((({ U with heap := s₂.heap, slotsUsed := s₂.slotsUsed } : State).setVm s₂.vm).setTop { g with pc := g.pc + len₂, stack := v.toList ++ g.stack })
    rw [← hs₂]
    exact hsteps
  · obtain ⟨e2, q2, q3, q4, q5, q6⟩ := id hsm
    have e3 : s₂ = ({ (U.calling g mk a).setFrames s₂.frames with heap := s₂.heap, slotsUsed := s₂.slotsUsed } : State).setVm s₂.vm := by
      have : s₂ = ({ s₂ with vm := (U.calling g mk a).vm } : State).setVm s₂.vm := rfl
      rw [e2] at this
      exact this
    have hf₂ : s₂.frames = .throwing q :: .java g :: U.frames.tail := hend
    have hW' : U.WarmedH s₂.vm := hW₂
    have hs₂ : s₂ = ((({ U with heap := s₂.heap, slotsUsed := s₂.slotsUsed } : State).setVm s₂.vm).setTop g).pushFrame (.throwing q) := by
      refine e3.trans ?_
      rw [hf₂, State.calling_eq h.top, State.setFrames_setFrames, State.pushFrame, State.frames_setTop _ hr', State.setTop_of_frames _ hr', State.setFrames_setFrames, hr]
      rfl
    have hsame : U.sameButNew ({ U with heap := s₂.heap, slotsUsed := s₂.slotsUsed } : State) L mc ms := by
      refine ⟨?_, q2, q3, q4, q5, q6⟩
      obtain ⟨t, ht, -⟩ := State.frames_cons hr
      show ({ U with heap := s₂.heap, slotsUsed := s₂.slotsUsed } : State) = { U.setFrames U.frames with heap := s₂.heap, slotsUsed := s₂.slotsUsed }
      rw [State.setFrames_self ht]
    subst hg
    refine Or.inr ⟨q, ⟨(({ U with heap := s₂.heap, slotsUsed := s₂.slotsUsed } : State).setVm s₂.vm), Ls ++ L, c0 + mc, s0 + ms⟩,
      ⟨X.admits, X.cas, X.clock, X.frames, X.room, X.hears, X.method, X.code, (X.here.setHeapUsed s₂.heap s₂.slotsUsed).setVm hW'.alike, X.tail, State.WarmedH.trans X.warmed hW', X.limits, X.bytes, X.same.trans (hsame.setVm s.vm)⟩,
      ⟨g, mk, s₂, L, E, ce, rfl, rfl, hx, hce, hcv, hcl, rfl, hL, rfl, rfl⟩, ?_⟩
    show Steps p.tables e below _ (((({ U with heap := s₂.heap, slotsUsed := s₂.slotsUsed } : State).setVm s₂.vm).setTop g).pushFrame (.throwing q))
    rw [← hs₂]
    exact hsteps
end Payer
section Calls
variable {p : Program} {l : Launch} {e : Env} {R : Room} {s : State} {m : MethodId} {args : Array Value} {below : List Frame} {meth : Method} {c : Code} {T : State} {locs : List Loc} {cells slots : Nat}
theorem vx_callV (X : Stand p l e R s m args below meth c T locs cells slots) (hexec : p.tables.exec = Jvm.exec) {own C : String} {index : Nat} {y : MethodName} {bytes : ByteArray} {maxL : Nat} {ret : Option FieldType}
    (hown : s.vm.findClass own = some m.cls) (hlink : (Cond.methodLink own index y).before args s = true) (hinst : (Cond.instanceMethod y).before args s = true) (hsel : (Cond.selects C y y).before args s = true)
    (hcode : (Cond.code y bytes maxL ret).before args s = true) (hy : y.cls ≠ "java/lang/invoke/MethodHandle" ∧ y.cls ≠ "java/lang/invoke/VarHandle")
    {W9 : Nat} {Pre : Pt → Array Value → Prop} {Post : Pt → Array Value → Option Value → Pt → Prop} {PostX : Pt → Array Value → Addr → Pt → Prop} (hK : vx_Back l R p e below s args y 3 W9 Pre Post PostX)
    {b : Addr} {cellB : Cell} (hcell : T.heap[b]? = some cellB) (hobj : cellB.vm.isStatics = false) (hcls : s.vm.findClass C = some cellB.cls)
    {g : JFrame} (hg : g.method = m) (hsize : g.locals.size = c.maxLocals) {argsL rest : List Value} (hlen : ∀ sig, parseMethodDescriptor y.desc = some sig → argsL.length = sig.parameters.length)
    (hstack : g.stack = argsL.reverse ++ .ref b :: rest) (hW : 2 * g.monitorRoom + (rest.map fun v => v.category).sum ≤ W9) (hdg : decode c.code g.pc = .ok (.invokevirtual index, 3))
    (hpre : ∀ vm₁, s.WarmedH vm₁ → Pre ⟨T.setVm vm₁, locs, cells, slots⟩ (Value.ref b :: argsL).toArray) :
    (∃ (v : Option Value) (vm₁ : Vm) (B : Pt), s.WarmedH vm₁ ∧ Stand p l e R s m args below meth c B.U B.locs B.cells B.slots ∧ Post ⟨T.setVm vm₁, locs, cells, slots⟩ (Value.ref b :: argsL).toArray v B ∧
      ∀ target, Steps p.tables e below (B.U.setTop { g with pc := g.pc + 3, stack := v.toList ++ rest }) target → Steps p.tables e below (T.setTop g) target) ∨
    (∃ (q : Addr) (vm₁ : Vm) (B : Pt), s.WarmedH vm₁ ∧ Stand p l e R s m args below meth c B.U B.locs B.cells B.slots ∧ PostX ⟨T.setVm vm₁, locs, cells, slots⟩ (Value.ref b :: argsL).toArray q B ∧
      Steps p.tables e below (T.setTop g) ((B.U.setTop { g with stack := rest }).pushFrame (.throwing q))) := by
  obtain ⟨mk, methM, hnamed, hmethM, hstM, habM⟩ := Cond.instanceMethod_spec hinst
  obtain ⟨methM', cM, hmethM', -, -, -, -, -, -, hsigM⟩ := Cond.code_spec hnamed hcode
  cases hmethM.symm.trans hmethM'
  obtain ⟨c2, r2, m2, q1, q2, q3, q4, kP, hkP, hkPi⟩ := Cond.selects_spec hsel
  cases hcls.symm.trans q1
  cases (State.methodFound?_of_named hnamed hy).symm.trans q2
  cases hnamed.symm.trans q3
  have hselP : selectMethod e.platform s.vm cellB.cls mk = .method mk := by rw [Launch.admits_selectMethod X.admits]; exact q4
  obtain ⟨vm₁, X₁, hstep₁⟩ := X.invokevirtual hexec hown hlink hnamed hmethM hstM hkP hkPi hy (a := b) (cell := cellB) hcell
    (fun z h => by rw [h] at hobj; cases hobj) hselP hmethM habM hkP hkPi (g := g) hg (argsL := argsL) (rest := rest) (hlen _ hsigM) hstack hdg
  rcases hK m meth c ⟨T.setVm vm₁, locs, cells, slots⟩ { g with stack := rest } (.invokevirtual index) mk (Value.ref b :: argsL).toArray X₁ hg hsize hdg hW (X₁.named hnamed) (hpre vm₁ X₁.warmed) with ⟨v, B, X', hpost, hsteps⟩ | ⟨q, B, X', hpost, hsteps⟩
  · exact Or.inl ⟨v, vm₁, B, X₁.warmed, X', hpost, fun target h => hstep₁ _ fun acts => by rw [doInvoke_state]; exact hsteps.trans h⟩
  · exact Or.inr ⟨q, vm₁, B, X₁.warmed, X', hpost, hstep₁ _ fun acts => by rw [doInvoke_state]; exact hsteps⟩
theorem vx_callS (X : Stand p l e R s m args below meth c T locs cells slots) (hexec : p.tables.exec = Jvm.exec) {own : String} {index : Nat} {y : MethodName} {bytes : ByteArray} {maxL : Nat} {ret : Option FieldType}
    (hown : s.vm.findClass own = some m.cls) (hlink : (Cond.methodLink own index y).before args s = true) (hstat : (Cond.static y).before args s = true) (hinit : (Cond.initialized y.cls).before args s = true)
    (hcode : (Cond.code y bytes maxL ret).before args s = true) (hy : y.cls ≠ "java/lang/invoke/MethodHandle" ∧ y.cls ≠ "java/lang/invoke/VarHandle")
    {W9 : Nat} {Pre : Pt → Array Value → Prop} {Post : Pt → Array Value → Option Value → Pt → Prop} {PostX : Pt → Array Value → Addr → Pt → Prop} (hK : vx_Back l R p e below s args y 3 W9 Pre Post PostX)
    {g : JFrame} (hg : g.method = m) (hsize : g.locals.size = c.maxLocals) {argsL rest : List Value} (hlen : ∀ sig, parseMethodDescriptor y.desc = some sig → argsL.length = sig.parameters.length)
    (hstack : g.stack = argsL.reverse ++ rest) (hW : 2 * g.monitorRoom + (rest.map fun v => v.category).sum ≤ W9) (hdg : decode c.code g.pc = .ok (.invokestatic index, 3))
    (hpre : ∀ vm₁, s.WarmedH vm₁ → Pre ⟨T.setVm vm₁, locs, cells, slots⟩ argsL.toArray) :
    (∃ (v : Option Value) (vm₁ : Vm) (B : Pt), s.WarmedH vm₁ ∧ Stand p l e R s m args below meth c B.U B.locs B.cells B.slots ∧ Post ⟨T.setVm vm₁, locs, cells, slots⟩ argsL.toArray v B ∧
      ∀ target, Steps p.tables e below (B.U.setTop { g with pc := g.pc + 3, stack := v.toList ++ rest }) target → Steps p.tables e below (T.setTop g) target) ∨
    (∃ (q : Addr) (vm₁ : Vm) (B : Pt), s.WarmedH vm₁ ∧ Stand p l e R s m args below meth c B.U B.locs B.cells B.slots ∧ PostX ⟨T.setVm vm₁, locs, cells, slots⟩ argsL.toArray q B ∧
      Steps p.tables e below (T.setTop g) ((B.U.setTop { g with stack := rest }).pushFrame (.throwing q))) := by
  obtain ⟨mk, hnamed⟩ := Cond.code_named hcode
  obtain ⟨methM, cM, hmethM, -, -, -, -, -, -, hsigM⟩ := Cond.code_spec hnamed hcode
  have hstatic : methM.isStatic = true := Cond.static_spec hnamed hmethM hstat
  obtain ⟨kP, hkP, -⟩ := className_of_methodNamed hnamed
  have hinitP : kP.init = .initialized := Cond.initialized_spec (findClass_of_methodNamed hnamed) hkP hinit
  obtain ⟨vm₁, X₁, hstep₁⟩ := X.invokestatic hexec hown hlink hnamed hmethM hstatic hkP hinitP hy (g := g) hg (argsL := argsL) (rest := rest) (hlen _ hsigM) hstack hdg
  rcases hK m meth c ⟨T.setVm vm₁, locs, cells, slots⟩ { g with stack := rest } (.invokestatic index) mk argsL.toArray X₁ hg hsize hdg hW (X₁.named hnamed) (hpre vm₁ X₁.warmed) with ⟨v, B, X', hpost, hsteps⟩ | ⟨q, B, X', hpost, hsteps⟩
  · exact Or.inl ⟨v, vm₁, B, X₁.warmed, X', hpost, fun target h => hstep₁ _ fun acts => by rw [doInvoke_state]; exact hsteps.trans h⟩
  · exact Or.inr ⟨q, vm₁, B, X₁.warmed, X', hpost, hstep₁ _ fun acts => by rw [doInvoke_state]; exact hsteps⟩
end Calls
theorem vx_cls {s : State} {T : State} {vm₁ : Vm} {E : String} {k : ClassId} (hW : s.WarmedH vm₁) (h : (T.setVm vm₁).vm.findClass E = some k) : s.vm.findClass E = some k := by
  have h1 : vm₁.findClass E = some k := h
  rw [hW.alike.findClass] at h1
  exact h1
/-- the method's frame g, with q thrown over it -/
def vx_W (p : Program) (l : Launch) (e : Env) (R : Room) (s : State) (m : MethodId) (args : Array Value) (below : List Frame) (meth : Method) (c : Code) (H : Heap) (locs : List Loc) (cells slots : Nat) (Q : State → Prop) (g : JFrame) (q : Addr) : Prop :=
  ∀ T : State, T.heap = H → Stand p l e R s m args below meth c T locs cells slots → ∃ t, Steps p.tables e below ((T.setTop g).pushFrame (.throwing q)) t ∧ Q t
def vx_Run (p : Program) (l : Launch) (e : Env) (R : Room) (s : State) (m : MethodId) (args : Array Value) (below : List Frame) (meth : Method) (c : Code) (H : Heap) (locs : List Loc) (cells slots mc ms : Nat) (g : JFrame) (rest : List Value) (Qa : State → Outcome → State → Prop) (XC : String → State → State → Prop) (free : Addr → Prop) : Prop :=
  ∀ T : State, T.heap = H → Stand p l e R s m args below meth c T locs cells slots →
    (∃ (v : Option Value) (st₀ t T' : State) (L : List Loc), st₀.heap = H ∧ Stand p l e R s m args below meth c T' (locs ++ L) (cells + mc) (slots + ms) ∧ (∀ q ∈ L, free q.base) ∧ T'.heap = t.heap ∧ T'.vm = t.vm ∧ Qa st₀ (.returned v) t ∧
      Goes p e below T g T' { g with pc := g.pc + 3, stack := v.toList ++ rest }) ∨
    (∃ (q : Addr) (st₀ t T' : State) (L : List Loc) (E : String) (ce : Cell), st₀.heap = H ∧ Stand p l e R s m args below meth c T' (locs ++ L) (cells + mc) (slots + ms) ∧ (∀ z ∈ L, free z.base) ∧ T'.heap = t.heap ∧ T'.vm = t.vm ∧ XC E st₀ t ∧ t.heap[q]? = some ce ∧ ce.vm = .none ∧ s.vm.findClass E = some ce.cls ∧
      Steps p.tables e below (T.setTop g) ((T'.setTop { g with stack := rest }).pushFrame (.throwing q)))
def vx_X {S : Type} (px : S → Prop) (B : String → S → State → Prop) (A : Nat → Prop) : String → State → State → Prop := fun E st t => ∃ u : S, px u ∧ B E u t ∧ va_F A st t
section Runs
variable {p : Program} {l : Launch} {e : Env} {R : Room} {s : State} {m : MethodId} {args : Array Value} {below : List Frame} {meth : Method} {c : Code} {H : Heap} {locs : List Loc} {cells slots : Nat}
variable {y : MethodName} {bytes cc : ByteArray} {maxL nL mc ms n index : Nat} {ret : Option FieldType} {ws : List Cond} {rm : Room} {Pc : Array Value → State → Prop} {Qc : Array Value → State → Outcome → State → Prop} {XC : String → State → State → Prop} {free : Addr → Prop} {Ts : List Cond} {own C : String} {b : Addr} {As rest : List Value} {g : JFrame}
theorem vx_callBack (cb : CallB R s args own index y bytes maxL ret ws rm mc ms n) (hM : vx_Met l y ws rm Pc Qc XC mc ms free) (hbl : FrameBlind Pc) : vx_Back l R p e below s args y 3 8 (PreOf R mc ms Pc) (PostOf Qc mc ms free) (vx_Post XC mc ms free) := by
  obtain ⟨hrc, hrs, hfr, hlo, hws, hcw, -, hini, -⟩ := cb
  exact vx_back (bytes := bytes) (maxL := maxL) (ret := ret) hM hbl hrc hrs hfr hlo hws hcw (fun a' U hW => word_at hW (Or.inl (by first | rfl | simp [Cond.onTables, Cond.keeps, Cond.steady])) hini)
theorem vx_runV (S : CallFix p m c cc nL s args Ts own) (hM : vx_Met l y ws rm Pc Qc XC mc ms free) (cw : CallW R s args own C index y bytes maxL ret ws rm mc ms n) (hp : PreV s H C b Pc As)
    (hg : g.method = m) (hn : As.length = n) (hsize : g.locals.size = nL) (hstack : g.stack = As.reverse ++ .ref b :: rest) (hW : 2 * g.monitorRoom + (rest.map fun v => v.category).sum ≤ 8) (hdg : decode cc g.pc = .ok (.invokevirtual index, 3)) (hf : cells + mc ≤ R.cells ∧ slots + ms ≤ R.slots) :
    vx_Run p l e R s m args below meth c H locs cells slots mc ms g rest (Qc (Value.ref b :: As).toArray) XC free := by
  have hK : vx_Back l R p e below s args y 3 8 (PreOf R mc ms Pc) (PostOf Qc mc ms free) (vx_Post XC mc ms free) := vx_callBack cw.1 hM hp.1
  obtain ⟨⟨-, -, -, -, -, -, hcode, -, hy, hlen, hl⟩, hin, hse⟩ := cw
  obtain ⟨hx, hb, hml, ho, -⟩ := S
  obtain ⟨-, ⟨cellB, hcB, hoB, hclB⟩, hPc⟩ := hp
  intro T hT X
  rcases vx_callV X hx (C := C) (bytes := bytes) (maxL := maxL) (ret := ret) ho hl hin hse hcode hy hK (by rw [hT]; exact hcB) hoB hclB hg (hsize.trans hml.symm) (argsL := As) (rest := rest) (fun sig h => hn.trans (hlen sig h)) hstack hW (by rw [hb]; exact hdg)
    (fun vm₁ hW₁ => ⟨hf.1, hf.2, hPc (T.setVm vm₁) hT hW₁⟩) with ⟨v, vm₁, ⟨U', l2, c2, s2⟩, hW₁, X', ⟨g', mk, t, L, e1, e2, hq, h1, hL, h2, h3⟩, st⟩ | ⟨q, vm₁, ⟨U', l2, c2, s2⟩, hW₁, X', ⟨g', mk, t, L, E, ce, e1, e2, hq, hce, hcv, hcl, h1, hL, h2, h3⟩, st⟩
  · dsimp only [Pt.U, Pt.locs, Pt.cells, Pt.slots] at X' e1 e2 h1 h2 h3 st
    subst h1; subst h2; subst h3
    exact Or.inl ⟨v, (T.setVm vm₁).calling g' mk (Value.ref b :: As).toArray, t, U', L, hT, X', hL, e1, e2, hq, st⟩
  · dsimp only [Pt.U, Pt.locs, Pt.cells, Pt.slots] at X' e1 e2 h1 h2 h3 st hcl
    subst h1; subst h2; subst h3
    exact Or.inr ⟨q, (T.setVm vm₁).calling g' mk (Value.ref b :: As).toArray, t, U', L, E, ce, hT, X', hL, e1, e2, hq, hce, hcv, vx_cls hW₁ hcl, st⟩
theorem vx_runS (S : CallFix p m c cc nL s args Ts own) (hM : vx_Met l y ws rm Pc Qc XC mc ms free) (cw : CallB R s args own index y bytes maxL ret ws rm mc ms n ∧ (Cond.static y).before args s = true) (hp : PreS s H Pc As)
    (hg : g.method = m) (hn : As.length = n) (hsize : g.locals.size = nL) (hstack : g.stack = As.reverse ++ rest) (hW : 2 * g.monitorRoom + (rest.map fun v => v.category).sum ≤ 8) (hdg : decode cc g.pc = .ok (.invokestatic index, 3)) (hf : cells + mc ≤ R.cells ∧ slots + ms ≤ R.slots) :
    vx_Run p l e R s m args below meth c H locs cells slots mc ms g rest (Qc As.toArray) XC free := by
  have hK : vx_Back l R p e below s args y 3 8 (PreOf R mc ms Pc) (PostOf Qc mc ms free) (vx_Post XC mc ms free) := vx_callBack cw.1 hM hp.1
  obtain ⟨⟨-, -, -, -, -, -, hcode, hini, hy, hlen, hl⟩, hstt⟩ := cw
  obtain ⟨hx, hb, hml, ho, -⟩ := S
  intro T hT X
  rcases vx_callS X hx (bytes := bytes) (maxL := maxL) (ret := ret) ho hl hstt hini hcode hy hK hg (hsize.trans hml.symm) (argsL := As) (rest := rest) (fun sig h => hn.trans (hlen sig h)) hstack hW (by rw [hb]; exact hdg)
    (fun vm₁ hW₁ => ⟨hf.1, hf.2, hp.2 (T.setVm vm₁) hT hW₁⟩) with ⟨v, vm₁, ⟨U', l2, c2, s2⟩, hW₁, X', ⟨g', mk, t, L, e1, e2, hq, h1, hL, h2, h3⟩, st⟩ | ⟨q, vm₁, ⟨U', l2, c2, s2⟩, hW₁, X', ⟨g', mk, t, L, E, ce, e1, e2, hq, hce, hcv, hcl, h1, hL, h2, h3⟩, st⟩
  · dsimp only [Pt.U, Pt.locs, Pt.cells, Pt.slots] at X' e1 e2 h1 h2 h3 st
    subst h1; subst h2; subst h3
    exact Or.inl ⟨v, (T.setVm vm₁).calling g' mk As.toArray, t, U', L, hT, X', hL, e1, e2, hq, st⟩
  · dsimp only [Pt.U, Pt.locs, Pt.cells, Pt.slots] at X' e1 e2 h1 h2 h3 st hcl
    subst h1; subst h2; subst h3
    exact Or.inr ⟨q, (T.setVm vm₁).calling g' mk As.toArray, t, U', L, E, ce, hT, X', hL, e1, e2, hq, hce, hcv, vx_cls hW₁ hcl, st⟩
end Runs
section Rows
variable {p : Program} {l : Launch} {e : Env} {R : Room} {s : State} {m : MethodId} {args : Array Value} {below : List Frame} {meth : Method} {c : Code} {H : Heap} {locs : List Loc} {cells slots : Nat} {Q : State → Prop}
variable {mc ms : Nat} {free : Addr → Prop} {A0 A1 : Nat → Prop} {H0 : Heap} {a : Array Value} {pc : Nat} {ls : Array Slot} {st0 rest : List Value}
theorem vx_keep {st₀ t T' : State} {L : List Loc} (h0 : st₀.heap = H) (e1 : T'.heap = t.heap) (hS : va_S A0 H0 H locs) (hA : ∀ q, q < H.size → A1 q → A0 q) (hf : ∀ q, free q → A0 q) (hL : ∀ q ∈ L, free q.base) (hF : va_F A1 st₀ t) :
    H.size ≤ T'.heap.size ∧ (∀ q : Nat, q < H.size → ¬ A1 q → T'.heap[q]? = H[q]?) ∧ va_S A0 H0 T'.heap (locs ++ L) := by
  obtain ⟨hz, hk⟩ := hF
  rw [h0] at hz hk
  exact ⟨by rw [e1]; exact hz, fun q h1 h2 => by rw [e1]; exact hk q h1 h2,
    ⟨Nat.le_trans hS.1 (by rw [e1]; exact hz), fun q h1 h2 => by rw [e1, hk q (Nat.lt_of_lt_of_le h1 hS.1) (fun z => h2 (hA q (Nat.lt_of_lt_of_le h1 hS.1) z))]; exact hS.2.1 q h1 h2, fun q hq => by
      rcases List.mem_append.mp hq with h | h
      · exact hS.2.2 q h
      · exact hf _ (hL q h)⟩⟩
theorem vx_calli {S SX : Type} {post : Int32 → S → Prop} {px : SX → Prop} {B : S → State → Prop} {BX : String → SX → State → Prop} {AX : Nat → Prop} (hr : vx_Run p l e R s m args below meth c H locs cells slots mc ms (F0 m pc ls st0) rest (va_Qi post B A1 a) (vx_X px BX AX) free) (hS : va_S A0 H0 H locs) (hA : ∀ q, q < H.size → A1 q → A0 q) (hf : ∀ q, free q → A0 q) (hAX : ∀ q, q < H.size → AX q → A0 q)
    (kx : ∀ (E : String) (ce : Cell) (q9 : Addr) (u : SX) (t : State) (H1 : Heap) (locs1 : List Loc), t.heap = H1 → s.vm.Alike t.vm → px u → BX E u t → H.size ≤ H1.size → (∀ q : Nat, q < H.size → ¬ AX q → H1[q]? = H[q]?) → va_S A0 H0 H1 locs1 → H1[q9]? = some ce → ce.vm = .none → s.vm.findClass E = some ce.cls → vx_W p l e R s m args below meth c H1 locs1 (cells + mc) (slots + ms) Q (F0 m pc ls rest) q9)
    (kk : ∀ (r : Int32) (u : S) (t : State) (H1 : Heap) (locs1 : List Loc), t.heap = H1 → s.vm.Alike t.vm → post r u → B u t → H.size ≤ H1.size → (∀ q : Nat, q < H.size → ¬ A1 q → H1[q]? = H[q]?) → va_S A0 H0 H1 locs1 → W p l e R s m args below meth c H1 locs1 (cells + mc) (slots + ms) Q (F0 m (pc + 3) ls (.int r :: rest))) : W p l e R s m args below meth c H locs cells slots Q (F0 m pc ls st0) := by
  intro T hT X
  rcases hr T hT X with ⟨v, st₀, t, T', L, h0, X', hL, e1, e2, ⟨⟨r, u, hv, hp, hb⟩, hF⟩, st⟩ | ⟨q, st₀, t, T', L, E, ce, h0, X', hL, e1, e2, ⟨u, hp, hb, hF⟩, hce, hcv, hcl, st⟩
  · cases hv
    obtain ⟨k1, k2, k3⟩ := vx_keep h0 e1 hS hA hf hL hF
    obtain ⟨t2, a1, b1⟩ := kk r u t T'.heap (locs ++ L) e1.symm (by rw [← e2]; exact X'.warmed.alike) hp hb k1 k2 k3 T' rfl X'
    exact ⟨t2, st t2 a1, b1⟩
  · obtain ⟨k1, k2, k3⟩ := vx_keep h0 e1 hS hAX hf hL hF
    obtain ⟨t2, a1, b1⟩ := kx E ce q u t T'.heap (locs ++ L) e1.symm (by rw [← e2]; exact X'.warmed.alike) hp hb k1 k2 k3 (by rw [e1]; exact hce) hcv hcl T' rfl X'
    exact ⟨t2, st.trans a1, b1⟩
theorem vx_calll {S SX : Type} {post : Int64 → S → Prop} {px : SX → Prop} {B : S → State → Prop} {BX : String → SX → State → Prop} {AX : Nat → Prop} (hr : vx_Run p l e R s m args below meth c H locs cells slots mc ms (F0 m pc ls st0) rest (va_Ql post B A1 a) (vx_X px BX AX) free) (hS : va_S A0 H0 H locs) (hA : ∀ q, q < H.size → A1 q → A0 q) (hf : ∀ q, free q → A0 q) (hAX : ∀ q, q < H.size → AX q → A0 q)
    (kx : ∀ (E : String) (ce : Cell) (q9 : Addr) (u : SX) (t : State) (H1 : Heap) (locs1 : List Loc), t.heap = H1 → s.vm.Alike t.vm → px u → BX E u t → H.size ≤ H1.size → (∀ q : Nat, q < H.size → ¬ AX q → H1[q]? = H[q]?) → va_S A0 H0 H1 locs1 → H1[q9]? = some ce → ce.vm = .none → s.vm.findClass E = some ce.cls → vx_W p l e R s m args below meth c H1 locs1 (cells + mc) (slots + ms) Q (F0 m pc ls rest) q9)
    (kk : ∀ (r : Int64) (u : S) (t : State) (H1 : Heap) (locs1 : List Loc), t.heap = H1 → s.vm.Alike t.vm → post r u → B u t → H.size ≤ H1.size → (∀ q : Nat, q < H.size → ¬ A1 q → H1[q]? = H[q]?) → va_S A0 H0 H1 locs1 → W p l e R s m args below meth c H1 locs1 (cells + mc) (slots + ms) Q (F0 m (pc + 3) ls (.long r :: rest))) : W p l e R s m args below meth c H locs cells slots Q (F0 m pc ls st0) := by
  intro T hT X
  rcases hr T hT X with ⟨v, st₀, t, T', L, h0, X', hL, e1, e2, ⟨⟨r, u, hv, hp, hb⟩, hF⟩, st⟩ | ⟨q, st₀, t, T', L, E, ce, h0, X', hL, e1, e2, ⟨u, hp, hb, hF⟩, hce, hcv, hcl, st⟩
  · cases hv
    obtain ⟨k1, k2, k3⟩ := vx_keep h0 e1 hS hA hf hL hF
    obtain ⟨t2, a1, b1⟩ := kk r u t T'.heap (locs ++ L) e1.symm (by rw [← e2]; exact X'.warmed.alike) hp hb k1 k2 k3 T' rfl X'
    exact ⟨t2, st t2 a1, b1⟩
  · obtain ⟨k1, k2, k3⟩ := vx_keep h0 e1 hS hAX hf hL hF
    obtain ⟨t2, a1, b1⟩ := kx E ce q u t T'.heap (locs ++ L) e1.symm (by rw [← e2]; exact X'.warmed.alike) hp hb k1 k2 k3 (by rw [e1]; exact hce) hcv hcl T' rfl X'
    exact ⟨t2, st.trans a1, b1⟩
theorem vx_callf {S SX : Type} {post : UInt32 → S → Prop} {px : SX → Prop} {B : S → State → Prop} {BX : String → SX → State → Prop} {AX : Nat → Prop} (hr : vx_Run p l e R s m args below meth c H locs cells slots mc ms (F0 m pc ls st0) rest (va_Qf post B A1 a) (vx_X px BX AX) free) (hS : va_S A0 H0 H locs) (hA : ∀ q, q < H.size → A1 q → A0 q) (hf : ∀ q, free q → A0 q) (hAX : ∀ q, q < H.size → AX q → A0 q)
    (kx : ∀ (E : String) (ce : Cell) (q9 : Addr) (u : SX) (t : State) (H1 : Heap) (locs1 : List Loc), t.heap = H1 → s.vm.Alike t.vm → px u → BX E u t → H.size ≤ H1.size → (∀ q : Nat, q < H.size → ¬ AX q → H1[q]? = H[q]?) → va_S A0 H0 H1 locs1 → H1[q9]? = some ce → ce.vm = .none → s.vm.findClass E = some ce.cls → vx_W p l e R s m args below meth c H1 locs1 (cells + mc) (slots + ms) Q (F0 m pc ls rest) q9)
    (kk : ∀ (r : UInt32) (u : S) (t : State) (H1 : Heap) (locs1 : List Loc), t.heap = H1 → s.vm.Alike t.vm → post r u → B u t → H.size ≤ H1.size → (∀ q : Nat, q < H.size → ¬ A1 q → H1[q]? = H[q]?) → va_S A0 H0 H1 locs1 → W p l e R s m args below meth c H1 locs1 (cells + mc) (slots + ms) Q (F0 m (pc + 3) ls (.float r :: rest))) : W p l e R s m args below meth c H locs cells slots Q (F0 m pc ls st0) := by
  intro T hT X
  rcases hr T hT X with ⟨v, st₀, t, T', L, h0, X', hL, e1, e2, ⟨⟨r, u, hv, hp, hb⟩, hF⟩, st⟩ | ⟨q, st₀, t, T', L, E, ce, h0, X', hL, e1, e2, ⟨u, hp, hb, hF⟩, hce, hcv, hcl, st⟩
  · cases hv
    obtain ⟨k1, k2, k3⟩ := vx_keep h0 e1 hS hA hf hL hF
    obtain ⟨t2, a1, b1⟩ := kk r u t T'.heap (locs ++ L) e1.symm (by rw [← e2]; exact X'.warmed.alike) hp hb k1 k2 k3 T' rfl X'
    exact ⟨t2, st t2 a1, b1⟩
  · obtain ⟨k1, k2, k3⟩ := vx_keep h0 e1 hS hAX hf hL hF
    obtain ⟨t2, a1, b1⟩ := kx E ce q u t T'.heap (locs ++ L) e1.symm (by rw [← e2]; exact X'.warmed.alike) hp hb k1 k2 k3 (by rw [e1]; exact hce) hcv hcl T' rfl X'
    exact ⟨t2, st.trans a1, b1⟩
theorem vx_calld {S SX : Type} {post : UInt64 → S → Prop} {px : SX → Prop} {B : S → State → Prop} {BX : String → SX → State → Prop} {AX : Nat → Prop} (hr : vx_Run p l e R s m args below meth c H locs cells slots mc ms (F0 m pc ls st0) rest (va_Qd post B A1 a) (vx_X px BX AX) free) (hS : va_S A0 H0 H locs) (hA : ∀ q, q < H.size → A1 q → A0 q) (hf : ∀ q, free q → A0 q) (hAX : ∀ q, q < H.size → AX q → A0 q)
    (kx : ∀ (E : String) (ce : Cell) (q9 : Addr) (u : SX) (t : State) (H1 : Heap) (locs1 : List Loc), t.heap = H1 → s.vm.Alike t.vm → px u → BX E u t → H.size ≤ H1.size → (∀ q : Nat, q < H.size → ¬ AX q → H1[q]? = H[q]?) → va_S A0 H0 H1 locs1 → H1[q9]? = some ce → ce.vm = .none → s.vm.findClass E = some ce.cls → vx_W p l e R s m args below meth c H1 locs1 (cells + mc) (slots + ms) Q (F0 m pc ls rest) q9)
    (kk : ∀ (r : UInt64) (u : S) (t : State) (H1 : Heap) (locs1 : List Loc), t.heap = H1 → s.vm.Alike t.vm → post r u → B u t → H.size ≤ H1.size → (∀ q : Nat, q < H.size → ¬ A1 q → H1[q]? = H[q]?) → va_S A0 H0 H1 locs1 → W p l e R s m args below meth c H1 locs1 (cells + mc) (slots + ms) Q (F0 m (pc + 3) ls (.double r :: rest))) : W p l e R s m args below meth c H locs cells slots Q (F0 m pc ls st0) := by
  intro T hT X
  rcases hr T hT X with ⟨v, st₀, t, T', L, h0, X', hL, e1, e2, ⟨⟨r, u, hv, hp, hb⟩, hF⟩, st⟩ | ⟨q, st₀, t, T', L, E, ce, h0, X', hL, e1, e2, ⟨u, hp, hb, hF⟩, hce, hcv, hcl, st⟩
  · cases hv
    obtain ⟨k1, k2, k3⟩ := vx_keep h0 e1 hS hA hf hL hF
    obtain ⟨t2, a1, b1⟩ := kk r u t T'.heap (locs ++ L) e1.symm (by rw [← e2]; exact X'.warmed.alike) hp hb k1 k2 k3 T' rfl X'
    exact ⟨t2, st t2 a1, b1⟩
  · obtain ⟨k1, k2, k3⟩ := vx_keep h0 e1 hS hAX hf hL hF
    obtain ⟨t2, a1, b1⟩ := kx E ce q u t T'.heap (locs ++ L) e1.symm (by rw [← e2]; exact X'.warmed.alike) hp hb k1 k2 k3 (by rw [e1]; exact hce) hcv hcl T' rfl X'
    exact ⟨t2, st.trans a1, b1⟩
theorem vx_callv {S SX : Type} {post : S → Prop} {px : SX → Prop} {B : S → State → Prop} {BX : String → SX → State → Prop} {AX : Nat → Prop} (hr : vx_Run p l e R s m args below meth c H locs cells slots mc ms (F0 m pc ls st0) rest (va_Qv post B A1 a) (vx_X px BX AX) free) (hS : va_S A0 H0 H locs) (hA : ∀ q, q < H.size → A1 q → A0 q) (hf : ∀ q, free q → A0 q) (hAX : ∀ q, q < H.size → AX q → A0 q)
    (kx : ∀ (E : String) (ce : Cell) (q9 : Addr) (u : SX) (t : State) (H1 : Heap) (locs1 : List Loc), t.heap = H1 → s.vm.Alike t.vm → px u → BX E u t → H.size ≤ H1.size → (∀ q : Nat, q < H.size → ¬ AX q → H1[q]? = H[q]?) → va_S A0 H0 H1 locs1 → H1[q9]? = some ce → ce.vm = .none → s.vm.findClass E = some ce.cls → vx_W p l e R s m args below meth c H1 locs1 (cells + mc) (slots + ms) Q (F0 m pc ls rest) q9)
    (kk : ∀ (u : S) (t : State) (H1 : Heap) (locs1 : List Loc), t.heap = H1 → s.vm.Alike t.vm → post u → B u t → H.size ≤ H1.size → (∀ q : Nat, q < H.size → ¬ A1 q → H1[q]? = H[q]?) → va_S A0 H0 H1 locs1 → W p l e R s m args below meth c H1 locs1 (cells + mc) (slots + ms) Q (F0 m (pc + 3) ls (rest))) : W p l e R s m args below meth c H locs cells slots Q (F0 m pc ls st0) := by
  intro T hT X
  rcases hr T hT X with ⟨v, st₀, t, T', L, h0, X', hL, e1, e2, ⟨⟨u, hv, hp, hb⟩, hF⟩, st⟩ | ⟨q, st₀, t, T', L, E, ce, h0, X', hL, e1, e2, ⟨u, hp, hb, hF⟩, hce, hcv, hcl, st⟩
  · cases hv
    obtain ⟨k1, k2, k3⟩ := vx_keep h0 e1 hS hA hf hL hF
    obtain ⟨t2, a1, b1⟩ := kk u t T'.heap (locs ++ L) e1.symm (by rw [← e2]; exact X'.warmed.alike) hp hb k1 k2 k3 T' rfl X'
    exact ⟨t2, st t2 a1, b1⟩
  · obtain ⟨k1, k2, k3⟩ := vx_keep h0 e1 hS hAX hf hL hF
    obtain ⟨t2, a1, b1⟩ := kx E ce q u t T'.heap (locs ++ L) e1.symm (by rw [← e2]; exact X'.warmed.alike) hp hb k1 k2 k3 (by rw [e1]; exact hce) hcv hcl T' rfl X'
    exact ⟨t2, st.trans a1, b1⟩
end Rows
section Ends
variable {p : Program} {l : Launch} {e : Env} {R : Room} {s : State} {m : MethodId} {args : Array Value} {below : List Frame} {meth : Method} {c : Code} {H : Heap} {locs : List Loc} {cells slots : Nat} {Q : State → Prop}
variable {mc ms : Nat} {free : Addr → Prop} {A0 A1 : Nat → Prop} {H0 : Heap} {a : Array Value} {ls : Array Slot} {st0 rest : List Value}
variable {Qc : Array Value → State → Outcome → State → Prop} {XC : String → State → State → Prop}
/-- what a body that may throw owes at its end -/
def vx_MQ (below : List Frame) (Qc : Array Value → State → Outcome → State → Prop) (XC : String → State → State → Prop) (a : Array Value) (s : State) (mc ms : Nat) (free : Addr → Prop) : State → Prop := fun t =>
  ∃ o, t.status = .running ∧ Ended t below o ∧ vx_Q Qc XC mc ms free a s o t
theorem vx_ret {g : JFrame} {mc ms : Nat} (k : W p l e R s m args below meth c H locs cells slots (MQ below Qc args s mc ms free) g) : W p l e R s m args below meth c H locs cells slots (vx_MQ below Qc XC args s mc ms free) g := by
  intro T hT X
  obtain ⟨t, a1, o, b1, b2, b3, b4⟩ := k T hT X
  exact ⟨t, a1, o, b1, b2, Or.inl ⟨b3, b4⟩⟩
/-- not caught here: it goes on to the caller -/
theorem vx_widen {g : JFrame} {q : Addr} {k n : Nat} (h1 : cells ≤ k) (h2 : slots ≤ n) (kk : vx_W p l e R s m args below meth c H locs k n Q g q) : vx_W p l e R s m args below meth c H locs cells slots Q g q := fun T hT X => kk T hT (stand_widen X h1 h2)
theorem vx_out {pc : Nat} {E : String} {ce : Cell} {q : Addr} {mc ms : Nat} (hout : ∀ x ∈ c.exceptionTable.toList, covers x pc = false) (hlocks : meth.locks = false) (hcell : H[q]? = some ce) (hv : ce.vm = .none) (hcl : s.vm.findClass E = some ce.cls)
    (hx : ∀ t : State, t.heap = H → s.vm.Alike t.vm → XC E s t) (hf : ∀ z ∈ locs, free z.base) (hc : cells ≤ mc) (hs : slots ≤ ms) :
    vx_W p l e R s m args below meth c H locs cells slots (vx_MQ below Qc XC args s mc ms free) (F0 m pc ls rest) q := by
  intro T hT X
  obtain ⟨st1, hrun, hend, hW, hsm⟩ := X.leaveThrown q (g := F0 m pc ls rest) rfl rfl rfl hout hlocks
  have hcell9 : (T.setFrames (.throwing q :: below)).heap[q]? = some ce := by
    show T.heap[q]? = some ce
    rw [hT]; exact hcell
  exact ⟨_, st1, .threw q, hrun, hend, Or.inr ⟨q, rfl, E, ce, locs, hx _ hT hW.alike, hcell9, hv, hcl, hW, hsm.mono hc hs, hf⟩⟩
theorem vx_frame {U : State} {k n : Nat} (h : s.sameButNew ({ U with vm := s.vm } : State) locs k n) : s.heap.size ≤ U.heap.size ∧ ∀ q : Nat, q < s.heap.size → (∀ z ∈ locs, z.base ≠ q) → U.heap[q]? = s.heap[q]? := by
  obtain ⟨-, h2, -, -, -, h6⟩ := h
  refine ⟨h2, fun q hq hz => ?_⟩
  obtain ⟨c9, e1, e2, e3, e4⟩ := h6 q _ (Array.getElem?_eq_getElem hq)
  have hs : c9.slots = (s.heap[q]).slots := Array.ext_getElem? fun i => e4 i fun hm => hz _ hm rfl
  have h9 : c9 = s.heap[q] := by
    rw [hs] at e2
    exact e2
  have e5 : U.heap[q]? = some c9 := e1
  rw [e5, h9, Array.getElem?_eq_getElem hq]
/-- the words of a throw but the four that speak of the heap -/
def vx_no (w : Cond) : Bool := decide (w ≠ .isRef (.static Bundle.tN "UNASSIGNED_STACK" Bundle.steD)) && decide (w ≠ .isRef (.static Bundle.tN "SUPPRESSED_SENTINEL" Bundle.listD)) && decide (w ≠ .laysStatic Bundle.tN "UNASSIGNED_STACK" Bundle.steD) && decide (w ≠ .laysStatic Bundle.tN "SUPPRESSED_SENTINEL" Bundle.listD)
def vx_at0 (own : String) (ic : Nat) (X : String) (names : List String) : List Cond := (Bundle.ownAtoms0 own ic X names).filter vx_no
def vx_atS (own : String) (ic : Nat) (X : String) (names : List String) : List Cond := (Bundle.ownAtoms own ic X names).filter vx_no
/-- a word that the tables alone decide, or a good one -/
def vx_ot (w : Cond) : Bool := w.onTables || goodWord w
theorem vx_ot_at {args a' : Array Value} {s U : State} {w : Cond} (hW : s.WarmedH U.vm) (hvm : s.vm = U.vm) (hg : vx_ot w = true) (h : w.before args s = true) : w.before a' U = true := by
  simp only [vx_ot, Bool.or_eq_true] at hg
  rcases hg with hg | hg
  · exact va_tabs hg hvm h
  · exact word_at hW (good_of_word hg) h
/-- a list's words: the good ones out of the method's own list, the others by premises of their own -/
theorem vx_hat {args : Array Value} {s : State} {L B : List Cond} (h1 : ∀ w ∈ L.filter goodWord, w.before args s = true) (h2 : ∀ w ∈ L.filter (fun w => !goodWord w), w ∈ B) (h3 : ∀ w ∈ B, w.before args s = true) : ∀ w ∈ L, w.before args s = true := by
  intro w hw
  by_cases g : goodWord w = true
  · exact h1 w (List.mem_filter.mpr ⟨hw, g⟩)
  · refine h3 w (h2 w (List.mem_filter.mpr ⟨hw, ?_⟩))
    show (!goodWord w) = true
    cases hgw : goodWord w
    · rfl
    · exact absurd hgw g
theorem vx_c {args : Array Value} {s : State} {w : Cond} {B : List Cond} (h : w.before args s = true) (t : ∀ w ∈ B, w.before args s = true) : ∀ w' ∈ w :: B, w'.before args s = true := fun w' h' => (List.mem_cons.mp h').elim (fun e => by rw [e]; exact h) (t w')
theorem vx_n {args : Array Value} {s : State} : ∀ w ∈ ([] : List Cond), w.before args s = true := fun _ h => nomatch h
theorem vx_own {args : Array Value} {s : State} {L : List Cond} (h1 : ∀ w ∈ L.filter vx_no, w.before args s = true)
    (hU : (Cond.isRef (.static Bundle.tN "UNASSIGNED_STACK" Bundle.steD)).before args s = true) (hN : (Cond.isRef (.static Bundle.tN "SUPPRESSED_SENTINEL" Bundle.listD)).before args s = true)
    (lU : (Cond.laysStatic Bundle.tN "UNASSIGNED_STACK" Bundle.steD).before args s = true) (lN : (Cond.laysStatic Bundle.tN "SUPPRESSED_SENTINEL" Bundle.listD).before args s = true) : ∀ w ∈ L, w.before args s = true := by
  intro w hw
  by_cases e1 : w = .isRef (.static Bundle.tN "UNASSIGNED_STACK" Bundle.steD)
  · rw [e1]; exact hU
  · by_cases e2 : w = .isRef (.static Bundle.tN "SUPPRESSED_SENTINEL" Bundle.listD)
    · rw [e2]; exact hN
    · by_cases e3 : w = .laysStatic Bundle.tN "UNASSIGNED_STACK" Bundle.steD
      · rw [e3]; exact lU
      · by_cases e4 : w = .laysStatic Bundle.tN "SUPPRESSED_SENTINEL" Bundle.listD
        · rw [e4]; exact lN
        · exact h1 w (List.mem_filter.mpr ⟨hw, by unfold vx_no; rw [decide_eq_true e1, decide_eq_true e2, decide_eq_true e3, decide_eq_true e4]; rfl⟩)
/-- where a static field lies, its class's statics cell in H -/
def vx_L (C n d : String) (A : Nat → Prop) (U : State) (H : Heap) : Prop := ∃ (c : ClassId) (k : Class) (i : Nat) (f : Field) (a : Nat) (cell : Cell), U.vm.findClass C = some c ∧ U.fieldFound? C n d = some (c, k, i, f) ∧ f.isStatic = true ∧ k.statics = some a ∧ H[a]? = some cell ∧ cell.vm.isStatics = true ∧ cell.cls = c ∧ f.slot < cell.slots.size ∧ k.staticTypes[f.slot]? = some f.type ∧ ¬ A a
theorem vx_L.moved {C n d : String} {A : Nat → Prop} {u U : State} {H : Heap} (hvm : u.vm.Alike U.vm) (h : vx_L C n d A u H) : vx_L C n d A U H := by
  obtain ⟨c, k, i, f, a, cell, h1, h2, h3, h4, h5, h6, h7, h8, h9, h10⟩ := h
  obtain ⟨k', hi', he⟩ := State.fieldFound?_setVm hvm h2
  exact ⟨c, k', i, f, a, cell, by rw [hvm.findClass]; exact h1, hi', h3, by rw [he]; exact h4, h5, h6, h7, h8, by rw [he]; exact h9, h10⟩
theorem vx_L.kept {C n d : String} {A : Nat → Prop} {U : State} {H H1 : Heap} (h : vx_L C n d A U H) (hq : ∀ a : Nat, a < H.size → ¬ A a → H1[a]? = H[a]?) : vx_L C n d A U H1 := by
  obtain ⟨c, k, i, f, a, cell, h1, h2, h3, h4, h5, h6, h7, h8, h9, h10⟩ := h
  exact ⟨c, k, i, f, a, cell, h1, h2, h3, h4, by rw [hq a (Array.getElem?_eq_some_iff.mp h5).1 h10]; exact h5, h6, h7, h8, h9, h10⟩
theorem vx_L.narrow {C n d : String} {A B : Nat → Prop} {U : State} {H : Heap} (h : vx_L C n d A U H) (hAB : ∀ q, B q → A q) : vx_L C n d B U H := by
  obtain ⟨c, k, i, f, a, cell, h1, h2, h3, h4, h5, h6, h7, h8, h9, h10⟩ := h
  exact ⟨c, k, i, f, a, cell, h1, h2, h3, h4, h5, h6, h7, h8, h9, fun z => h10 (hAB _ z)⟩
theorem vx_L.word {C n d : String} {A : Nat → Prop} {s : State} {args : Array Value} (h : vx_L C n d A s s.heap) : (Cond.laysStatic C n d).before args s = true := by
  obtain ⟨c, k, i, f, a, cell, h1, h2, h3, h4, h5, h6, h7, h8, h9, -⟩ := h
  show (Cond.laysStatic C n d).holds args s none s [] = true
  exact Cond.laysStatic_of h1 h2 h3 h4 h5 h6 h7 h8 h9
/-- .. and what it holds: null or some reference -/
def vx_Zq (C n d : String) (A : Nat → Prop) (U : State) (H : Heap) : Prop := va_Zq C n d A U H ∧ vx_L C n d A U H
theorem vx_Zq.moved {C n d : String} {A : Nat → Prop} {u U : State} {H : Heap} (hvm : u.vm.Alike U.vm) (h : vx_Zq C n d A u H) : vx_Zq C n d A U H := ⟨va_Zq.moved hvm h.1, vx_L.moved hvm h.2⟩
theorem vx_Zq.kept {C n d : String} {A : Nat → Prop} {U : State} {H H1 : Heap} (h : vx_Zq C n d A U H) (hq : ∀ a : Nat, a < H.size → ¬ A a → H1[a]? = H[a]?) : vx_Zq C n d A U H1 := ⟨va_Zq.kept h.1 hq, vx_L.kept h.2 hq⟩
theorem vx_Zq.narrow {C n d : String} {A B : Nat → Prop} {U : State} {H : Heap} (h : vx_Zq C n d A U H) (hAB : ∀ q, B q → A q) : vx_Zq C n d B U H := ⟨va_Zq.narrow h.1 hAB, vx_L.narrow h.2 hAB⟩
theorem vx_Zqof {args : Array Value} {s : State} {C n d : String} {A : Nat → Prop} (hl : (Cond.laysStatic C n d).before args s = true) (hini : (Cond.initialized C).before args s = true) (h : (Cond.isRef (.static C n d)).before args s = true) (hA : ∀ a : Nat, a < s.heap.size → ¬ A a) : vx_Zq C n d A s s.heap := by
  refine ⟨va_Zqof hl hini h hA, ?_⟩
  obtain ⟨c, k, i, f, a, cell, h1, h2, h3, h4, h5, h6, h7, h8, h9⟩ := Cond.laysStatic_spec hl
  exact ⟨c, k, i, f, a, cell, h1, h2, h3, h4, h5, h6, h7, h8, h9, hA a (Array.getElem?_eq_some_iff.mp h5).1⟩
theorem vx_isRef {C n d : String} {v : Value} {A : Nat → Prop} {s : State} {args : Array Value} (h : va_Z C n d v A s s.heap) (hv : v.isRef = true) : (Cond.isRef (.static C n d)).before args s = true := by
  obtain ⟨cf, kf, fi, f, a, cell, h1, h2, h3, h4, h5, h6, h7, -⟩ := h
  have he : (Term.static C n d).eval args s none [] s = some v := by
    simp [Term.eval, State.fieldNamed?, h1, h2, h4, h5, h6, h7]
  simp only [Cond.before, Cond.holds, Cond.value, he]
  cases v <;> simp_all [Value.isRef]
theorem vx_isRefq {C n d : String} {A : Nat → Prop} {s : State} {args : Array Value} (h : va_Zq C n d A s s.heap) : (Cond.isRef (.static C n d)).before args s = true := by
  rcases h with h | ⟨t, h⟩
  · exact vx_isRef h rfl
  · exact vx_isRef h rfl
/-- the same frame, seen from here: as if the method were called anew in this heap -/
theorem vx_rebase {T : State} (X : Stand p l e R s m args below meth c T locs cells slots) {R' : Room} (hf : R'.frames ≤ R.frames) (hl : R'.locals ≤ R.locals) (hc : cells + R'.cells ≤ R.cells) (hs : slots + R'.slots ≤ R.slots) :
    Stand p l e R' ((T.setVm s.vm).setFrames (.invoking m args :: below)) m args below meth c T [] 0 0 := by
  have htop : (T.setVm s.vm).topJava?.isSome := X.here.top
  have hF : ((T.setVm s.vm).setFrames (.invoking m args :: below)).frames = .invoking m args :: below := State.frames_setFrames _ (State.cur_lt_of_top htop)
  obtain ⟨g₀, hg0⟩ := Option.isSome_iff_exists.mp htop
  obtain ⟨r, hr⟩ := State.topJava?_eq_some.mp hg0
  have hl9 : e.platform.stackLimits (T.setVm s.vm).me = e.platform.stackLimits s.me := X.limits
  have hb9 : (T.setVm s.vm).me.stackBytes = s.me.stackBytes := X.bytes
  refine ⟨X.admits, X.cas, X.clock, hF, ?_, X.hears, X.method, X.code, X.here, X.tail, X.warmed, ?_, ?_, ?_⟩
  · have h := X.room
    have hU : ((T.setVm s.vm).setFrames (.invoking m args :: below)).localsInUse = s.localsInUse := by
      rw [State.localsInUse_invoking hF (meth := meth) (c := c) X.method X.code, State.localsInUse_invoking X.frames X.method X.code]
    simp only [State.hasRoom, Bool.and_eq_true, decide_eq_true_eq] at h ⊢
    obtain ⟨⟨⟨⟨h1, h2, h3, h4, h5, h6⟩, h7⟩, h8⟩, h9⟩ := h
    rw [X.frames, List.length_cons] at h2 h3
    have q1 := X.heapSize
    have q2 := X.used
    simp only [hF, hU, List.length_cons, State.stackLimits_setFrames, State.stackBytes_setFrames, hl9, hb9]
    refine ⟨⟨⟨⟨by omega, by omega, by omega, by omega, by omega, h6⟩, ?_⟩, ?_⟩, X.book⟩
    · show T.heap.size + R'.cells ≤ e.platform.maxCells
      omega
    · show T.slotsUsed + R'.slots ≤ e.platform.maxSlots
      omega
  · rw [State.stackLimits_setFrames]; rfl
  · rw [State.stackBytes_setFrames]; rfl
  · refine ⟨?_, Nat.le_refl _, Nat.le_refl _, ?_, ?_, fun a c9 h9 => ⟨c9, h9, rfl, rfl, fun _ _ => rfl⟩⟩
    · obtain ⟨t, ht, -⟩ := State.frames_cons hr
      show T.setVm s.vm = { ((T.setVm s.vm).setFrames (.invoking m args :: below)).setFrames (T.setVm s.vm).frames with heap := T.heap, slotsUsed := T.slotsUsed }
      rw [State.setFrames_setFrames, State.setFrames_self ht]
      rfl
    · show T.slotsUsed = T.slotsUsed + ((T.heap.toList.drop T.heap.size).map (·.slots.size)).sum
      rw [List.drop_eq_nil_of_le (Nat.le_of_eq Array.length_toList)]
      rfl
    · show ((T.heap.toList.drop T.heap.size).map (·.slots.size)).sum ≤ 0
      rw [List.drop_eq_nil_of_le (Nat.le_of_eq Array.length_toList)]
      exact Nat.le_refl _
/-- 'throw new E()': new; dup; invokespecial; athrow -/
theorem vx_throw0 {cc : ByteArray} {pc : Nat} (hexec : p.tables.exec = Jvm.exec) (hb : c.code = cc) (hl : l.stackTraces = false) {own cls : String} {names : List String} {ik ic mc ms : Nat} {A : Nat → Prop}
    (hown : s.vm.findClass own = some m.cls) (hcls : Bundle.fit cls = true) (hnames : ∀ n ∈ names, Bundle.fit n = true)
    (hk : (Cond.classLink own ik cls).before args s = true) (hini : (Cond.initialized cls).before args s = true) (hat : ∀ w ∈ vx_at0 own ic cls names, w.before args s = true)
    (hgood : ∀ w ∈ Cond.classLink own ik cls :: Cond.initialized cls :: vx_at0 own ic cls names, vx_ot w = true)
    (hU : vx_Zq Bundle.tN "UNASSIGNED_STACK" Bundle.steD A s s.heap) (hN : vx_Zq Bundle.tN "SUPPRESSED_SENTINEL" Bundle.listD A s s.heap) (hS : va_S A s.heap H locs) (hsize : ls.size = c.maxLocals)
    (d0 : decode cc pc = .ok (.new ik, 3)) (d3 : decode cc (pc + 3) = .ok (.dup, 1)) (d4 : decode cc (pc + 4) = .ok (.invokespecial ic, 3)) (d7 : decode cc (pc + 7) = .ok (.athrow, 1))
    (hout : ∀ x ∈ c.exceptionTable.toList, covers x (pc + 7) = false)
    (hRframes : names.length + 3 < R.frames) (hRlocals : (rest.map fun v => v.category).sum + (13 * (names.length + 1) + 42) ≤ R.locals) (hRcells : cells + 1 ≤ R.cells) (hRslots : slots + 6 ≤ R.slots) (hlocks : meth.locks = false)
    (hx : ∀ t : State, s.vm.Alike t.vm → H.size ≤ t.heap.size → (∀ q : Nat, q < H.size → t.heap[q]? = H[q]?) → XC cls s t)
    (hf : ∀ z ∈ locs, free z.base) (hc : cells + 1 ≤ mc) (hs : slots + 6 ≤ ms) :
    W p l e R s m args below meth c H locs cells slots (vx_MQ below Qc XC args s mc ms free) (F0 m pc ls rest) := by
  intro T hT X
  have htr : e.platform.stackTraces = false := (show e.platform.stackTraces = l.stackTraces by rw [X.admits.platform]).trans hl
  have Y := vx_rebase X (R' := { frames := R.frames, locals := R.locals, cells := 1, slots := 6 }) (Nat.le_refl _) (Nat.le_refl _) hRcells hRslots
  obtain ⟨s', hA⟩ : ∃ z, z = (T.setVm s.vm).setFrames (.invoking m args :: below) := ⟨_, rfl⟩
  rw [← hA] at Y
  have hvm : s'.vm = s.vm := by rw [hA]; rfl
  have hhp : s'.heap = H := by rw [hA]; exact hT
  have hW0 : s.WarmedH s'.vm := by rw [hvm]; exact State.WarmedH.refl s
  have hat' : ∀ w ∈ vx_at0 own ic cls names, w.before args s' = true := fun w hw => vx_ot_at hW0 hvm.symm (hgood w (List.mem_cons_of_mem _ (List.mem_cons_of_mem _ hw))) (hat w hw)
  have hk' : (Cond.classLink own ik cls).before args s' = true := vx_ot_at hW0 hvm.symm (hgood _ List.mem_cons_self) hk
  have hini' : (Cond.initialized cls).before args s' = true := vx_ot_at hW0 hvm.symm (hgood _ (List.mem_cons_of_mem _ List.mem_cons_self)) hini
  have hU' : vx_Zq Bundle.tN "UNASSIGNED_STACK" Bundle.steD A s' s'.heap := by rw [hhp]; exact vx_Zq.moved hW0.alike (hU.kept hS.2.1)
  have hN' : vx_Zq Bundle.tN "SUPPRESSED_SENTINEL" Bundle.listD A s' s'.heap := by rw [hhp]; exact vx_Zq.moved hW0.alike (hN.kept hS.2.1)
  have h : ∀ w ∈ Bundle.ownAtoms0 own ic cls names, w.before args s' = true := vx_own hat' (vx_isRefq hU'.1) (vx_isRefq hN'.1) hU'.2.word hN'.2.word
  have hown' : s'.vm.findClass own = some m.cls := by rw [hvm]; exact hown
  have hins : (Cond.instantiable cls 6).before args s' = true := h _ (by simp [Bundle.ownAtoms0])
  obtain ⟨vm₁, cX, kX, hfX, hkX, -, -, X₁, st1⟩ := Y.newCold hexec (own := own) (C := cls) (index := ik) (n := 6) hown' hk' hins hini'
    (g := F0 m pc ls rest) rfl (by rw [hb]; exact d0) (Nat.le_refl _) (Nat.le_refl _)
  generalize hT1 : (T.setVm vm₁).pushCell { cls := cX, slots := kX.instanceTypes.map defaultValue, vm := .none } = T1 at X₁ st1
  have hcat : (Value.ref T.heap.size).category = 1 := rfl
  have hcellA : T1.heap[T.heap.size]? = some (freshCell cX kX) := by rw [← hT1]; exact State.heap_pushCell_size _ _
  have d3' : decode c.code (pc + 3) = .ok (.dup, 1) := by rw [hb]; exact d3
  obtain ⟨U, hsteps, hrun, hend, hW, hsame, ce, hce, hO⟩ := X₁.ctorThrow0 hexec htr (own := own) (cls := cls) (names := names) (ic := ic) hown' hcls hnames h (fun x hx => nomatch hx) hfX hkX hcellA (by rw [hhp, hT]; exact Nat.le_refl _)
    (g := { method := m, pc := pc + 4, locals := ls, stack := .ref T.heap.size :: .ref T.heap.size :: rest, locked := none }) rfl hsize rfl rfl (rest := rest) rfl
    (by rw [hb]; exact d4) (by rw [hb]; exact d7) hout hRframes (by simp only [List.map_cons, List.sum_cons, hcat]; omega) hlocks
  obtain ⟨f1, f2⟩ := vx_frame hsame
  rw [hhp] at f1 f2
  have hWs : s.WarmedH U.vm := State.WarmedH.trans hW0 hW
  have hcl : s.vm.findClass cls = some ce.cls := by
    have h9 := hO.cls
    rw [hvm] at h9
    exact h9
  have hall : s.sameButNew ({ U with vm := s.vm } : State) locs mc ms := by
    subst hA
    obtain ⟨e1, e2⟩ := hsame
    rw [State.setFrames_setFrames] at e1
    have h2 : (T.setVm s.vm).sameButNew ({ U with vm := s.vm } : State) [] (0 + 1) (0 + 6) := ⟨e1, e2⟩
    have h3 := X.same.trans h2
    rw [List.append_nil] at h3
    exact h3.mono hc hs
  refine ⟨U, ?_, .threw T.heap.size, hrun, hend, Or.inr ⟨T.heap.size, rfl, cls, ce, locs, hx U hWs.alike f1 (fun q hq => f2 q hq (fun z hz => nomatch hz)), hce, hO.vm, hcl, hWs, hall, hf⟩⟩
  refine st1 _ ?_
  show Steps p.tables e below (T1.setTop { method := m, pc := pc + 3, locals := ls, stack := .ref T.heap.size :: rest, locked := none }) _
  jvm_step X₁.here [X₁.here.top, hexec, d3', Value.category]
  exact hsteps
/-- 'throw new E("text")': new; dup; ldc; invokespecial; athrow -/
theorem vx_throwS {cc : ByteArray} {pc : Nat} (hexec : p.tables.exec = Jvm.exec) (hb : c.code = cc) (hl : l.stackTraces = false) {own cls text : String} {names : List String} {ik is ic mc ms sa : Nat} {A : Nat → Prop}
    (hown : s.vm.findClass own = some m.cls) (hcls : Bundle.fit cls = true) (hnames : ∀ n ∈ names, Bundle.fit n = true)
    (hk : (Cond.classLink own ik cls).before args s = true) (hini : (Cond.initialized cls).before args s = true) (hstr : vk_R own is text sa s) (hat : ∀ w ∈ vx_atS own ic cls names, w.before args s = true)
    (hgood : ∀ w ∈ Cond.classLink own ik cls :: Cond.initialized cls :: vx_atS own ic cls names, vx_ot w = true)
    (hU : vx_Zq Bundle.tN "UNASSIGNED_STACK" Bundle.steD A s s.heap) (hN : vx_Zq Bundle.tN "SUPPRESSED_SENTINEL" Bundle.listD A s s.heap) (hS : va_S A s.heap H locs) (hsize : ls.size = c.maxLocals)
    (d0 : decode cc pc = .ok (.new ik, 3)) (d3 : decode cc (pc + 3) = .ok (.dup, 1)) (d4 : decode cc (pc + 4) = .ok (.ldc is, 2)) (d6 : decode cc (pc + 6) = .ok (.invokespecial ic, 3)) (d9 : decode cc (pc + 9) = .ok (.athrow, 1))
    (hout : ∀ x ∈ c.exceptionTable.toList, covers x (pc + 9) = false)
    (hRframes : names.length + 3 < R.frames) (hRlocals : (rest.map fun v => v.category).sum + (13 * (names.length + 1) + 43) ≤ R.locals) (hRcells : cells + 1 ≤ R.cells) (hRslots : slots + 6 ≤ R.slots) (hlocks : meth.locks = false)
    (hx : ∀ t : State, s.vm.Alike t.vm → H.size ≤ t.heap.size → (∀ q : Nat, q < H.size → t.heap[q]? = H[q]?) → XC cls s t)
    (hf : ∀ z ∈ locs, free z.base) (hc : cells + 1 ≤ mc) (hs : slots + 6 ≤ ms) :
    W p l e R s m args below meth c H locs cells slots (vx_MQ below Qc XC args s mc ms free) (F0 m pc ls rest) := by
  intro T hT X
  have htr : e.platform.stackTraces = false := (show e.platform.stackTraces = l.stackTraces by rw [X.admits.platform]).trans hl
  have Y := vx_rebase X (R' := { frames := R.frames, locals := R.locals, cells := 1, slots := 6 }) (Nat.le_refl _) (Nat.le_refl _) hRcells hRslots
  obtain ⟨s', hA⟩ : ∃ z, z = (T.setVm s.vm).setFrames (.invoking m args :: below) := ⟨_, rfl⟩
  rw [← hA] at Y
  have hvm : s'.vm = s.vm := by rw [hA]; rfl
  have hhp : s'.heap = H := by rw [hA]; exact hT
  have hW0 : s.WarmedH s'.vm := by rw [hvm]; exact State.WarmedH.refl s
  have hat' : ∀ w ∈ vx_atS own ic cls names, w.before args s' = true := fun w hw => vx_ot_at hW0 hvm.symm (hgood w (List.mem_cons_of_mem _ (List.mem_cons_of_mem _ hw))) (hat w hw)
  have hk' : (Cond.classLink own ik cls).before args s' = true := vx_ot_at hW0 hvm.symm (hgood _ List.mem_cons_self) hk
  have hini' : (Cond.initialized cls).before args s' = true := vx_ot_at hW0 hvm.symm (hgood _ (List.mem_cons_of_mem _ List.mem_cons_self)) hini
  have hU' : vx_Zq Bundle.tN "UNASSIGNED_STACK" Bundle.steD A s' s'.heap := by rw [hhp]; exact vx_Zq.moved hW0.alike (hU.kept hS.2.1)
  have hN' : vx_Zq Bundle.tN "SUPPRESSED_SENTINEL" Bundle.listD A s' s'.heap := by rw [hhp]; exact vx_Zq.moved hW0.alike (hN.kept hS.2.1)
  have h : ∀ w ∈ Bundle.ownAtoms own ic cls names, w.before args s' = true := vx_own hat' (vx_isRefq hU'.1) (vx_isRefq hN'.1) hU'.2.word hN'.2.word
  have hown' : s'.vm.findClass own = some m.cls := by rw [hvm]; exact hown
  have hins : (Cond.instantiable cls 6).before args s' = true := h _ (by simp [Bundle.ownAtoms])
  obtain ⟨vm₁, cX, kX, hfX, hkX, -, -, X₁, st1⟩ := Y.newCold hexec (own := own) (C := cls) (index := ik) (n := 6) hown' hk' hins hini'
    (g := F0 m pc ls rest) rfl (by rw [hb]; exact d0) (Nat.le_refl _) (Nat.le_refl _)
  generalize hT1 : (T.setVm vm₁).pushCell { cls := cX, slots := kX.instanceTypes.map defaultValue, vm := .none } = T1 at X₁ st1
  have hcat : (Value.ref T.heap.size).category = 1 := rfl
  have hcellA : T1.heap[T.heap.size]? = some (freshCell cX kX) := by rw [← hT1]; exact State.heap_pushCell_size _ _
  have d3' : decode c.code (pc + 3) = .ok (.dup, 1) := by rw [hb]; exact d3
  have d4' : decode c.code (pc + 4) = .ok (.ldc is, 2) := by rw [hb]; exact d4
  have hstr' : vk_R own is text sa s' := vk_R.warm hW0 hstr
  obtain ⟨U, hsteps, hrun, hend, hW, hsame, ce, hce, hO⟩ := X₁.ctorThrowS hexec htr (own := own) (cls := cls) (names := names) (ic := ic) hown' hcls hnames h (fun x hx => nomatch hx) hfX hkX hcellA (by rw [hhp, hT]; exact Nat.le_refl _) (msg := .ref sa) rfl
    (g := { method := m, pc := pc + 6, locals := ls, stack := .ref sa :: .ref T.heap.size :: .ref T.heap.size :: rest, locked := none }) rfl hsize rfl rfl (rest := rest) rfl
    (by rw [hb]; exact d6) (by rw [hb]; exact d9) hout hRframes (by simp only [List.map_cons, List.sum_cons, hcat]; omega) hlocks
  obtain ⟨f1, f2⟩ := vx_frame hsame
  rw [hhp] at f1 f2
  have hWs : s.WarmedH U.vm := State.WarmedH.trans hW0 hW
  have hcl : s.vm.findClass cls = some ce.cls := by
    have h9 := hO.cls
    rw [hvm] at h9
    exact h9
  have hall : s.sameButNew ({ U with vm := s.vm } : State) locs mc ms := by
    subst hA
    obtain ⟨e1, e2⟩ := hsame
    rw [State.setFrames_setFrames] at e1
    have h2 : (T.setVm s.vm).sameButNew ({ U with vm := s.vm } : State) [] (0 + 1) (0 + 6) := ⟨e1, e2⟩
    have h3 := X.same.trans h2
    rw [List.append_nil] at h3
    exact h3.mono hc hs
  refine ⟨U, ?_, .threw T.heap.size, hrun, hend, Or.inr ⟨T.heap.size, rfl, cls, ce, locs, hx U hWs.alike f1 (fun q hq => f2 q hq (fun z hz => nomatch hz)), hce, hO.vm, hcl, hWs, hall, hf⟩⟩
  refine st1 _ ?_
  show Steps p.tables e below (T1.setTop { method := m, pc := pc + 3, locals := ls, stack := .ref T.heap.size :: rest, locked := none }) _
  jvm_step X₁.here [X₁.here.top, hexec, d3', Value.category]
  exact X₁.ldcString hexec (own := own) (text := text) (index := is) (a := sa) hown' hstr'.1 hstr'.2
    (g := { method := m, pc := pc + 4, locals := ls, stack := .ref T.heap.size :: .ref T.heap.size :: rest, locked := none }) rfl d4' _ hsteps
/-- 'throw new E("text")', the text by a wide index -/
theorem vx_throwSW {cc : ByteArray} {pc : Nat} (hexec : p.tables.exec = Jvm.exec) (hb : c.code = cc) (hl : l.stackTraces = false) {own cls text : String} {names : List String} {ik is ic mc ms sa : Nat} {A : Nat → Prop}
    (hown : s.vm.findClass own = some m.cls) (hcls : Bundle.fit cls = true) (hnames : ∀ n ∈ names, Bundle.fit n = true)
    (hk : (Cond.classLink own ik cls).before args s = true) (hini : (Cond.initialized cls).before args s = true) (hstr : vk_R own is text sa s) (hat : ∀ w ∈ vx_atS own ic cls names, w.before args s = true)
    (hgood : ∀ w ∈ Cond.classLink own ik cls :: Cond.initialized cls :: vx_atS own ic cls names, vx_ot w = true)
    (hU : vx_Zq Bundle.tN "UNASSIGNED_STACK" Bundle.steD A s s.heap) (hN : vx_Zq Bundle.tN "SUPPRESSED_SENTINEL" Bundle.listD A s s.heap) (hS : va_S A s.heap H locs) (hsize : ls.size = c.maxLocals)
    (d0 : decode cc pc = .ok (.new ik, 3)) (d3 : decode cc (pc + 3) = .ok (.dup, 1)) (d4 : decode cc (pc + 4) = .ok (.ldc_w is, 3)) (d7 : decode cc (pc + 7) = .ok (.invokespecial ic, 3)) (d10 : decode cc (pc + 10) = .ok (.athrow, 1))
    (hout : ∀ x ∈ c.exceptionTable.toList, covers x (pc + 10) = false)
    (hRframes : names.length + 3 < R.frames) (hRlocals : (rest.map fun v => v.category).sum + (13 * (names.length + 1) + 43) ≤ R.locals) (hRcells : cells + 1 ≤ R.cells) (hRslots : slots + 6 ≤ R.slots) (hlocks : meth.locks = false)
    (hx : ∀ t : State, s.vm.Alike t.vm → H.size ≤ t.heap.size → (∀ q : Nat, q < H.size → t.heap[q]? = H[q]?) → XC cls s t)
    (hf : ∀ z ∈ locs, free z.base) (hc : cells + 1 ≤ mc) (hs : slots + 6 ≤ ms) :
    W p l e R s m args below meth c H locs cells slots (vx_MQ below Qc XC args s mc ms free) (F0 m pc ls rest) := by
  intro T hT X
  have htr : e.platform.stackTraces = false := (show e.platform.stackTraces = l.stackTraces by rw [X.admits.platform]).trans hl
  have Y := vx_rebase X (R' := { frames := R.frames, locals := R.locals, cells := 1, slots := 6 }) (Nat.le_refl _) (Nat.le_refl _) hRcells hRslots
  obtain ⟨s', hA⟩ : ∃ z, z = (T.setVm s.vm).setFrames (.invoking m args :: below) := ⟨_, rfl⟩
  rw [← hA] at Y
  have hvm : s'.vm = s.vm := by rw [hA]; rfl
  have hhp : s'.heap = H := by rw [hA]; exact hT
  have hW0 : s.WarmedH s'.vm := by rw [hvm]; exact State.WarmedH.refl s
  have hat' : ∀ w ∈ vx_atS own ic cls names, w.before args s' = true := fun w hw => vx_ot_at hW0 hvm.symm (hgood w (List.mem_cons_of_mem _ (List.mem_cons_of_mem _ hw))) (hat w hw)
  have hk' : (Cond.classLink own ik cls).before args s' = true := vx_ot_at hW0 hvm.symm (hgood _ List.mem_cons_self) hk
  have hini' : (Cond.initialized cls).before args s' = true := vx_ot_at hW0 hvm.symm (hgood _ (List.mem_cons_of_mem _ List.mem_cons_self)) hini
  have hU' : vx_Zq Bundle.tN "UNASSIGNED_STACK" Bundle.steD A s' s'.heap := by rw [hhp]; exact vx_Zq.moved hW0.alike (hU.kept hS.2.1)
  have hN' : vx_Zq Bundle.tN "SUPPRESSED_SENTINEL" Bundle.listD A s' s'.heap := by rw [hhp]; exact vx_Zq.moved hW0.alike (hN.kept hS.2.1)
  have h : ∀ w ∈ Bundle.ownAtoms own ic cls names, w.before args s' = true := vx_own hat' (vx_isRefq hU'.1) (vx_isRefq hN'.1) hU'.2.word hN'.2.word
  have hown' : s'.vm.findClass own = some m.cls := by rw [hvm]; exact hown
  have hins : (Cond.instantiable cls 6).before args s' = true := h _ (by simp [Bundle.ownAtoms])
  obtain ⟨vm₁, cX, kX, hfX, hkX, -, -, X₁, st1⟩ := Y.newCold hexec (own := own) (C := cls) (index := ik) (n := 6) hown' hk' hins hini'
    (g := F0 m pc ls rest) rfl (by rw [hb]; exact d0) (Nat.le_refl _) (Nat.le_refl _)
  generalize hT1 : (T.setVm vm₁).pushCell { cls := cX, slots := kX.instanceTypes.map defaultValue, vm := .none } = T1 at X₁ st1
  have hcat : (Value.ref T.heap.size).category = 1 := rfl
  have hcellA : T1.heap[T.heap.size]? = some (freshCell cX kX) := by rw [← hT1]; exact State.heap_pushCell_size _ _
  have d3' : decode c.code (pc + 3) = .ok (.dup, 1) := by rw [hb]; exact d3
  have d4' : decode c.code (pc + 4) = .ok (.ldc_w is, 3) := by rw [hb]; exact d4
  have hstr' : vk_R own is text sa s' := vk_R.warm hW0 hstr
  obtain ⟨U, hsteps, hrun, hend, hW, hsame, ce, hce, hO⟩ := X₁.ctorThrowS hexec htr (own := own) (cls := cls) (names := names) (ic := ic) hown' hcls hnames h (fun x hx => nomatch hx) hfX hkX hcellA (by rw [hhp, hT]; exact Nat.le_refl _) (msg := .ref sa) rfl
    (g := { method := m, pc := pc + 7, locals := ls, stack := .ref sa :: .ref T.heap.size :: .ref T.heap.size :: rest, locked := none }) rfl hsize rfl rfl (rest := rest) rfl
    (by rw [hb]; exact d7) (by rw [hb]; exact d10) hout hRframes (by simp only [List.map_cons, List.sum_cons, hcat]; omega) hlocks
  obtain ⟨f1, f2⟩ := vx_frame hsame
  rw [hhp] at f1 f2
  have hWs : s.WarmedH U.vm := State.WarmedH.trans hW0 hW
  have hcl : s.vm.findClass cls = some ce.cls := by
    have h9 := hO.cls
    rw [hvm] at h9
    exact h9
  have hall : s.sameButNew ({ U with vm := s.vm } : State) locs mc ms := by
    subst hA
    obtain ⟨e1, e2⟩ := hsame
    rw [State.setFrames_setFrames] at e1
    have h2 : (T.setVm s.vm).sameButNew ({ U with vm := s.vm } : State) [] (0 + 1) (0 + 6) := ⟨e1, e2⟩
    have h3 := X.same.trans h2
    rw [List.append_nil] at h3
    exact h3.mono hc hs
  refine ⟨U, ?_, .threw T.heap.size, hrun, hend, Or.inr ⟨T.heap.size, rfl, cls, ce, locs, hx U hWs.alike f1 (fun q hq => f2 q hq (fun z hz => nomatch hz)), hce, hO.vm, hcl, hWs, hall, hf⟩⟩
  refine st1 _ ?_
  show Steps p.tables e below (T1.setTop { method := m, pc := pc + 3, locals := ls, stack := .ref T.heap.size :: rest, locked := none }) _
  jvm_step X₁.here [X₁.here.top, hexec, d3', Value.category]
  exact X₁.ldcStringW hexec (own := own) (text := text) (index := is) (a := sa) hown' hstr'.1 hstr'.2
    (g := { method := m, pc := pc + 4, locals := ls, stack := .ref T.heap.size :: .ref T.heap.size :: rest, locked := none }) rfl d4' _ hsteps
end Ends
section Bodies
variable {l : Launch}
theorem vx_ofW {y : MethodName} {ws ws' : List Cond} {rm : Room} {Pc : Array Value → State → Prop} {Qc : Array Value → State → Outcome → State → Prop} {XC : String → State → State → Prop} {mc ms : Nat} {free : Addr → Prop} {cc : ByteArray} {maxL : Nat} {ret : Option FieldType}
    (hy : plainName y.cls = true) (hw : ws = Cond.code y cc maxL ret :: ws')
    (body : ∀ p e s m args below meth c s₁, BodyLoose p l y (headSpec ws rm) cc maxL ret e s m args below meth c s₁ → c.maxLocals = maxL → (∀ x ∈ c.exceptionTable.toList, False) → Pc args s →
      W p l e (headSpec ws rm).room s m args below meth c s.heap [] 0 0 (vx_MQ below Qc XC args s mc ms free) (entryFrame m args maxL)) : vx_Met l y ws rm Pc Qc XC mc ms free := by
  refine MetFree.of_bodyS (code := cc) (maxLocals := maxL) (ret := ret) hy ?_ ?_
  · intro args s m h hn
    obtain ⟨meth, c, h1, h2, h3, h4, h5, h6, -, -⟩ := Cond.code_spec hn (atoms_spec (ws := ws) h _ (by rw [hw]; exact List.mem_cons_self))
    exact ⟨meth, c, h1, h2, h3, h4, h5, h6⟩
  · intro p e s m args below meth c s₁ B hml hP _
    have hh0 : s₁.heap = s.heap := by rw [B.state]; rfl
    have ht : ∀ x ∈ c.exceptionTable.toList, False := by
      obtain ⟨meth9, c9, h1, h2, -, -, -, -, h7, -⟩ := Cond.code_spec B.named (atoms_spec (ws := ws) B.pre _ (by rw [hw]; exact List.mem_cons_self))
      cases Option.some.inj (h1.symm.trans B.method)
      cases Option.some.inj (h2.symm.trans (Stand.of_body B).code)
      intro x hx
      rw [Array.isEmpty_iff.mp h7] at hx
      cases hx
    obtain ⟨t, a1, o, b1, b2, b3⟩ := body p e s m args below meth c s₁ B hml ht hP s₁ hh0 (Stand.of_body B)
    exact ⟨t, o, a1, b1, b2, b3⟩
/-- the table of a body with handlers -/
theorem vx_table {p : Program} {x y : MethodName} {S : Spec} {cc bytes : ByteArray} {maxL maxL' : Nat} {ret ret' : Option FieldType} {e : Env} {s s₁ : State} {m : MethodId} {args : Array Value} {below : List Frame} {meth : Method} {c : Code} {hh : List (Nat × Nat × Nat × Nat)}
    (B : BodyLoose p l y S cc maxL ret e s m args below meth c s₁) (h : (Cond.codeWith y bytes maxL' ret' hh).before args s = true) : c.exceptionTable.toList = tableOf hh := by
  obtain ⟨m9, meth9, c9, hn9, h1, h2, -, -, h6, -⟩ := Cond.codeWith_spec h
  cases Option.some.inj (hn9.symm.trans B.named)
  cases Option.some.inj (h1.symm.trans B.method)
  cases Option.some.inj (h2.symm.trans (Stand.of_body B).code)
  rw [← h6, table_eq]
end Bodies
end VXA
/-! ===== END ===== -/
/-! ===== BEGIN a static call of a method with an exception table ===== -/
section VXS
variable {p : Program} {l : Launch} {e : Env} {R : Room} {s : State} {m : MethodId} {args : Array Value} {below : List Frame} {meth : Method} {c : Code} {T : State} {H : Heap} {locs : List Loc} {cells slots : Nat}
abbrev vx_CSW (R : Room) (s : State) (args : Array Value) (own : String) (index : Nat) (y : MethodName) (bytes : ByteArray) (maxL : Nat) (ret : Option FieldType) (hh : List (Nat × Nat × Nat × Nat)) (ws : List Cond) (rm : Room) (mc ms n : Nat) : Prop :=
  (rm.cells = mc ∧ rm.slots = ms ∧ rm.frames + 1 ≤ R.frames ∧ 8 + (maxL + 11) + rm.locals ≤ R.locals ∧ (∀ w ∈ ws, ∀ (a' : Array Value) (U : State), s.WarmedH U.vm → w.before a' U = true) ∧ Cond.codeWith y bytes maxL ret hh ∈ ws) ∧
  (Cond.codeWith y bytes maxL ret hh).before args s = true ∧ (Cond.initialized y.cls).before args s = true ∧ (y.cls ≠ "java/lang/invoke/MethodHandle" ∧ y.cls ≠ "java/lang/invoke/VarHandle") ∧
  (∀ sig, parseMethodDescriptor y.desc = some sig → n = sig.parameters.length) ∧ (Cond.methodLink own index y).before args s = true ∧ (Cond.static y).before args s = true
theorem vx_cwSW {own : String} {index maxL mc ms : Nat} {y : MethodName} {bytes : ByteArray} {ret : Option FieldType} {hh : List (Nat × Nat × Nat × Nat)} {Ts ws ws' : List Cond} {rm : Room} (n : Nat) (ht : ∀ w ∈ Ts, w.before args s = true) (hT : GoodIn Ts (va_wsS own index y ws)) (hw : ws = Cond.codeWith y bytes maxL ret hh :: ws') (hrc : rm.cells = mc) (hrs : rm.slots = ms)
    (hd : y.cls ≠ "java/lang/invoke/MethodHandle" ∧ y.cls ≠ "java/lang/invoke/VarHandle" ∧ (parseMethodDescriptor y.desc).map (fun d => d.parameters.length) = some n) (hR : rm.frames + 1 ≤ R.frames ∧ 8 + (maxL + 11) + rm.locals ≤ R.locals) :
    vx_CSW R s args own index y bytes maxL ret hh ws rm mc ms n := by
  have ok : ∀ w ∈ va_wsS own index y ws, w.before args s = true := fun w h => ht w (hT w h).1
  have hG : GoodIn Ts ws := fun w h => hT w (by unfold va_wsS; exact List.mem_append_right _ h)
  have hc : Cond.codeWith y bytes maxL ret hh ∈ ws := by rw [hw]; exact List.mem_cons_self
  refine ⟨⟨hrc, hrs, hR.1, hR.2, pay_in ht hG, hc⟩, ht _ (hG _ hc).1, ok _ (by simp [va_wsS]), ⟨hd.1, hd.2.1⟩, fun sig h => ?_, ok _ (by simp [va_wsS]), ok _ (by simp [va_wsS])⟩
  have h2 := hd.2.2
  rw [h] at h2
  exact (Option.some.inj h2).symm
theorem vx_callSW (X : Stand p l e R s m args below meth c T locs cells slots) (hexec : p.tables.exec = Jvm.exec) {own : String} {index : Nat} {y : MethodName} {bytes : ByteArray} {maxL : Nat} {ret : Option FieldType} {hh : List (Nat × Nat × Nat × Nat)}
    (hown : s.vm.findClass own = some m.cls) (hlink : (Cond.methodLink own index y).before args s = true) (hstat : (Cond.static y).before args s = true) (hinit : (Cond.initialized y.cls).before args s = true)
    (hcode : (Cond.codeWith y bytes maxL ret hh).before args s = true) (hy : y.cls ≠ "java/lang/invoke/MethodHandle" ∧ y.cls ≠ "java/lang/invoke/VarHandle")
    {W9 : Nat} {Pre : Pt → Array Value → Prop} {Post : Pt → Array Value → Option Value → Pt → Prop} (hK : Back l R p e below s args y 3 W9 Pre Post)
    {g : JFrame} (hg : g.method = m) (hsize : g.locals.size = c.maxLocals) {argsL rest : List Value} (hlen : ∀ sig, parseMethodDescriptor y.desc = some sig → argsL.length = sig.parameters.length)
    (hstack : g.stack = argsL.reverse ++ rest) (hW : 2 * g.monitorRoom + (rest.map fun v => v.category).sum ≤ W9) (hdg : decode c.code g.pc = .ok (.invokestatic index, 3))
    (hpre : ∀ vm₁, s.WarmedH vm₁ → Pre ⟨T.setVm vm₁, locs, cells, slots⟩ argsL.toArray) :
    ∃ (v : Option Value) (vm₁ : Vm) (B : Pt), s.WarmedH vm₁ ∧ Stand p l e R s m args below meth c B.U B.locs B.cells B.slots ∧ Post ⟨T.setVm vm₁, locs, cells, slots⟩ argsL.toArray v B ∧
      ∀ target, Steps p.tables e below (B.U.setTop { g with pc := g.pc + 3, stack := v.toList ++ rest }) target → Steps p.tables e below (T.setTop g) target := by
  obtain ⟨mk, methM, cM, hnamed, hmethM, -, -, -, -, -, -, hsigM⟩ := Cond.codeWith_spec hcode
  have hstatic : methM.isStatic = true := Cond.static_spec hnamed hmethM hstat
  obtain ⟨kP, hkP, -⟩ := className_of_methodNamed hnamed
  have hinitP : kP.init = .initialized := Cond.initialized_spec (findClass_of_methodNamed hnamed) hkP hinit
  obtain ⟨vm₁, X₁, hstep₁⟩ := X.invokestatic hexec hown hlink hnamed hmethM hstatic hkP hinitP hy (g := g) hg (argsL := argsL) (rest := rest) (hlen _ hsigM) hstack hdg
  obtain ⟨v, B, X', hpost, hsteps⟩ := hK m meth c ⟨T.setVm vm₁, locs, cells, slots⟩ { g with stack := rest } (.invokestatic index) mk argsL.toArray X₁ hg hsize hdg hW (X₁.named hnamed) (hpre vm₁ X₁.warmed)
  exact ⟨v, vm₁, B, X₁.warmed, X', hpost, fun target h => hstep₁ _ fun acts => by rw [doInvoke_state]; exact hsteps.trans h⟩
theorem vx_runSW {y : MethodName} {bytes cc : ByteArray} {maxL nL mc ms n index : Nat} {ret : Option FieldType} {hh : List (Nat × Nat × Nat × Nat)} {ws : List Cond} {rm : Room} {Pc : Array Value → State → Prop} {Qc : Array Value → State → Outcome → State → Prop} {free : Addr → Prop} {Ts : List Cond} {own : String} {As rest : List Value} {g : JFrame}
    (S : CallFix p m c cc nL s args Ts own) (hM : Met l y ws rm Pc Qc mc ms free) (cw : vx_CSW R s args own index y bytes maxL ret hh ws rm mc ms n) (hp : PreS s H Pc As)
    (hg : g.method = m) (hn : As.length = n) (hsize : g.locals.size = nL) (hstack : g.stack = As.reverse ++ rest) (hW : 2 * g.monitorRoom + (rest.map fun v => v.category).sum ≤ 8) (hdg : decode cc g.pc = .ok (.invokestatic index, 3)) (hf : cells + mc ≤ R.cells ∧ slots + ms ≤ R.slots) :
    va_Run p l e R s m args below meth c H locs cells slots mc ms g rest (Qc As.toArray) (free) := by
  obtain ⟨⟨hrc, hrs, hfr, hlo, hws, hcw⟩, hcode, hini, hy, hlen, hl, hstt⟩ := cw
  have hK : Back l R p e below s args y 3 8 (PreOf R mc ms Pc) (PostOf Qc mc ms free) := va_backW (hh := hh) (bytes := bytes) (maxL := maxL) (ret := ret) hM hp.1 hrc hrs hfr hlo hws hcw (fun a' U hW => word_at hW (Or.inl (by first | rfl | simp [Cond.onTables, Cond.keeps, Cond.steady])) hini)
  obtain ⟨hx, hb, hml, ho, -⟩ := S
  intro T hT X
  obtain ⟨v, vm₁, ⟨U', l2, c2, s2⟩, hW₁, X', ⟨g', mk, t, L, e1, e2, hq, h1, hL, h2, h3⟩, st⟩ := vx_callSW X hx (hh := hh) (bytes := bytes) (maxL := maxL) (ret := ret) ho hl hstt hini hcode hy hK hg (hsize.trans hml.symm) (argsL := As) (rest := rest) (fun sig h => hn.trans (hlen sig h)) hstack hW (by rw [hb]; exact hdg)
    (fun vm₁ hW₁ => ⟨hf.1, hf.2, hp.2 (T.setVm vm₁) hT hW₁⟩)
  dsimp only [Pt.U, Pt.locs, Pt.cells, Pt.slots] at X' e1 e2 h1 h2 h3 st
  subst h1; subst h2; subst h3
  exact ⟨v, (T.setVm vm₁).calling g' mk As.toArray, t, U', L, hT, X', hL, e1, e2, hq, st⟩
/-- a thing of a world lies in the heap -/
theorem vx_lt {D : va_G} {cl : List vw_C} {ws : va_W} {H1 : Heap} (h : va_P D cl ws H1) {k : Nat} {q : Nat × va_E} (hk : ws[k]? = some q) : q.1 < H1.size := (h k q hk).lt
end VXS
/-! ===== END ===== -/
/-! ===== BEGIN methods with a table of their own: called by a name, returning or throwing ===== -/
section VXH
/-! vx_backW, vx_callVX, vx_callSX, vx_callVW, vx_runVW, vx_runVX, vx_runSX, vx_ofWH follow the same proofs as their sisters above (Free/Laws.lean, Shelf42/LK1.lean); vx_outP calls Shelf42/NT130.lean (outThrough). -/
section
variable {l : Launch} {R : Room} {p : Program} {e : Env} {below : List Frame} {s : State} {sargs : Array Value} {y : MethodName} {len W9 : Nat}
theorem vx_backW {ws : List Cond} {rm : Room} {Pc : Array Value → State → Prop} {Qc : Array Value → State → Outcome → State → Prop} {XC : String → State → State → Prop} {mc ms : Nat} {free : Addr → Prop} {bytes : ByteArray} {maxL : Nat} {ret : Option FieldType} {hh : List (Nat × Nat × Nat × Nat)}
    (hM : vx_Met l y ws rm Pc Qc XC mc ms free) (hblind : FrameBlind Pc) (hrc : rm.cells = mc) (hrs : rm.slots = ms)
    (hframes : rm.frames + 1 ≤ R.frames) (hlocals : W9 + (maxL + 11) + rm.locals ≤ R.locals)
    (hws : ∀ w ∈ ws, ∀ a' U, s.WarmedH U.vm → w.before a' U = true) (hcode : Cond.codeWith y bytes maxL ret hh ∈ ws) (hinit : ∀ a' U, s.WarmedH U.vm → (Cond.initialized y.cls).before a' U = true) :
    vx_Back l R p e below s sargs y len W9 (PreOf R mc ms Pc) (PostOf Qc mc ms free) (vx_Post XC mc ms free) := by
  intro m meth c A g ig mk a X hg hsize hdg hW hn hp
  have h1 : (headSpec ws rm).pre.before a A.U = true := atoms_intro fun w hw => hws w hw _ _ X.warmed
  have h2 : (Cond.codeWith y bytes maxL ret hh).before a A.U = true := hws _ hcode _ _ X.warmed
  have h3 : (Cond.initialized y.cls).before a A.U = true := hinit _ _ X.warmed
  have h4 : A.cells + (headSpec ws rm).room.cells ≤ R.cells := by rw [show (headSpec ws rm).room.cells = mc from hrc]; exact hp.1
  have h5 : A.slots + (headSpec ws rm).room.slots ≤ R.slots := by rw [show (headSpec ws rm).room.slots = ms from hrs]; exact hp.2.1
  have hPc : Pc a (A.U.calling g mk a) := hblind _ _ _ _ hp.2.2
  obtain ⟨U, Ls, c0, s0⟩ := A
  dsimp only [Pt.U, Pt.locs, Pt.cells, Pt.slots] at h1 h2 h3 h4 h5 X hn hPc ⊢
  obtain ⟨m9, methY, cY, hn9, hmY, hcY, -, hlY, -⟩ := Cond.codeWith_spec h2
  cases Option.some.inj (hn9.symm.trans hn)
  obtain ⟨kY, hkY, -⟩ := className_of_methodNamed hn
  have hinitY : kY.init = .initialized := Cond.initialized_spec (findClass_of_methodNamed hn) hkY h3
  have h : At U g.method c below := by rw [hg]; exact X.here
  have hlocals9 : W9 + (maxL + 11) + (headSpec ws rm).room.locals ≤ R.locals := hlocals
  have happ : (headSpec ws rm).appliesLoose y e.platform (U.calling g mk a) = true :=
    Spec.appliesLoose_calling (g := g) h hdg hn hkY hinitY
      (X.room_calling (g := g) (R' := (headSpec ws rm).room) hsize hmY hcY hframes (by rw [hlY]; omega) h4 h5) h1
  obtain ⟨mid, hmid⟩ := h.above
  have hfr : (U.setTop g).frames = (.java g :: mid) ++ below := by rw [State.frames_setTop' g h.top, hmid]; rfl
  obtain ⟨o, s₂, hsteps, -, hend, hq⟩ := Steps.callFree hM p X.admits X.cas X.clock (acts := []) hfr happ hPc trivial
  have hq' : vx_Q Qc XC mc ms free a (U.calling g mk a) o s₂ := hq
  rw [State.frames_setTop' g h.top] at hend
  obtain ⟨g₀, hg0⟩ := Option.isSome_iff_exists.mp h.top
  obtain ⟨r, hr⟩ := State.topJava?_eq_some.mp hg0
  have hr' : (({ U with heap := s₂.heap, slotsUsed := s₂.slotsUsed } : State).setVm s₂.vm).frames = .java g₀ :: r := hr
  rcases hq' with ⟨hqc, L, hfe, hL⟩ | ⟨q, rfl, E, ce, L, hx, hce, hcv, hcl, hW₂, hsm, hL⟩
  · obtain ⟨⟨v, rfl⟩, hW₂, e2, q2, q3, q4, q5, q6⟩ := id hfe
    have e3 : s₂ = ({ (U.calling g mk a).setFrames s₂.frames with heap := s₂.heap, slotsUsed := s₂.slotsUsed } : State).setVm s₂.vm := by
      have : s₂ = ({ s₂ with vm := (U.calling g mk a).vm } : State).setVm s₂.vm := rfl
      rw [e2] at this
      exact this
    obtain ⟨c₂, i₂, len₂, hc₂, hd₂, hf₂⟩ := hend
    have hW' : U.WarmedH s₂.vm := hW₂
    have hcc : c₂ = c := by
      have h1 : s₂.code? g.method = U.code? g.method := by
        rw [State.code?_eq, State.code?_eq, hW'.alike.method?]
      exact Option.some.inj (hc₂.symm.trans (h1.trans h.code))
    subst hcc
    have hlen : len₂ = len := by rw [hdg] at hd₂; cases hd₂; rfl
    subst hlen
    have hs₂ : s₂ = (({ U with heap := s₂.heap, slotsUsed := s₂.slotsUsed } : State).setVm s₂.vm).setTop { g with pc := g.pc + len₂, stack := v.toList ++ g.stack } := by
      refine e3.trans ?_
      rw [hf₂, State.calling_eq h.top, State.setFrames_setFrames, State.setTop_of_frames _ hr', hr]
      rfl
    have hsame : U.sameButNew ({ U with heap := s₂.heap, slotsUsed := s₂.slotsUsed } : State) L mc ms := by
      refine ⟨?_, q2, q3, q4, q5, q6⟩
      obtain ⟨t, ht, -⟩ := State.frames_cons hr
      show ({ U with heap := s₂.heap, slotsUsed := s₂.slotsUsed } : State) = { U.setFrames U.frames with heap := s₂.heap, slotsUsed := s₂.slotsUsed }
      rw [State.setFrames_self ht]
    subst hg
    refine Or.inl ⟨v, ⟨(({ U with heap := s₂.heap, slotsUsed := s₂.slotsUsed } : State).setVm s₂.vm), Ls ++ L, c0 + mc, s0 + ms⟩,
      ⟨X.admits, X.cas, X.clock, X.frames, X.room, X.hears, X.method, X.code, (X.here.setHeapUsed s₂.heap s₂.slotsUsed).setVm hW'.alike, X.tail, State.WarmedH.trans X.warmed hW', X.limits, X.bytes, X.same.trans (hsame.setVm s.vm)⟩,
      ⟨g, mk, s₂, L, rfl, rfl, hqc, rfl, hL, rfl, rfl⟩, ?_⟩
    show Steps p.tables e below _ ((({ U with heap := s₂.heap, slotsUsed := s₂.slotsUsed } : State).setVm s₂.vm).setTop { g with pc := g.pc + len₂, stack := v.toList ++ g.stack })
    rw [← hs₂]
    exact hsteps
  · obtain ⟨e2, q2, q3, q4, q5, q6⟩ := id hsm
    have e3 : s₂ = ({ (U.calling g mk a).setFrames s₂.frames with heap := s₂.heap, slotsUsed := s₂.slotsUsed } : State).setVm s₂.vm := by
      have : s₂ = ({ s₂ with vm := (U.calling g mk a).vm } : State).setVm s₂.vm := rfl
      rw [e2] at this
      exact this
    have hf₂ : s₂.frames = .throwing q :: .java g :: U.frames.tail := hend
    have hW' : U.WarmedH s₂.vm := hW₂
    have hs₂ : s₂ = ((({ U with heap := s₂.heap, slotsUsed := s₂.slotsUsed } : State).setVm s₂.vm).setTop g).pushFrame (.throwing q) := by
      refine e3.trans ?_
      rw [hf₂, State.calling_eq h.top, State.setFrames_setFrames, State.pushFrame, State.frames_setTop _ hr', State.setTop_of_frames _ hr', State.setFrames_setFrames, hr]
      rfl
    have hsame : U.sameButNew ({ U with heap := s₂.heap, slotsUsed := s₂.slotsUsed } : State) L mc ms := by
      refine ⟨?_, q2, q3, q4, q5, q6⟩
      obtain ⟨t, ht, -⟩ := State.frames_cons hr
      show ({ U with heap := s₂.heap, slotsUsed := s₂.slotsUsed } : State) = { U.setFrames U.frames with heap := s₂.heap, slotsUsed := s₂.slotsUsed }
      rw [State.setFrames_self ht]
    subst hg
    refine Or.inr ⟨q, ⟨(({ U with heap := s₂.heap, slotsUsed := s₂.slotsUsed } : State).setVm s₂.vm), Ls ++ L, c0 + mc, s0 + ms⟩,
      ⟨X.admits, X.cas, X.clock, X.frames, X.room, X.hears, X.method, X.code, (X.here.setHeapUsed s₂.heap s₂.slotsUsed).setVm hW'.alike, X.tail, State.WarmedH.trans X.warmed hW', X.limits, X.bytes, X.same.trans (hsame.setVm s.vm)⟩,
      ⟨g, mk, s₂, L, E, ce, rfl, rfl, hx, hce, hcv, hcl, rfl, hL, rfl, rfl⟩, ?_⟩
    show Steps p.tables e below _ (((({ U with heap := s₂.heap, slotsUsed := s₂.slotsUsed } : State).setVm s₂.vm).setTop g).pushFrame (.throwing q))
    rw [← hs₂]
    exact hsteps
end
variable {p : Program} {l : Launch} {e : Env} {R : Room} {s : State} {m : MethodId} {args : Array Value} {below : List Frame} {meth : Method} {c : Code} {T : State} {H : Heap} {locs : List Loc} {cells slots : Nat}
theorem vx_callVX (X : Stand p l e R s m args below meth c T locs cells slots) (hexec : p.tables.exec = Jvm.exec) {own C : String} {index : Nat} {y : MethodName} {bytes : ByteArray} {maxL : Nat} {ret : Option FieldType} {hh : List (Nat × Nat × Nat × Nat)}
    (hown : s.vm.findClass own = some m.cls) (hlink : (Cond.methodLink own index y).before args s = true) (hinst : (Cond.instanceMethod y).before args s = true) (hsel : (Cond.selects C y y).before args s = true)
    (hcode : (Cond.codeWith y bytes maxL ret hh).before args s = true) (hy : y.cls ≠ "java/lang/invoke/MethodHandle" ∧ y.cls ≠ "java/lang/invoke/VarHandle")
    {W9 : Nat} {Pre : Pt → Array Value → Prop} {Post : Pt → Array Value → Option Value → Pt → Prop} {PostX : Pt → Array Value → Addr → Pt → Prop} (hK : vx_Back l R p e below s args y 3 W9 Pre Post PostX)
    {b : Addr} {cellB : Cell} (hcell : T.heap[b]? = some cellB) (hobj : cellB.vm.isStatics = false) (hcls : s.vm.findClass C = some cellB.cls)
    {g : JFrame} (hg : g.method = m) (hsize : g.locals.size = c.maxLocals) {argsL rest : List Value} (hlen : ∀ sig, parseMethodDescriptor y.desc = some sig → argsL.length = sig.parameters.length)
    (hstack : g.stack = argsL.reverse ++ .ref b :: rest) (hW : 2 * g.monitorRoom + (rest.map fun v => v.category).sum ≤ W9) (hdg : decode c.code g.pc = .ok (.invokevirtual index, 3))
    (hpre : ∀ vm₁, s.WarmedH vm₁ → Pre ⟨T.setVm vm₁, locs, cells, slots⟩ (Value.ref b :: argsL).toArray) :
    (∃ (v : Option Value) (vm₁ : Vm) (B : Pt), s.WarmedH vm₁ ∧ Stand p l e R s m args below meth c B.U B.locs B.cells B.slots ∧ Post ⟨T.setVm vm₁, locs, cells, slots⟩ (Value.ref b :: argsL).toArray v B ∧
      ∀ target, Steps p.tables e below (B.U.setTop { g with pc := g.pc + 3, stack := v.toList ++ rest }) target → Steps p.tables e below (T.setTop g) target) ∨
    (∃ (q : Addr) (vm₁ : Vm) (B : Pt), s.WarmedH vm₁ ∧ Stand p l e R s m args below meth c B.U B.locs B.cells B.slots ∧ PostX ⟨T.setVm vm₁, locs, cells, slots⟩ (Value.ref b :: argsL).toArray q B ∧
      Steps p.tables e below (T.setTop g) ((B.U.setTop { g with stack := rest }).pushFrame (.throwing q))) := by
  obtain ⟨mk, methM, hnamed, hmethM, hstM, habM⟩ := Cond.instanceMethod_spec hinst
  obtain ⟨m8, methM', cM, hn8, hmethM', -, -, -, -, -, -, hsigM⟩ := Cond.codeWith_spec hcode
  cases Option.some.inj (hn8.symm.trans hnamed)
  cases hmethM.symm.trans hmethM'
  obtain ⟨c2, r2, m2, q1, q2, q3, q4, kP, hkP, hkPi⟩ := Cond.selects_spec hsel
  cases hcls.symm.trans q1
  cases (State.methodFound?_of_named hnamed hy).symm.trans q2
  cases hnamed.symm.trans q3
  have hselP : selectMethod e.platform s.vm cellB.cls mk = .method mk := by rw [Launch.admits_selectMethod X.admits]; exact q4
  obtain ⟨vm₁, X₁, hstep₁⟩ := X.invokevirtual hexec hown hlink hnamed hmethM hstM hkP hkPi hy (a := b) (cell := cellB) hcell
    (fun z h => by rw [h] at hobj; cases hobj) hselP hmethM habM hkP hkPi (g := g) hg (argsL := argsL) (rest := rest) (hlen _ hsigM) hstack hdg
  rcases hK m meth c ⟨T.setVm vm₁, locs, cells, slots⟩ { g with stack := rest } (.invokevirtual index) mk (Value.ref b :: argsL).toArray X₁ hg hsize hdg hW (X₁.named hnamed) (hpre vm₁ X₁.warmed) with ⟨v, B, X', hpost, hsteps⟩ | ⟨q, B, X', hpost, hsteps⟩
  · exact Or.inl ⟨v, vm₁, B, X₁.warmed, X', hpost, fun target h => hstep₁ _ fun acts => by rw [doInvoke_state]; exact hsteps.trans h⟩
  · exact Or.inr ⟨q, vm₁, B, X₁.warmed, X', hpost, hstep₁ _ fun acts => by rw [doInvoke_state]; exact hsteps⟩
theorem vx_callSX (X : Stand p l e R s m args below meth c T locs cells slots) (hexec : p.tables.exec = Jvm.exec) {own : String} {index : Nat} {y : MethodName} {bytes : ByteArray} {maxL : Nat} {ret : Option FieldType} {hh : List (Nat × Nat × Nat × Nat)}
    (hown : s.vm.findClass own = some m.cls) (hlink : (Cond.methodLink own index y).before args s = true) (hstat : (Cond.static y).before args s = true) (hinit : (Cond.initialized y.cls).before args s = true)
    (hcode : (Cond.codeWith y bytes maxL ret hh).before args s = true) (hy : y.cls ≠ "java/lang/invoke/MethodHandle" ∧ y.cls ≠ "java/lang/invoke/VarHandle")
    {W9 : Nat} {Pre : Pt → Array Value → Prop} {Post : Pt → Array Value → Option Value → Pt → Prop} {PostX : Pt → Array Value → Addr → Pt → Prop} (hK : vx_Back l R p e below s args y 3 W9 Pre Post PostX)
    {g : JFrame} (hg : g.method = m) (hsize : g.locals.size = c.maxLocals) {argsL rest : List Value} (hlen : ∀ sig, parseMethodDescriptor y.desc = some sig → argsL.length = sig.parameters.length)
    (hstack : g.stack = argsL.reverse ++ rest) (hW : 2 * g.monitorRoom + (rest.map fun v => v.category).sum ≤ W9) (hdg : decode c.code g.pc = .ok (.invokestatic index, 3))
    (hpre : ∀ vm₁, s.WarmedH vm₁ → Pre ⟨T.setVm vm₁, locs, cells, slots⟩ argsL.toArray) :
    (∃ (v : Option Value) (vm₁ : Vm) (B : Pt), s.WarmedH vm₁ ∧ Stand p l e R s m args below meth c B.U B.locs B.cells B.slots ∧ Post ⟨T.setVm vm₁, locs, cells, slots⟩ argsL.toArray v B ∧
      ∀ target, Steps p.tables e below (B.U.setTop { g with pc := g.pc + 3, stack := v.toList ++ rest }) target → Steps p.tables e below (T.setTop g) target) ∨
    (∃ (q : Addr) (vm₁ : Vm) (B : Pt), s.WarmedH vm₁ ∧ Stand p l e R s m args below meth c B.U B.locs B.cells B.slots ∧ PostX ⟨T.setVm vm₁, locs, cells, slots⟩ argsL.toArray q B ∧
      Steps p.tables e below (T.setTop g) ((B.U.setTop { g with stack := rest }).pushFrame (.throwing q))) := by
  obtain ⟨mk, methM, cM, hnamed, hmethM, -, -, -, -, -, -, hsigM⟩ := Cond.codeWith_spec hcode
  have hstatic : methM.isStatic = true := Cond.static_spec hnamed hmethM hstat
  obtain ⟨kP, hkP, -⟩ := className_of_methodNamed hnamed
  have hinitP : kP.init = .initialized := Cond.initialized_spec (findClass_of_methodNamed hnamed) hkP hinit
  obtain ⟨vm₁, X₁, hstep₁⟩ := X.invokestatic hexec hown hlink hnamed hmethM hstatic hkP hinitP hy (g := g) hg (argsL := argsL) (rest := rest) (hlen _ hsigM) hstack hdg
  rcases hK m meth c ⟨T.setVm vm₁, locs, cells, slots⟩ { g with stack := rest } (.invokestatic index) mk argsL.toArray X₁ hg hsize hdg hW (X₁.named hnamed) (hpre vm₁ X₁.warmed) with ⟨v, B, X', hpost, hsteps⟩ | ⟨q, B, X', hpost, hsteps⟩
  · exact Or.inl ⟨v, vm₁, B, X₁.warmed, X', hpost, fun target h => hstep₁ _ fun acts => by rw [doInvoke_state]; exact hsteps.trans h⟩
  · exact Or.inr ⟨q, vm₁, B, X₁.warmed, X', hpost, hstep₁ _ fun acts => by rw [doInvoke_state]; exact hsteps⟩
theorem vx_callVW (X : Stand p l e R s m args below meth c T locs cells slots) (hexec : p.tables.exec = Jvm.exec) {own C : String} {index : Nat} {y : MethodName} {bytes : ByteArray} {maxL : Nat} {ret : Option FieldType} {hh : List (Nat × Nat × Nat × Nat)}
    (hown : s.vm.findClass own = some m.cls) (hlink : (Cond.methodLink own index y).before args s = true) (hinst : (Cond.instanceMethod y).before args s = true) (hsel : (Cond.selects C y y).before args s = true)
    (hcode : (Cond.codeWith y bytes maxL ret hh).before args s = true) (hy : y.cls ≠ "java/lang/invoke/MethodHandle" ∧ y.cls ≠ "java/lang/invoke/VarHandle")
    {W9 : Nat} {Pre : Pt → Array Value → Prop} {Post : Pt → Array Value → Option Value → Pt → Prop} (hK : Back l R p e below s args y 3 W9 Pre Post)
    {b : Addr} {cellB : Cell} (hcell : T.heap[b]? = some cellB) (hobj : cellB.vm.isStatics = false) (hcls : s.vm.findClass C = some cellB.cls)
    {g : JFrame} (hg : g.method = m) (hsize : g.locals.size = c.maxLocals) {argsL rest : List Value} (hlen : ∀ sig, parseMethodDescriptor y.desc = some sig → argsL.length = sig.parameters.length)
    (hstack : g.stack = argsL.reverse ++ .ref b :: rest) (hW : 2 * g.monitorRoom + (rest.map fun v => v.category).sum ≤ W9) (hdg : decode c.code g.pc = .ok (.invokevirtual index, 3))
    (hpre : ∀ vm₁, s.WarmedH vm₁ → Pre ⟨T.setVm vm₁, locs, cells, slots⟩ (Value.ref b :: argsL).toArray) :
    ∃ (v : Option Value) (vm₁ : Vm) (B : Pt), s.WarmedH vm₁ ∧ Stand p l e R s m args below meth c B.U B.locs B.cells B.slots ∧ Post ⟨T.setVm vm₁, locs, cells, slots⟩ (Value.ref b :: argsL).toArray v B ∧
      ∀ target, Steps p.tables e below (B.U.setTop { g with pc := g.pc + 3, stack := v.toList ++ rest }) target → Steps p.tables e below (T.setTop g) target := by
  obtain ⟨mk, methM, hnamed, hmethM, hstM, habM⟩ := Cond.instanceMethod_spec hinst
  obtain ⟨m8, methM', cM, hn8, hmethM', -, -, -, -, -, -, hsigM⟩ := Cond.codeWith_spec hcode
  cases Option.some.inj (hn8.symm.trans hnamed)
  cases hmethM.symm.trans hmethM'
  obtain ⟨c2, r2, m2, q1, q2, q3, q4, kP, hkP, hkPi⟩ := Cond.selects_spec hsel
  cases hcls.symm.trans q1
  cases (State.methodFound?_of_named hnamed hy).symm.trans q2
  cases hnamed.symm.trans q3
  have hselP : selectMethod e.platform s.vm cellB.cls mk = .method mk := by rw [Launch.admits_selectMethod X.admits]; exact q4
  obtain ⟨vm₁, X₁, hstep₁⟩ := X.invokevirtual hexec hown hlink hnamed hmethM hstM hkP hkPi hy (a := b) (cell := cellB) hcell
    (fun z h => by rw [h] at hobj; cases hobj) hselP hmethM habM hkP hkPi (g := g) hg (argsL := argsL) (rest := rest) (hlen _ hsigM) hstack hdg
  obtain ⟨v, B, X', hpost, hsteps⟩ := hK m meth c ⟨T.setVm vm₁, locs, cells, slots⟩ { g with stack := rest } (.invokevirtual index) mk (Value.ref b :: argsL).toArray X₁ hg hsize hdg hW (X₁.named hnamed) (hpre vm₁ X₁.warmed)
  exact ⟨v, vm₁, B, X₁.warmed, X', hpost, fun target h => hstep₁ _ fun acts => by rw [doInvoke_state]; exact hsteps.trans h⟩
abbrev vx_CVW (R : Room) (s : State) (args : Array Value) (own C : String) (index : Nat) (y : MethodName) (bytes : ByteArray) (maxL : Nat) (ret : Option FieldType) (hh : List (Nat × Nat × Nat × Nat)) (ws : List Cond) (rm : Room) (mc ms n : Nat) : Prop :=
  (rm.cells = mc ∧ rm.slots = ms ∧ rm.frames + 1 ≤ R.frames ∧ 8 + (maxL + 11) + rm.locals ≤ R.locals ∧ (∀ w ∈ ws, ∀ (a' : Array Value) (U : State), s.WarmedH U.vm → w.before a' U = true) ∧ Cond.codeWith y bytes maxL ret hh ∈ ws) ∧
  (Cond.codeWith y bytes maxL ret hh).before args s = true ∧ (Cond.initialized y.cls).before args s = true ∧ (y.cls ≠ "java/lang/invoke/MethodHandle" ∧ y.cls ≠ "java/lang/invoke/VarHandle") ∧
  (∀ sig, parseMethodDescriptor y.desc = some sig → n = sig.parameters.length) ∧ (Cond.methodLink own index y).before args s = true ∧ (Cond.instanceMethod y).before args s = true ∧ (Cond.selects C y y).before args s = true
theorem vx_cwVW {own C : String} {index maxL mc ms : Nat} {y : MethodName} {bytes : ByteArray} {ret : Option FieldType} {hh : List (Nat × Nat × Nat × Nat)} {Ts ws ws' : List Cond} {rm : Room} (n : Nat) (ht : ∀ w ∈ Ts, w.before args s = true) (hT : GoodIn Ts (wsV own index C y ws)) (hw : ws = Cond.codeWith y bytes maxL ret hh :: ws') (hrc : rm.cells = mc) (hrs : rm.slots = ms)
    (hd : y.cls = C ∧ y.cls ≠ "java/lang/invoke/MethodHandle" ∧ y.cls ≠ "java/lang/invoke/VarHandle" ∧ (parseMethodDescriptor y.desc).map (fun d => d.parameters.length) = some n) (hR : rm.frames + 1 ≤ R.frames ∧ 8 + (maxL + 11) + rm.locals ≤ R.locals) :
    vx_CVW R s args own C index y bytes maxL ret hh ws rm mc ms n := by
  obtain ⟨hC, hd⟩ := hd
  subst hC
  have ok : ∀ w ∈ wsV own index y.cls y ws, w.before args s = true := fun w h => ht w (hT w h).1
  have hG : GoodIn Ts ws := fun w h => hT w (by unfold wsV; exact List.mem_append_right _ h)
  have hc : Cond.codeWith y bytes maxL ret hh ∈ ws := by rw [hw]; exact List.mem_cons_self
  refine ⟨⟨hrc, hrs, hR.1, hR.2, pay_in ht hG, hc⟩, ht _ (hG _ hc).1, ok _ (by simp [wsV]), ⟨hd.1, hd.2.1⟩, fun sig h => ?_, ok _ (by simp [wsV]), ok _ (by simp [wsV]), ok _ (by simp [wsV])⟩
  have h2 := hd.2.2
  rw [h] at h2
  exact (Option.some.inj h2).symm
theorem vx_runVW {y : MethodName} {bytes cc : ByteArray} {maxL nL mc ms n index : Nat} {ret : Option FieldType} {hh : List (Nat × Nat × Nat × Nat)} {ws : List Cond} {rm : Room} {Pc : Array Value → State → Prop} {Qc : Array Value → State → Outcome → State → Prop} {free : Addr → Prop} {Ts : List Cond} {own C : String} {b : Addr} {As rest : List Value} {g : JFrame}
    (S : CallFix p m c cc nL s args Ts own) (hM : Met l y ws rm Pc Qc mc ms free) (cw : vx_CVW R s args own C index y bytes maxL ret hh ws rm mc ms n) (hp : PreV s H C b Pc As)
    (hg : g.method = m) (hn : As.length = n) (hsize : g.locals.size = nL) (hstack : g.stack = As.reverse ++ .ref b :: rest) (hW : 2 * g.monitorRoom + (rest.map fun v => v.category).sum ≤ 8) (hdg : decode cc g.pc = .ok (.invokevirtual index, 3)) (hf : cells + mc ≤ R.cells ∧ slots + ms ≤ R.slots) :
    va_Run p l e R s m args below meth c H locs cells slots mc ms g rest (Qc (Value.ref b :: As).toArray) free := by
  obtain ⟨⟨hrc, hrs, hfr, hlo, hws, hcw⟩, hcode, hini, hy, hlen, hl, hin, hse⟩ := cw
  have hK : Back l R p e below s args y 3 8 (PreOf R mc ms Pc) (PostOf Qc mc ms free) := va_backW (hh := hh) (bytes := bytes) (maxL := maxL) (ret := ret) hM hp.1 hrc hrs hfr hlo hws hcw (fun a' U hW => word_at hW (Or.inl (by first | rfl | simp [Cond.onTables, Cond.keeps, Cond.steady])) hini)
  obtain ⟨hx, hb, hml, ho, -⟩ := S
  obtain ⟨-, ⟨cellB, hcB, hoB, hclB⟩, hPc⟩ := hp
  intro T hT X
  obtain ⟨v, vm₁, ⟨U', l2, c2, s2⟩, hW₁, X', ⟨g', mk, t, L, e1, e2, hq, h1, hL, h2, h3⟩, st⟩ := vx_callVW X hx (C := C) (hh := hh) (bytes := bytes) (maxL := maxL) (ret := ret) ho hl hin hse hcode hy hK (by rw [hT]; exact hcB) hoB hclB hg (hsize.trans hml.symm) (argsL := As) (rest := rest) (fun sig h => hn.trans (hlen sig h)) hstack hW (by rw [hb]; exact hdg)
    (fun vm₁ hW₁ => ⟨hf.1, hf.2, hPc (T.setVm vm₁) hT hW₁⟩)
  dsimp only [Pt.U, Pt.locs, Pt.cells, Pt.slots] at X' e1 e2 h1 h2 h3 st
  subst h1; subst h2; subst h3
  exact ⟨v, (T.setVm vm₁).calling g' mk (Value.ref b :: As).toArray, t, U', L, hT, X', hL, e1, e2, hq, st⟩
section
variable {y : MethodName} {bytes cc : ByteArray} {maxL nL mc ms n index : Nat} {ret : Option FieldType} {ws : List Cond} {rm : Room} {Pc : Array Value → State → Prop} {Qc : Array Value → State → Outcome → State → Prop} {XC : String → State → State → Prop} {free : Addr → Prop} {Ts : List Cond} {own C : String} {b : Addr} {As rest : List Value} {g : JFrame}
theorem vx_runVX {hh : List (Nat × Nat × Nat × Nat)} (S : CallFix p m c cc nL s args Ts own) (hM : vx_Met l y ws rm Pc Qc XC mc ms free) (cw : vx_CVW R s args own C index y bytes maxL ret hh ws rm mc ms n) (hp : PreV s H C b Pc As)
    (hg : g.method = m) (hn : As.length = n) (hsize : g.locals.size = nL) (hstack : g.stack = As.reverse ++ .ref b :: rest) (hW : 2 * g.monitorRoom + (rest.map fun v => v.category).sum ≤ 8) (hdg : decode cc g.pc = .ok (.invokevirtual index, 3)) (hf : cells + mc ≤ R.cells ∧ slots + ms ≤ R.slots) :
    vx_Run p l e R s m args below meth c H locs cells slots mc ms g rest (Qc (Value.ref b :: As).toArray) XC free := by
  obtain ⟨⟨hrc, hrs, hfr, hlo, hws, hcw⟩, hcode, hini, hy, hlen, hl, hin, hse⟩ := cw
  have hK : vx_Back l R p e below s args y 3 8 (PreOf R mc ms Pc) (PostOf Qc mc ms free) (vx_Post XC mc ms free) := vx_backW (hh := hh) (bytes := bytes) (maxL := maxL) (ret := ret) hM hp.1 hrc hrs hfr hlo hws hcw (fun a' U hW => word_at hW (Or.inl (by first | rfl | simp [Cond.onTables, Cond.keeps, Cond.steady])) hini)
  obtain ⟨hx, hb, hml, ho, -⟩ := S
  obtain ⟨-, ⟨cellB, hcB, hoB, hclB⟩, hPc⟩ := hp
  intro T hT X
  rcases vx_callVX X hx (C := C) (hh := hh) (bytes := bytes) (maxL := maxL) (ret := ret) ho hl hin hse hcode hy hK (by rw [hT]; exact hcB) hoB hclB hg (hsize.trans hml.symm) (argsL := As) (rest := rest) (fun sig h => hn.trans (hlen sig h)) hstack hW (by rw [hb]; exact hdg)
    (fun vm₁ hW₁ => ⟨hf.1, hf.2, hPc (T.setVm vm₁) hT hW₁⟩) with ⟨v, vm₁, ⟨U', l2, c2, s2⟩, hW₁, X', ⟨g', mk, t, L, e1, e2, hq, h1, hL, h2, h3⟩, st⟩ | ⟨q, vm₁, ⟨U', l2, c2, s2⟩, hW₁, X', ⟨g', mk, t, L, E, ce, e1, e2, hq, hce, hcv, hcl, h1, hL, h2, h3⟩, st⟩
  · dsimp only [Pt.U, Pt.locs, Pt.cells, Pt.slots] at X' e1 e2 h1 h2 h3 st
    subst h1; subst h2; subst h3
    exact Or.inl ⟨v, (T.setVm vm₁).calling g' mk (Value.ref b :: As).toArray, t, U', L, hT, X', hL, e1, e2, hq, st⟩
  · dsimp only [Pt.U, Pt.locs, Pt.cells, Pt.slots] at X' e1 e2 h1 h2 h3 st hcl
    subst h1; subst h2; subst h3
    exact Or.inr ⟨q, (T.setVm vm₁).calling g' mk (Value.ref b :: As).toArray, t, U', L, E, ce, hT, X', hL, e1, e2, hq, hce, hcv, vx_cls hW₁ hcl, st⟩
theorem vx_runSX {hh : List (Nat × Nat × Nat × Nat)} (S : CallFix p m c cc nL s args Ts own) (hM : vx_Met l y ws rm Pc Qc XC mc ms free) (cw : vx_CSW R s args own index y bytes maxL ret hh ws rm mc ms n) (hp : PreS s H Pc As)
    (hg : g.method = m) (hn : As.length = n) (hsize : g.locals.size = nL) (hstack : g.stack = As.reverse ++ rest) (hW : 2 * g.monitorRoom + (rest.map fun v => v.category).sum ≤ 8) (hdg : decode cc g.pc = .ok (.invokestatic index, 3)) (hf : cells + mc ≤ R.cells ∧ slots + ms ≤ R.slots) :
    vx_Run p l e R s m args below meth c H locs cells slots mc ms g rest (Qc As.toArray) XC free := by
  obtain ⟨⟨hrc, hrs, hfr, hlo, hws, hcw⟩, hcode, hini, hy, hlen, hl, hstt⟩ := cw
  have hK : vx_Back l R p e below s args y 3 8 (PreOf R mc ms Pc) (PostOf Qc mc ms free) (vx_Post XC mc ms free) := vx_backW (hh := hh) (bytes := bytes) (maxL := maxL) (ret := ret) hM hp.1 hrc hrs hfr hlo hws hcw (fun a' U hW => word_at hW (Or.inl (by first | rfl | simp [Cond.onTables, Cond.keeps, Cond.steady])) hini)
  obtain ⟨hx, hb, hml, ho, -⟩ := S
  intro T hT X
  rcases vx_callSX X hx (hh := hh) (bytes := bytes) (maxL := maxL) (ret := ret) ho hl hstt hini hcode hy hK hg (hsize.trans hml.symm) (argsL := As) (rest := rest) (fun sig h => hn.trans (hlen sig h)) hstack hW (by rw [hb]; exact hdg)
    (fun vm₁ hW₁ => ⟨hf.1, hf.2, hp.2 (T.setVm vm₁) hT hW₁⟩) with ⟨v, vm₁, ⟨U', l2, c2, s2⟩, hW₁, X', ⟨g', mk, t, L, e1, e2, hq, h1, hL, h2, h3⟩, st⟩ | ⟨q, vm₁, ⟨U', l2, c2, s2⟩, hW₁, X', ⟨g', mk, t, L, E, ce, e1, e2, hq, hce, hcv, hcl, h1, hL, h2, h3⟩, st⟩
  · dsimp only [Pt.U, Pt.locs, Pt.cells, Pt.slots] at X' e1 e2 h1 h2 h3 st
    subst h1; subst h2; subst h3
    exact Or.inl ⟨v, (T.setVm vm₁).calling g' mk As.toArray, t, U', L, hT, X', hL, e1, e2, hq, st⟩
  · dsimp only [Pt.U, Pt.locs, Pt.cells, Pt.slots] at X' e1 e2 h1 h2 h3 st hcl
    subst h1; subst h2; subst h3
    exact Or.inr ⟨q, (T.setVm vm₁).calling g' mk As.toArray, t, U', L, E, ce, hT, X', hL, e1, e2, hq, hce, hcv, vx_cls hW₁ hcl, st⟩
end
end VXH
theorem vx_ofWH {l : Launch} {y : MethodName} {ws ws' : List Cond} {rm : Room} {Pc : Array Value → State → Prop} {Qc : Array Value → State → Outcome → State → Prop} {XC : String → State → State → Prop} {mc ms : Nat} {free : Addr → Prop} {cc : ByteArray} {maxL : Nat} {ret : Option FieldType} {hh : List (Nat × Nat × Nat × Nat)}
    (hy : plainName y.cls = true) (hw : ws = Cond.codeWith y cc maxL ret hh :: ws')
    (body : ∀ p e s m args below meth c s₁, BodyLoose p l y (headSpec ws rm) cc maxL ret e s m args below meth c s₁ → c.maxLocals = maxL → Pc args s →
      W p l e (headSpec ws rm).room s m args below meth c s.heap [] 0 0 (vx_MQ below Qc XC args s mc ms free) (entryFrame m args maxL)) : vx_Met l y ws rm Pc Qc XC mc ms free := by
  refine MetFree.of_bodyS (code := cc) (maxLocals := maxL) (ret := ret) hy ?_ ?_
  · intro args s m h hn
    obtain ⟨m9, meth, c, hn9, h1, h2, h3, h4, -, h5, h6, -⟩ := Cond.codeWith_spec (atoms_spec (ws := ws) h _ (by rw [hw]; exact List.mem_cons_self))
    cases hn.symm.trans hn9
    exact ⟨meth, c, h1, h2, h3, h4, h5, h6⟩
  · intro p e s m args below meth c s₁ B hml hP _
    have hh0 : s₁.heap = s.heap := by rw [B.state]; rfl
    obtain ⟨t, a1, o, b1, b2, b3⟩ := body p e s m args below meth c s₁ B hml hP s₁ hh0 (Stand.of_body B)
    exact ⟨t, o, a1, b1, b2, b3⟩
/-! ===== END ===== -/
end
section
/-! THE ABSTRACT MACHINE: cells by their numbers, one instruction a step -/
abbrev zE : Type := (Nat × vp_A) ⊕ (Nat × List Value)
abbrev zH : Type := List zE
abbrev zO : Type := Option Value ⊕ Nat
abbrev zL : Type := List (Nat × Value)
/-- an instruction: its place, itself, its length, two numbers that it is resolved to, the place of its link among the words -/
abbrev zN : Type := Nat × Instr × Nat × Nat × Nat × Nat
/-- arrays of ints outside the world, that are only read -/
abbrev zX : Type := Nat → Nat × (Nat → Int32)
abbrev zS : Type := Nat × zL × List Value × zH
/-- a method: its name, code, how many locals, its answer's type; room (frames, locals, cells, slots); kind (0 of an object, 1 static, 2 a constructor), its class's number, places of its words (code, kind's, selects, initialized); instructions; table -/
abbrev zM : Type := MethodName × ByteArray × Nat × Option FieldType × (Nat × Nat × Nat × Nat) × (Nat × Nat × Nat × Nat × Nat × Nat) × List zN × List (Nat × Nat × Nat × Nat)
def zName (M : zM) : MethodName := M.1
def zCode (M : zM) : ByteArray := M.2.1
def zMaxL (M : zM) : Nat := M.2.2.1
def zRet (M : zM) : Option FieldType := M.2.2.2.1
def zRoom (M : zM) : Nat × Nat × Nat × Nat := M.2.2.2.2.1
def zKind (M : zM) : Nat × Nat × Nat × Nat × Nat × Nat := M.2.2.2.2.2.1
def zIns (M : zM) : List zN := M.2.2.2.2.2.2.1
def zTab (M : zM) : List (Nat × Nat × Nat × Nat) := M.2.2.2.2.2.2.2
def zget : zL → Nat → Option Value
  | [], _ => none
  | q :: l, i => bif Nat.beq q.1 i then some q.2 else zget l i
def zput (lo : zL) (i : Nat) (v : Value) : zL := (i, v) :: lo.filter (fun q => !(Nat.beq q.1 i))
def zfind : List zN → Nat → Option zN
  | [], _ => none
  | en :: l, pc => bif Nat.beq en.1 pc then some en else zfind l pc
def zin (i : Int32) (n : Nat) : Bool := decide (¬ (i < 0 ∨ n ≤ i.toNatClampNeg))
def zc1 (c : ClassFile.Cond) (x : Int32) : Bool := match c with
  | .eq => decide (x = 0)
  | .ne => decide (¬ x = 0)
  | .lt => decide (x < 0)
  | .ge => decide (0 ≤ x)
  | .gt => decide (0 < x)
  | .le => decide (x ≤ 0)
def zc2 (c : ClassFile.Cond) (x y : Int32) : Bool := match c with
  | .eq => decide (x = y)
  | .ne => decide (¬ x = y)
  | .lt => decide (x < y)
  | .ge => decide (y ≤ x)
  | .gt => decide (y < x)
  | .le => decide (x ≤ y)
def ztgt (pc : Nat) (off : Int) : Option Nat := bif decide (0 ≤ (pc : Int) + off) then some ((pc : Int) + off).toNat else none
def z1 : List Value → Option (Int32 × List Value)
  | .int x :: r => some (x, r)
  | _ => none
def z2 : List Value → Option (Int32 × Int32 × List Value)
  | .int y :: .int x :: r => some (x, y, r)
  | _ => none
def zr1 : List Value → Option (Nat × List Value)
  | .ref a :: r => some (a, r)
  | _ => none
def zir : List Value → Option (Int32 × Nat × List Value)
  | .int i :: .ref a :: r => some (i, a, r)
  | _ => none
def zix : List Value → Option (Int32 × Nat × List Value)
  | .int i :: .retAddr a :: r => some (i, a, r)
  | _ => none
def zvr : List Value → Option (Value × Nat × List Value)
  | v :: .ref a :: r => some (v, a, r)
  | _ => none
def zvir : List Value → Option (Value × Int32 × Nat × List Value)
  | v :: .int i :: .ref a :: r => some (v, i, a, r)
  | _ => none
/-- the pure instructions on two ints -/
def zop2 (i : Instr) (x y : Int32) : Option Int32 := match i with
  | .iadd => some (x + y)
  | .isub => some (x - y)
  | .imul => some (x * y)
  | .iand => some (x &&& y)
  | .ior => some (x ||| y)
  | .ishl => some (x <<< (y &&& 31))
  | .ishr => some (x >>> (y &&& 31))
  | .idiv => bif decide (y = 0) then none else some (x / y)
  | .irem => bif decide (y = 0) then none else some (x - x / y * y)
  | _ => none
def zpush (i : Instr) (a : Nat) : Option (Int32 × Nat) := match i with
  | .iconst k => some (Int32.ofInt k, 1)
  | .bipush k => some ((Int8.ofInt k).toInt32, 2)
  | .sipush k => some ((Int16.ofInt k).toInt32, 3)
  | .ldc _ => some (Int32.ofNat a, 2)
  | .ldc_w _ => some (Int32.ofNat a, 3)
  | _ => none
/-- loads and stores of locals: place, length, whether of a reference -/
def zlod (i : Instr) : Option (Nat × Nat × Bool) := match i with
  | .iload k => some (k, 2, false)
  | .iload_n k => some (k.val, 1, false)
  | .aload k => some (k, 2, true)
  | .aload_n k => some (k.val, 1, true)
  | _ => none
def zsto (i : Instr) : Option (Nat × Nat × Bool) := match i with
  | .istore k => some (k, 2, false)
  | .istore_n k => some (k.val, 1, false)
  | .astore k => some (k, 2, true)
  | .astore_n k => some (k.val, 1, true)
  | _ => none
def zisr : Value → Bool
  | .ref _ => true
  | .retAddr _ => true
  | _ => false
def zisi : Value → Bool
  | .int _ => true
  | _ => false
/-- what a field of a type takes -/
def zfits : FieldType → Value → Bool
  | .int, .int _ => true
  | .boolean, .int x => decide (x = 0) || decide (x = 1)
  | .object _, .ref _ => true
  | .array _, .ref _ => true
  | _, _ => false
def zty : Nat → FieldType
  | 0 => .int
  | 1 => .boolean
  | 2 => .long
  | 3 => .object "NestedPager$Guest"
  | _ => .object "NestedPager$Vcpu"
end
section
/-! ONE STEP of the abstract machine: what neither calls, makes, nor ends -/
def zfld (a b : Nat) (st : List Value) (h : zH) : Option (Value × List Value) := match zr1 st with
  | none => none
  | some (q, r) => match h[q]? with
    | some (.inr (ci, fs)) => bif Nat.beq ci a then (match fs[b]? with
      | some v => some (v, r)
      | none => none) else none
    | _ => none
/-- the fields' types, by class and place -/
abbrev zFT : Type := Nat → Nat → FieldType × Bool
def zpf (M : zM) (FT : zFT) (a b : Nat) (st : List Value) (h : zH) : Option (List Value × zH) := match zvr st with
  | none => none
  | some (v, q, r) => match h[q]? with
    | some (.inr (ci, fs)) => bif Nat.beq ci a && zfits (FT a b).1 v && Nat.blt b fs.length && (!(FT a b).2 || (Nat.beq (zKind M).1 2 && Nat.beq (zKind M).2.1 a)) then some (r, h.set q (.inr (ci, fs.set b v))) else none
    | _ => none
def zal (i : Instr) (X : zX) (st : List Value) (h : zH) : Option (Value × List Value) := match zir st with
  | some (j, q, r) => (match i, h[q]? with
    | .iaload, some (.inl (0, n, .inl f)) => bif zin j n then some (.int (f j.toNatClampNeg), r) else none
    | .baload, some (.inl (1, n, .inl f)) => bif zin j n then some (.int (f j.toNatClampNeg), r) else none
    | .laload, some (.inl (2, n, .inr (.inl f))) => bif zin j n then some (.long (f j.toNatClampNeg), r) else none
    | .aaload, some (.inl (3, n, .inr (.inr (.inr (.inr f))))) => bif zin j n then some (va_rf (f j.toNatClampNeg), r) else none
    | .aaload, some (.inl (4, n, .inr (.inr (.inr (.inr f))))) => bif zin j n then some (va_rf (f j.toNatClampNeg), r) else none
    | _, _ => none)
  | none => (match zix st with
    | some (j, k, r) => (match i with
      | .iaload => bif zin j (X k).1 then some (.int ((X k).2 j.toNatClampNeg), r) else none
      | _ => none)
    | none => none)
def zas (i : Instr) (st : List Value) (h : zH) : Option (List Value × zH) := match zvir st with
  | none => none
  | some (v, j, q, r) => match i, v, h[q]? with
    | .iastore, .int x, some (.inl (0, n, .inl f)) => bif zin j n then some (r, h.set q (.inl (0, n, .inl (upd f j.toNatClampNeg x)))) else none
    | .bastore, .int x, some (.inl (1, n, .inl f)) => bif zin j n then some (r, h.set q (.inl (1, n, .inl (upd f j.toNatClampNeg (vp_nar .boolean x))))) else none
    | .aastore, .ref w, some (.inl (3, n, .inr (.inr (.inr (.inr f))))) => (match h[w]? with
      | some (.inr (2, _)) => bif zin j n then some (r, h.set q (.inl (3, n, .inr (.inr (.inr (.inr (va_up f j.toNatClampNeg (some w)))))))) else none
      | _ => none)
    | .aastore, .ref w, some (.inl (4, n, .inr (.inr (.inr (.inr f))))) => (match h[w]? with
      | some (.inr (9, _)) => bif zin j n then some (r, h.set q (.inl (4, n, .inr (.inr (.inr (.inr (va_up f j.toNatClampNeg (some w)))))))) else none
      | _ => none)
    | .lastore, .long x, some (.inl (2, n, .inr (.inl f))) => bif zin j n then some (r, h.set q (.inl (2, n, .inr (.inl (vp_updL f j.toNatClampNeg x))))) else none
    | _, _, _ => none
/-- where a jump goes: the place, the stack behind it -/
def zjmp (i : Instr) (pc len : Nat) (st : List Value) : Option (Nat × List Value) := match i with
  | .goto off => (match ztgt pc off with
    | some t => some (t, st)
    | none => none)
  | .ifCond c off => (match z1 st, ztgt pc off with
    | some (x, r), some t => some (bif zc1 c x then t else pc + 3, r)
    | _, _ => none)
  | .if_icmp c off => (match z2 st, ztgt pc off with
    | some (x, y, r), some t => some (bif zc2 c x y then t else pc + 3, r)
    | _, _ => none)
  | .tableswitch d lo hi offs => (match z1 st with
    | some (x, r) => bif decide (x.toInt < lo) || decide (hi < x.toInt) then (match ztgt pc d with
        | some t => some (t, r)
        | none => none)
      else (match offs[(x.toInt - lo).toNat]? with
        | some off => (match ztgt pc off with
          | some t => some (t, r)
          | none => none)
        | none => none)
    | none => none)
  | .lookupswitch d ps => (match z1 st with
    | some (x, r) => bif (ps.toList.zip (ps.toList.drop 1)).all (fun (a, next) => a.1 < next.1) then (match ztgt pc (Op.lookupswitch.offset ps.toList d x.toInt) with
        | some t => some (t, r)
        | none => none)
      else none
    | none => none)
  | _ => none
/-- what shifts values on the stack -/
def zstk (i : Instr) (X : zX) (st : List Value) : Option (List Value) := match i, st with
  | .dup, v :: r => bif Nat.beq v.category 1 then some (v :: v :: r) else none
  | .dup2, v :: w :: r => bif Nat.beq v.category 1 && Nat.beq w.category 1 then some (v :: w :: v :: w :: r) else none
  | .pop, v :: r => bif Nat.beq v.category 1 then some r else none
  | .i2l, .int x :: r => some (.long x.toInt64 :: r)
  | .ineg, .int x :: r => some (.int (-x) :: r)
  | .lcmp, .long y :: .long x :: r => some (.int (lg_cmp x y) :: r)
  | .arraylength, .retAddr k :: r => some (.int (Int32.ofNat (X k).1) :: r)
  | _, _ => none
def zstep (M : zM) (FT : zFT) (X : zX) (en : zN) (lo : zL) (st : List Value) (h : zH) : Option zS :=
  match zpush en.2.1 en.2.2.2.1 with
  | some (v, n) => some (en.1 + n, lo, .int v :: st, h)
  | none => match zlod en.2.1 with
  | some (k, n, b) => (match zget lo k with
    | some v => bif (bif b then zisr v else zisi v) then some (en.1 + n, lo, v :: st, h) else none
    | none => none)
  | none => match zsto en.2.1 with
  | some (k, n, b) => (match st with
    | v :: r => bif Nat.blt k (zMaxL M) && (bif b then zisr v else zisi v) then some (en.1 + n, zput lo k v, r, h) else none
    | [] => none)
  | none => match zjmp en.2.1 en.1 en.2.2.1 st with
  | some (t, r) => some (t, lo, r, h)
  | none => match en.2.1 with
  | .iinc k c => (match zget lo k with
    | some (.int x) => bif Nat.blt k (zMaxL M) then some (en.1 + 3, zput lo k (.int (x + Int32.ofInt c)), st, h) else none
    | _ => none)
  | .getfield _ => (match zfld en.2.2.2.1 en.2.2.2.2.1 st h with
    | some (v, r) => some (en.1 + 3, lo, v :: r, h)
    | none => none)
  | .putfield _ => (match zpf M FT en.2.2.2.1 en.2.2.2.2.1 st h with
    | some (r, h') => some (en.1 + 3, lo, r, h')
    | none => none)
  | .getstatic _ => some (en.1 + 3, lo, .retAddr en.2.2.2.1 :: st, h)
  | i => match zal i X st h with
    | some (v, r) => some (en.1 + 1, lo, v :: r, h)
    | none => match zas i st h with
      | some (r, h') => some (en.1 + 1, lo, r, h')
      | none => match z2 st with
        | some (x, y, r) => (match zop2 i x y with
          | some v => some (en.1 + 1, lo, .int v :: r, h)
          | none => (match zstk i X st with
            | some st' => some (en.1 + 1, lo, st', h)
            | none => none))
        | none => (match zstk i X st with
          | some st' => some (en.1 + 1, lo, st', h)
          | none => none)
/-! HOW IT STANDS TO THE MACHINE: xa where the outside arrays lie, as where the cells lie -/
def zV (xa as : List Nat) (v w : Value) : Prop := match v with
  | .int x => w = .int x
  | .long x => w = .long x
  | .null => w = .null
  | .ref k => ∃ a, as[k]? = some a ∧ w = .ref a
  | .retAddr k => ∃ a, xa[k]? = some a ∧ w = .ref a
  | _ => False
def zF (xa as : List Nat) : List Value → List Value → Prop
  | [], [] => True
  | v :: vs, w :: ws => zV xa as v w ∧ zF xa as vs ws
  | _, _ => False
def zG (xa as : List Nat) : zL → zL → Prop
  | [], [] => True
  | v :: vs, w :: ws => (v.1 = w.1 ∧ zV xa as v.2 w.2 ∧ w.2.category = 1) ∧ zG xa as vs ws
  | _, _ => False
def zR (as : List Nat) (r r' : Option Nat) : Prop := match r with
  | none => r' = none
  | some k => ∃ a, as[k]? = some a ∧ r' = some a
def zB (as : List Nat) (x y : (Nat → Int32) ⊕ (Nat → Int64) ⊕ (Nat → UInt32) ⊕ (Nat → UInt64) ⊕ (Nat → Option Nat)) : Prop := match x, y with
  | .inl f, .inl g => f = g
  | .inr (.inl f), .inr (.inl g) => f = g
  | .inr (.inr (.inr (.inr f))), .inr (.inr (.inr (.inr g))) => ∀ j, zR as (f j) (g j)
  | _, _ => False
def zC (xa : List Nat) (tys : List (ClassId × FieldType)) (as : List Nat) (c : zE) (d : va_E) : Prop := match c, d with
  | .inr o, .inr o' => o.1 = o'.1 ∧ zF [] as o.2 o'.2
  | .inl a, .inl a' => a.2.1 = a'.2.1 ∧ (∃ t0 : Nat, tys[t0]? = some (a'.1, zty a.1)) ∧ zB as a.2.2 a'.2.2
  | _, _ => False
def zW (xa : List Nat) (tys : List (ClassId × FieldType)) (as : List Nat) (h : zH) (ws : va_W) : Prop :=
  as.length = h.length ∧ ws.length = h.length ∧ ∀ (k : Nat) (c : zE), h[k]? = some c → ∃ (a : Nat) (d : va_E), as[k]? = some a ∧ ws[k]? = some (a, d) ∧ zC xa tys as c d
theorem zpre {α : Type} {l l' : List α} (h : l <+: l') {k : Nat} {a : α} (hk : l[k]? = some a) : l'[k]? = some a := by
  obtain ⟨t, rfl⟩ := h
  rw [List.getElem?_append_left (List.getElem?_eq_some_iff.mp hk).1]
  exact hk
theorem zV_mono {xa as as' : List Nat} (h : as <+: as') {v w : Value} (hv : zV xa as v w) : zV xa as' v w := by
  cases v with
  | ref k => obtain ⟨a, h1, h2⟩ := hv; exact ⟨a, zpre h h1, h2⟩
  | _ => exact hv
theorem zF_mono {xa as as' : List Nat} (h : as <+: as') : ∀ {vs ws : List Value}, zF xa as vs ws → zF xa as' vs ws
  | [], [], _ => trivial
  | _ :: _, _ :: _, hv => ⟨zV_mono h hv.1, zF_mono h hv.2⟩
  | [], _ :: _, hv => hv.elim
  | _ :: _, [], hv => hv.elim
theorem zG_mono {xa as as' : List Nat} (h : as <+: as') : ∀ {vs ws : zL}, zG xa as vs ws → zG xa as' vs ws
  | [], [], _ => trivial
  | _ :: _, _ :: _, hv => ⟨⟨hv.1.1, zV_mono h hv.1.2.1, hv.1.2.2⟩, zG_mono h hv.2⟩
  | [], _ :: _, hv => hv.elim
  | _ :: _, [], hv => hv.elim
theorem zC_mono {xa as as' : List Nat} {tys tys' : List (ClassId × FieldType)} (h : as <+: as') (ht : tys <+: tys') {c : zE} {d : va_E} (hc : zC xa tys as c d) : zC xa tys' as' c d := by
  cases c with
  | inr o =>
    cases d with
    | inr o' => exact ⟨hc.1, zF_mono h hc.2⟩
    | inl a' => exact hc.elim
  | inl a =>
    cases d with
    | inr o' => exact hc.elim
    | inl a' =>
      obtain ⟨h1, ⟨t0, h2⟩, h3⟩ := hc
      refine ⟨h1, ⟨t0, zpre ht h2⟩, ?_⟩
      obtain ⟨kd, n, x⟩ := a
      obtain ⟨cA, n', y⟩ := a'
      rcases x with f | f | f | f | f <;> rcases y with g | g | g | g | g <;> first | exact h3 | exact h3.elim | skip
      intro j
      have h4 := h3 j
      cases hf : f j with
      | none => rw [hf] at h4; exact h4
      | some k => rw [hf] at h4; obtain ⟨a, h5, h6⟩ := h4; exact ⟨a, zpre h h5, h6⟩
theorem zW_get {xa : List Nat} {tys : List (ClassId × FieldType)} {as : List Nat} {h : zH} {ws : va_W} (H : zW xa tys as h ws) {k : Nat} {c : zE} (hk : h[k]? = some c) : ∃ (a : Nat) (d : va_E), as[k]? = some a ∧ ws[k]? = some (a, d) ∧ zC xa tys as c d := H.2.2 k c hk
theorem zW_set {xa : List Nat} {tys : List (ClassId × FieldType)} {as : List Nat} {h : zH} {ws : va_W} (H : zW xa tys as h ws) {k a : Nat} {c : zE} {d : va_E} (ha : as[k]? = some a) (hc : zC xa tys as c d) : zW xa tys as (h.set k c) (ws.set k (a, d)) := by
  refine ⟨by rw [List.length_set]; exact H.1, by rw [List.length_set, List.length_set]; exact H.2.1, fun j x hj => ?_⟩
  by_cases e : k = j
  · subst e
    have hl : k < h.length := by
      rcases Nat.lt_or_ge k h.length with q | q
      · exact q
      · rw [List.getElem?_eq_none (by rw [List.length_set]; exact q)] at hj; cases hj
    rw [List.getElem?_set_self hl] at hj
    cases hj
    exact ⟨a, d, ha, by rw [List.getElem?_set_self (by rw [H.2.1]; exact hl)], hc⟩
  · rw [List.getElem?_set_ne e] at hj
    obtain ⟨b, d', h1, h2, h3⟩ := H.2.2 j x hj
    exact ⟨b, d', h1, by rw [List.getElem?_set_ne e]; exact h2, h3⟩
theorem zW_push {xa : List Nat} {tys tys' : List (ClassId × FieldType)} {as : List Nat} {h : zH} {ws : va_W} (H : zW xa tys as h ws) (ht : tys <+: tys') {q : Nat} {c : zE} {d : va_E} (hc : zC xa tys' (as ++ [q]) c d) : zW xa tys' (as ++ [q]) (h ++ [c]) (ws ++ [(q, d)]) := by
  refine ⟨by simp [H.1], by simp [H.2.1], fun j x hj => ?_⟩
  by_cases e : j < h.length
  · rw [List.getElem?_append_left e] at hj
    obtain ⟨b, d', h1, h2, h3⟩ := H.2.2 j x hj
    have hp : as <+: as ++ [q] := ⟨[q], rfl⟩
    exact ⟨b, d', zpre hp h1, zpre ⟨[(q, d)], rfl⟩ h2, zC_mono hp ht h3⟩
  · rw [List.getElem?_append_right (by omega)] at hj
    have hz : j - h.length < 1 := (List.getElem?_eq_some_iff.mp hj).1
    have e2 : j = h.length := by omega
    subst e2
    rw [Nat.sub_self] at hj
    cases hj
    refine ⟨q, d, ?_, ?_, hc⟩
    · rw [← H.1]; simp
    · rw [← H.2.1]; simp
theorem zG_get {xa as : List Nat} {i : Nat} {v : Value} : ∀ {lo lv : zL}, zG xa as lo lv → zget lo i = some v → ∃ (k : Nat) (w : Value), lv[k]? = some (i, w) ∧ zV xa as v w
  | [], _, _, hg => by cases hg
  | q :: lo, [], h, _ => h.elim
  | q :: lo, q' :: lv, h, hg => by
    obtain ⟨⟨h1, h2, -⟩, h3⟩ := h
    unfold zget at hg
    cases hb : Nat.beq q.1 i with
    | true =>
      rw [hb] at hg
      cases hg
      have e := Nat.eq_of_beq_eq_true hb
      exact ⟨0, q'.2, by rw [List.getElem?_cons_zero, ← e, h1], h2⟩
    | false =>
      rw [hb] at hg
      obtain ⟨k, w, h4, h5⟩ := zG_get h3 hg
      exact ⟨k + 1, w, by rw [List.getElem?_cons_succ]; exact h4, h5⟩
theorem zG_filter {xa as : List Nat} {i : Nat} : ∀ {lo lv : zL}, zG xa as lo lv → zG xa as (lo.filter (fun q => !(Nat.beq q.1 i))) (lv.filter (fun q => !(q.1 == i) && !(q.1 + 1 == i && q.2.category == 2)))
  | [], [], _ => trivial
  | [], _ :: _, h => h.elim
  | _ :: _, [], h => h.elim
  | q :: lo, q' :: lv, h => by
    obtain ⟨⟨h1, h2, h4⟩, h3⟩ := h
    have ih := zG_filter (i := i) h3
    have e2 : (q'.2.category == 2) = false := by rw [h4]; rfl
    have e1 : (q'.1 == i) = Nat.beq q.1 i := by
      rw [h1]
      cases hb : Nat.beq q'.1 i with
      | true => simp [Nat.eq_of_beq_eq_true hb]
      | false => simp [Nat.ne_of_beq_eq_false hb]
    have e3 : (!(q'.1 == i) && !(q'.1 + 1 == i && q'.2.category == 2)) = !(Nat.beq q.1 i) := by rw [e2, Bool.and_false, Bool.not_false, Bool.and_true, e1]
    rw [List.filter_cons, List.filter_cons, e3]
    cases hb : Nat.beq q.1 i with
    | true => exact ih
    | false => exact ⟨⟨h1, h2, h4⟩, ih⟩
theorem zV_nil {xa as : List Nat} {v w : Value} (hv : zV [] as v w) : zV xa as v w := by
  cases v with
  | retAddr k => obtain ⟨a, h, -⟩ := hv; simp at h
  | _ => exact hv
theorem zF_nil {xa as : List Nat} : ∀ {vs ws : List Value}, zF [] as vs ws → zF xa as vs ws
  | [], [], _ => trivial
  | _ :: _, _ :: _, hv => ⟨zV_nil hv.1, zF_nil hv.2⟩
  | [], _ :: _, hv => hv.elim
  | _ :: _, [], hv => hv.elim
/-- no outside array -/
def zpl : Value → Bool
  | .retAddr _ => false
  | _ => true
theorem zV_pl {xa as : List Nat} {v w : Value} (hp : zpl v = true) (hv : zV xa as v w) : zV [] as v w := by
  cases v with
  | retAddr k => cases hp
  | _ => exact hv
theorem zF_pl {xa as : List Nat} : ∀ {vs ws : List Value}, vs.all zpl = true → zF xa as vs ws → zF [] as vs ws
  | [], [], _, _ => trivial
  | _ :: _, _ :: _, hp, hv => by
    rw [List.all_cons, Bool.and_eq_true] at hp
    exact ⟨zV_pl hp.1 hv.1, zF_pl hp.2 hv.2⟩
  | [], _ :: _, _, hv => hv.elim
  | _ :: _, [], _, hv => hv.elim
end
section
/-! A STEP IS TRUE OF THE MACHINE -/
abbrev zA (n0 : Nat) : Nat → Prop := fun q => n0 ≤ q
/-- what is known of the classes that the world holds -/
def zCl (Ts : List Cond) (cl : List vw_C) (FT : zFT) : Prop := ∀ (ci : Nat) (q : vw_C), cl[ci]? = some q →
  (∀ w ∈ u_ws q.1 q.2.1 q.2.2, w ∈ Ts) ∧ (∀ k, k < q.2.2 → parseFieldDescriptor (q.2.1 k).2.2.1 = some (FT ci k).1) ∧ (∀ a, a < q.2.2 → ∀ b, b < q.2.2 → a ≠ b → (q.2.1 a).2.1 ≠ (q.2.1 b).2.1) ∧ ∀ k, k < q.2.2 → (q.2.1 k).2.2.2 = (FT ci k).2 ∧ (q.2.1 k).1 = q.1
def zlen (i : Instr) (n : Nat) : Nat := match i with
  | .tableswitch .. => n
  | .lookupswitch .. => n
  | .sipush _ => 3
  | .ldc_w _ => 3
  | .getfield _ => 3
  | .putfield _ => 3
  | .getstatic _ => 3
  | .invokevirtual _ => 3
  | .invokespecial _ => 3
  | .invokestatic _ => 3
  | .new _ => 3
  | .anewarray _ => 3
  | .iinc _ _ => 3
  | .ifCond _ _ => 3
  | .if_icmp _ _ => 3
  | .goto _ => 3
  | .bipush _ => 2
  | .ldc _ => 2
  | .iload _ => 2
  | .istore _ => 2
  | .aload _ => 2
  | .astore _ => 2
  | .newarray _ => 2
  | _ => 1
/-- what is known of an instruction: its bytes, its link -/
def zEok (Ts : List Cond) (cl : List vw_C) (sf : Nat → String × String × String) (M : zM) (en : zN) : Prop :=
  (decode (zCode M) en.1 = .ok (en.2.1, en.2.2.1) ∧ en.2.2.1 = zlen en.2.1 en.2.2.1) ∧ match en.2.1 with
  | .ldc k => Jvm.Cond.constant (zName M).cls k (Int32.ofNat en.2.2.2.1) ∈ Ts
  | .ldc_w k => Jvm.Cond.constant (zName M).cls k (Int32.ofNat en.2.2.2.1) ∈ Ts
  | .getfield k => ∃ q : vw_C, cl[en.2.2.2.1]? = some q ∧ en.2.2.2.2.1 < q.2.2 ∧ Jvm.Cond.fieldLink (zName M).cls k q.1 (q.2.1 en.2.2.2.2.1).2.1 (q.2.1 en.2.2.2.2.1).2.2.1 ∈ Ts
  | .putfield k => ∃ q : vw_C, cl[en.2.2.2.1]? = some q ∧ en.2.2.2.2.1 < q.2.2 ∧ Jvm.Cond.fieldLink (zName M).cls k q.1 (q.2.1 en.2.2.2.2.1).2.1 (q.2.1 en.2.2.2.2.1).2.2.1 ∈ Ts
  | .getstatic k => Jvm.Cond.fieldLink (zName M).cls k (sf en.2.2.2.1).1 (sf en.2.2.2.1).2.1 (sf en.2.2.2.1).2.2 ∈ Ts
  | _ => True
/-- the method stands: the machine, its code, its words, the outside arrays -/
def zCx (p : Program) (s : State) (m : MethodId) (args : Array Value) (meth : Method) (c : Code) (Ts : List Cond) (X : zX) (xa : List Nat) (sf : Nat → String × String × String) (n0 : Nat) (M : zM) : Prop :=
  p.tables.exec = Jvm.exec ∧ c.code = zCode M ∧ c.maxLocals = zMaxL M ∧ s.vm.findClass (zName M).cls = some m.cls ∧ (∀ w ∈ Ts, w.before args s = true) ∧ (∀ (k a : Nat), xa[k]? = some a → va_T .int a (X k).1 (fun j => .int ((X k).2 j)) (zA n0) s s.heap) ∧
  (∀ k : Nat, (sf k).1 ≠ "" → ∃ t : Nat, xa[k]? = some t ∧ va_Z (sf k).1 (sf k).2.1 (sf k).2.2 (.ref t) (zA n0) s s.heap) ∧ ((zKind M).1 = 2 → meth.name = "<init>") ∧ n0 ≤ s.heap.size
/-- the world now -/
def zI (D : va_G) (cl : List vw_C) (xa : List Nat) (n0 : Nat) (s : State) (tys : List (ClassId × FieldType)) (as : List Nat) (ws : va_W) (h : zH) (H : Heap) (locs : List Loc) : Prop :=
  va_K D cl tys s ∧ va_P D cl ws H ∧ va_D (zA n0) ws ∧ va_S (zA n0) s.heap H locs ∧ zW xa tys as h ws
section ZST
variable {p : Program} {l : Launch} {e : Env} {R : Room} {s : State} {m : MethodId} {args : Array Value} {below : List Frame} {meth : Method} {c : Code} {H : Heap} {locs : List Loc} {cells slots : Nat} {Q : State → Prop}
variable {Ts : List Cond} {cl : List vw_C} {FT : zFT} {X : zX} {xa : List Nat} {sf : Nat → String × String × String} {n0 : Nat} {M : zM} {D : va_G} {tys : List (ClassId × FieldType)} {as : List Nat} {ws : va_W} {h : zH} {pc : Nat} {ls : Array Slot} {sc rest : List Value} {lo lv : zL} {st : List Value} {en : zN}
theorem zs_push (C : zCx p s m args meth c Ts X xa sf n0 M) (he : zEok Ts cl sf M en) {v : Int32} {n : Nat} (hp : zpush en.2.1 en.2.2.2.1 = some (v, n)) (k : W p l e R s m args below meth c H locs cells slots Q (F0 m (en.1 + n) ls (.int v :: sc))) : W p l e R s m args below meth c H locs cells slots Q (F0 m en.1 ls sc) := by
  obtain ⟨hx, hb, -, hown, hts, -⟩ := C
  obtain ⟨pc, i, len, a, b, w⟩ := en
  obtain ⟨⟨hd, hn⟩, he⟩ := he
  dsimp only at hd hn he hp k ⊢
  rw [hn] at hd
  unfold zpush at hp
  split at hp
  · cases hp; exact lv_iconst hx hb hd rfl k
  · cases hp; exact lv_bipush hx hb hd rfl k
  · cases hp; exact lv_sipush hx hb hd rfl k
  · cases hp; exact lv_ldc hx hb hown (hts _ he) hd k
  · cases hp; exact lv_ldcw hx hb hown (hts _ he) hd k
  · cases hp
theorem zV_r {v w : Value} (hr : zisr v = true) (hv : zV xa as v w) : ∃ a, w = .ref a := by
  cases v with
  | ref k => obtain ⟨a, -, h⟩ := hv; exact ⟨a, h⟩
  | retAddr k => obtain ⟨a, -, h⟩ := hv; exact ⟨a, h⟩
  | _ => cases hr
theorem zV_i {v w : Value} (hr : zisi v = true) (hv : zV xa as v w) : ∃ x, v = .int x ∧ w = .int x := by
  cases v with
  | int x => exact ⟨x, rfl, hv⟩
  | _ => cases hr
theorem zs_lod (C : zCx p s m args meth c Ts X xa sf n0 M) (he : zEok Ts cl sf M en) {i n : Nat} {b : Bool} (hp : zlod en.2.1 = some (i, n, b)) {v : Value} (hv : zget lo i = some v) (ht : (bif b then zisr v else zisi v) = true) (hl : lv_has ls (zMaxL M) lv) (hg : zG xa as lo lv)
    (k : ∀ w : Value, zV xa as v w → W p l e R s m args below meth c H locs cells slots Q (F0 m (en.1 + n) ls (w :: sc))) : W p l e R s m args below meth c H locs cells slots Q (F0 m en.1 ls sc) := by
  obtain ⟨hx, hb, -, hown, hts, -⟩ := C
  obtain ⟨pc, ins, len, a0, b0, w0⟩ := en
  obtain ⟨⟨hd, hn⟩, he⟩ := he
  dsimp only at hd hn he hp k ⊢
  rw [hn] at hd
  obtain ⟨j, w, h1, h2⟩ := zG_get hg hv
  have k := k w h2
  unfold zlod at hp
  split at hp
  · cases hp
    obtain ⟨x, -, rfl⟩ := zV_i ht h2
    exact lv_iload hx hb hd (lv_at hl j h1) k
  · cases hp
    obtain ⟨x, -, rfl⟩ := zV_i ht h2
    exact lv_iload_n hx hb hd rfl (lv_at hl j h1) k
  · cases hp
    obtain ⟨x, rfl⟩ := zV_r ht h2
    exact lv_aload hx hb hd (lv_at hl j h1) k
  · cases hp
    obtain ⟨x, rfl⟩ := zV_r ht h2
    exact lv_aload_n hx hb hd rfl (lv_at hl j h1) k
  · cases hp
theorem zs_sto (C : zCx p s m args meth c Ts X xa sf n0 M) (he : zEok Ts cl sf M en) {i n : Nat} {b : Bool} (hp : zsto en.2.1 = some (i, n, b)) {v w : Value} (hv : zV xa as v w) (hi : i < zMaxL M) (ht : (bif b then zisr v else zisi v) = true) (hl : lv_has ls (zMaxL M) lv) (hg : zG xa as lo lv)
    (k : ∀ (ls' : Array Slot) (lv' : zL), lv_has ls' (zMaxL M) lv' → zG xa as (zput lo i v) lv' → W p l e R s m args below meth c H locs cells slots Q (F0 m (en.1 + n) ls' sc)) : W p l e R s m args below meth c H locs cells slots Q (F0 m en.1 ls (w :: sc)) := by
  obtain ⟨hx, hb, -, hown, hts, -⟩ := C
  obtain ⟨pc, ins, len, a0, b0, w0⟩ := en
  obtain ⟨⟨hd, hn⟩, he⟩ := he
  dsimp only at hd hn he hp k ⊢
  rw [hn] at hd
  have hf := zG_filter (i := i) hg
  unfold zsto at hp
  split at hp
  · cases hp
    obtain ⟨x, -, rfl⟩ := zV_i ht hv
    exact lv_istore hx hb hd hl hi rfl (fun ls' hl' => k ls' _ hl' ⟨⟨rfl, hv, rfl⟩, hf⟩)
  · cases hp
    obtain ⟨x, -, rfl⟩ := zV_i ht hv
    exact lv_istore_n hx hb hd rfl hl hi rfl (fun ls' hl' => k ls' _ hl' ⟨⟨rfl, hv, rfl⟩, hf⟩)
  · cases hp
    obtain ⟨x, rfl⟩ := zV_r ht hv
    exact lv_astore hx hb hd hl hi rfl (fun ls' hl' => k ls' _ hl' ⟨⟨rfl, hv, rfl⟩, hf⟩)
  · cases hp
    obtain ⟨x, rfl⟩ := zV_r ht hv
    exact lv_astore_n hx hb hd rfl hl hi rfl (fun ls' hl' => k ls' _ hl' ⟨⟨rfl, hv, rfl⟩, hf⟩)
  · cases hp
theorem zF_1 {x : Int32} {r : List Value} (h1 : z1 st = some (x, r)) (hf : zF xa as st sc) : ∃ sc', sc = .int x :: sc' ∧ zF xa as r sc' := by
  unfold z1 at h1
  split at h1
  · cases h1
    cases sc with
    | nil => exact hf.elim
    | cons w sc' => exact ⟨sc', by rw [show w = .int x from hf.1], hf.2⟩
  · cases h1
theorem zF_2 {x y : Int32} {r : List Value} (h1 : z2 st = some (x, y, r)) (hf : zF xa as st sc) : ∃ sc', sc = .int y :: .int x :: sc' ∧ zF xa as r sc' := by
  unfold z2 at h1
  split at h1
  · cases h1
    match sc, hf with
    | w :: w2 :: sc', hf => exact ⟨sc', by rw [show w = .int y from hf.1, show w2 = .int x from hf.2.1], hf.2.2⟩
  · cases h1
theorem ztgt_eq {off : Int} {t : Nat} (ht : ztgt pc off = some t) : (pc : Int) + off = (t : Int) := by
  unfold ztgt at ht
  cases hd : decide (0 ≤ (pc : Int) + off) with
  | false => rw [hd] at ht; cases ht
  | true =>
    rw [hd] at ht
    have h0 := of_decide_eq_true hd
    have e1 : ((pc : Int) + off).toNat = t := Option.some.inj ht
    omega
theorem zs_jmp (C : zCx p s m args meth c Ts X xa sf n0 M) (he : zEok Ts cl sf M en) {t : Nat} {r : List Value} (hp : zjmp en.2.1 en.1 en.2.2.1 st = some (t, r)) (hf : zF xa as st sc)
    (k : ∀ sc' : List Value, zF xa as r sc' → W p l e R s m args below meth c H locs cells slots Q (F0 m t ls sc')) : W p l e R s m args below meth c H locs cells slots Q (F0 m en.1 ls sc) := by
  obtain ⟨hx, hb, -, hown, hts, -⟩ := C
  obtain ⟨pc, ins, len, a0, b0, w0⟩ := en
  obtain ⟨⟨hd, hn⟩, he⟩ := he
  dsimp only at hd hn he hp k ⊢
  unfold zjmp at hp
  split at hp
  · rw [hn] at hd
    split at hp
    · cases hp
      exact lv_goto hx hb hd (ztgt_eq (by assumption)) (k _ hf)
    · cases hp
  · rename_i cd off
    rw [hn] at hd
    split at hp
    · rename_i x r' t' h1 h2
      cases hp
      obtain ⟨sc', rfl, hf'⟩ := zF_1 h1 hf
      have k := k _ hf'
      have ht := ztgt_eq h2
      cases cd <;> unfold zc1 at k <;> dsimp only at k
      · exact lv_if_eq hx hb hd ht (fun q => by rw [decide_eq_true q] at k; exact k) (fun q => by rw [decide_eq_false q] at k; exact k)
      · exact lv_if_ne hx hb hd ht (fun q => by rw [decide_eq_true q] at k; exact k) (fun q => by rw [decide_eq_false (not_not_intro q)] at k; exact k)
      · exact lv_if_lt hx hb hd ht (fun q => by rw [decide_eq_true q] at k; exact k) (fun q => by rw [decide_eq_false q] at k; exact k)
      · exact lv_if_ge hx hb hd ht (fun q => by rw [decide_eq_true q] at k; exact k) (fun q => by rw [decide_eq_false q] at k; exact k)
      · exact lv_if_gt hx hb hd ht (fun q => by rw [decide_eq_true q] at k; exact k) (fun q => by rw [decide_eq_false q] at k; exact k)
      · exact lv_if_le hx hb hd ht (fun q => by rw [decide_eq_true q] at k; exact k) (fun q => by rw [decide_eq_false q] at k; exact k)
    · cases hp
  · rename_i cd off
    rw [hn] at hd
    split at hp
    · rename_i x y r' t' h1 h2
      cases hp
      obtain ⟨sc', rfl, hf'⟩ := zF_2 h1 hf
      have k := k _ hf'
      have ht := ztgt_eq h2
      cases cd <;> unfold zc2 at k <;> dsimp only at k
      · exact lv_icmp_eq hx hb hd ht (fun q => by rw [decide_eq_true q] at k; exact k) (fun q => by rw [decide_eq_false q] at k; exact k)
      · exact lv_icmp_ne hx hb hd ht (fun q => by rw [decide_eq_true q] at k; exact k) (fun q => by rw [decide_eq_false (not_not_intro q)] at k; exact k)
      · exact lv_icmp_lt hx hb hd ht (fun q => by rw [decide_eq_true q] at k; exact k) (fun q => by rw [decide_eq_false q] at k; exact k)
      · exact lv_icmp_ge hx hb hd ht (fun q => by rw [decide_eq_true q] at k; exact k) (fun q => by rw [decide_eq_false q] at k; exact k)
      · exact lv_icmp_gt hx hb hd ht (fun q => by rw [decide_eq_true q] at k; exact k) (fun q => by rw [decide_eq_false q] at k; exact k)
      · exact lv_icmp_le hx hb hd ht (fun q => by rw [decide_eq_true q] at k; exact k) (fun q => by rw [decide_eq_false q] at k; exact k)
    · cases hp
  · rename_i dflt lo9 hi9 offs
    split at hp
    · rename_i x r' h1
      obtain ⟨sc', rfl, hf'⟩ := zF_1 h1 hf
      cases hd9 : decide (x.toInt < lo9) || decide (hi9 < x.toInt) with
      | true =>
        rw [hd9, cond_true] at hp
        split at hp
        · rename_i t' h2
          cases hp
          rw [Bool.or_eq_true, decide_eq_true_eq, decide_eq_true_eq] at hd9
          exact lv_tableOut hx hb hd hd9 (ztgt_eq h2) (k _ hf')
        · cases hp
      | false =>
        rw [hd9, cond_false] at hp
        rw [Bool.or_eq_false_iff, decide_eq_false_iff_not, decide_eq_false_iff_not] at hd9
        split at hp
        · rename_i off ho
          split at hp
          · rename_i t' h2
            cases hp
            exact lv_tableIn hx hb hd hd9.1 hd9.2 ho (ztgt_eq h2) (k _ hf')
          · cases hp
        · cases hp
    · cases hp
  · rename_i dflt ps
    split at hp
    · rename_i x r' h1
      obtain ⟨sc', rfl, hf'⟩ := zF_1 h1 hf
      cases hd9 : (ps.toList.zip (ps.toList.drop 1)).all (fun (a, next) => a.1 < next.1) with
      | true =>
        rw [hd9, cond_true] at hp
        split at hp
        · rename_i t' h2
          cases hp
          exact lv_lookup hx hb hd hd9 rfl (ztgt_eq h2) (k _ hf')
        · cases hp
      | false =>
        rw [hd9, cond_false] at hp
        cases hp
    · cases hp
  · cases hp
theorem zF_len : ∀ {vs cs : List Value}, zF xa as vs cs → vs.length = cs.length
  | [], [], _ => rfl
  | _ :: _, _ :: _, hv => by rw [List.length_cons, List.length_cons, zF_len hv.2]
  | [], _ :: _, hv => hv.elim
  | _ :: _, [], hv => hv.elim
theorem zF_at {k : Nat} {v : Value} : ∀ {vs cs : List Value}, zF xa as vs cs → vs[k]? = some v → ∃ w, cs[k]? = some w ∧ zV xa as v w
  | [], _, _, hk => by simp at hk
  | _ :: _, [], hv, _ => hv.elim
  | x :: vs, y :: cs, hv, hk => by
    cases k with
    | zero => rw [List.getElem?_cons_zero] at hk; cases hk; exact ⟨y, by rw [List.getElem?_cons_zero], hv.1⟩
    | succ k => rw [List.getElem?_cons_succ] at hk; obtain ⟨w, h1, h2⟩ := zF_at hv.2 hk; exact ⟨w, by rw [List.getElem?_cons_succ]; exact h1, h2⟩
theorem zF_set {k : Nat} {v w : Value} (hvw : zV xa as v w) : ∀ {vs cs : List Value}, zF xa as vs cs → zF xa as (vs.set k v) (cs.set k w)
  | [], [], _ => by trivial
  | _ :: _, [], hv => hv.elim
  | [], _ :: _, hv => hv.elim
  | x :: vs, y :: cs, hv => by
    cases k with
    | zero => exact ⟨hvw, hv.2⟩
    | succ k => exact ⟨hv.1, zF_set hvw hv.2⟩
theorem zr1_eq {q : Nat} {r : List Value} (h1 : zr1 st = some (q, r)) : st = .ref q :: r := by
  unfold zr1 at h1; split at h1 <;> cases h1; rfl
theorem zvr_eq {v : Value} {q : Nat} {r : List Value} (h1 : zvr st = some (v, q, r)) : st = v :: .ref q :: r := by
  unfold zvr at h1; split at h1 <;> cases h1; rfl
theorem zir_eq {i : Int32} {q : Nat} {r : List Value} (h1 : zir st = some (i, q, r)) : st = .int i :: .ref q :: r := by
  unfold zir at h1; split at h1 <;> cases h1; rfl
theorem zix_eq {i : Int32} {q : Nat} {r : List Value} (h1 : zix st = some (i, q, r)) : st = .int i :: .retAddr q :: r := by
  unfold zix at h1; split at h1 <;> cases h1; rfl
theorem zvir_eq {v : Value} {i : Int32} {q : Nat} {r : List Value} (h1 : zvir st = some (v, i, q, r)) : st = v :: .int i :: .ref q :: r := by
  unfold zvir at h1; split at h1 <;> cases h1; rfl
theorem zin_in {i : Int32} {n : Nat} (hz : zin i n = true) : vp_in i n := by unfold zin at hz; unfold vp_in; exact of_decide_eq_true hz
theorem zs_get (hcl : zCl Ts cl FT) (C : zCx p s m args meth c Ts X xa sf n0 M) (he : zEok Ts cl sf M en) {ix : Nat} (hi : en.2.1 = .getfield ix) {v : Value} {r : List Value} (hp : zfld en.2.2.2.1 en.2.2.2.2.1 st h = some (v, r)) (I : zI D cl xa n0 s tys as ws h H locs) (hf : zF xa as st sc)
    (k : ∀ (w : Value) (sc' : List Value), zV xa as v w → zF xa as r sc' → W p l e R s m args below meth c H locs cells slots Q (F0 m (en.1 + 3) ls (w :: sc'))) : W p l e R s m args below meth c H locs cells slots Q (F0 m en.1 ls sc) := by
  obtain ⟨hx, hb, -, hown, hts, -⟩ := C
  obtain ⟨hK, hP, hD, hS, hW⟩ := I
  obtain ⟨pc, ins, len, a0, b0, w0⟩ := en
  obtain ⟨⟨hd, hn⟩, he⟩ := he
  dsimp only at hd hn he hp k hi ⊢
  subst hi
  rw [hn] at hd
  obtain ⟨q, hq, hbq, hlk⟩ := he
  obtain ⟨g1, g2, g3, g4⟩ := hcl a0 q hq
  unfold zfld at hp
  split at hp
  · cases hp
  · rename_i q1 r1 h1
    have e1 := zr1_eq h1
    subst e1
    split at hp
    · rename_i ci fs h2
      cases hbb : Nat.beq ci a0 with
      | false => rw [hbb, cond_false] at hp; cases hp
      | true =>
        rw [hbb, cond_true] at hp
        have e2 := Nat.eq_of_beq_eq_true hbb
        subst e2
        split at hp
        · rename_i v1 h3
          cases hp
          obtain ⟨a1, d1, h4, h5, h6⟩ := hW.2.2 _ _ h2
          cases d1 with
          | inl x => exact h6.elim
          | inr o =>
            obtain ⟨oc, ofs⟩ := o
            obtain ⟨h7, h8⟩ := h6
            dsimp only at h7 h8
            subst h7
            obtain ⟨w, h9, h10⟩ := zF_at h8 h3
            match sc, hf with
            | w1 :: sc', hf =>
              obtain ⟨⟨a2, h11, h12⟩, hf2⟩ := hf
              cases h4.symm.trans h11
              subst h12
              exact va_get (C := q.1) (T := q.2.1) (N := q.2.2) hx hb hts g1 hown hK hP q1 h5 hq b0 hbq (hts _ hlk) (fun x hx9 => by rw [← (g4 b0 hbq).2]; exact hx9) h9 hd (k w sc' (zV_nil h10) hf2)
        · cases hp
    · cases hp
theorem zfits_ok {ty : FieldType} {v w : Value} (hz : zfits ty v = true) (hv : zV xa as v w) : narrow ty w = w ∧ fits ty w = true := by
  unfold zfits at hz
  split at hz
  · rw [show w = .int _ from hv]; exact ⟨rfl, rfl⟩
  · rename_i x
    rw [show w = .int _ from hv]
    rw [Bool.or_eq_true, decide_eq_true_eq, decide_eq_true_eq] at hz
    rcases hz with rfl | rfl <;> exact ⟨by decide, by decide⟩
  · obtain ⟨a, -, rfl⟩ := hv; exact ⟨rfl, rfl⟩
  · obtain ⟨a, -, rfl⟩ := hv; exact ⟨rfl, rfl⟩
  · cases hz
theorem zfits_pl {ty : FieldType} {v : Value} (hz : zfits ty v = true) : zpl v = true := by
  unfold zfits at hz
  split at hz <;> first | rfl | cases hz
theorem zs_put (hcl : zCl Ts cl FT) (C : zCx p s m args meth c Ts X xa sf n0 M) (hMc : (zKind M).1 = 2 → ∀ q : vw_C, cl[(zKind M).2.1]? = some q → q.1 = (zName M).cls) (he : zEok Ts cl sf M en) {ix : Nat} (hi : en.2.1 = .putfield ix) {r : List Value} {h' : zH} (hp : zpf M FT en.2.2.2.1 en.2.2.2.2.1 st h = some (r, h')) (I : zI D cl xa n0 s tys as ws h H locs) (hf : zF xa as st sc)
    (k : ∀ (ws' : va_W) (H' : Heap) (locs' : List Loc) (sc' : List Value), zI D cl xa n0 s tys as ws' h' H' locs' → zF xa as r sc' → W p l e R s m args below meth c H' locs' cells slots Q (F0 m (en.1 + 3) ls sc')) : W p l e R s m args below meth c H locs cells slots Q (F0 m en.1 ls sc) := by
  obtain ⟨hx, hb, -, hown, hts, -, -, hini, -⟩ := C
  obtain ⟨hK, hP, hD, hS, hW⟩ := I
  obtain ⟨pc, ins, len, a0, b0, w0⟩ := en
  obtain ⟨⟨hd, hn⟩, he⟩ := he
  dsimp only at hd hn he hp k hi ⊢
  subst hi
  rw [hn] at hd
  obtain ⟨q, hq, hbq, hlk⟩ := he
  obtain ⟨g1, g2, g3, g4⟩ := hcl a0 q hq
  unfold zpf at hp
  split at hp
  · cases hp
  · rename_i v q1 r1 h1
    have e1 := zvr_eq h1
    subst e1
    split at hp
    · rename_i ci fs h2
      cases hbb : Nat.beq ci a0 && zfits (FT a0 b0).1 v && Nat.blt b0 fs.length && (!(FT a0 b0).2 || (Nat.beq (zKind M).1 2 && Nat.beq (zKind M).2.1 a0)) with
      | false => rw [hbb, cond_false] at hp; cases hp
      | true =>
        rw [hbb, cond_true] at hp
        cases hp
        rw [Bool.and_eq_true, Bool.and_eq_true, Bool.and_eq_true] at hbb
        obtain ⟨⟨⟨b1, b2⟩, b3⟩, b4⟩ := hbb
        have e2 := Nat.eq_of_beq_eq_true b1
        subst e2
        have b5 : b0 < fs.length := Nat.le_of_ble_eq_true b3
        obtain ⟨a1, d1, h4, h5, h6⟩ := hW.2.2 _ _ h2
        cases d1 with
        | inl x => exact h6.elim
        | inr o =>
          obtain ⟨oc, ofs⟩ := o
          obtain ⟨h7, h8⟩ := h6
          dsimp only at h7 h8
          subst h7
          match sc, hf with
          | w :: w1 :: sc', hf =>
            obtain ⟨hv, ⟨a2, h11, h12⟩, hf2⟩ := hf
            cases h4.symm.trans h11
            subst h12
            obtain ⟨z1, z2⟩ := zfits_ok b2 hv
            have hl9 : b0 < ofs.length := by rw [← zF_len h8]; exact b5
            have hW' : zW xa tys as (h.set q1 (.inr (ci, fs.set b0 v))) (ws.set q1 (a1, .inr (ci, ofs.set b0 w))) := zW_set hW h4 ⟨rfl, zF_set (zV_pl (zfits_pl b2) hv) h8⟩
            cases hfin : (FT ci b0).2 with
            | false =>
              exact va_put (C := q.1) (T := q.2.1) (N := q.2.2) hx hb hts g1 (FT ci · |>.1) g2 g3 hown hK hP hD hS q1 h5 hq b0 hbq (hts _ hlk) (fun x hx9 => by rw [← (g4 b0 hbq).2]; exact hx9) ((g4 b0 hbq).1.trans hfin) (g2 b0 hbq) z1 z2 hl9 hd
                (fun H1 locs1 hP1 hD1 hS1 => k _ H1 locs1 sc' ⟨hK, hP1, hD1, hS1, hW'⟩ hf2)
            | true =>
              rw [hfin, Bool.not_true, Bool.false_or, Bool.and_eq_true] at b4
              have c1 := Nat.eq_of_beq_eq_true b4.1
              have c2 := Nat.eq_of_beq_eq_true b4.2
              exact va_putF (C := q.1) (T := q.2.1) (N := q.2.2) hx hb hts g1 (FT ci · |>.1) g2 g3 hown hK hP hD hS q1 h5 hq b0 hbq (hts _ hlk) (fun x hx9 => by rw [← (g4 b0 hbq).2]; exact hx9) ((g4 b0 hbq).1.trans hfin) (hini c1) ((g4 b0 hbq).2.trans (hMc c1 q (by rw [c2]; exact hq))) (g2 b0 hbq) z1 z2 hl9 hd
                (fun H1 locs1 hP1 hD1 hS1 => k _ H1 locs1 sc' ⟨hK, hP1, hD1, hS1, hW'⟩ hf2)
    · cases hp
theorem zs_al (C : zCx p s m args meth c Ts X xa sf n0 M) (he : zEok Ts cl sf M en) {v : Value} {r : List Value} (hp : zal en.2.1 X st h = some (v, r)) (I : zI D cl xa n0 s tys as ws h H locs) (hf : zF xa as st sc)
    (k : ∀ (w : Value) (sc' : List Value), zV xa as v w → zF xa as r sc' → W p l e R s m args below meth c H locs cells slots Q (F0 m (en.1 + 1) ls (w :: sc'))) : W p l e R s m args below meth c H locs cells slots Q (F0 m en.1 ls sc) := by
  obtain ⟨hx, hb, -, hown, hts, hXa, -⟩ := C
  obtain ⟨hK, hP, hD, hS, hW⟩ := I
  obtain ⟨pc, ins, len, a0, b0, w0⟩ := en
  obtain ⟨⟨hd, hn⟩, he⟩ := he
  dsimp only at hd hn he hp k ⊢
  rw [hn] at hd
  unfold zal at hp
  split at hp
  · rename_i j q1 r1 h1
    have e1 := zir_eq h1
    subst e1
    match sc, hf with
    | w1 :: w2 :: sc', hf =>
    obtain ⟨hw1, ⟨a2, h11, h12⟩, hf2⟩ := hf
    have hw1 : w1 = .int j := hw1
    subst hw1; subst h12
    split at hp
    · rename_i n f h2
      cases hz : zin j n with
      | false => rw [hz, cond_false] at hp; cases hp
      | true =>
      rw [hz, cond_true] at hp; cases hp
      obtain ⟨a1, d1, h4, h5, h6⟩ := hW.2.2 _ _ h2
      cases h4.symm.trans h11
      match d1, h6 with
      | .inl (cA, n9, .inl g), h6 =>
        obtain ⟨h7, ⟨t0, h8⟩, h9⟩ := h6
        have h7 : n = n9 := h7
        have h9 : f = g := h9
        subst h7; subst h9
        exact va_iald hx hb hK hP q1 t0 h5 h8 (zin_in hz) hd (k _ sc' rfl hf2)
    · rename_i n f h2
      cases hz : zin j n with
      | false => rw [hz, cond_false] at hp; cases hp
      | true =>
      rw [hz, cond_true] at hp; cases hp
      obtain ⟨a1, d1, h4, h5, h6⟩ := hW.2.2 _ _ h2
      cases h4.symm.trans h11
      match d1, h6 with
      | .inl (cA, n9, .inl g), h6 =>
        obtain ⟨h7, ⟨t0, h8⟩, h9⟩ := h6
        have h7 : n = n9 := h7
        have h9 : f = g := h9
        subst h7; subst h9
        exact va_zald hx hb hK hP q1 t0 h5 h8 (zin_in hz) hd (k _ sc' rfl hf2)
    · rename_i n f h2
      cases hz : zin j n with
      | false => rw [hz, cond_false] at hp; cases hp
      | true =>
      rw [hz, cond_true] at hp; cases hp
      obtain ⟨a1, d1, h4, h5, h6⟩ := hW.2.2 _ _ h2
      cases h4.symm.trans h11
      match d1, h6 with
      | .inl (cA, n9, .inr (.inl g)), h6 =>
        obtain ⟨h7, ⟨t0, h8⟩, h9⟩ := h6
        have h7 : n = n9 := h7
        have h9 : f = g := h9
        subst h7; subst h9
        exact va_lald hx hb hK hP q1 t0 h5 h8 (zin_in hz) hd (k _ sc' rfl hf2)
    · rename_i n f h2
      cases hz : zin j n with
      | false => rw [hz, cond_false] at hp; cases hp
      | true =>
      rw [hz, cond_true] at hp; cases hp
      obtain ⟨a1, d1, h4, h5, h6⟩ := hW.2.2 _ _ h2
      cases h4.symm.trans h11
      match d1, h6 with
      | .inl (cA, n9, .inr (.inr (.inr (.inr g)))), h6 =>
        obtain ⟨h7, ⟨t0, h8⟩, h9⟩ := h6
        have h7 : n = n9 := h7
        have h99 : zR as (f j.toNatClampNeg) (g j.toNatClampNeg) := h9 _
        subst h7
        refine va_aldq hx hb hK hP q1 t0 h5 h8 (zin_in hz) hd (k _ sc' ?_ hf2)
        cases hfj : f j.toNatClampNeg with
        | none => rw [hfj] at h99; rw [show g j.toNatClampNeg = none from h99]; rfl
        | some kk => rw [hfj] at h99; obtain ⟨a3, h13, h14⟩ := h99; rw [h14]; exact ⟨a3, h13, rfl⟩
    · rename_i n f h2
      cases hz : zin j n with
      | false => rw [hz, cond_false] at hp; cases hp
      | true =>
      rw [hz, cond_true] at hp; cases hp
      obtain ⟨a1, d1, h4, h5, h6⟩ := hW.2.2 _ _ h2
      cases h4.symm.trans h11
      match d1, h6 with
      | .inl (cA, n9, .inr (.inr (.inr (.inr g)))), h6 =>
        obtain ⟨h7, ⟨t0, h8⟩, h9⟩ := h6
        have h7 : n = n9 := h7
        have h99 : zR as (f j.toNatClampNeg) (g j.toNatClampNeg) := h9 _
        subst h7
        refine va_aldq hx hb hK hP q1 t0 h5 h8 (zin_in hz) hd (k _ sc' ?_ hf2)
        cases hfj : f j.toNatClampNeg with
        | none => rw [hfj] at h99; rw [show g j.toNatClampNeg = none from h99]; rfl
        | some kk => rw [hfj] at h99; obtain ⟨a3, h13, h14⟩ := h99; rw [h14]; exact ⟨a3, h13, rfl⟩
    · cases hp
  · split at hp
    · rename_i j q1 r1 h1
      have e1 := zix_eq h1
      subst e1
      match sc, hf with
      | w1 :: w2 :: sc', hf =>
      obtain ⟨hw1, ⟨a2, h11, h12⟩, hf2⟩ := hf
      have hw1 : w1 = .int j := hw1
      subst hw1; subst h12
      split at hp
      · cases hz : zin j (X q1).1 with
        | false => rw [hz, cond_false] at hp; cases hp
        | true =>
        rw [hz, cond_true] at hp; cases hp
        exact va_ti hx hb (hXa q1 a2 h11) hS (zin_in hz) rfl hd (k _ sc' rfl hf2)
      · cases hp
    · cases hp
theorem zs_as (hcl2 : ∃ q : vw_C, cl[2]? = some q ∧ q.1 = "NestedPager$Guest") (hcl9 : ∃ q : vw_C, cl[9]? = some q ∧ q.1 = "NestedPager$Vcpu") (C : zCx p s m args meth c Ts X xa sf n0 M) (he : zEok Ts cl sf M en) {r : List Value} {h' : zH} (hp : zas en.2.1 st h = some (r, h')) (I : zI D cl xa n0 s tys as ws h H locs) (hf : zF xa as st sc)
    (k : ∀ (ws' : va_W) (H' : Heap) (locs' : List Loc) (sc' : List Value), zI D cl xa n0 s tys as ws' h' H' locs' → zF xa as r sc' → W p l e R s m args below meth c H' locs' cells slots Q (F0 m (en.1 + 1) ls sc')) : W p l e R s m args below meth c H locs cells slots Q (F0 m en.1 ls sc) := by
  obtain ⟨hx, hb, -, hown, hts, hXa, -⟩ := C
  obtain ⟨hK, hP, hD, hS, hW⟩ := I
  obtain ⟨pc, ins, len, a0, b0, w0⟩ := en
  obtain ⟨⟨hd, hn⟩, he⟩ := he
  dsimp only at hd hn he hp k ⊢
  rw [hn] at hd
  unfold zas at hp
  split at hp
  · cases hp
  rename_i v j q1 r1 h1
  have e1 := zvir_eq h1
  subst e1
  match sc, hf with
  | w0 :: w1 :: w2 :: sc', hf =>
  obtain ⟨hw0, hw1, ⟨a2, h11, h12⟩, hf2⟩ := hf
  have hw1 : w1 = .int j := hw1
  subst hw1; subst h12
  split at hp
  · rename_i x n f h2
    have hw0 : w0 = .int x := hw0
    subst hw0
    cases hz : zin j n with
    | false => rw [hz, cond_false] at hp; cases hp
    | true =>
    rw [hz, cond_true] at hp; cases hp
    obtain ⟨a1, d1, h4, h5, h6⟩ := hW.2.2 _ _ h2
    cases h4.symm.trans h11
    match d1, h6 with
    | .inl (cA, n9, .inl g), h6 =>
      obtain ⟨h7, ⟨t0, h8⟩, h9⟩ := h6
      have h7 : n = n9 := h7
      have h9 : f = g := h9
      subst h7; subst h9
      exact va_iast hx hb hK hP hD hS q1 t0 h5 h8 (zin_in hz) hd (fun H1 locs1 hP1 hD1 hS1 => k _ H1 locs1 sc' ⟨hK, hP1, hD1, hS1, zW_set hW h4 ⟨rfl, ⟨t0, h8⟩, rfl⟩⟩ hf2)
  · rename_i x n f h2
    have hw0 : w0 = .int x := hw0
    subst hw0
    cases hz : zin j n with
    | false => rw [hz, cond_false] at hp; cases hp
    | true =>
    rw [hz, cond_true] at hp; cases hp
    obtain ⟨a1, d1, h4, h5, h6⟩ := hW.2.2 _ _ h2
    cases h4.symm.trans h11
    match d1, h6 with
    | .inl (cA, n9, .inl g), h6 =>
      obtain ⟨h7, ⟨t0, h8⟩, h9⟩ := h6
      have h7 : n = n9 := h7
      have h9 : f = g := h9
      subst h7; subst h9
      exact va_zast hx hb hK hP hD hS q1 t0 h5 h8 (zin_in hz) hd (fun H1 locs1 hP1 hD1 hS1 => k _ H1 locs1 sc' ⟨hK, hP1, hD1, hS1, zW_set hW h4 ⟨rfl, ⟨t0, h8⟩, rfl⟩⟩ hf2)
  · rename_i w n f h2
    split at hp
    · rename_i fs h3
      cases hz : zin j n with
      | false => rw [hz, cond_false] at hp; cases hp
      | true =>
      rw [hz, cond_true] at hp; cases hp
      obtain ⟨a1, d1, h4, h5, h6⟩ := hW.2.2 _ _ h2
      obtain ⟨a9, d9, k4, k5, k6⟩ := hW.2.2 _ _ h3
      obtain ⟨a8, k7, k8⟩ := hw0
      subst k8
      cases k4.symm.trans k7
      cases h4.symm.trans h11
      match d1, h6, d9, k6, k5 with
      | .inl (cA, n9, .inr (.inr (.inr (.inr g)))), h6, .inr (ci9, vs9), k6, k5 =>
        obtain ⟨h7, ⟨t0, h8⟩, h9⟩ := h6
        have h7 : n = n9 := h7
        have k9 : 2 = ci9 := k6.1
        subst h7; subst k9
        obtain ⟨cq, c1, c2⟩ := hcl2
        exact va_astq hx hb hK hP hD hS q1 t0 w 2 h5 (by rw [c2]; exact h8) k5 c1 (zin_in hz) hd (fun H1 locs1 hP1 hD1 hS1 => k _ H1 locs1 sc' ⟨hK, hP1, hD1, hS1, zW_set hW h4 ⟨rfl, ⟨t0, h8⟩, fun jj => by
          unfold va_up
          by_cases ej : jj = j.toNatClampNeg
          · rw [if_pos ej, if_pos ej]; exact ⟨a9, k4, rfl⟩
          · rw [if_neg ej, if_neg ej]; exact h9 jj⟩⟩ hf2)
    · cases hp
  · rename_i w n f h2
    split at hp
    · rename_i fs h3
      cases hz : zin j n with
      | false => rw [hz, cond_false] at hp; cases hp
      | true =>
      rw [hz, cond_true] at hp; cases hp
      obtain ⟨a1, d1, h4, h5, h6⟩ := hW.2.2 _ _ h2
      obtain ⟨a9, d9, k4, k5, k6⟩ := hW.2.2 _ _ h3
      obtain ⟨a8, k7, k8⟩ := hw0
      subst k8
      cases k4.symm.trans k7
      cases h4.symm.trans h11
      match d1, h6, d9, k6, k5 with
      | .inl (cA, n9, .inr (.inr (.inr (.inr g)))), h6, .inr (ci9, vs9), k6, k5 =>
        obtain ⟨h7, ⟨t0, h8⟩, h9⟩ := h6
        have h7 : n = n9 := h7
        have k9 : 9 = ci9 := k6.1
        subst h7; subst k9
        obtain ⟨cq, c1, c2⟩ := hcl9
        exact va_astq hx hb hK hP hD hS q1 t0 w 9 h5 (by rw [c2]; exact h8) k5 c1 (zin_in hz) hd (fun H1 locs1 hP1 hD1 hS1 => k _ H1 locs1 sc' ⟨hK, hP1, hD1, hS1, zW_set hW h4 ⟨rfl, ⟨t0, h8⟩, fun jj => by
          unfold va_up
          by_cases ej : jj = j.toNatClampNeg
          · rw [if_pos ej, if_pos ej]; exact ⟨a9, k4, rfl⟩
          · rw [if_neg ej, if_neg ej]; exact h9 jj⟩⟩ hf2)
    · cases hp
  · rename_i x n f h2
    have hw0 : w0 = .long x := hw0
    subst hw0
    cases hz : zin j n with
    | false => rw [hz, cond_false] at hp; cases hp
    | true =>
    rw [hz, cond_true] at hp; cases hp
    obtain ⟨a1, d1, h4, h5, h6⟩ := hW.2.2 _ _ h2
    cases h4.symm.trans h11
    match d1, h6 with
    | .inl (cA, n9, .inr (.inl g)), h6 =>
      obtain ⟨h7, ⟨t0, h8⟩, h9⟩ := h6
      have h7 : n = n9 := h7
      have h9 : f = g := h9
      subst h7; subst h9
      exact va_last hx hb hK hP hD hS q1 t0 h5 h8 (zin_in hz) hd (fun H1 locs1 hP1 hD1 hS1 => k _ H1 locs1 sc' ⟨hK, hP1, hD1, hS1, zW_set hW h4 ⟨rfl, ⟨t0, h8⟩, rfl⟩⟩ hf2)
  · cases hp
theorem zs_op2 (C : zCx p s m args meth c Ts X xa sf n0 M) (he : zEok Ts cl sf M en) {x y v : Int32} (hp : zop2 en.2.1 x y = some v)
    (k : W p l e R s m args below meth c H locs cells slots Q (F0 m (en.1 + 1) ls (.int v :: sc))) : W p l e R s m args below meth c H locs cells slots Q (F0 m en.1 ls (.int y :: .int x :: sc)) := by
  obtain ⟨hx, hb, -, hown, hts, hXa, -⟩ := C
  obtain ⟨pc, ins, len, a0, b0, w0⟩ := en
  obtain ⟨⟨hd, hn⟩, he⟩ := he
  dsimp only at hd hn he hp k ⊢
  rw [hn] at hd
  unfold zop2 at hp
  split at hp
  · cases hp; exact lv_iadd hx hb hd k
  · cases hp; exact lv_isub hx hb hd k
  · cases hp; exact lv_imul hx hb hd k
  · cases hp; exact lv_iand hx hb hd k
  · cases hp; exact lv_ior hx hb hd k
  · cases hp; exact lv_ishl hx hb hd k
  · cases hp; exact lv_ishr hx hb hd k
  · cases hz : decide (y = 0) with
    | true => rw [hz, cond_true] at hp; cases hp
    | false => rw [hz, cond_false] at hp; cases hp; exact lv_idiv hx hb hd (of_decide_eq_false hz) k
  · cases hz : decide (y = 0) with
    | true => rw [hz, cond_true] at hp; cases hp
    | false => rw [hz, cond_false] at hp; cases hp; exact lv_irem hx hb hd (of_decide_eq_false hz) k
  · cases hp
theorem zV_cat {v w : Value} (hv : zV xa as v w) (hc : v.category = 1) : w.category = 1 := by
  cases v with
  | int x => rw [show w = .int x from hv]; rfl
  | long x => cases hc
  | null => rw [show w = .null from hv]; rfl
  | ref k => obtain ⟨a, -, rfl⟩ := hv; rfl
  | retAddr k => obtain ⟨a, -, rfl⟩ := hv; rfl
  | float b => exact hv.elim
  | double b => exact hv.elim
theorem zs_stk (C : zCx p s m args meth c Ts X xa sf n0 M) (he : zEok Ts cl sf M en) {r : List Value} (hp : zstk en.2.1 X st = some r) (hS : va_S (zA n0) s.heap H locs) (hf : zF xa as st sc)
    (k : ∀ sc' : List Value, zF xa as r sc' → W p l e R s m args below meth c H locs cells slots Q (F0 m (en.1 + 1) ls sc')) : W p l e R s m args below meth c H locs cells slots Q (F0 m en.1 ls sc) := by
  obtain ⟨hx, hb, -, hown, hts, hXa, -⟩ := C
  obtain ⟨pc, ins, len, a0, b0, w0⟩ := en
  obtain ⟨⟨hd, hn⟩, he⟩ := he
  dsimp only at hd hn he hp k ⊢
  rw [hn] at hd
  unfold zstk at hp
  split at hp
  · rename_i v r1
    match sc, hf with
    | w :: sc', hf =>
    cases hz : Nat.beq v.category 1 with
    | false => rw [hz, cond_false] at hp; cases hp
    | true =>
    rw [hz, cond_true] at hp; cases hp
    exact lv_dup hx hb hd (zV_cat hf.1 (Nat.eq_of_beq_eq_true hz)) (k _ ⟨hf.1, hf.1, hf.2⟩)
  · rename_i v v2 r1
    match sc, hf with
    | w :: w2 :: sc', hf =>
    cases hz : Nat.beq v.category 1 && Nat.beq v2.category 1 with
    | false => rw [hz, cond_false] at hp; cases hp
    | true =>
    rw [hz, cond_true] at hp; cases hp
    rw [Bool.and_eq_true] at hz
    exact lv_dup2_11 hx hb hd (zV_cat hf.1 (Nat.eq_of_beq_eq_true hz.1)) (zV_cat hf.2.1 (Nat.eq_of_beq_eq_true hz.2)) (k _ ⟨hf.1, hf.2.1, hf.1, hf.2.1, hf.2.2⟩)
  · rename_i v r1
    match sc, hf with
    | w :: sc', hf =>
    cases hz : Nat.beq v.category 1 with
    | false => rw [hz, cond_false] at hp; cases hp
    | true =>
    rw [hz, cond_true] at hp; cases hp
    exact lv_pop hx hb hd (zV_cat hf.1 (Nat.eq_of_beq_eq_true hz)) (k _ hf.2)
  · rename_i x r1
    match sc, hf with
    | w :: sc', hf =>
    cases hp
    rw [show w = .int x from hf.1]
    exact lv_i2l hx hb hd rfl (k _ ⟨rfl, hf.2⟩)
  · rename_i x r1
    match sc, hf with
    | w :: sc', hf =>
    cases hp
    rw [show w = .int x from hf.1]
    exact lv_ineg hx hb hd (k _ ⟨rfl, hf.2⟩)
  · rename_i y x r1
    match sc, hf with
    | w :: w2 :: sc', hf =>
    cases hp
    rw [show w = .long y from hf.1, show w2 = .long x from hf.2.1]
    exact W.lcmp hx hb hd (k _ ⟨rfl, hf.2.2⟩)
  · rename_i q r1
    match sc, hf with
    | w :: sc', hf =>
    cases hp
    obtain ⟨⟨a2, h11, h12⟩, hf2⟩ := hf
    subst h12
    exact va_tlen hx hb (hXa q a2 h11) hS rfl hd (k _ ⟨rfl, hf2⟩)
  · cases hp
end ZST
end
section
/-! ONE STEP, WHOLE -/
section ZSO
variable {p : Program} {l : Launch} {e : Env} {R : Room} {s : State} {m : MethodId} {args : Array Value} {below : List Frame} {meth : Method} {c : Code} {H : Heap} {locs : List Loc} {cells slots : Nat} {Q : State → Prop}
variable {Ts : List Cond} {cl : List vw_C} {FT : zFT} {X : zX} {xa : List Nat} {sf : Nat → String × String × String} {n0 : Nat} {M : zM} {D : va_G} {tys : List (ClassId × FieldType)} {as : List Nat} {ws : va_W} {h : zH} {ls : Array Slot} {sc : List Value} {lo lv : zL} {st : List Value} {en : zN}
/-- what is known of the system: its classes, its static arrays' names -/
def zSy (Ts : List Cond) (cl : List vw_C) (FT : zFT) (M : zM) : Prop := zCl Ts cl FT ∧ (∃ q : vw_C, cl[2]? = some q ∧ q.1 = "NestedPager$Guest") ∧ (∃ q : vw_C, cl[9]? = some q ∧ q.1 = "NestedPager$Vcpu") ∧ ((zKind M).1 = 2 → ∀ q : vw_C, cl[(zKind M).2.1]? = some q → q.1 = (zName M).cls)
theorem zstep_ok (S : zSy Ts cl FT M) (C : zCx p s m args meth c Ts X xa sf n0 M) (he : zEok Ts cl sf M en) (hsf : ∀ k : Nat, en.2.1 = .getstatic k → (sf en.2.2.2.1).1 ≠ "") {pc' : Nat} {lo' : zL} {st' : List Value} {h' : zH} (hp : zstep M FT X en lo st h = some (pc', lo', st', h'))
    (I : zI D cl xa n0 s tys as ws h H locs) (hf : zF xa as st sc) (hl : lv_has ls (zMaxL M) lv) (hg : zG xa as lo lv)
    (k : ∀ (ws' : va_W) (H' : Heap) (locs' : List Loc) (ls' : Array Slot) (lv' : zL) (sc' : List Value), zI D cl xa n0 s tys as ws' h' H' locs' → zF xa as st' sc' → lv_has ls' (zMaxL M) lv' → zG xa as lo' lv' → W p l e R s m args below meth c H' locs' cells slots Q (F0 m pc' ls' sc')) :
    W p l e R s m args below meth c H locs cells slots Q (F0 m en.1 ls sc) := by
  obtain ⟨hcl, hc2, hc9, hMc⟩ := S
  have hS : va_S (zA n0) s.heap H locs := I.2.2.2.1
  unfold zstep at hp
  split at hp
  · rename_i v n h1
    cases hp
    exact zs_push C he h1 (k ws H locs ls lv _ I ⟨rfl, hf⟩ hl hg)
  split at hp
  · rename_i i n b h1
    split at hp
    · rename_i v h2
      cases hb : (bif b then zisr v else zisi v) with
      | false => rw [hb, cond_false] at hp; cases hp
      | true =>
        rw [hb, cond_true] at hp; cases hp
        exact zs_lod C he h1 h2 hb hl hg (fun w hw => k ws H locs ls lv _ I ⟨hw, hf⟩ hl hg)
    · cases hp
  split at hp
  · rename_i i n b h1
    split at hp
    · rename_i v r
      match sc, hf with
      | w :: sc', hf =>
      cases hb : Nat.blt i (zMaxL M) && (bif b then zisr v else zisi v) with
      | false => rw [hb, cond_false] at hp; cases hp
      | true =>
        rw [hb, cond_true] at hp; cases hp
        rw [Bool.and_eq_true] at hb
        exact zs_sto C he h1 hf.1 (Nat.le_of_ble_eq_true hb.1) hb.2 hl hg (fun ls' lv' hl' hg' => k ws H locs ls' lv' _ I hf.2 hl' hg')
    · cases hp
  split at hp
  · rename_i t r h1
    cases hp
    exact zs_jmp C he h1 hf (fun sc' hf' => k ws H locs ls lv _ I hf' hl hg)
  split at hp
  · rename_i i n h1
    split at hp
    · rename_i x h2
      cases hb : Nat.blt i (zMaxL M) with
      | false => rw [hb, cond_false] at hp; cases hp
      | true =>
        rw [hb, cond_true] at hp; cases hp
        obtain ⟨j, w, g1, g2⟩ := zG_get hg h2
        have g2 : w = .int x := g2
        subst g2
        obtain ⟨hx, hb9, -⟩ := C
        obtain ⟨⟨hd, hn⟩, -⟩ := he
        rw [h1] at hd hn
        rw [hn] at hd
        exact lv_iinc hx hb9 hd hl g1 rfl (Nat.le_of_ble_eq_true hb) rfl (fun ls' hl' => k ws H locs ls' _ _ I hf hl' ⟨⟨rfl, rfl, rfl⟩, zG_filter hg⟩)
    · cases hp
  · rename_i ix h1
    split at hp
    · rename_i v r h2
      cases hp
      exact zs_get hcl C he h1 h2 I hf (fun w sc' hw hf' => k ws H locs ls lv _ I ⟨hw, hf'⟩ hl hg)
    · cases hp
  · rename_i ix h1
    split at hp
    · rename_i r h2 hq
      cases hp
      exact zs_put hcl C hMc he h1 hq I hf (fun ws' H' locs' sc' I' hf' => k ws' H' locs' ls lv _ I' hf' hl hg)
    · cases hp
  · rename_i ix h1
    cases hp
    have hne := hsf ix h1
    obtain ⟨⟨hd, hn⟩, hlk⟩ := he
    rw [h1] at hd hn hlk
    rw [hn] at hd
    obtain ⟨hx, hb9, -, hown, hts, hXa, hst, -⟩ := C
    obtain ⟨t, g1, g2⟩ := hst _ hne
    exact va_gets hx hb9 g2 hS hown (hts _ hlk) (fun _ h9 => h9) hd (k ws H locs ls lv _ I ⟨⟨t, g1, rfl⟩, hf⟩ hl hg)
  · split at hp
    · rename_i v r h2
      cases hp
      exact zs_al C he h2 I hf (fun w sc' hw hf' => k ws H locs ls lv _ I ⟨hw, hf'⟩ hl hg)
    · split at hp
      · rename_i r hh h2
        cases hp
        exact zs_as hc2 hc9 C he h2 I hf (fun ws' H' locs' sc' I' hf' => k ws' H' locs' ls lv _ I' hf' hl hg)
      · split at hp
        · rename_i x y r h2
          split at hp
          · rename_i v h3
            cases hp
            obtain ⟨sc', rfl, hf'⟩ := zF_2 h2 hf
            exact zs_op2 C he h3 (k ws H locs ls lv _ I ⟨rfl, hf'⟩ hl hg)
          · split at hp
            · rename_i st2 h3
              cases hp
              exact zs_stk C he h3 hS hf (fun sc' hf' => k ws H locs ls lv _ I hf' hl hg)
            · cases hp
        · split at hp
          · rename_i st2 h3
            cases hp
            exact zs_stk C he h3 hS hf (fun sc' hf' => k ws H locs ls lv _ I hf' hl hg)
          · cases hp
end ZSO
end
section
/-! BODIES of methods: calls, makings, ends; a call by its depth -/
def zWt (st : List Value) : Nat := (st.map fun v => v.category).sum
def zpk (n : Nat) (st : List Value) : Option (List Value × List Value) := bif Nat.ble n st.length then some ((st.take n).reverse, st.drop n) else none
def zfitr (M M' : zM) (nc ns : Nat) : Bool := Nat.ble ((zRoom M').1 + 1) (zRoom M).1 && (Nat.ble (8 + (zMaxL M' + 11) + (zRoom M').2.1) (zRoom M).2.1 && (Nat.ble (nc + (zRoom M').2.2.1) (zRoom M).2.2.1 && Nat.ble (ns + (zRoom M').2.2.2) (zRoom M).2.2.2))
def zcl : Instr → Option Nat
  | .invokevirtual _ => some 0
  | .invokestatic _ => some 1
  | .invokespecial _ => some 2
  | _ => none
def zrec (kd : Nat) (M' : zM) (a : List Value) (h : zH) : Bool := match a with
  | .ref b :: _ => (match h[b]? with
    | some (.inr (ci, _)) => Nat.beq kd 1 || Nat.beq ci (zKind M').2.1
    | _ => Nat.beq kd 1)
  | _ => Nat.beq kd 1
def zinv (Pg : List zM) (M : zM) (en : zN) (kd : Nat) (st : List Value) (h : zH) (nc ns : Nat) : Option (zM × List Value × List Value) :=
  match Pg[en.2.2.2.1]? with
  | some M' => (match zpk (en.2.2.2.2.2 + (bif Nat.beq kd 1 then 0 else 1)) st with
    | some (a, r) => bif a.all zpl && Nat.ble en.2.2.2.2.1 1 && (Nat.beq (zKind M').1 kd && (Nat.ble (zWt r) 8 && (zfitr M M' nc ns && zrec kd M' a h))) then some (M', a, r) else none
    | none => none)
  | none => none
def zdv : FieldType → Value
  | .int => .int 0
  | .boolean => .int 0
  | _ => .null
def zdef (FT : zFT) (FN : Nat → Nat) (a : Nat) : List Value := (List.range (FN a)).map fun k => zdv (FT a k).1
def zkd : ArrayType → Option Nat
  | .int => some 0
  | .boolean => some 1
  | .long => some 2
  | _ => none
def zini (kd : Nat) : (Nat → Int32) ⊕ (Nat → Int64) ⊕ (Nat → UInt32) ⊕ (Nat → UInt64) ⊕ (Nat → Option Nat) := match kd with
  | 0 => .inl fun _ => 0
  | 1 => .inl fun _ => 0
  | 2 => .inr (.inl fun _ => 0)
  | _ => .inr (.inr (.inr (.inr fun _ => none)))
def zhand (tab : List (Nat × Nat × Nat × Nat)) (pc k : Nat) : Option Nat := match tab with
  | [(a, b, t, _)] => bif Nat.beq k 0 && (Nat.ble a pc && Nat.blt pc b) then some t else none
  | [(a, b, t, _), (a2, b2, t2, _)] => bif Nat.ble a pc && (Nat.blt pc b && (Nat.ble a2 pc && Nat.blt pc b2)) then (bif Nat.beq k 0 then some t else (bif Nat.beq k 1 then some t2 else none)) else none
  | _ => none
/-- an answer: by the type of the method -/
def zend (i : Instr) (ret : Option FieldType) (st : List Value) : Option (Option Value) := match i, ret, st with
  | .ireturn, some .int, [.int x] => some (some (.int x))
  | .ireturn, some .boolean, [.int x] => bif decide (x = 0) || decide (x = 1) then some (some (.int x)) else none
  | .areturn, some (.object _), [.ref k] => some (some (.ref k))
  | .return_, none, [] => some none
  | _, _, _ => none
/-- a making: its length, the stack behind it, the new cell, its slots -/
def zmak (FT : zFT) (FN : Nat → Nat) (en : zN) (st : List Value) : Option (Nat × List Value × zE × Nat) := match en.2.1 with
  | .new _ => bif Nat.beq en.2.2.2.2.1 1 then none else some (3, st, .inr (en.2.2.2.1, zdef FT FN en.2.2.2.1), FN en.2.2.2.1)
  | .newarray t => (match z1 st, zkd t with
    | some (n, r), some kd => bif decide (¬ n < 0) && Nat.ble n.toNatClampNeg 65536 then some (2, r, .inl (kd, n.toNatClampNeg, zini kd), n.toNatClampNeg) else none
    | _, _ => none)
  | .anewarray _ => (match z1 st with
    | some (n, r) => bif decide (¬ n < 0) && (Nat.ble n.toNatClampNeg 65536 && (Nat.beq en.2.2.2.1 3 || Nat.beq en.2.2.2.1 4)) then some (3, r, .inl (en.2.2.2.1, n.toNatClampNeg, .inr (.inr (.inr (.inr fun _ => none)))), n.toNatClampNeg) else none
    | none => none)
  | _ => none
/-- Object's constructor, Math.min: the stack behind it -/
def zown (M : zM) (en : zN) (st : List Value) : Option (List Value) := match en.2.1, en.2.2.2.2.1 with
  | .invokespecial _, 2 => (match zr1 st with
    | some (_, r) => bif Nat.ble 1 (zRoom M).1 && Nat.ble (zWt r + 12) (zRoom M).2.1 then some r else none
    | none => none)
  | .invokestatic _, 3 => (match z2 st with
    | some (x, y, r) => bif Nat.ble 1 (zRoom M).1 && Nat.ble (zWt r + 13) (zRoom M).2.1 then some (.int (if y < x then y else x) :: r) else none
    | none => none)
  | _, _ => none
def zbody (Pg : List zM) (FT : zFT) (FN : Nat → Nat) (X : zX) (call : Nat → List Value → zH → Option (zO × zH)) (M : zM) : Nat → Nat → zL → List Value → zH → Nat → Nat → Option (zO × zH)
  | 0, _, _, _, _, _, _ => none
  | f + 1, pc, lo, st, h, nc, ns => match zfind (zIns M) pc with
    | none => none
    | some en => match zend en.2.1 (zRet M) st with
      | some r => some (.inl r, h)
      | none => match zmak FT FN en st with
        | some (n, r, c, k) => bif Nat.blt nc (zRoom M).2.2.1 && Nat.ble (ns + k) (zRoom M).2.2.2 then zbody Pg FT FN X call M f (pc + n) lo (.ref h.length :: r) (h ++ [c]) (nc + 1) (ns + k) else none
        | none => match zown M en st with
          | some st' => zbody Pg FT FN X call M f (pc + 3) lo st' h nc ns
          | none => match zcl en.2.1 with
            | some kd => (match zinv Pg M en kd st h nc ns with
              | some (M', a, r) => (match call en.2.2.2.1 a h with
                | some (.inl v, h') => zbody Pg FT FN X call M f (pc + 3) lo (v.toList ++ r) h' (nc + (zRoom M').2.2.1) (ns + (zRoom M').2.2.2)
                | some (.inr k, h') => bif Nat.beq kd 2 || (Nat.beq en.2.2.2.2.1 1 || !(zTab M').isEmpty) then none else (match zTab M with
                  | [] => some (.inr k, h')
                  | _ => (match zhand (zTab M) pc k with
                    | some t => (match zfind (zIns M) t with
                      | some en2 => (match zsto en2.2.1 with
                        | some (j, n, true) => bif Nat.blt j (zMaxL M) then zbody Pg FT FN X call M f (t + n) (lo.filter (fun q => !(Nat.beq q.1 j))) [] h' (nc + (zRoom M').2.2.1) (ns + (zRoom M').2.2.2) else none
                        | _ => none)
                      | none => none)
                    | none => none))
                | none => none)
              | none => none)
            | none => (match en.2.1 with
              | .new _ => bif Nat.ble (nc + 1) (zRoom M).2.2.1 && (Nat.ble (ns + 6) (zRoom M).2.2.2 && Nat.ble (zWt st) 8) then some (.inr en.2.2.2.1, h) else none
              | _ => (match zstep M FT X en lo st h with
                | some (pc', lo', st', h') => zbody Pg FT FN X call M f pc' lo' st' h' nc ns
                | none => none))
def zargs : Nat → List Value → zL
  | _, [] => []
  | i, v :: vs => (i, v) :: zargs (i + 1) vs
def zfuel : Nat := 1000000
def zcall (Pg : List zM) (FT : zFT) (FN : Nat → Nat) (X : zX) : Nat → Nat → List Value → zH → Option (zO × zH)
  | 0, _, _, _ => none
  | d + 1, z, a, h => match Pg[z]? with
    | some M => bif Nat.ble a.length (zMaxL M) && a.all (fun v => Nat.beq v.category 1) then zbody Pg FT FN X (zcall Pg FT FN X d) M zfuel 0 (zargs 0 a) [] h 0 0 else none
    | none => none
end
section
/-! CONTRACTS out of the abstract machine's answers -/
def zEn : Nat → String
  | 0 => "java/lang/IllegalArgumentException"
  | _ => "java/lang/IllegalStateException"
def zAn (kd : Nat) : String := if kd = 3 then "NestedPager$Guest" else "NestedPager$Vcpu"
/-- what holds all the time of what lies outside the world -/
def zEnv (X : zX) (xa : List Nat) (sf : Nat → String × String × String) (n0 : Nat) (Nw : List Cond) (Nc : List (String × String)) (U : State) : Prop :=
  n0 ≤ U.heap.size ∧ (∀ (k a : Nat), xa[k]? = some a → va_T .int a (X k).1 (fun j => .int ((X k).2 j)) (zA n0) U U.heap) ∧
  (∀ k : Nat, (sf k).1 ≠ "" → ∃ t : Nat, xa[k]? = some t ∧ va_Z (sf k).1 (sf k).2.1 (sf k).2.2 (.ref t) (zA n0) U U.heap) ∧
  vx_Zq Bundle.tN "UNASSIGNED_STACK" Bundle.steD (zA n0) U U.heap ∧ vx_Zq Bundle.tN "SUPPRESSED_SENTINEL" Bundle.listD (zA n0) U U.heap ∧
  (∀ w ∈ Nw, va_Nw w U) ∧ (∀ q ∈ Nc, va_Nc q.1 q.2 U) ∧ va_AO "NestedPager$Guest" U ∧ va_AO "NestedPager$Vcpu" U
/-- the words that move only by laws of their own -/
def zNwOk (Nw : List Cond) : Prop := ∀ w ∈ Nw, (∃ a i x h, w = .methodLinkNest a i x h) ∨ (∃ C T, w = .castable C T) ∨ ∃ x, w = .declares x
theorem zNc_moved {C T : String} {u U : State} (hvm : u.vm.Alike U.vm) (h : va_Nc C T u) : va_Nc C T U := by
  obtain ⟨c, t, h1, h2, h3⟩ := h
  exact ⟨c, t, by rw [hvm.findClass]; exact h1, by rw [hvm.findClass]; exact h2, by rw [hvm.assignable]; exact h3⟩
theorem zEnv_to {X : zX} {xa : List Nat} {sf : Nat → String × String × String} {n0 : Nat} {Nw : List Cond} {Nc : List (String × String)} (hN : zNwOk Nw) {s U : State} {H : Heap} {locs : List Loc} (hE : zEnv X xa sf n0 Nw Nc s) (hS : va_S (zA n0) s.heap H locs) (hU : U.heap = H) (hW : s.WarmedH U.vm) : zEnv X xa sf n0 Nw Nc U := by
  obtain ⟨h1, h2, h3, h4, h5, h6, h7, h8, h9⟩ := hE
  subst hU
  have ha := hW.alike
  refine ⟨Nat.le_trans h1 hS.1, fun k a hk => (va_T.moved ha (h2 k a hk)).kept hS.2.1, fun k hk => ?_, (vx_Zq.moved ha h4).kept hS.2.1, (vx_Zq.moved ha h5).kept hS.2.1, fun w hw => ?_, fun q hq => zNc_moved ha (h7 q hq), va_AO.moved ha h8, va_AO.moved ha h9⟩
  · obtain ⟨t, g1, g2⟩ := h3 k hk
    exact ⟨t, g1, (va_Z.moved ha g2).kept hS.2.1⟩
  · rcases hN w hw with ⟨a, i, x, h, rfl⟩ | ⟨C, T, rfl⟩ | ⟨x, rfl⟩
    · exact va_Nw.warmM hW (h6 _ hw)
    · exact va_Nw.warmC hW (h6 _ hw)
    · exact va_Nw.warmD hW (h6 _ hw)
theorem zEnv_calling {X : zX} {xa : List Nat} {sf : Nat → String × String × String} {n0 : Nat} {Nw : List Cond} {Nc : List (String × String)} {U : State} (hN : zNwOk Nw) (hE : zEnv X xa sf n0 Nw Nc U) (g : JFrame) (mk : MethodId) (a : Array Value) : zEnv X xa sf n0 Nw Nc (U.calling g mk a) := by
  obtain ⟨h1, h2, h3, h4, h5, h6, h7, h8, h9⟩ := hE
  have ha : U.vm.Alike (U.calling g mk a).vm := Vm.Alike.refl U.vm
  refine ⟨h1, fun k a hk => va_T.moved ha (h2 k a hk), fun k hk => ?_, vx_Zq.moved ha h4, vx_Zq.moved ha h5, fun w hw => va_Nw.same (u := U) (by rcases hN w hw with ⟨a, i, x, h, rfl⟩ | ⟨C, T, rfl⟩ | ⟨x, rfl⟩ <;> rfl) rfl (h6 w hw), fun q hq => zNc_moved ha (h7 q hq), va_AO.moved ha h8, va_AO.moved ha h9⟩
  obtain ⟨t, g1, g2⟩ := h3 k hk
  exact ⟨t, g1, va_Z.moved ha g2⟩
def zRm (M : zM) : Room := { frames := (zRoom M).1, cells := (zRoom M).2.2.1, slots := (zRoom M).2.2.2, locals := (zRoom M).2.1 }
def zHd (M : zM) : Cond := match zTab M with
  | [] => .code (zName M) (zCode M) (zMaxL M) (zRet M)
  | t => .codeWith (zName M) (zCode M) (zMaxL M) (zRet M) t
section ZCT
variable (X : zX) (xa : List Nat) (sf : Nat → String × String × String) (n0 : Nat) (Nw : List Cond) (Nc : List (String × String)) (D : va_G) (cl : List vw_C) (tys : List (ClassId × FieldType)) (as : List Nat) (ws : va_W) (a' : List Value) (o : zO) (h' : zH)
def zPc : Array Value → State → Prop := va_Pc a' (fun U => zEnv X xa sf n0 Nw Nc U ∧ va_P D cl ws U.heap ∧ va_K D cl tys U ∧ va_D (zA n0) ws)
/-- the world behind a method -/
def zBe (st t : State) (tys' : List (ClassId × FieldType)) (as' : List Nat) (ws' : va_W) : Prop := as <+: as' ∧ tys <+: tys' ∧ zW xa tys' as' h' ws' ∧ va_P D cl ws' t.heap ∧ va_K D cl tys' t ∧ va_D (zA n0) ws' ∧ va_F (zA n0) st t
def zQc : Array Value → State → Outcome → State → Prop := fun _ st oc t => ∃ (r v : Option Value) (tys' : List (ClassId × FieldType)) (as' : List Nat) (ws' : va_W), o = .inl r ∧ oc = .returned v ∧ zF [] as' r.toList v.toList ∧ zBe xa n0 D cl tys as h' st t tys' as' ws'
def zXC : String → State → State → Prop := fun E st t => ∃ (k : Nat) (tys' : List (ClassId × FieldType)) (as' : List Nat) (ws' : va_W), o = .inr k ∧ E = zEn k ∧ zBe xa n0 D cl tys as h' st t tys' as' ws'
end ZCT
/-- the contract of a method at these arguments in this world -/
def zMt (l : Launch) (Ts : List Cond) (X : zX) (xa : List Nat) (sf : Nat → String × String × String) (n0 : Nat) (Nw : List Cond) (Nc : List (String × String)) (D : va_G) (cl : List vw_C) (M : zM) (tys : List (ClassId × FieldType)) (as : List Nat) (ws : va_W) (a' : List Value) (o : zO) (h' : zH) : Prop :=
  vx_Met l (zName M) (zHd M :: Ts) (zRm M) (zPc X xa sf n0 Nw Nc D cl tys ws a') (zQc xa n0 D cl tys as o h') (zXC xa n0 D cl tys as o h') (zRoom M).2.2.1 (zRoom M).2.2.2 (zA n0)
theorem zMet_of {l : Launch} {y : MethodName} {ws : List Cond} {rm : Room} {Pc : Array Value → State → Prop} {Qc : Array Value → State → Outcome → State → Prop} {XC : String → State → State → Prop} {mc ms : Nat} {free : Addr → Prop} (hM : vx_Met l y ws rm Pc Qc XC mc ms free) (hX : ∀ E st t, ¬ XC E st t) : Met l y ws rm Pc Qc mc ms free := by
  intro p e h1 h2 h3 s m args below h4 h5 h6 h7
  obtain ⟨n, o, g1, g2, g3, g4⟩ := hM p e h1 h2 h3 s m args below h4 h5 h6 h7
  refine ⟨n, o, g1, g2, g3, ?_⟩
  rcases g4 with g4 | ⟨q, -, E, ce, L, g5, -⟩
  · exact g4
  · exact absurd g5 (hX _ _ _)
theorem zPc_blind {X : zX} {xa : List Nat} {sf : Nat → String × String × String} {n0 : Nat} {Nw : List Cond} {Nc : List (String × String)} {D : va_G} {cl : List vw_C} {tys : List (ClassId × FieldType)} {ws : va_W} {a' : List Value} (hN : zNwOk Nw) : FrameBlind (zPc X xa sf n0 Nw Nc D cl tys ws a') := by
  intro a U g mk q
  obtain ⟨q0, q1, qP, qK, qD⟩ := q
  exact ⟨q0, zEnv_calling hN q1 g mk a, qP, va_K.moved (u := U) (U := U.calling g mk a) (Vm.Alike.refl U.vm) qK, qD⟩
section ZCR
variable {p : Program} {l : Launch} {e : Env} {R : Room} {s : State} {m : MethodId} {args : Array Value} {below : List Frame} {meth : Method} {c : Code} {H : Heap} {locs : List Loc} {cells slots : Nat} {Q : State → Prop}
variable {X : zX} {xa xac : List Nat} {sf : Nat → String × String × String} {n0 : Nat} {Nw : List Cond} {Nc : List (String × String)} {D : va_G} {cl : List vw_C} {tys : List (ClassId × FieldType)} {as : List Nat} {ws : va_W} {a' : Array Value} {h' : zH} {mc ms pc : Nat} {ls : Array Slot} {st0 rest : List Value}
/-- behind a call that returns -/
theorem z_callR {r : Option Value} (hr : va_Run p l e R s m args below meth c H locs cells slots mc ms (F0 m pc ls st0) rest (zQc xac n0 D cl tys as (.inl r) h' a') (zA n0)) (hS : va_S (zA n0) s.heap H locs)
    (kk : ∀ (v : Option Value) (tys' : List (ClassId × FieldType)) (as' : List Nat) (ws' : va_W) (H1 : Heap) (locs1 : List Loc), zF [] as' r.toList v.toList → as <+: as' → tys <+: tys' → zI D cl xa n0 s tys' as' ws' h' H1 locs1 → W p l e R s m args below meth c H1 locs1 (cells + mc) (slots + ms) Q (F0 m (pc + 3) ls (v.toList ++ rest))) : W p l e R s m args below meth c H locs cells slots Q (F0 m pc ls st0) := by
  intro T hT X9
  obtain ⟨v, st₀, t, T', L, h0, X', hL, e1, e2, ⟨r', v', tys', as', ws', hr1, hv, hF, g1, g2, g3, g4, g5, g6, g7⟩, st⟩ := hr T hT X9
  cases hr1
  cases hv
  obtain ⟨k1, k2, k3⟩ := vx_keep h0 e1 hS (fun _ _ h => h) (fun _ h => h) hL g7
  have hal : s.vm.Alike t.vm := by rw [← e2]; exact X'.warmed.alike
  obtain ⟨t2, a1, b1⟩ := kk v tys' as' ws' T'.heap (locs ++ L) hF g1 g2 ⟨va_K.moved hal.symm g5, by rw [e1]; exact g4, g6, k3, g3⟩ T' rfl X'
  exact ⟨t2, st t2 a1, b1⟩
/-- behind a call that throws -/
theorem z_callX {k : Nat} (hr : vx_Run p l e R s m args below meth c H locs cells slots mc ms (F0 m pc ls st0) rest (zQc xac n0 D cl tys as (.inr k) h' a') (zXC xac n0 D cl tys as (.inr k) h') (zA n0)) (hS : va_S (zA n0) s.heap H locs)
    (kx : ∀ (ce : Cell) (q9 : Addr) (tys' : List (ClassId × FieldType)) (as' : List Nat) (ws' : va_W) (H1 : Heap) (locs1 : List Loc), as <+: as' → tys <+: tys' → zI D cl xa n0 s tys' as' ws' h' H1 locs1 → H1[q9]? = some ce → ce.vm = .none → s.vm.findClass (zEn k) = some ce.cls → vx_W p l e R s m args below meth c H1 locs1 (cells + mc) (slots + ms) Q (F0 m pc ls rest) q9) : W p l e R s m args below meth c H locs cells slots Q (F0 m pc ls st0) := by
  intro T hT X9
  rcases hr T hT X9 with ⟨v, st₀, t, T', L, h0, X', hL, e1, e2, ⟨r', v', tys', as', ws', hr1, -⟩, st⟩ | ⟨q, st₀, t, T', L, E, ce, h0, X', hL, e1, e2, ⟨k', tys', as', ws', hk1, hE, g1, g2, g3, g4, g5, g6, g7⟩, hce, hcv, hcl, st⟩
  · cases hr1
  · cases hk1
    subst hE
    obtain ⟨k1, k2, k3⟩ := vx_keep h0 e1 hS (fun _ _ h => h) (fun _ h => h) hL g7
    have hal : s.vm.Alike t.vm := by rw [← e2]; exact X'.warmed.alike
    obtain ⟨t2, a1, b1⟩ := kx ce q tys' as' ws' T'.heap (locs ++ L) g1 g2 ⟨va_K.moved hal.symm g5, by rw [e1]; exact g4, g6, k3, g3⟩ (by rw [e1]; exact hce) hcv hcl T' rfl X'
    exact ⟨t2, st.trans a1, b1⟩
end ZCR
end
section
/-! A BODY IS TRUE OF THE MACHINE, if its calls are -/
def zIx : Instr → Nat
  | .invokevirtual k => k
  | .invokestatic k => k
  | .invokespecial k => k
  | _ => 0
def zIok (Ts Nw : List Cond) (Pg : List zM) (M : zM) (en : zN) : Prop := ∀ kd : Nat, zcl en.2.1 = some kd → match en.2.2.2.2.1 with
  | 2 => Cond.methodLink (zName M).cls (zIx en.2.1) Lib.objectInit ∈ Ts ∧ Cond.instanceMethod Lib.objectInit ∈ Ts ∧ Cond.code Lib.objectInit ⟨#[0xb1]⟩ 1 none ∈ Ts
  | 3 => Cond.methodLink (zName M).cls (zIx en.2.1) Lib.Math.min.name ∈ Ts ∧ Cond.static Lib.Math.min.name ∈ Ts ∧ Cond.initialized "java/lang/Math" ∈ Ts ∧ Cond.code Lib.Math.min.name Lib.Math.min.code 2 (some .int) ∈ Ts
  | b => ∀ M' : zM, Pg[en.2.2.2.1]? = some M' → ((kd ≠ 0 ∧ b = 1 ∧ zTab M' = [] ∧ ∃ host : String, Cond.methodLinkNest (zName M).cls (zIx en.2.1) (zName M') host ∈ Nw) ∨ Cond.methodLink (zName M).cls (zIx en.2.1) (zName M') ∈ Ts) ∧ (parseMethodDescriptor (zName M').desc).map (fun d => d.parameters.length) = some en.2.2.2.2.2
def zMok (Ts : List Cond) (cl : List vw_C) (M : zM) : Prop := zHd M ∈ Ts ∧ Cond.initialized (zName M).cls ∈ Ts ∧ ((zName M).cls ≠ "java/lang/invoke/MethodHandle" ∧ (zName M).cls ≠ "java/lang/invoke/VarHandle") ∧ plainName (zName M).cls = true ∧
  ((zKind M).1 = 0 → Cond.instanceMethod (zName M) ∈ Ts ∧ Cond.selects (zName M).cls (zName M) (zName M) ∈ Ts ∧ (∃ q : vw_C, cl[(zKind M).2.1]? = some q ∧ q.1 = (zName M).cls) ∧ zTab M = []) ∧ ((zKind M).1 = 1 → Cond.static (zName M) ∈ Ts) ∧
  ((zKind M).1 = 2 → Cond.instanceMethod (zName M) ∈ Ts ∧ (zName M).name = "<init>" ∧ zRet M = none ∧ zTab M = [])
def zKok (Ts : List Cond) (cl : List vw_C) (FT : zFT) (FN : Nat → Nat) (M : zM) (en : zN) : Prop := match en.2.1 with
  | .new ix => en.2.2.2.2.1 ≠ 1 → ∃ q : vw_C, cl[en.2.2.2.1]? = some q ∧ q.2.2 = FN en.2.2.2.1 ∧ Cond.classLink (zName M).cls ix q.1 ∈ Ts ∧ Cond.instantiable q.1 (FN en.2.2.2.1) ∈ Ts ∧ Cond.initialized q.1 ∈ Ts ∧ ∀ j, j < FN en.2.2.2.1 → defaultValue (FT en.2.2.2.1 j).1 = zdv (FT en.2.2.2.1 j).1
  | .newarray t => Cond.arrayClass (newarray.typeOf t) ∈ Ts
  | .anewarray ix => Cond.classLink (zName M).cls ix (zAn en.2.2.2.1) ∈ Ts
  | _ => True
theorem zdv_V {xa as : List Nat} (ty : FieldType) : zV xa as (zdv ty) (zdv ty) := by
  cases ty <;> exact rfl
theorem zdv_F {xa as : List Nat} (g : Nat → FieldType) : ∀ l : List Nat, zF xa as (l.map fun k => zdv (g k)) (l.map fun k => zdv (g k))
  | [] => trivial
  | k :: l => by
    exact ⟨zdv_V (g k), zdv_F g l⟩
theorem zdef_V {FT : zFT} {FN : Nat → Nat} {a j : Nat} (hj : j < FN a) : vp_V (zdef FT FN a) j = zdv (FT a j).1 := by
  unfold vp_V zdef
  simp [List.getD, hj]
theorem zF_app {xa as : List Nat} : ∀ {x y sc : List Value}, zF xa as (x ++ y) sc → ∃ x' y', sc = x' ++ y' ∧ zF xa as x x' ∧ zF xa as y y'
  | [], y, sc, h => ⟨[], sc, rfl, trivial, h⟩
  | v :: x, y, [], h => h.elim
  | v :: x, y, w :: sc, h => by
    obtain ⟨x', y', rfl, h1, h2⟩ := zF_app h.2
    exact ⟨w :: x', y', rfl, ⟨h.1, h1⟩, h2⟩
theorem zF_join {xa as : List Nat} : ∀ {x y x' y' : List Value}, zF xa as x x' → zF xa as y y' → zF xa as (x ++ y) (x' ++ y')
  | [], _, [], _, _, h => h
  | [], _, _ :: _, _, h, _ => h.elim
  | _ :: _, _, [], _, h, _ => h.elim
  | _ :: _, _, _ :: _, _, h, h2 => ⟨h.1, zF_join h.2 h2⟩
theorem zF_rev {xa as : List Nat} : ∀ {x x' : List Value}, zF xa as x x' → zF xa as x.reverse x'.reverse
  | [], [], _ => trivial
  | [], _ :: _, h => h.elim
  | _ :: _, [], h => h.elim
  | v :: x, w :: x', h => by
    rw [List.reverse_cons, List.reverse_cons]
    exact zF_join (zF_rev h.2) ⟨h.1, trivial⟩
theorem zV_catEq {xa as : List Nat} {v w : Value} (hv : zV xa as v w) : w.category = v.category := by
  cases v with
  | int x => rw [show w = .int x from hv]
  | long x => rw [show w = .long x from hv]
  | null => rw [show w = .null from hv]
  | ref k => obtain ⟨a, -, rfl⟩ := hv; rfl
  | retAddr k => obtain ⟨a, -, rfl⟩ := hv; rfl
  | float b => exact hv.elim
  | double b => exact hv.elim
theorem zF_wt {xa as : List Nat} : ∀ {x x' : List Value}, zF xa as x x' → (x'.map fun v => v.category).sum = zWt x
  | [], [], _ => rfl
  | [], _ :: _, h => h.elim
  | _ :: _, [], h => h.elim
  | v :: x, w :: x', h => by
    unfold zWt
    rw [List.map_cons, List.map_cons, List.sum_cons, List.sum_cons, zV_catEq h.1, zF_wt h.2]
    rfl
theorem zpk_eq {n : Nat} {st a r : List Value} (h : zpk n st = some (a, r)) : st = a.reverse ++ r ∧ a.length = n := by
  unfold zpk at h
  cases hb : Nat.ble n st.length with
  | false => rw [hb, cond_false] at h; cases h
  | true =>
    rw [hb, cond_true] at h
    cases h
    have hl := Nat.le_of_ble_eq_true hb
    exact ⟨by rw [List.reverse_reverse, List.take_append_drop], by rw [List.length_reverse, List.length_take]; omega⟩
section ZBO
variable {p : Program} {l : Launch} {e : Env} {R : Room} {s : State} {m : MethodId} {args : Array Value} {below : List Frame} {meth : Method} {c : Code} {H : Heap} {locs : List Loc} {cells slots : Nat} {Q : State → Prop}
variable {Ts Nw : List Cond} {Nc : List (String × String)} {Pg : List zM} {cl : List vw_C} {FT : zFT} {FN : Nat → Nat} {X Xc : zX} {xa xac : List Nat} {sf : Nat → String × String × String} {n0 : Nat} {M : zM} {D : va_G} {tys : List (ClassId × FieldType)} {as : List Nat} {ws : va_W} {h : zH} {ls : Array Slot} {sc : List Value} {lo lv : zL} {st : List Value} {en : zN}
/-- a making -/
theorem zs_mak (hcl : zCl Ts cl FT) (C : zCx p s m args meth c Ts X xa sf n0 M) (hE : zEnv Xc xac sf n0 Nw Nc s) (he : zEok Ts cl sf M en) (hk : zKok Ts cl FT FN M en) {n : Nat} {r : List Value} {cc : zE} {k : Nat} (hp : zmak FT FN en st = some (n, r, cc, k)) (I : zI D cl xa n0 s tys as ws h H locs) (hf : zF xa as st sc) (hc : cells + 1 ≤ R.cells) (hs : slots + k ≤ R.slots)
    (kk : ∀ (tys' : List (ClassId × FieldType)) (as' : List Nat) (ws' : va_W) (H' : Heap) (sc' : List Value), as <+: as' → tys <+: tys' → zI D cl xa n0 s tys' as' ws' (h ++ [cc]) H' locs → zF xa as' (.ref h.length :: r) sc' → W p l e R s m args below meth c H' locs (cells + 1) (slots + k) Q (F0 m (en.1 + n) ls sc')) : W p l e R s m args below meth c H locs cells slots Q (F0 m en.1 ls sc) := by
  obtain ⟨hx, hb, -, hown, hts, -, -, -, hn0⟩ := C
  obtain ⟨hK, hP, hD, hS, hW⟩ := I
  obtain ⟨pc, ins, len, a0, b0, w0⟩ := en
  obtain ⟨⟨hd, hn⟩, he⟩ := he
  dsimp only at hd hn he hp kk ⊢
  rw [hn] at hd
  have hA : ∀ q, s.heap.size ≤ q → zA n0 q := fun q hq => Nat.le_trans hn0 hq
  have hlen : as.length = h.length := hW.1
  unfold zmak at hp
  dsimp only at hp
  split at hp
  · rename_i ix
    cases hbb : Nat.beq b0 1 with
    | true => rw [hbb, cond_true] at hp; cases hp
    | false =>
    rw [hbb, cond_false] at hp
    cases hp
    obtain ⟨q, h1, h2, h3, h4, h5, h6⟩ := hk (Nat.ne_of_beq_eq_false hbb)
    dsimp only at h1 h2 h3 h4 h5 h6
    obtain ⟨g1, g2, g3, g4⟩ := hcl a0 q h1
    refine va_new (C := q.1) (T := q.2.1) (N := q.2.2) hx hb hts g1 (fun j => (FT a0 j).1) g2 hown (hts _ h3) (by rw [h2]; exact hts _ h4) (hts _ h5) hK hP hD hS hA h1 (fs := zdef FT FN a0) (fun j hj => by rw [h2] at hj; rw [zdef_V hj]; exact h6 j hj) hc (by rw [h2]; exact hs) hd (fun q0 H1 hP1 hD1 hS1 => ?_)
    rw [h2]
    have hp1 : as <+: as ++ [q0] := ⟨[q0], rfl⟩
    exact kk tys (as ++ [q0]) _ H1 (.ref q0 :: sc) hp1 (List.prefix_refl tys) ⟨hK, hP1, hD1, hS1, zW_push hW (List.prefix_refl tys) ⟨rfl, zdv_F _ _⟩⟩ ⟨⟨q0, by rw [← hlen]; simp, rfl⟩, zF_mono hp1 hf⟩
  · rename_i t
    split at hp
    · rename_i n9 r9 kd h1 h2
      cases hbb : decide (¬ n9 < 0) && Nat.ble n9.toNatClampNeg 65536 with
      | false => rw [hbb, cond_false] at hp; cases hp
      | true =>
      rw [hbb, cond_true] at hp
      cases hp
      rw [Bool.and_eq_true, decide_eq_true_eq] at hbb
      have hle := Nat.le_of_ble_eq_true hbb.2
      obtain ⟨sc', rfl, hf'⟩ := zF_1 h1 hf
      have hk : Cond.arrayClass (newarray.typeOf t) ∈ Ts := hk
      cases t <;> cases h2
      · refine va_newa (atype := .boolean) (ty := .boolean) (a0 := (n9.toNatClampNeg, zini 1)) hx hb (hts _ hk) rfl hK hP hD hS hA (fun cA => rfl) hbb.1 rfl (by show _ * 1 ≤ _; omega) hc hs hd (fun q0 cA H1 hK1 hP1 hD1 hS1 => ?_)
        have hp1 : as <+: as ++ [q0] := ⟨[q0], rfl⟩
        have ht1 : tys <+: tys ++ [(cA, .boolean)] := ⟨_, rfl⟩
        exact kk _ (as ++ [q0]) _ H1 (.ref q0 :: sc') hp1 ht1 ⟨hK1, hP1, hD1, hS1, zW_push hW ht1 ⟨rfl, ⟨tys.length, by simp; rfl⟩, rfl⟩⟩ ⟨⟨q0, by rw [← hlen]; simp, rfl⟩, zF_mono hp1 hf'⟩
      · refine va_newa (atype := .int) (ty := .int) (a0 := (n9.toNatClampNeg, zini 0)) hx hb (hts _ hk) rfl hK hP hD hS hA (fun cA => rfl) hbb.1 rfl (by show _ * 4 ≤ _; omega) hc hs hd (fun q0 cA H1 hK1 hP1 hD1 hS1 => ?_)
        have hp1 : as <+: as ++ [q0] := ⟨[q0], rfl⟩
        have ht1 : tys <+: tys ++ [(cA, .int)] := ⟨_, rfl⟩
        exact kk _ (as ++ [q0]) _ H1 (.ref q0 :: sc') hp1 ht1 ⟨hK1, hP1, hD1, hS1, zW_push hW ht1 ⟨rfl, ⟨tys.length, by simp; rfl⟩, rfl⟩⟩ ⟨⟨q0, by rw [← hlen]; simp, rfl⟩, zF_mono hp1 hf'⟩
      · refine va_newa (atype := .long) (ty := .long) (a0 := (n9.toNatClampNeg, zini 2)) hx hb (hts _ hk) rfl hK hP hD hS hA (fun cA => rfl) hbb.1 rfl (by show _ * 8 ≤ _; omega) hc hs hd (fun q0 cA H1 hK1 hP1 hD1 hS1 => ?_)
        have hp1 : as <+: as ++ [q0] := ⟨[q0], rfl⟩
        have ht1 : tys <+: tys ++ [(cA, .long)] := ⟨_, rfl⟩
        exact kk _ (as ++ [q0]) _ H1 (.ref q0 :: sc') hp1 ht1 ⟨hK1, hP1, hD1, hS1, zW_push hW ht1 ⟨rfl, ⟨tys.length, by simp; rfl⟩, rfl⟩⟩ ⟨⟨q0, by rw [← hlen]; simp, rfl⟩, zF_mono hp1 hf'⟩
    · cases hp
  · rename_i ix
    split at hp
    · rename_i n9 r9 h1
      cases hbb : decide (¬ n9 < 0) && (Nat.ble n9.toNatClampNeg 65536 && (Nat.beq a0 3 || Nat.beq a0 4)) with
      | false => rw [hbb, cond_false] at hp; cases hp
      | true =>
      rw [hbb, cond_true] at hp
      cases hp
      rw [Bool.and_eq_true, Bool.and_eq_true, decide_eq_true_eq, Bool.or_eq_true] at hbb
      obtain ⟨b1, b2, b3⟩ := hbb
      have hle := Nat.le_of_ble_eq_true b2
      obtain ⟨sc', rfl, hf'⟩ := zF_1 h1 hf
      have hk : Cond.classLink (zName M).cls ix (zAn a0) ∈ Ts := hk
      have hao : va_AO (zAn a0) s ∧ zty a0 = .object (zAn a0) := by
        rcases b3 with b3 | b3 <;> (rw [Nat.eq_of_beq_eq_true b3])
        · exact ⟨hE.2.2.2.2.2.2.2.1, rfl⟩
        · exact ⟨hE.2.2.2.2.2.2.2.2, rfl⟩
      refine va_newq hx hb hown (hts _ hk) hao.1 hK hP hD hS hA b1 rfl (by omega) hc hs hd (fun q0 cA H1 hK1 hP1 hD1 hS1 => ?_)
      have hp1 : as <+: as ++ [q0] := ⟨[q0], rfl⟩
      have ht1 : tys <+: tys ++ [(cA, .object (zAn a0))] := ⟨_, rfl⟩
      exact kk _ (as ++ [q0]) _ H1 (.ref q0 :: sc') hp1 ht1 ⟨hK1, hP1, hD1, hS1, zW_push hW ht1 ⟨rfl, ⟨tys.length, by simp [hao.2]⟩, fun _ => rfl⟩⟩ ⟨⟨q0, by rw [← hlen]; simp, rfl⟩, zF_mono hp1 hf'⟩
    · cases hp
  · cases hp
/-- Object's constructor, Math.min -/
theorem zs_own (C : zCx p s m args meth c Ts X xa sf n0 M) (he : zEok Ts cl sf M en) (hk : zIok Ts Nw Pg M en) (hR1 : (zRoom M).1 ≤ R.frames) (hR2 : (zRoom M).2.1 ≤ R.locals) (hc : cells ≤ R.cells) (hs : slots ≤ R.slots) {r : List Value} (hp : zown M en st = some r) (hl : lv_has ls (zMaxL M) lv) (hf : zF xa as st sc)
    (k : ∀ sc' : List Value, zF xa as r sc' → W p l e R s m args below meth c H locs cells slots Q (F0 m (en.1 + 3) ls sc')) : W p l e R s m args below meth c H locs cells slots Q (F0 m en.1 ls sc) := by
  obtain ⟨hx, hb, hml, hown, hts, -⟩ := C
  obtain ⟨pc, ins, len, a0, b0, w0⟩ := en
  obtain ⟨⟨hd, hn⟩, he⟩ := he
  dsimp only at hd hn he hp k ⊢
  rw [hn] at hd
  unfold zown at hp
  dsimp only at hp
  split at hp
  · rename_i ix
    split at hp
    · rename_i q r9 h1
      cases hbb : Nat.ble 1 (zRoom M).1 && Nat.ble (zWt r9 + 12) (zRoom M).2.1 with
      | false => rw [hbb, cond_false] at hp; cases hp
      | true =>
      rw [hbb, cond_true] at hp
      cases hp
      rw [Bool.and_eq_true] at hbb
      have b1 := Nat.le_of_ble_eq_true hbb.1
      have b2 := Nat.le_of_ble_eq_true hbb.2
      have e1 := zr1_eq h1
      subst e1
      match sc, hf with
      | w :: sc', hf =>
      obtain ⟨⟨a2, h11, h12⟩, hf2⟩ := hf
      subst h12
      obtain ⟨k1, k2, k3⟩ := hk 2 rfl
      have hw := zF_wt hf2
      refine W.objInit hx hb hown (hts _ k1) (hts _ k2) (hts _ k3) rfl (by rw [hml]; exact hl.1) rfl hd (Nat.le_trans b1 hR1) (by show 2 * 0 + _ + 12 ≤ _; rw [hw]; omega) ?_
      exact k _ hf2
    · cases hp
  · rename_i ix
    split at hp
    · rename_i x y r9 h1
      cases hbb : Nat.ble 1 (zRoom M).1 && Nat.ble (zWt r9 + 13) (zRoom M).2.1 with
      | false => rw [hbb, cond_false] at hp; cases hp
      | true =>
      rw [hbb, cond_true] at hp
      cases hp
      rw [Bool.and_eq_true] at hbb
      have b1 := Nat.le_of_ble_eq_true hbb.1
      have b2 := Nat.le_of_ble_eq_true hbb.2
      obtain ⟨sc', rfl, hf2⟩ := zF_2 h1 hf
      obtain ⟨k1, k2, k3, k4⟩ := hk 1 rfl
      have hw := zF_wt hf2
      exact va_mmin hx hb (by rw [hml]; exact hl.1.symm) hown (hts _ k1) (hts _ k2) (hts _ k3) (hts _ k4) (Nat.le_trans b1 hR1) (by rw [hw]; omega) hc hs hd (k _ ⟨rfl, hf2⟩)
    · cases hp
  · cases hp
end ZBO
end
section
/-! CALLS -/
section ZCA
variable {p : Program} {l : Launch} {e : Env} {R : Room} {s : State} {m : MethodId} {args : Array Value} {below : List Frame} {meth : Method} {c : Code} {H : Heap} {locs : List Loc} {cells slots : Nat} {Q : State → Prop}
variable {Ts Nw : List Cond} {Nc : List (String × String)} {Pg : List zM} {cl : List vw_C} {FT : zFT} {FN : Nat → Nat} {X Xc : zX} {xa xac : List Nat} {sf : Nat → String × String × String} {n0 : Nat} {M M' : zM} {D : va_G} {tys : List (ClassId × FieldType)} {as : List Nat} {ws : va_W} {h h' : zH} {ls : Array Slot} {sc : List Value} {lo lv : zL} {st : List Value} {en : zN}
/-- what a call site has checked -/
theorem zinv_eq {kd : Nat} {a r : List Value} (hp : zinv Pg M en kd st h cells slots = some (M', a, r)) : Pg[en.2.2.2.1]? = some M' ∧ st = a.reverse ++ r ∧ a.length = en.2.2.2.2.2 + (bif Nat.beq kd 1 then 0 else 1) ∧ en.2.2.2.2.1 ≤ 1 ∧ (zKind M').1 = kd ∧ zWt r ≤ 8 ∧ (zRoom M').1 + 1 ≤ (zRoom M).1 ∧ 8 + (zMaxL M' + 11) + (zRoom M').2.1 ≤ (zRoom M).2.1 ∧ cells + (zRoom M').2.2.1 ≤ (zRoom M).2.2.1 ∧ slots + (zRoom M').2.2.2 ≤ (zRoom M).2.2.2 ∧ zrec kd M' a h = true ∧ a.all zpl = true := by
  unfold zinv at hp
  split at hp
  · rename_i M9 h1
    split at hp
    · rename_i a9 r9 h2
      cases hbb : a9.all zpl && Nat.ble en.2.2.2.2.1 1 && (Nat.beq (zKind M9).1 kd && (Nat.ble (zWt r9) 8 && (zfitr M M9 cells slots && zrec kd M9 a9 h))) with
      | false => rw [hbb, cond_false] at hp; cases hp
      | true =>
        rw [hbb, cond_true] at hp
        cases hp
        unfold zfitr at hbb
        simp only [Bool.and_eq_true] at hbb
        obtain ⟨⟨b8, b0⟩, b1, b2, ⟨b3, b4, b5, b6⟩, b7⟩ := hbb
        obtain ⟨g1, g2⟩ := zpk_eq h2
        exact ⟨h1, g1, g2, Nat.le_of_ble_eq_true b0, Nat.eq_of_beq_eq_true b1, Nat.le_of_ble_eq_true b2, Nat.le_of_ble_eq_true b3, Nat.le_of_ble_eq_true b4, Nat.le_of_ble_eq_true b5, Nat.le_of_ble_eq_true b6, b7, b8⟩
    · cases hp
  · cases hp
/-- what all calls of one method need -/
theorem zCallB (hts : ∀ w ∈ Ts, w.before args s = true) (hG : GoodIn Ts Ts) (hM : zMok Ts cl M') (ht : zTab M' = []) {own : String} {ix n : Nat} (hlk : Cond.methodLink own ix (zName M') ∈ Ts) (hpn : (parseMethodDescriptor (zName M').desc).map (fun d => d.parameters.length) = some n)
    (h1 : (zRoom M').1 + 1 ≤ R.frames) (h2 : 8 + (zMaxL M' + 11) + (zRoom M').2.1 ≤ R.locals) : CallB R s args own ix (zName M') (zCode M') (zMaxL M') (zRet M') (zHd M' :: Ts) (zRm M') (zRoom M').2.2.1 (zRoom M').2.2.2 n := by
  have hhd : zHd M' = Cond.code (zName M') (zCode M') (zMaxL M') (zRet M') := by unfold zHd; rw [ht]
  refine ⟨rfl, rfl, h1, h2, pay_in hts (fun w hw => ?_), by rw [hhd]; exact List.mem_cons_self, by rw [← hhd]; exact hts _ hM.1, hts _ hM.2.1, hM.2.2.1, fun sig hs => ?_, hts _ hlk⟩
  · rcases List.mem_cons.mp hw with rfl | hw
    · exact hG _ hM.1
    · exact hG _ hw
  · rw [hs] at hpn
    exact (Option.some.inj hpn).symm
theorem zGoodW (hG : GoodIn Ts Ts) (hM : zMok Ts cl M') : GoodIn Ts (zHd M' :: Ts) := fun w hw => by
  rcases List.mem_cons.mp hw with rfl | hw
  · exact hG _ hM.1
  · exact hG _ hw
theorem zPre (hN : zNwOk Nw) (hE : zEnv Xc xac sf n0 Nw Nc s) (I : zI D cl xa n0 s tys as ws h H locs) (a' : List Value) : PreS s H (zPc Xc xac sf n0 Nw Nc D cl tys ws a') a' := by
  obtain ⟨hK, hP, hD, hS, hW⟩ := I
  exact ⟨zPc_blind hN, fun U hU hWm => ⟨rfl, zEnv_to hN hE hS hU hWm, by rw [hU]; exact hP, va_K.moved hWm.alike hK, hD⟩⟩
theorem zrec_eq {kd : Nat} {a : List Value} (hr : zrec kd M' a h = true) (hk : kd ≠ 1) : ∃ (b : Nat) (As : List Value) (fs : List Value), a = .ref b :: As ∧ h[b]? = some (.inr ((zKind M').2.1, fs)) := by
  have hk1 : Nat.beq kd 1 = false := by
    cases hb : Nat.beq kd 1 with
    | false => rfl
    | true => exact absurd (Nat.eq_of_beq_eq_true hb) hk
  unfold zrec at hr
  split at hr
  · rename_i b As
    split at hr
    · rename_i ci fs h1
      rw [hk1, Bool.false_or] at hr
      rw [Nat.eq_of_beq_eq_true hr] at h1
      exact ⟨b, As, fs, rfl, h1⟩
    · rw [hk1] at hr; cases hr
  · rw [hk1] at hr; cases hr
/-- the machine at a call that returns: va_Run -/
theorem zs_run (hN : zNwOk Nw) (hG : GoodIn Ts Ts) (C : zCx p s m args meth c Ts X xa sf n0 M) (hE : zEnv Xc xac sf n0 Nw Nc s) (he : zEok Ts cl sf M en) (hk : zIok Ts Nw Pg M en) (hM : zMok Ts cl M') {kd : Nat} (hcl : zcl en.2.1 = some kd) {a r : List Value} (hp : zinv Pg M en kd st h cells slots = some (M', a, r))
    (hR1 : (zRoom M).1 ≤ R.frames) (hR2 : (zRoom M).2.1 ≤ R.locals) (hR3 : (zRoom M).2.2.1 ≤ R.cells) (hR4 : (zRoom M).2.2.2 ≤ R.slots) (I : zI D cl xa n0 s tys as ws h H locs) (hl : lv_has ls (zMaxL M) lv) {a' r' : List Value} (ha : zF xa as a a') (hr : zF xa as r r') {v : Option Value}
    (hc : zMt l Ts Xc xac sf n0 Nw Nc D cl M' tys as ws a' (.inl v) h') :
    va_Run p l e R s m args below meth c H locs cells slots (zRoom M').2.2.1 (zRoom M').2.2.2 (F0 m en.1 ls (a'.reverse ++ r')) r' (zQc xac n0 D cl tys as (.inl v) h' a'.toArray) (zA n0) := by
  obtain ⟨hx, hb, hml, hown, hts, -⟩ := C
  obtain ⟨i1, i2, i3, i4, i5, i6, i7, i8, i9, i10, i11, -⟩ := zinv_eq hp
  obtain ⟨pc, ins, len, a0, b0, w0⟩ := en
  obtain ⟨⟨hd, hn⟩, he⟩ := he
  dsimp only at hd hn he hcl i1 i3 i4 ⊢
  rw [hn] at hd
  have hMet := zMet_of hc (by rintro E st t ⟨k, _, _, _, h1, -⟩; cases h1)
  have hf : cells + (zRoom M').2.2.1 ≤ R.cells ∧ slots + (zRoom M').2.2.2 ≤ R.slots := ⟨Nat.le_trans i9 hR3, Nat.le_trans i10 hR4⟩
  have hwt : 2 * (F0 m pc ls (a'.reverse ++ r')).monitorRoom + (r'.map fun v => v.category).sum ≤ 8 := lv_room (by rw [zF_wt hr]; exact i6)
  have hS9 : CallFix p m c (zCode M) (zMaxL M) s args Ts (zName M).cls := ⟨hx, hb, hml, hown, hts⟩
  have hq : (zRoom M').1 + 1 ≤ R.frames := Nat.le_trans i7 hR1
  have hq2 : 8 + (zMaxL M' + 11) + (zRoom M').2.1 ≤ R.locals := Nat.le_trans i8 hR2
  have hla : a'.length = a.length := (zF_len ha).symm
  obtain ⟨m1, m2, m3, m4, m5, m6, m7⟩ := id hM
  have hb01 : b0 = 0 ∨ b0 = 1 := by omega
  have hlk : ((kd ≠ 0 ∧ b0 = 1 ∧ zTab M' = [] ∧ ∃ host : String, Cond.methodLinkNest (zName M).cls (zIx ins) (zName M') host ∈ Nw) ∨ Cond.methodLink (zName M).cls (zIx ins) (zName M') ∈ Ts) ∧ (parseMethodDescriptor (zName M').desc).map (fun d => d.parameters.length) = some w0 := by
    have h9 := hk kd hcl
    dsimp only at h9
    rcases hb01 with rfl | rfl <;> exact h9 M' i1
  obtain ⟨hlk, hpn⟩ := hlk
  unfold zcl at hcl
  split at hcl
  · rename_i ix
    cases hcl
    obtain ⟨n1, n2, ⟨q, n3, n4⟩, n5⟩ := m5 i5
    obtain ⟨b, As, fs, rfl, hrb⟩ := zrec_eq i11 (by decide)
    obtain ⟨hK, hP, hD, hS, hW⟩ := id I
    obtain ⟨ab, db, k1, k2, k3⟩ := hW.2.2 _ _ hrb
    cases a' with
    | nil => exact ha.elim
    | cons w As' =>
    obtain ⟨⟨a9, k4, k5⟩, ha2⟩ := ha
    subst k5
    cases k1.symm.trans k4
    have hn9 : As'.length = w0 := by
      have i3' : As.length + 1 = w0 + 1 := i3
      have hla' : As'.length + 1 = As.length + 1 := hla
      omega
    match db, k3, k2 with
    | .inr (ci, fs'), k3, k2 =>
    have k6 : (zKind M').2.1 = ci := k3.1
    subst k6
    have hl2 : Cond.methodLink (zName M).cls ix (zName M') ∈ Ts := by
      rcases hlk with ⟨h0, -⟩ | h1
      · exact absurd rfl h0
      · exact h1
    have hrecv := va_recv hK hP n3 k2
    rw [n4] at hrecv
    have hpre := zPre (locs := locs) hN hE I (.ref ab :: As')
    exact va_runV (C := (zName M').cls) (As := As') (rest := r') (n := w0) hS9 hMet ⟨zCallB hts hG hM n5 hl2 hpn hq hq2, hts _ n1, hts _ n2⟩ ⟨hpre.1, hrecv, hpre.2⟩ rfl hn9 hl.1 (by simp) hwt hd hf
  · rename_i ix
    cases hcl
    have hpre := zPre (locs := locs) hN hE I a'
    have hst := m6 i5
    have hn9 : a'.length = w0 := by rw [hla, i3]; simp
    cases htab : zTab M' with
    | nil =>
      rcases hlk with ⟨-, -, hnt, host, hnw⟩ | hl2
      · exact va_runSN (As := a') (rest := r') (n := w0) (host := host) hS9 hMet ⟨va_cnB w0 hts (zGoodW hG hM) (by unfold zHd; rw [htab]) rfl rfl (hE.2.2.2.2.2.1 _ hnw) (hts _ m2) ⟨m3.1, m3.2, hpn⟩ ⟨hq, hq2⟩, hts _ hst, trivial⟩ hpre rfl hn9 hl.1 rfl hwt hd hf
      · exact va_runS (As := a') (rest := r') (n := w0) hS9 hMet ⟨zCallB hts hG hM htab hl2 hpn hq hq2, hts _ hst⟩ hpre rfl hn9 hl.1 rfl hwt hd hf
    | cons t0 tab0 =>
      rcases hlk with ⟨-, -, hnt, host, hnw⟩ | hl2
      · rw [htab] at hnt; cases hnt
      · exact vx_runSW (As := a') (rest := r') (n := w0) (hh := zTab M') hS9 hMet (vx_cwSW w0 hts (fun w hw => by
          rcases List.mem_append.mp hw with hw | hw
          · simp only [List.mem_cons, List.not_mem_nil, or_false] at hw
            rcases hw with rfl | rfl | rfl
            · exact hG _ hl2
            · exact hG _ hst
            · exact hG _ m2
          · exact zGoodW hG hM _ hw) (by unfold zHd; rw [htab]) rfl rfl ⟨m3.1, m3.2, hpn⟩ ⟨hq, hq2⟩) hpre rfl hn9 hl.1 rfl hwt hd hf
  · rename_i ix
    cases hcl
    obtain ⟨n1, n2, n3, n5⟩ := m7 i5
    obtain ⟨b, As, fs, rfl, hrb⟩ := zrec_eq i11 (by decide)
    cases a' with
    | nil => exact ha.elim
    | cons w As' =>
    obtain ⟨⟨a9, k4, k5⟩, ha2⟩ := ha
    subst k5
    have hpre := zPre (locs := locs) hN hE I (.ref a9 :: As')
    have hn9 : As'.length = w0 := by
      have i3' : As.length + 1 = w0 + 1 := i3
      have hla' : As'.length + 1 = As.length + 1 := hla
      omega
    rcases hlk with ⟨-, -, hnt, host, hnw⟩ | hl2
    · exact va_runIN (As := As') (rest := r') (n := w0) (host := host) hS9 hMet ⟨va_cnB w0 hts (zGoodW hG hM) (by unfold zHd; rw [n5, n3]) rfl rfl (hE.2.2.2.2.2.1 _ hnw) (hts _ m2) ⟨m3.1, m3.2, hpn⟩ ⟨hq, hq2⟩, n2, hts _ n1⟩ hpre rfl hn9 hl.1 (by simp) hwt hd hf
    · have hcb := zCallB (R := R) hts hG hM n5 hl2 hpn hq hq2
      rw [n3] at hcb
      exact va_runI (As := As') (rest := r') (n := w0) hS9 hMet ⟨hcb, n2, hts _ n1⟩ hpre rfl hn9 hl.1 (by simp) hwt hd hf
  · cases hcl
/-- the machine at a call that throws: vx_Run -/
theorem zs_runX (hN : zNwOk Nw) (hG : GoodIn Ts Ts) (C : zCx p s m args meth c Ts X xa sf n0 M) (hE : zEnv Xc xac sf n0 Nw Nc s) (he : zEok Ts cl sf M en) (hk : zIok Ts Nw Pg M en) (hM : zMok Ts cl M') {kd : Nat} (hcl : zcl en.2.1 = some kd) (hk2 : kd ≠ 2) (hb1 : en.2.2.2.2.1 ≠ 1) (htab : zTab M' = []) {a r : List Value} (hp : zinv Pg M en kd st h cells slots = some (M', a, r))
    (hR1 : (zRoom M).1 ≤ R.frames) (hR2 : (zRoom M).2.1 ≤ R.locals) (hR3 : (zRoom M).2.2.1 ≤ R.cells) (hR4 : (zRoom M).2.2.2 ≤ R.slots) (I : zI D cl xa n0 s tys as ws h H locs) (hl : lv_has ls (zMaxL M) lv) {a' r' : List Value} (ha : zF xa as a a') (hr : zF xa as r r') {o : zO}
    (hc : zMt l Ts Xc xac sf n0 Nw Nc D cl M' tys as ws a' o h') :
    vx_Run p l e R s m args below meth c H locs cells slots (zRoom M').2.2.1 (zRoom M').2.2.2 (F0 m en.1 ls (a'.reverse ++ r')) r' (zQc xac n0 D cl tys as o h' a'.toArray) (zXC xac n0 D cl tys as o h') (zA n0) := by
  obtain ⟨hx, hb, hml, hown, hts, -⟩ := C
  obtain ⟨i1, i2, i3, i4, i5, i6, i7, i8, i9, i10, i11, -⟩ := zinv_eq hp
  obtain ⟨pc, ins, len, a0, b0, w0⟩ := en
  obtain ⟨⟨hd, hn⟩, he⟩ := he
  dsimp only at hd hn he hcl i1 i3 i4 hb1 ⊢
  rw [hn] at hd
  have hf : cells + (zRoom M').2.2.1 ≤ R.cells ∧ slots + (zRoom M').2.2.2 ≤ R.slots := ⟨Nat.le_trans i9 hR3, Nat.le_trans i10 hR4⟩
  have hwt : 2 * (F0 m pc ls (a'.reverse ++ r')).monitorRoom + (r'.map fun v => v.category).sum ≤ 8 := lv_room (by rw [zF_wt hr]; exact i6)
  have hS9 : CallFix p m c (zCode M) (zMaxL M) s args Ts (zName M).cls := ⟨hx, hb, hml, hown, hts⟩
  have hq : (zRoom M').1 + 1 ≤ R.frames := Nat.le_trans i7 hR1
  have hq2 : 8 + (zMaxL M' + 11) + (zRoom M').2.1 ≤ R.locals := Nat.le_trans i8 hR2
  have hla : a'.length = a.length := (zF_len ha).symm
  obtain ⟨m1, m2, m3, m4, m5, m6, m7⟩ := id hM
  have hb0 : b0 = 0 := by omega
  subst hb0
  have h9 := hk kd hcl
  dsimp only at h9
  obtain ⟨hlk, hpn⟩ := h9 M' i1
  have hl2 : Cond.methodLink (zName M).cls (zIx ins) (zName M') ∈ Ts := by
    rcases hlk with ⟨-, h0, -⟩ | h1
    · cases h0
    · exact h1
  unfold zcl at hcl
  split at hcl
  · rename_i ix
    cases hcl
    obtain ⟨n1, n2, ⟨q, n3, n4⟩, n5⟩ := m5 i5
    obtain ⟨b, As, fs, rfl, hrb⟩ := zrec_eq i11 (by decide)
    obtain ⟨hK, hP, hD, hS, hW⟩ := id I
    obtain ⟨ab, db, k1, k2, k3⟩ := hW.2.2 _ _ hrb
    cases a' with
    | nil => exact ha.elim
    | cons w As' =>
    obtain ⟨⟨a9, k4, k5⟩, ha2⟩ := ha
    subst k5
    cases k1.symm.trans k4
    have hn9 : As'.length = w0 := by
      have i3' : As.length + 1 = w0 + 1 := i3
      have hla' : As'.length + 1 = As.length + 1 := hla
      omega
    match db, k3, k2 with
    | .inr (ci, fs'), k3, k2 =>
    have k6 : (zKind M').2.1 = ci := k3.1
    subst k6
    have hrecv := va_recv hK hP n3 k2
    rw [n4] at hrecv
    have hpre := zPre (locs := locs) hN hE I (.ref ab :: As')
    exact vx_runV (C := (zName M').cls) (As := As') (rest := r') (n := w0) hS9 hc ⟨zCallB hts hG hM n5 hl2 hpn hq hq2, hts _ n1, hts _ n2⟩ ⟨hpre.1, hrecv, hpre.2⟩ rfl hn9 hl.1 (by simp) hwt hd hf
  · rename_i ix
    cases hcl
    have hpre := zPre (locs := locs) hN hE I a'
    have hst := m6 i5
    have hn9 : a'.length = w0 := by rw [hla, i3]; simp
    exact vx_runS (As := a') (rest := r') (n := w0) hS9 hc ⟨zCallB hts hG hM htab hl2 hpn hq hq2, hts _ hst⟩ hpre rfl hn9 hl.1 rfl hwt hd hf
  · cases hcl; exact absurd rfl hk2
  · cases hcl
end ZCA
end
section
/-! THE BODY AS A RELATION: what calls come to is a relation, so a symbolic walk needs no fuel -/
def zBR (Pg : List zM) (FT : zFT) (FN : Nat → Nat) (X : zX) (cr : Nat → List Value → zH → zO → zH → Prop) (M : zM) (o : zO) (h' : zH) : Nat → Nat → zL → List Value → zH → Nat → Nat → Prop
  | 0, _, _, _, _, _, _ => False
  | f + 1, pc, lo, st, h, nc, ns => match zfind (zIns M) pc with
    | none => False
    | some en => match zend en.2.1 (zRet M) st with
      | some r => o = .inl r ∧ h' = h
      | none => match zmak FT FN en st with
        | some (n, r, c, k) => (Nat.blt nc (zRoom M).2.2.1 && Nat.ble (ns + k) (zRoom M).2.2.2) = true ∧ zBR Pg FT FN X cr M o h' f (pc + n) lo (.ref h.length :: r) (h ++ [c]) (nc + 1) (ns + k)
        | none => match zown M en st with
          | some st' => zBR Pg FT FN X cr M o h' f (pc + 3) lo st' h nc ns
          | none => match zcl en.2.1 with
            | some kd => (match zinv Pg M en kd st h nc ns with
              | some (M', a, r) => ∃ (o1 : zO) (h1 : zH), cr en.2.2.2.1 a h o1 h1 ∧ (match o1 with
                | .inl v => zBR Pg FT FN X cr M o h' f (pc + 3) lo (v.toList ++ r) h1 (nc + (zRoom M').2.2.1) (ns + (zRoom M').2.2.2)
                | .inr k => (Nat.beq kd 2 || (Nat.beq en.2.2.2.2.1 1 || !(zTab M').isEmpty)) = false ∧ (match zTab M with
                  | [] => o = .inr k ∧ h' = h1
                  | _ => (match zhand (zTab M) pc k with
                    | some t => (match zfind (zIns M) t with
                      | some en2 => (match zsto en2.2.1 with
                        | some (j, n, true) => Nat.blt j (zMaxL M) = true ∧ zBR Pg FT FN X cr M o h' f (t + n) (lo.filter (fun q => !(Nat.beq q.1 j))) [] h1 (nc + (zRoom M').2.2.1) (ns + (zRoom M').2.2.2)
                        | _ => False)
                      | none => False)
                    | none => False)))
              | none => False)
            | none => (match en.2.1 with
              | .new _ => (Nat.ble (nc + 1) (zRoom M).2.2.1 && (Nat.ble (ns + 6) (zRoom M).2.2.2 && Nat.ble (zWt st) 8)) = true ∧ o = .inr en.2.2.2.1 ∧ h' = h
              | _ => (match zstep M FT X en lo st h with
                | some (pc', lo', st', h1) => zBR Pg FT FN X cr M o h' f pc' lo' st' h1 nc ns
                | none => False))
/-- what a call comes to, by its depth -/
def zCR (Pg : List zM) (FT : zFT) (FN : Nat → Nat) (X : zX) : Nat → Nat → List Value → zH → zO → zH → Prop
  | 0, _, _, _, _, _ => False
  | d + 1, z, a, h, o, h' => ∃ M : zM, Pg[z]? = some M ∧ (Nat.ble a.length (zMaxL M) && a.all (fun v => Nat.beq v.category 1)) = true ∧ ∃ f : Nat, zBR Pg FT FN X (zCR Pg FT FN X d) M o h' f 0 (zargs 0 a) [] h 0 0
/-! THE BODY, by its fuel -/
section ZWB
variable {p : Program} {l : Launch} {e : Env} {R : Room} {s : State} {m : MethodId} {args : Array Value} {below : List Frame} {meth : Method} {c : Code} {Q : State → Prop}
variable {Ts Nw : List Cond} {Nc : List (String × String)} {Pg : List zM} {cl : List vw_C} {FT : zFT} {FN : Nat → Nat} {X Xc : zX} {xa xac : List Nat} {sf : Nat → String × String × String} {n0 : Nat} {M : zM} {D : va_G}
/-- an instruction is known in all its ways -/
def zNok (Ts Nw : List Cond) (Pg : List zM) (cl : List vw_C) (FT : zFT) (FN : Nat → Nat) (sf : Nat → String × String × String) (M : zM) (en : zN) : Prop :=
  zEok Ts cl sf M en ∧ zIok Ts Nw Pg M en ∧ zKok Ts cl FT FN M en ∧ ∀ k : Nat, en.2.1 = .getstatic k → (sf en.2.2.2.1).1 ≠ ""
theorem zfind_eq {en : zN} {pc : Nat} : ∀ {L : List zN}, zfind L pc = some en → en ∈ L ∧ en.1 = pc
  | [], h => by cases h
  | x :: L, h => by
    unfold zfind at h
    cases hb : Nat.beq x.1 pc with
    | true => rw [hb, cond_true] at h; cases h; exact ⟨List.mem_cons_self, Nat.eq_of_beq_eq_true hb⟩
    | false => rw [hb, cond_false] at h; obtain ⟨h1, h2⟩ := zfind_eq h; exact ⟨List.mem_cons_of_mem _ h1, h2⟩
/-- how a body may end: with an answer; by its own throw; by a callee's -/
def zOut (p : Program) (l : Launch) (e : Env) (R : Room) (s : State) (m : MethodId) (args : Array Value) (below : List Frame) (meth : Method) (c : Code) (Q : State → Prop) (D : va_G) (cl : List vw_C) (xa : List Nat) (n0 : Nat) (M : zM) (tys0 : List (ClassId × FieldType)) (as0 : List Nat) (o : zO) (h' : zH) : Prop :=
  ∀ (tys : List (ClassId × FieldType)) (as : List Nat) (ws : va_W) (H : Heap) (locs : List Loc) (nc ns : Nat) (ls : Array Slot) (lv : zL), as0 <+: as → tys0 <+: tys → zI D cl xa n0 s tys as ws h' H locs → lv_has ls (zMaxL M) lv → nc ≤ (zRoom M).2.2.1 → ns ≤ (zRoom M).2.2.2 →
    (∀ (r : Option Value) (en : zN) (st sc : List Value), o = .inl r → en ∈ zIns M → zend en.2.1 (zRet M) st = some r → zF xa as st sc → W p l e R s m args below meth c H locs nc ns Q (F0 m en.1 ls sc)) ∧
    (∀ (k : Nat) (en : zN) (ix : Nat) (sc : List Value), o = .inr k → en ∈ zIns M → en.2.1 = .new ix → en.2.2.2.1 = k → en.2.2.2.2.1 = 1 → nc + 1 ≤ (zRoom M).2.2.1 → ns + 6 ≤ (zRoom M).2.2.2 → (sc.map fun v => v.category).sum ≤ 8 → W p l e R s m args below meth c H locs nc ns Q (F0 m en.1 ls sc)) ∧
    (∀ (k pc : Nat) (ce : Cell) (q9 : Addr) (sc : List Value), o = .inr k → zTab M = [] → H[q9]? = some ce → ce.vm = .none → s.vm.findClass (zEn k) = some ce.cls → vx_W p l e R s m args below meth c H locs nc ns Q (F0 m pc ls sc) q9)
/-- an exception is caught where the table says so -/
def zCat (p : Program) (l : Launch) (e : Env) (R : Room) (s : State) (m : MethodId) (args : Array Value) (below : List Frame) (meth : Method) (c : Code) (Q : State → Prop) (M : zM) : Prop :=
  ∀ (k pc t : Nat) (ce : Cell) (q9 : Addr) (H : Heap) (locs : List Loc) (nc ns : Nat) (ls : Array Slot) (sc : List Value), zTab M ≠ [] → zhand (zTab M) pc k = some t → H[q9]? = some ce → ce.vm = .none → s.vm.findClass (zEn k) = some ce.cls → W p l e R s m args below meth c H locs nc ns Q (F0 m t ls [.ref q9]) → vx_W p l e R s m args below meth c H locs nc ns Q (F0 m pc ls sc) q9
theorem zbody_ok (hN : zNwOk Nw) (hG : GoodIn Ts Ts) (S : zSy Ts cl FT M) (C : zCx p s m args meth c Ts X xa sf n0 M) (hE : zEnv Xc xac sf n0 Nw Nc s) (hI : ∀ en ∈ zIns M, zNok Ts Nw Pg cl FT FN sf M en) (hPg : ∀ (z : Nat) (M' : zM), Pg[z]? = some M' → zMok Ts cl M')
    (hR1 : (zRoom M).1 ≤ R.frames) (hR2 : (zRoom M).2.1 ≤ R.locals) (hR3 : (zRoom M).2.2.1 ≤ R.cells) (hR4 : (zRoom M).2.2.2 ≤ R.slots) (hCat : zCat p l e R s m args below meth c Q M)
    {cr : Nat → List Value → zH → zO → zH → Prop} (hcall : ∀ (z : Nat) (M' : zM) (a : List Value) (h : zH) (o : zO) (h' : zH), Pg[z]? = some M' → cr z a h o h' → ∀ (tys : List (ClassId × FieldType)) (as : List Nat) (ws : va_W) (a' : List Value), zF [] as a a' → zW xa tys as h ws → zMt l Ts Xc xac sf n0 Nw Nc D cl M' tys as ws a' o h')
    {tys0 : List (ClassId × FieldType)} {as0 : List Nat} {o : zO} {h' : zH} (hO : zOut p l e R s m args below meth c Q D cl xa n0 M tys0 as0 o h') :
    ∀ (f pc : Nat) (lo : zL) (st : List Value) (h : zH) (nc ns : Nat), zBR Pg FT FN X cr M o h' f pc lo st h nc ns → nc ≤ (zRoom M).2.2.1 → ns ≤ (zRoom M).2.2.2 → ∀ (tys : List (ClassId × FieldType)) (as : List Nat) (ws : va_W) (H : Heap) (locs : List Loc) (ls : Array Slot) (lv : zL) (sc : List Value), as0 <+: as → tys0 <+: tys → zI D cl xa n0 s tys as ws h H locs → zF xa as st sc → lv_has ls (zMaxL M) lv → zG xa as lo lv →
      W p l e R s m args below meth c H locs nc ns Q (F0 m pc ls sc) := by
  intro f
  induction f with
  | zero => intro pc lo st h nc ns hb; exact hb.elim
  | succ f ih =>
    intro pc lo st h nc ns hb hnc hns tys as ws H locs ls lv sc has htys I hf hl hg
    unfold zBR at hb
    split at hb
    · exact hb.elim
    rename_i en hfind
    obtain ⟨hmem, hpc⟩ := zfind_eq hfind
    subst hpc
    obtain ⟨he, hii, hkk, hsf⟩ := hI en hmem
    split at hb
    · rename_i r hend
      obtain ⟨rfl, rfl⟩ := hb
      exact (hO tys as ws H locs nc ns ls lv has htys I hl hnc hns).1 r en st sc rfl hmem hend hf
    split at hb
    · rename_i n r cc k hmak
      obtain ⟨hbb, hb⟩ := hb
      rw [Bool.and_eq_true] at hbb
      have b1 : nc + 1 ≤ (zRoom M).2.2.1 := Nat.le_of_ble_eq_true hbb.1
      have b2 := Nat.le_of_ble_eq_true hbb.2
      exact zs_mak S.1 C hE he hkk hmak I hf (Nat.le_trans b1 hR3) (Nat.le_trans b2 hR4) (fun tys' as' ws' H' sc' g1 g2 I' hf' => ih _ _ _ _ _ _ hb b1 b2 tys' as' ws' H' locs ls lv sc' (has.trans g1) (htys.trans g2) I' hf' hl (zG_mono g1 hg))
    split at hb
    · rename_i st' hown
      exact zs_own C he hii hR1 hR2 (Nat.le_trans hnc hR3) (Nat.le_trans hns hR4) hown hl hf (fun sc' hf' => ih _ _ _ _ _ _ hb hnc hns tys as ws H locs ls lv sc' has htys I hf' hl hg)
    split at hb
    · rename_i kd hcl
      split at hb
      · rename_i M' a r hinv
        obtain ⟨i1, i2, i3, i4, i5, i6, i7, i8, i9, i10, i11, i12⟩ := zinv_eq hinv
        rw [i2] at hf
        obtain ⟨x', y', rfl, hx', hy'⟩ := zF_app hf
        have ha' := zF_rev hx'
        rw [List.reverse_reverse] at ha'
        have hsc : x' ++ y' = x'.reverse.reverse ++ y' := by rw [List.reverse_reverse]
        rw [hsc]
        obtain ⟨o1, h1, hcl1, hb⟩ := hb
        have hc := hcall _ M' a h _ h1 i1 hcl1 tys as ws x'.reverse (zF_pl i12 ha') I.2.2.2.2
        split at hb
        · rename_i v
          exact z_callR (xa := xa) (zs_run hN hG C hE he hii (hPg _ M' i1) hcl hinv hR1 hR2 hR3 hR4 I hl ha' hy' hc) I.2.2.2.1 (fun v' tys' as' ws' H1 locs1 hF g1 g2 I' => ih _ _ _ _ _ _ hb i9 i10 tys' as' ws' H1 locs1 ls lv _ (has.trans g1) (htys.trans g2) I' (zF_join (zF_nil hF) (zF_mono g1 hy')) hl (zG_mono g1 hg))
        · rename_i k
          obtain ⟨hbb, hb⟩ := hb
          rw [Bool.or_eq_false_iff, Bool.or_eq_false_iff, Bool.not_eq_false'] at hbb
          have q1 : kd ≠ 2 := Nat.ne_of_beq_eq_false hbb.1
          have q2 : en.2.2.2.2.1 ≠ 1 := Nat.ne_of_beq_eq_false hbb.2.1
          have q3 : zTab M' = [] := List.isEmpty_iff.mp hbb.2.2
          refine z_callX (xa := xa) (zs_runX hN hG C hE he hii (hPg _ M' i1) hcl q1 q2 q3 hinv hR1 hR2 hR3 hR4 I hl ha' hy' hc) I.2.2.2.1 (fun ce q9 tys' as' ws' H1 locs1 g1 g2 I' k1 k2 k3 => ?_)
          split at hb
          · rename_i htab
            obtain ⟨rfl, rfl⟩ := hb
            exact (hO tys' as' ws' H1 locs1 _ _ ls lv (has.trans g1) (htys.trans g2) I' hl i9 i10).2.2 k en.1 ce q9 _ rfl htab k1 k2 k3
          · rename_i htab
            split at hb
            · rename_i t hhd
              split at hb
              · rename_i en2 hf2
                obtain ⟨hm2, hp2⟩ := zfind_eq hf2
                subst hp2
                split at hb
                · rename_i j n hst2
                  obtain ⟨hbj, hb⟩ := hb
                  refine hCat k en.1 en2.1 ce q9 H1 locs1 _ _ ls y' htab hhd k1 k2 k3 ?_
                  obtain ⟨⟨⟨hd2, hn2⟩, -⟩, -⟩ := hI en2 hm2
                  have hgf := zG_filter (i := j) (zG_mono g1 hg)
                  have hj := Nat.le_of_ble_eq_true hbj
                  obtain ⟨hx, hb8, -⟩ := id C
                  obtain ⟨p2, ins2, len2, x2, y2, z2⟩ := en2
                  dsimp only at hst2 hd2 hn2 hb ⊢
                  rw [hn2] at hd2
                  unfold zsto at hst2
                  split at hst2
                  · cases hst2
                  · cases hst2
                  · cases hst2
                    exact lv_astore hx hb8 hd2 hl hj rfl (fun ls' hl' => ih _ _ _ _ _ _ hb i9 i10 tys' as' ws' H1 locs1 ls' _ [] (has.trans g1) (htys.trans g2) I' trivial ⟨hl'.1, hl'.2.1, fun q hq => hl'.2.2 q (List.mem_cons_of_mem _ hq)⟩ hgf)
                  · cases hst2
                    exact lv_astore_n hx hb8 hd2 rfl hl hj rfl (fun ls' hl' => ih _ _ _ _ _ _ hb i9 i10 tys' as' ws' H1 locs1 ls' _ [] (has.trans g1) (htys.trans g2) I' trivial ⟨hl'.1, hl'.2.1, fun q hq => hl'.2.2 q (List.mem_cons_of_mem _ hq)⟩ hgf)
                  · cases hst2
                · exact hb.elim
              · exact hb.elim
            · exact hb.elim
      · exact hb.elim
    split at hb
    · rename_i ix hnew
      obtain ⟨hbb, rfl, rfl⟩ := hb
      simp only [Bool.and_eq_true] at hbb
      obtain ⟨b1, b2, b3⟩ := hbb
      refine (hO tys as ws H locs nc ns ls lv has htys I hl hnc hns).2.1 _ en ix sc rfl hmem hnew rfl ?_ (Nat.le_of_ble_eq_true b1) (Nat.le_of_ble_eq_true b2) (by rw [zF_wt hf]; exact Nat.le_of_ble_eq_true b3)
      have hmk : zmak FT FN en st = none := by assumption
      unfold zmak at hmk
      rw [hnew] at hmk
      dsimp only at hmk
      cases hb9 : Nat.beq en.2.2.2.2.1 1 with
      | true => exact Nat.eq_of_beq_eq_true hb9
      | false => rw [hb9, cond_false] at hmk; cases hmk
    · split at hb
      · rename_i pc' lo' st' h1 hst
        exact zstep_ok S C he hsf hst I hf hl hg (fun ws' H' locs' ls' lv' sc' I' hf' hl' hg' => ih _ _ _ _ _ _ hb hnc hns tys as ws' H' locs' ls' lv' sc' has htys I' hf' hl' hg')
      · exact hb.elim
end ZWB
end
section
/-! EVERY CALL of the abstract machine that comes to an end is a contract -/
def zNm : List String := ["java/lang/RuntimeException", "java/lang/Exception"]
/-- 'throw new E()' at this place -/
def zThr (Ts Nw : List Cond) (M : zM) (en : zN) (ik : Nat) : Prop := ∃ ic : Nat, decode (zCode M) en.1 = .ok (.new ik, 3) ∧ decode (zCode M) (en.1 + 3) = .ok (.dup, 1) ∧ decode (zCode M) (en.1 + 4) = .ok (.invokespecial ic, 3) ∧ decode (zCode M) (en.1 + 7) = .ok (.athrow, 1) ∧
  Cond.classLink (zName M).cls ik (zEn en.2.2.2.1) ∈ Ts ∧ Cond.initialized (zEn en.2.2.2.1) ∈ Ts ∧ (∀ w ∈ vx_at0 (zName M).cls ic (zEn en.2.2.2.1) zNm, w ∈ Ts ∨ w ∈ Nw) ∧ (∀ w ∈ Cond.classLink (zName M).cls ik (zEn en.2.2.2.1) :: Cond.initialized (zEn en.2.2.2.1) :: vx_at0 (zName M).cls ic (zEn en.2.2.2.1) zNm, vx_ot w = true) ∧
  Bundle.fit (zEn en.2.2.2.1) = true ∧ (∀ n ∈ zNm, Bundle.fit n = true) ∧ 5 < (zRoom M).1 ∧ 8 + 81 ≤ (zRoom M).2.1 ∧ zTab M = []
/-- the whole program is known -/
def zGd (l : Launch) (Ts Nw : List Cond) (Pg : List zM) (cl : List vw_C) (FT : zFT) (FN : Nat → Nat) (sf : Nat → String × String × String) : Prop :=
  l.stackTraces = false ∧ zNwOk Nw ∧ GoodIn Ts Ts ∧ ∀ (z : Nat) (M : zM), Pg[z]? = some M → zSy Ts cl FT M ∧ (∀ en ∈ zIns M, zNok Ts Nw Pg cl FT FN sf M en) ∧ zMok Ts cl M ∧ ∀ en ∈ zIns M, ∀ ik : Nat, en.2.1 = .new ik → en.2.2.2.2.1 = 1 → zThr Ts Nw M en ik
theorem lg_sl_len : ∀ {vs : List Value}, vs.all (fun v => Nat.beq v.category 1) = true → (lg_sl vs).length = vs.length
  | [], _ => rfl
  | v :: vs, h => by
    rw [List.all_cons, Bool.and_eq_true] at h
    have h1 := Nat.eq_of_beq_eq_true h.1
    have ih := lg_sl_len h.2
    unfold lg_sl at ih ⊢
    rw [List.flatMap_cons, List.length_append, ih, if_neg (by rw [h1]; decide)]
    simp; omega
theorem zargs_G {xa as : List Nat} : ∀ {vs ws : List Value} (i : Nat), zF xa as vs ws → vs.all (fun v => Nat.beq v.category 1) = true → zG xa as (zargs i vs) (lv_args i ws)
  | [], [], _, _, _ => trivial
  | [], _ :: _, _, h, _ => h.elim
  | _ :: _, [], _, h, _ => h.elim
  | v :: vs, w :: ws, i, h, ha => by
    rw [List.all_cons, Bool.and_eq_true] at ha
    have h1 := Nat.eq_of_beq_eq_true ha.1
    have h2 : w.category = 1 := (zV_catEq h.1).trans h1
    unfold zargs lv_args
    rw [if_neg (by rw [h2]; decide)]
    exact ⟨⟨rfl, h.1, h2⟩, zargs_G (i + 1) h.2 ha.2⟩
theorem zall_F {xa as : List Nat} : ∀ {vs ws : List Value}, zF xa as vs ws → vs.all (fun v => Nat.beq v.category 1) = true → ws.all (fun v => Nat.beq v.category 1) = true
  | [], [], _, _ => rfl
  | [], _ :: _, h, _ => h.elim
  | _ :: _, [], h, _ => h.elim
  | v :: vs, w :: ws, h, ha => by
    rw [List.all_cons, Bool.and_eq_true] at ha ⊢
    exact ⟨by rw [zV_catEq h.1]; exact ha.1, zall_F h.2 ha.2⟩
section ZCO
variable {p : Program} {l : Launch} {e : Env} {R : Room} {s : State} {m : MethodId} {args : Array Value} {below : List Frame} {meth : Method} {c : Code}
variable {Ts Nw : List Cond} {Nc : List (String × String)} {Pg : List zM} {cl : List vw_C} {FT : zFT} {FN : Nat → Nat} {X : zX} {xa : List Nat} {sf : Nat → String × String × String} {n0 : Nat} {M : zM} {D : va_G} {tys : List (ClassId × FieldType)} {as : List Nat} {o : zO} {h' : zH}
/-- a body's ends, as a contract wants them -/
theorem zOut_of (hst : l.stackTraces = false) (hN : zNwOk Nw) (C : zCx p s m args meth c Ts X xa sf n0 M) (hE : zEnv X xa sf n0 Nw Nc s) (hr : meth.sig.returnType = zRet M) (hlocks : meth.locks = false) (hR1 : (zRoom M).1 ≤ R.frames) (hR2 : (zRoom M).2.1 ≤ R.locals) (hR3 : (zRoom M).2.2.1 ≤ R.cells) (hR4 : (zRoom M).2.2.2 ≤ R.slots)
    (hI : ∀ en ∈ zIns M, zEok Ts cl sf M en) (hT : ∀ en ∈ zIns M, ∀ ik : Nat, en.2.1 = .new ik → en.2.2.2.2.1 = 1 → zThr Ts Nw M en ik) (htb : zTab M = [] → ∀ x ∈ c.exceptionTable.toList, False) :
    zOut p l e R s m args below meth c (vx_MQ below (zQc xa n0 D cl tys as o h') (zXC xa n0 D cl tys as o h') args s (zRoom M).2.2.1 (zRoom M).2.2.2 (zA n0)) D cl xa n0 M tys as o h' := by
  obtain ⟨hx, hb, hml, hown, hts, -⟩ := C
  intro tys1 as1 ws H locs nc ns ls lv has htys I hl hnc hns
  obtain ⟨hK, hP, hD, hS, hW⟩ := I
  refine ⟨fun r en st sc ho hmem hend hf => ?_, fun k en ik sc ho hmem hnew hk hb1 hc1 hs1 hwt => ?_, fun k pc ce q9 sc ho htab h1 h2 h3 => ?_⟩
  · obtain ⟨⟨hd, hn⟩, -⟩ := hI en hmem
    have hQ : ∀ (v : Option Value), zF [] as1 r.toList v.toList → ∀ t : State, t.heap = H → s.WarmedH t.vm → zQc xa n0 D cl tys as o h' args s (.returned v) t := fun v hv t ht hWm =>
      ⟨r, v, tys1, as1, ws, ho, rfl, hv, has, htys, hW, by rw [ht]; exact hP, va_K.moved hWm.alike hK, hD, hS.F ht⟩
    refine W.widen hnc hns (vx_ret ?_)
    obtain ⟨pc, ins, len, a0, b0, w0⟩ := en
    dsimp only at hend hd hn ⊢
    rw [hn] at hd
    unfold zend at hend
    split at hend
    · rename_i x hret
      cases hend
      match sc, hf with
      | [w], hf =>
      rw [show w = .int x from hf.1]
      exact W.iret hx hb (hr.trans hret) (hQ (some (.int x)) ⟨rfl, trivial⟩) hS.2.2 hd hlocks
    · rename_i x hret
      cases hbb : decide (x = 0) || decide (x = 1) with
      | false => rw [hbb, cond_false] at hend; cases hend
      | true =>
      rw [hbb, cond_true] at hend
      cases hend
      match sc, hf with
      | [w], hf =>
      rw [show w = .int x from hf.1]
      rw [Bool.or_eq_true, decide_eq_true_eq, decide_eq_true_eq] at hbb
      exact W.zret hx hb (hr.trans hret) (by rcases hbb with rfl | rfl <;> decide) (hQ (some (.int x)) ⟨rfl, trivial⟩) hS.2.2 hd hlocks
    · rename_i nm kk hret
      cases hend
      match sc, hf with
      | [w], hf =>
      obtain ⟨⟨a9, g1, g2⟩, -⟩ := hf
      subst g2
      exact W.aret hx hb (hr.trans hret) (Or.inl ⟨_, rfl⟩) (Or.inr ⟨a9, rfl⟩) (hQ (some (.ref a9)) ⟨⟨a9, g1, rfl⟩, trivial⟩) hS.2.2 hd hlocks
    · rename_i hret
      cases hend
      match sc, hf with
      | [], hf => exact W.vret hx hb (hr.trans hret) (hQ none trivial) hS.2.2 hd hlocks
    · cases hend
  · obtain ⟨ic, d0, d3, d4, d7, w1, w2, w3, w4, w5, w6, w7, w8, w9⟩ := hT en hmem ik hnew hb1
    rw [hk] at w1 w2 w3 w4 w5
    refine vx_throw0 hx hb hst hown w5 w6 (hts _ w1) (hts _ w2) (fun w hw => ?_) w4 hE.2.2.2.1 hE.2.2.2.2.1 hS (hl.1.trans hml.symm) d0 d3 d4 d7 (fun x hx9 => (htb w9 x hx9).elim) (by show 2 + 3 < _; omega) (by show _ + (13 * (2 + 1) + 42) ≤ _; omega) (Nat.le_trans hc1 hR3) (Nat.le_trans hs1 hR4) hlocks (fun t hal hsz hkeep => ?_) hS.2.2 hc1 hs1
    · rcases w3 w hw with h | h
      · exact hts _ h
      · exact va_Nw.use (by rcases hN w h with ⟨a, i, x, h, rfl⟩ | ⟨C, T, rfl⟩ | ⟨x, rfl⟩ <;> rfl) (hE.2.2.2.2.2.1 w h)
    · refine ⟨k, tys1, as1, ws, ho, rfl, has, htys, hW, hP.kept (fun j q hj => hkeep _ (hP j q hj).lt), va_K.moved hal hK, hD, Nat.le_trans hS.1 hsz, fun q hq1 hq2 => ?_⟩
      rw [hkeep q (Nat.lt_of_lt_of_le hq1 hS.1)]
      exact hS.2.1 q hq1 hq2
  · exact vx_out (fun x hx9 => (htb htab x hx9).elim) hlocks h1 h2 h3 (fun t ht hal => ⟨k, tys1, as1, ws, ho, rfl, has, htys, hW, by rw [ht]; exact hP, va_K.moved hal hK, hD, hS.F ht⟩) hS.2.2 hnc hns
/-- how the catching is known: for the methods with a table -/
def zCatAll (l : Launch) (Ts Nw : List Cond) (Nc : List (String × String)) (X : zX) (xa : List Nat) (sf : Nat → String × String × String) (n0 : Nat) (Pg : List zM) : Prop :=
  ∀ (z : Nat) (M : zM), Pg[z]? = some M → zTab M ≠ [] → ∀ (p : Program) (e : Env) (R : Room) (s : State) (m : MethodId) (args : Array Value) (below : List Frame) (meth : Method) (c : Code) (Q : State → Prop), zCx p s m args meth c Ts X xa sf n0 M → zEnv X xa sf n0 Nw Nc s → c.exceptionTable.toList = tableOf (zTab M) → zCat p l e R s m args below meth c Q M
theorem zcall_ok (G : zGd l Ts Nw Pg cl FT FN sf) (hCat : zCatAll l Ts Nw Nc X xa sf n0 Pg) : ∀ (d z : Nat) (M : zM) (a : List Value) (h : zH) (o : zO) (h' : zH), Pg[z]? = some M → zCR Pg FT FN X d z a h o h' → ∀ (tys : List (ClassId × FieldType)) (as : List Nat) (ws : va_W) (a' : List Value), zF [] as a a' → zW xa tys as h ws → zMt l Ts X xa sf n0 Nw Nc D cl M tys as ws a' o h' := by
  obtain ⟨hst, hN, hG, hAll⟩ := id G
  intro d
  induction d with
  | zero => intro z M a h o h' _ hc; exact hc.elim
  | succ d ih =>
    intro z M a h o h' hz hc tys as ws a' ha hW
    obtain ⟨M9, hz9, hbb, fuel, hc⟩ := hc
    cases hz.symm.trans hz9
    obtain ⟨hSy, hI, hMo, hT⟩ := hAll z M hz
    rw [Bool.and_eq_true] at hbb
    have hle := Nat.le_of_ble_eq_true hbb.1
    have hall := zall_F ha hbb.2
    have key : ∀ (p : Program) (e : Env) (s : State) (m : MethodId) (args : Array Value) (below : List Frame) (meth : Method) (c : Code) (s₁ : State), BodyLoose p l (zName M) (headSpec (zHd M :: Ts) (zRm M)) (zCode M) (zMaxL M) (zRet M) e s m args below meth c s₁ → c.maxLocals = zMaxL M → (zTab M = [] → ∀ x ∈ c.exceptionTable.toList, False) → (zTab M ≠ [] → c.exceptionTable.toList = tableOf (zTab M)) → zPc X xa sf n0 Nw Nc D cl tys ws a' args s →
        W p l e (headSpec (zHd M :: Ts) (zRm M)).room s m args below meth c s.heap [] 0 0 (vx_MQ below (zQc xa n0 D cl tys as o h') (zXC xa n0 D cl tys as o h') args s (zRoom M).2.2.1 (zRoom M).2.2.2 (zA n0)) (entryFrame m args (zMaxL M)) := by
      intro p e s m args below meth c s₁ B hml htb htb2 hv
      obtain ⟨rfl, hE, hP, hK, hD⟩ := hv
      have hts := atoms_spec (ws := zHd M :: Ts) B.pre
      have C : zCx p s m a'.toArray meth c Ts X xa sf n0 M := ⟨B.exec, B.bytes, hml, findClass_of_methodNamed B.named, fun w hw => hts w (List.mem_cons_of_mem _ hw), hE.2.1, hE.2.2.1, fun hk => ((name_of_methodNamed B.named B.method).1).trans (hMo.2.2.2.2.2.2 hk).2.1, hE.1⟩
      have hl := lv_entry a' (n := zMaxL M) (by rw [lg_sl_len hall, ← zF_len ha]; exact hle)
      rw [lg_entry_eq]
      have hO := zOut_of (e := e) (R := (headSpec (zHd M :: Ts) (zRm M)).room) (below := below) (D := D) (cl := cl) (tys := tys) (as := as) (o := o) (h' := h') hst hN C hE B.returns B.notSynchronized (Nat.le_refl _) (Nat.le_refl _) (Nat.le_refl _) (Nat.le_refl _) (fun en hen => (hI en hen).1) hT htb
      have hCt : zCat p l e (headSpec (zHd M :: Ts) (zRm M)).room s m a'.toArray below meth c (vx_MQ below (zQc xa n0 D cl tys as o h') (zXC xa n0 D cl tys as o h') a'.toArray s (zRoom M).2.2.1 (zRoom M).2.2.2 (zA n0)) M := by
        by_cases ht : zTab M = []
        · intro k pc t ce q9 H locs nc ns ls sc hne
          exact absurd ht hne
        · exact hCat z M hz ht p e _ s m _ below meth c _ C hE (htb2 ht)
      exact zbody_ok hN hG hSy C hE hI (fun z' M' hz' => (hAll z' M' hz').2.2.1) (Nat.le_refl _) (Nat.le_refl _) (Nat.le_refl _) (Nat.le_refl _) hCt ih hO fuel 0 (zargs 0 a) [] h 0 0 hc (Nat.zero_le _) (Nat.zero_le _) tys as ws s.heap [] _ _ [] (List.prefix_refl as) (List.prefix_refl tys) ⟨hK, hP, hD, va_S.rf, hW⟩ trivial hl (zargs_G 0 (zF_nil ha) hbb.2)
    unfold zMt
    cases htab : zTab M with
    | nil =>
      refine vx_ofW (cc := zCode M) (maxL := zMaxL M) (ret := zRet M) (ws' := Ts) hMo.2.2.2.1 (by unfold zHd; rw [htab]) (fun p e s m args below meth c s₁ B hml hno hv => key p e s m args below meth c s₁ B hml (fun _ => hno) (fun hne => absurd htab hne) hv)
    | cons t0 tb =>
      refine vx_ofWH (cc := zCode M) (maxL := zMaxL M) (ret := zRet M) (hh := zTab M) (ws' := Ts) hMo.2.2.2.1 (by unfold zHd; rw [htab]) (fun p e s m args below meth c s₁ B hml hv => key p e s m args below meth c s₁ B hml (fun h0 => by rw [h0] at htab; cases htab) (fun _ => ?_) hv)
      have hts := atoms_spec (ws := zHd M :: Ts) B.pre
      have h9 := hts _ List.mem_cons_self
      have e9 : zHd M = Cond.codeWith (zName M) (zCode M) (zMaxL M) (zRet M) (zTab M) := by unfold zHd; rw [htab]
      rw [e9] at h9
      exact vx_table (x := zName M) B h9
end ZCO
end
section
/-! WALKS over the relation: closed ones by the kernel, symbolic ones by rows -/
section ZX
variable {Pg : List zM} {FT : zFT} {FN : Nat → Nat} {X : zX} {cr cr' : Nat → List Value → zH → zO → zH → Prop} {M M' : zM} {o : zO} {h h1 h' : zH} {pc nc ns : Nat} {lo : zL} {st : List Value} {en : zN}
/-- a body comes to its end -/
def zBx (Pg : List zM) (FT : zFT) (FN : Nat → Nat) (X : zX) (cr : Nat → List Value → zH → zO → zH → Prop) (M : zM) (o : zO) (h' : zH) (pc : Nat) (lo : zL) (st : List Value) (h : zH) (nc ns : Nat) : Prop := ∃ f : Nat, zBR Pg FT FN X cr M o h' f pc lo st h nc ns
theorem zBR_of {call : Nat → List Value → zH → Option (zO × zH)} (hc : ∀ z a h o h', call z a h = some (o, h') → cr z a h o h') : ∀ (f pc : Nat) (lo : zL) (st : List Value) (h : zH) (nc ns : Nat), zbody Pg FT FN X call M f pc lo st h nc ns = some (o, h') → zBR Pg FT FN X cr M o h' f pc lo st h nc ns := by
  intro f
  induction f with
  | zero => intro pc lo st h nc ns hb; unfold zbody at hb; cases hb
  | succ f ih =>
    intro pc lo st h nc ns hb
    unfold zbody at hb
    unfold zBR
    cases h1 : zfind (zIns M) pc with
    | none => rw [h1] at hb; cases hb
    | some en =>
    rw [h1] at hb
    dsimp only at hb ⊢
    cases h2 : zend en.2.1 (zRet M) st with
    | some r => rw [h2] at hb; cases hb; exact ⟨rfl, rfl⟩
    | none =>
    rw [h2] at hb
    dsimp only at hb ⊢
    cases h3 : zmak FT FN en st with
    | some q =>
      obtain ⟨n, r, c, k⟩ := q
      rw [h3] at hb
      dsimp only at hb ⊢
      cases hbb : Nat.blt nc (zRoom M).2.2.1 && Nat.ble (ns + k) (zRoom M).2.2.2 with
      | false => rw [hbb, cond_false] at hb; cases hb
      | true => rw [hbb, cond_true] at hb; exact ⟨rfl, ih _ _ _ _ _ _ hb⟩
    | none =>
    rw [h3] at hb
    dsimp only at hb ⊢
    cases h4 : zown M en st with
    | some st' => rw [h4] at hb; exact ih _ _ _ _ _ _ hb
    | none =>
    rw [h4] at hb
    dsimp only at hb ⊢
    cases h5 : zcl en.2.1 with
    | some kd =>
      rw [h5] at hb
      dsimp only at hb ⊢
      cases h6 : zinv Pg M en kd st h nc ns with
      | none => rw [h6] at hb; cases hb
      | some q =>
      obtain ⟨M', a, r⟩ := q
      rw [h6] at hb
      dsimp only at hb ⊢
      cases h7 : call en.2.2.2.1 a h with
      | none => rw [h7] at hb; cases hb
      | some q =>
      obtain ⟨o1, h8⟩ := q
      rw [h7] at hb
      refine ⟨o1, h8, hc _ _ _ _ _ h7, ?_⟩
      cases o1 with
      | inl v => exact ih _ _ _ _ _ _ hb
      | inr k =>
      dsimp only at hb ⊢
      cases hbb : Nat.beq kd 2 || (Nat.beq en.2.2.2.2.1 1 || !(zTab M').isEmpty) with
      | true => rw [hbb, cond_true] at hb; cases hb
      | false =>
      rw [hbb, cond_false] at hb
      refine ⟨rfl, ?_⟩
      cases h9 : zTab M with
      | nil => rw [h9] at hb; cases hb; exact ⟨rfl, rfl⟩
      | cons t0 tb =>
      rw [h9] at hb
      dsimp only at hb ⊢
      cases h10 : zhand (t0 :: tb) pc k with
      | none => rw [h10] at hb; cases hb
      | some t =>
      rw [h10] at hb
      dsimp only at hb ⊢
      cases h11 : zfind (zIns M) t with
      | none => rw [h11] at hb; cases hb
      | some en2 =>
      rw [h11] at hb
      dsimp only at hb ⊢
      cases h12 : zsto en2.2.1 with
      | none => rw [h12] at hb; cases hb
      | some q =>
      obtain ⟨j, n, b⟩ := q
      rw [h12] at hb
      cases b with
      | false => cases hb
      | true =>
      dsimp only at hb ⊢
      cases hbj : Nat.blt j (zMaxL M) with
      | false => rw [hbj, cond_false] at hb; cases hb
      | true => rw [hbj, cond_true] at hb; exact ⟨rfl, ih _ _ _ _ _ _ hb⟩
    | none =>
    rw [h5] at hb
    dsimp only at hb ⊢
    split at hb
    · rename_i ix hnew
      rw [hnew]
      dsimp only
      cases hbb : Nat.ble (nc + 1) (zRoom M).2.2.1 && (Nat.ble (ns + 6) (zRoom M).2.2.2 && Nat.ble (zWt st) 8) with
      | false => rw [hbb, cond_false] at hb; cases hb
      | true => rw [hbb, cond_true] at hb; cases hb; exact ⟨rfl, rfl, rfl⟩
    · rename_i hnn
      cases h6 : zstep M FT X en lo st h with
      | none => rw [h6] at hb; cases hb
      | some q =>
      obtain ⟨pc', lo', st', h8⟩ := q
      rw [h6] at hb
      dsimp only at hb ⊢
      split
      · rename_i ix hnew; exact absurd hnew (hnn ix)
      · exact ih _ _ _ _ _ _ hb
theorem zCR_of : ∀ (d z : Nat) (a : List Value) (h : zH) (o : zO) (h' : zH), zcall Pg FT FN X d z a h = some (o, h') → zCR Pg FT FN X d z a h o h' := by
  intro d
  induction d with
  | zero => intro z a h o h' hc; unfold zcall at hc; cases hc
  | succ d ih =>
    intro z a h o h' hc
    unfold zcall at hc
    cases hz : Pg[z]? with
    | none => rw [hz] at hc; cases hc
    | some M =>
    rw [hz] at hc
    dsimp only at hc
    cases hbb : Nat.ble a.length (zMaxL M) && a.all (fun v => Nat.beq v.category 1) with
    | false => rw [hbb, cond_false] at hc; cases hc
    | true => rw [hbb, cond_true] at hc; exact ⟨M, hz, hbb, zfuel, zBR_of ih _ _ _ _ _ _ _ hc⟩
theorem zBR_mono (hcc : ∀ z a h o h', cr z a h o h' → cr' z a h o h') : ∀ (f pc : Nat) (lo : zL) (st : List Value) (h : zH) (nc ns : Nat), zBR Pg FT FN X cr M o h' f pc lo st h nc ns → zBR Pg FT FN X cr' M o h' f pc lo st h nc ns := by
  intro f
  induction f with
  | zero => intro pc lo st h nc ns hb; exact hb
  | succ f ih =>
    intro pc lo st h nc ns hb
    unfold zBR at hb ⊢
    cases h1 : zfind (zIns M) pc with
    | none => rw [h1] at hb; exact hb
    | some en =>
    rw [h1] at hb
    dsimp only at hb ⊢
    cases h2 : zend en.2.1 (zRet M) st with
    | some r => rw [h2] at hb; exact hb
    | none =>
    rw [h2] at hb
    dsimp only at hb ⊢
    cases h3 : zmak FT FN en st with
    | some q => rw [h3] at hb; exact ⟨hb.1, ih _ _ _ _ _ _ hb.2⟩
    | none =>
    rw [h3] at hb
    dsimp only at hb ⊢
    cases h4 : zown M en st with
    | some st' => rw [h4] at hb; exact ih _ _ _ _ _ _ hb
    | none =>
    rw [h4] at hb
    dsimp only at hb ⊢
    cases h5 : zcl en.2.1 with
    | some kd =>
      rw [h5] at hb
      dsimp only at hb ⊢
      cases h6 : zinv Pg M en kd st h nc ns with
      | none => rw [h6] at hb; exact hb
      | some q =>
      obtain ⟨M', a, r⟩ := q
      rw [h6] at hb
      dsimp only at hb ⊢
      obtain ⟨o1, h8, h7, hb⟩ := hb
      refine ⟨o1, h8, hcc _ _ _ _ _ h7, ?_⟩
      cases o1 with
      | inl v => exact ih _ _ _ _ _ _ hb
      | inr k =>
      dsimp only at hb ⊢
      refine ⟨hb.1, ?_⟩
      have hb := hb.2
      cases h9 : zTab M with
      | nil => rw [h9] at hb; exact hb
      | cons t0 tb =>
      rw [h9] at hb
      dsimp only at hb ⊢
      cases h10 : zhand (t0 :: tb) pc k with
      | none => rw [h10] at hb; exact hb
      | some t =>
      rw [h10] at hb
      dsimp only at hb ⊢
      cases h11 : zfind (zIns M) t with
      | none => rw [h11] at hb; exact hb
      | some en2 =>
      rw [h11] at hb
      dsimp only at hb ⊢
      cases h12 : zsto en2.2.1 with
      | none => rw [h12] at hb; exact hb
      | some q =>
      obtain ⟨j, n, b⟩ := q
      rw [h12] at hb
      cases b with
      | false => exact hb
      | true => exact ⟨hb.1, ih _ _ _ _ _ _ hb.2⟩
    | none =>
    rw [h5] at hb
    dsimp only at hb ⊢
    split at hb
    · exact hb
    · cases h6 : zstep M FT X en lo st h with
      | none => rw [h6] at hb; exact hb.elim
      | some q =>
      rw [h6] at hb
      exact ih _ _ _ _ _ _ hb
theorem zCR_succ : ∀ (d z : Nat) (a : List Value) (h : zH) (o : zO) (h' : zH), zCR Pg FT FN X d z a h o h' → zCR Pg FT FN X (d + 1) z a h o h' := by
  intro d
  induction d with
  | zero => intro z a h o h' hc; exact hc.elim
  | succ d ih =>
    intro z a h o h' hc
    obtain ⟨M, h1, h2, f, h3⟩ := hc
    exact ⟨M, h1, h2, f, zBR_mono ih _ _ _ _ _ _ _ h3⟩
theorem zCR_le {d e : Nat} (hde : d ≤ e) {z : Nat} {a : List Value} (hc : zCR Pg FT FN X d z a h o h') : zCR Pg FT FN X e z a h o h' := by
  induction hde with
  | refl => exact hc
  | step _ ih => exact zCR_succ _ _ _ _ _ _ ih
/-- instructions that only step -/
def zplain (i : Instr) : Bool := match i with
  | .ireturn => false
  | .areturn => false
  | .return_ => false
  | .new _ => false
  | .newarray _ => false
  | .anewarray _ => false
  | .invokevirtual _ => false
  | .invokestatic _ => false
  | .invokespecial _ => false
  | _ => true
theorem zplain_end {i : Instr} (hp : zplain i = true) {ret : Option FieldType} {st : List Value} : zend i ret st = none := by
  unfold zend
  split <;> first | rfl | cases hp
theorem zplain_mak (hp : zplain en.2.1 = true) : zmak FT FN en st = none := by
  unfold zmak
  split <;> first | rfl | (rename_i hq; rw [hq] at hp; cases hp)
theorem zplain_own (hp : zplain en.2.1 = true) : zown M en st = none := by
  unfold zown
  split <;> first | rfl | (rename_i hq _; rw [hq] at hp; cases hp)
theorem zplain_cl {i : Instr} (hp : zplain i = true) : zcl i = none := by
  unfold zcl
  split <;> first | rfl | cases hp
/-- one step -/
theorem zx_s {pc' : Nat} {lo' : zL} {st' : List Value} (hf : zfind (zIns M) pc = some en) (hp : zplain en.2.1 = true) (hs : zstep M FT X en lo st h = some (pc', lo', st', h1)) (k : zBx Pg FT FN X cr M o h' pc' lo' st' h1 nc ns) : zBx Pg FT FN X cr M o h' pc lo st h nc ns := by
  obtain ⟨f, k⟩ := k
  refine ⟨f + 1, ?_⟩
  unfold zBR
  rw [hf]
  dsimp only
  rw [zplain_end hp]
  dsimp only
  rw [zplain_mak hp]
  dsimp only
  rw [zplain_own hp]
  dsimp only
  rw [zplain_cl hp]
  dsimp only
  split
  · rename_i ix hq; rw [hq] at hp; cases hp
  · rw [hs]; exact k
/-- many steps -/
def zgo (M : zM) (FT : zFT) (X : zX) : Nat → Nat → zL → List Value → zH → zS
  | 0, pc, lo, st, h => (pc, lo, st, h)
  | k + 1, pc, lo, st, h => match zfind (zIns M) pc with
    | some en => bif zplain en.2.1 then (match zstep M FT X en lo st h with
      | some (pc', lo', st', h1) => zgo M FT X k pc' lo' st' h1
      | none => (pc, lo, st, h)) else (pc, lo, st, h)
    | none => (pc, lo, st, h)
theorem zx_go {pc' : Nat} {lo' : zL} {st' : List Value} : ∀ (k : Nat) {pc : Nat} {lo : zL} {st : List Value} {h : zH}, zgo M FT X k pc lo st h = (pc', lo', st', h1) → zBx Pg FT FN X cr M o h' pc' lo' st' h1 nc ns → zBx Pg FT FN X cr M o h' pc lo st h nc ns := by
  intro k
  induction k with
  | zero => intro pc lo st h hg kk; unfold zgo at hg; cases hg; exact kk
  | succ k ih =>
    intro pc lo st h hg kk
    unfold zgo at hg
    split at hg
    · rename_i en hf
      cases hp : zplain en.2.1 with
      | false => rw [hp, cond_false] at hg; cases hg; exact kk
      | true =>
      rw [hp, cond_true] at hg
      split at hg
      · rename_i p2 l2 s2 h2 hs
        exact zx_s hf hp hs (ih hg kk)
      · cases hg; exact kk
    · cases hg; exact kk
/-- an end -/
theorem zx_r {r : Option Value} (hf : zfind (zIns M) pc = some en) (he : zend en.2.1 (zRet M) st = some r) : zBx Pg FT FN X cr M (.inl r) h pc lo st h nc ns := by
  refine ⟨1, ?_⟩
  unfold zBR
  rw [hf]
  dsimp only
  rw [he]
  exact ⟨rfl, rfl⟩
theorem zcl_end {i : Instr} {kd : Nat} (hc : zcl i = some kd) {ret : Option FieldType} {st : List Value} : zend i ret st = none := by
  unfold zend
  split <;> first | rfl | cases hc
theorem zcl_mak {kd : Nat} (hc : zcl en.2.1 = some kd) : zmak FT FN en st = none := by
  unfold zmak
  split <;> first | rfl | (rename_i hq; rw [hq] at hc; cases hc)
/-- a call that returns -/
theorem zx_c {kd : Nat} {a r : List Value} {v : Option Value} (hf : zfind (zIns M) pc = some en) (hc : zcl en.2.1 = some kd) (ho : zown M en st = none) (hi : zinv Pg M en kd st h nc ns = some (M', a, r)) (hcr : cr en.2.2.2.1 a h (.inl v) h1)
    (k : zBx Pg FT FN X cr M o h' (pc + 3) lo (v.toList ++ r) h1 (nc + (zRoom M').2.2.1) (ns + (zRoom M').2.2.2)) : zBx Pg FT FN X cr M o h' pc lo st h nc ns := by
  obtain ⟨f, k⟩ := k
  refine ⟨f + 1, ?_⟩
  unfold zBR
  rw [hf]
  dsimp only
  rw [zcl_end hc]
  dsimp only
  rw [zcl_mak hc]
  dsimp only
  rw [ho]
  dsimp only
  rw [hc]
  dsimp only
  rw [hi]
  exact ⟨.inl v, h1, hcr, k⟩
/-- Object's constructor, Math.min -/
theorem zx_o {kd : Nat} {st' : List Value} (hf : zfind (zIns M) pc = some en) (hc : zcl en.2.1 = some kd) (ho : zown M en st = some st') (k : zBx Pg FT FN X cr M o h' (pc + 3) lo st' h nc ns) : zBx Pg FT FN X cr M o h' pc lo st h nc ns := by
  obtain ⟨f, k⟩ := k
  refine ⟨f + 1, ?_⟩
  unfold zBR
  rw [hf]
  dsimp only
  rw [zcl_end hc]
  dsimp only
  rw [zcl_mak hc]
  dsimp only
  rw [ho]
  exact k
/-- a call that throws, and nothing catches it here -/
theorem zx_x {kd k : Nat} {a r : List Value} (hf : zfind (zIns M) pc = some en) (hc : zcl en.2.1 = some kd) (ho : zown M en st = none) (hi : zinv Pg M en kd st h nc ns = some (M', a, r)) (hcr : cr en.2.2.2.1 a h (.inr k) h1) (hb : (Nat.beq kd 2 || (Nat.beq en.2.2.2.2.1 1 || !(zTab M').isEmpty)) = false) (ht : zTab M = []) : zBx Pg FT FN X cr M (.inr k) h1 pc lo st h nc ns := by
  refine ⟨1, ?_⟩
  unfold zBR
  rw [hf]
  dsimp only
  rw [zcl_end hc]
  dsimp only
  rw [zcl_mak hc]
  dsimp only
  rw [ho]
  dsimp only
  rw [hc]
  dsimp only
  rw [hi]
  refine ⟨.inr k, h1, hcr, hb, ?_⟩
  rw [ht]
  exact ⟨rfl, rfl⟩
/-- a call that throws, caught here -/
theorem zx_k {kd k t j n : Nat} {a r : List Value} {en2 : zN} (hf : zfind (zIns M) pc = some en) (hc : zcl en.2.1 = some kd) (ho : zown M en st = none) (hi : zinv Pg M en kd st h nc ns = some (M', a, r)) (hcr : cr en.2.2.2.1 a h (.inr k) h1) (hb : (Nat.beq kd 2 || (Nat.beq en.2.2.2.2.1 1 || !(zTab M').isEmpty)) = false) (ht : zTab M ≠ []) (hh : zhand (zTab M) pc k = some t) (hf2 : zfind (zIns M) t = some en2) (hs2 : zsto en2.2.1 = some (j, n, true)) (hj : Nat.blt j (zMaxL M) = true)
    (kk : zBx Pg FT FN X cr M o h' (t + n) (lo.filter (fun q => !(Nat.beq q.1 j))) [] h1 (nc + (zRoom M').2.2.1) (ns + (zRoom M').2.2.2)) : zBx Pg FT FN X cr M o h' pc lo st h nc ns := by
  obtain ⟨f, kk⟩ := kk
  refine ⟨f + 1, ?_⟩
  unfold zBR
  rw [hf]
  dsimp only
  rw [zcl_end hc]
  dsimp only
  rw [zcl_mak hc]
  dsimp only
  rw [ho]
  dsimp only
  rw [hc]
  dsimp only
  rw [hi]
  refine ⟨.inr k, h1, hcr, hb, ?_⟩
  cases h9 : zTab M with
  | nil => exact absurd h9 ht
  | cons t0 tb =>
  rw [h9] at hh
  dsimp only
  rw [hh]
  dsimp only
  rw [hf2]
  dsimp only
  rw [hs2]
  exact ⟨hj, kk⟩
/-- a making -/
theorem zx_m {n k : Nat} {r : List Value} {c : zE} (hf : zfind (zIns M) pc = some en) (he : zend en.2.1 (zRet M) st = none) (hm : zmak FT FN en st = some (n, r, c, k)) (hb : (Nat.blt nc (zRoom M).2.2.1 && Nat.ble (ns + k) (zRoom M).2.2.2) = true) (kk : zBx Pg FT FN X cr M o h' (pc + n) lo (.ref h.length :: r) (h ++ [c]) (nc + 1) (ns + k)) : zBx Pg FT FN X cr M o h' pc lo st h nc ns := by
  obtain ⟨f, kk⟩ := kk
  refine ⟨f + 1, ?_⟩
  unfold zBR
  rw [hf]
  dsimp only
  rw [he]
  dsimp only
  rw [hm]
  exact ⟨hb, kk⟩
end ZX
end
